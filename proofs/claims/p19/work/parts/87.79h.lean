section
variable {Tc : gC} {Tm : gM}
variable {Tc : gC} {Tm : gM}
theorem bt_0 (k : Nat) : pp_bt 0 k = 0 := by unfold pp_bt; simp
/-- coughs are over -/
theorem qR_37 {n q : Nat} {s g : Nat → Int} {M N : ti_M} {z v : Int32} (h : qR n q s M) (hz : z.toInt = (q : Int)) (hv : v = 0) (e : N = uY M 60 37 (upd (tY M 60 37) z.toNatClampNeg v)) (hn : n ≤ 8) (hg : ∀ j : Nat, j < 256 → g j = s j) (h1 : s 1 = 0 → ∀ m : Nat, m < 8 → g (256 + m) = 0) : qR n q g N := by
  rw [i_cl hz] at e
  obtain ⟨a, b, c, d, f, g0⟩ := h
  have o : ∀ k2 : Nat, k2 ≠ 37 → tY N 60 k2 = tY M 60 k2 := fun k2 h2 => tY_nE e (nk h2)
  have e37 : tY N 60 37 q = 0 := by rw [tY_uE e, pk_us, hv]
  refine ⟨by rw [hg 2 (by decide), hg 3 (by decide), hg 4 (by decide), hg 5 (by decide), o 34 (by decide), o 38 (by decide), o 35 (by decide), o 36 (by decide)]; exact a, fun p h1 h2 => ?_, fun j hj => by rw [hg (112 + j) (by omega), o 49 (by decide)]; exact c j hj, fun m2 h2 => ?_, fun m2 h2 => ?_, ?_⟩
  · rw [hg 3 (by decide)] at h2
    rw [hg (96 + p) (by omega), o 39 (by decide)]; exact b p h1 h2
  · rw [hg (128 + m2) (by omega), hg (144 + m2) (by omega), hg (160 + m2) (by omega), hg (176 + m2) (by omega), hg (192 + m2) (by omega), hg (240 + m2) (by omega), o 40 (by decide), o 44 (by decide), o 41 (by decide), o 42 (by decide), o 43 (by decide), o 47 (by decide)]; exact d m2 h2
  · rw [hg (128 + m2) (by omega), hg (208 + m2) (by omega), hg (224 + m2) (by omega), o 45 (by decide), o 46 (by decide)]; exact f m2 h2
  · rw [hg 1 (by decide), e37]
    split
    · rename_i w
      intro m2 h2
      rw [h1 w m2 h2, bt_0]
    · rfl
theorem fc_lt {s : Nat → Int} {j : Nat} (h : j < 256) : bq_fc s j = s j := by unfold bq_fc; rw [if_neg (by omega)]
theorem fc_0 {s : Nat → Int} {m : Nat} (h : m < 8) : bq_fc s (256 + m) = 0 := by unfold bq_fc; rw [if_pos (by omega)]
set_option maxHeartbeats 4000000 in
set_option maxRecDepth 100000 in
theorem z_X10_coughing_0 (l : Launch) (D : va_G) (A : Nat → Nat → Nat) (cy : Nat → ClassId) (hJ : ti_inj ti_LM A) (M : ti_M) (hI : mI Tm M) (hC : mC M 0) (hL : mL M) (t : Int32) (tx rg : Nat → Int) (htr : tR tx M) (ht4 : 0 ≤ tx 4 ∧ tx 4 ≤ 8) (hr : qR (tx 4).toNat 0 rg M) (hV : qV (tx 4).toNat 0 rg M) (hwf : wF tx rg) (htW : tW tx) (htm : t.toInt = rg 2) (h1 : rg 1 = 0) : ti_Kv l yX10_coughing cX10_coughing 5 5 ti_LM D A cy M [.ref (A 60 0), .int 0, .int t] (fun M2 => eR 0 M2 M ∧ qR (tx 4).toNat 0 (bq_hc tx rg) M2 ∧ qV (tx 4).toNat 0 (bq_hc tx rg) M2 ∧ mI Tm M2 ∧ rq 0 M2 M ∧ mC M2 0 ∧ tY M2 60 34 = tY M 60 34) := by
  refine ti_eV yp_X10_coughing hJ ti_LM_nd (Nat.le_of_ble_eq_true rfl) ?_
  intro p e s m args below meth c Q H0 C hQ hw ls hl
  have hx := C.1
  have hb := C.2.1
  have hl : lv_has ls 5 [(0, .ref (A 60 0)), (1, .int 0), (2, .int t)] := hl
  have LH : (bq_lh tx rg = tx 9 ∧ tx 9 ≤ rg 3 - 1) ∨ (bq_lh tx rg = rg 3 - 1 ∧ rg 3 - 1 < tx 9) := by unfold bq_lh bq_mn; split <;> omega
  have w8 := wF_8 hwf
  have G0 := hr.2.2.2.2.2
  rw [if_pos h1] at G0
  refine lv_iconst (v := 0) hx hb dX10_coughing_0 (by decide) ?_
  refine lv_istore_n (lv' := [(3, .int 0), (0, .ref (A 60 0)), (1, .int 0), (2, .int t)]) hx hb dX10_coughing_1 rfl hl (by decide) rfl (fun ls hl => ?_)
  refine lv_iconst (v := 1) hx hb dX10_coughing_2 (by decide) ?_
  refine lv_istore (lv' := [(4, .int 1), (3, .int 0), (0, .ref (A 60 0)), (1, .int 0), (2, .int t)]) hx hb dX10_coughing_3 hl (by decide) rfl (fun ls hl => ?_)
  have hl_5_5 : ∀ (n_6 : Nat) (x_1 : Int32) (x_4 : Int32) (H : Heap) (locs : List Loc) (ls : Array Slot), (8 - x_1.toInt : Int).toNat < n_6 → (1 ≤ x_1.toInt) → (x_1.toInt ≤ 8) → (bq_hs rg (bq_lh tx rg + 1 - (x_1.toInt)).toNat (x_1.toInt).toNat (x_4.toInt) = bq_hs rg (bq_lh tx rg).toNat 1 0) → ti_H ti_LM D A cy H0 M H locs → lv_has ls 5 [(4, .int x_1), (3, .int x_4), (0, .ref (A 60 0)), (1, .int 0), (2, .int t)] → W p l e (ti_rm 5) s m args below meth c H locs 0 0 Q (F0 m 5 ls []) := by
    intro n_6
    induction n_6 with
    | zero => intro x_1 x_4 H locs ls hf_6; exact absurd hf_6 (Nat.not_lt_zero _)
    | succ n_6 ih_6 =>
      intro x_1 x_4 H locs ls hf_6 b_2 b_3 j_5 hw hl
      refine lv_iload hx hb dX10_coughing_5 (lv_at hl 0 rfl) ?_
      refine lv_aload_n hx hb dX10_coughing_7 rfl (lv_at hl 2 rfl) ?_
      refine ti_get (ci := 10) (k := 38) (N := 67) (T := TX10) (v := .ref (A 60 39)) C hw iw_10 rfl ob_60 (by decide) (by decide) fl_X10_81 rfl rfl dX10_coughing_8 ?_
      refine lv_iload_n hx hb dX10_coughing_11 rfl (lv_at hl 3 rfl) ?_
      refine ti_iald (ci := 10) (k := 38) (n := 23) C hw ob_60 (by decide) (fun _ _ => rfl) (by unfold vp_in; decide) dX10_coughing_12 ?_
      refine lv_topi (fun x_7 ex_7 => ?_)
      have yx_7 : tY M 60 38 0 = x_7 := ((congrArg _ (by decide)).symm.trans ex_7.symm)
      have bx_7 : 0 ≤ x_7.toInt ∧ x_7.toInt ≤ 8 := mI_ry (k := 38) (i := 0) hI yx_7.symm
      have zx_7 : (tY M 60 38 0).toInt = x_7.toInt := by rw [yx_7]
      have L_8 : rg 3 = x_7.toInt := (hr.1.2.1).trans (congrArg Int32.toInt (yx_7))
      refine sb_icmp_ge (tgt := 57) hx hb rfl rfl dX10_coughing_13 (by decide) (fun c_13_8 => ?_) (fun c_13_8 => ?_)
      · have EH : bq_hs rg (bq_lh tx rg).toNat 1 0 = x_4.toInt := by rw [← j_5, hs_end (by omega)]
        refine lv_aload_n hx hb dX10_coughing_57 rfl (lv_at hl 2 rfl) ?_
        refine ti_get (ci := 10) (k := 38) (N := 67) (T := TX10) (v := .ref (A 60 39)) C hw iw_10 rfl ob_60 (by decide) (by decide) fl_X10_81 rfl rfl dX10_coughing_58 ?_
        refine lv_iload_n hx hb dX10_coughing_61 rfl (lv_at hl 3 rfl) ?_
        refine ti_iald (ci := 10) (k := 38) (n := 23) C hw ob_60 (by decide) (fun _ _ => rfl) (by unfold vp_in; decide) dX10_coughing_62 ?_
        refine ti_top (y := x_7) ((congrArg _ (by decide)).trans (yx_7)) ?_
        have L_21 : rg 3 = x_7.toInt := (hr.1.2.1).trans (congrArg Int32.toInt (yx_7))
        refine sb_if_le (tgt := 96) hx hb rfl dX10_coughing_63 (by decide) (fun c_63_21 => ?_) (fun c_63_21 => ?_)
        · refine lv_aload_n hx hb dX10_coughing_96 rfl (lv_at hl 2 rfl) ?_
          refine ti_get (ci := 10) (k := 37) (N := 67) (T := TX10) (v := .ref (A 60 38)) C hw iw_10 rfl ob_60 (by decide) (by decide) fl_X10_78 rfl rfl dX10_coughing_97 ?_
          refine lv_iload_n hx hb dX10_coughing_100 rfl (lv_at hl 3 rfl) ?_
          refine lv_iconst (v := 0) hx hb dX10_coughing_101 (by decide) ?_
          refine ti_iast (ci := 10) (k := 37) (n := 23) C hw ob_60 (by decide) (fun _ _ => rfl) (by unfold vp_in; decide) dX10_coughing_102 (fun H locs hw => ?_)
          obtain ⟨M_65, hM_65⟩ : ∃ z : ti_M, z = uY M 60 37 (upd (tY M 60 37) (0 : Int32).toNatClampNeg 0) := ⟨_, rfl⟩
          have hw := hw.to hM_65.symm
          have iM_65 : mI Tm M_65 := mI_up (i := 0) hI hM_65 trivial
          have hs_67 : qR (tx 4).toNat 0 (bq_fc rg) M_65 := qR_37 (z := 0) hr (by decide) rfl hM_65 (by omega) (fun j hj => fc_lt hj) (fun _ m2 h2 => fc_0 h2)
          obtain ⟨g_68, eg_68⟩ : ∃ z : Nat → Int, z = bq_fc rg := ⟨_, rfl⟩
          rw [← eg_68] at hs_67
          have E_69 : bq_hc tx rg = g_68 := by unfold bq_hc; rw [if_pos (by omega), EH, if_neg (by first | omega | (have H0 : x_4.toInt = 0 := (by rw [← EH, hs_end (by omega)]); omega)), ← eg_68]
          exact hQ _ _ _ _ _ hw (⟨(eR_Y hM_65 (bk_q (z := 0) (by decide) (by decide))), (by rw [E_69]; exact hs_67), (by rw [E_69, eg_68]; exact qV_same hV (tY_nE hM_65 (nk (by decide))) (by omega) (fun _ _ => fc_lt (by omega)) (fun _ _ => fc_lt (by omega))), iM_65, (rq_qw (qw_Y hM_65 (by decide))), (mC_qw (qw_Y hM_65 (by decide)) hC), ((tY_nE hM_65 (nk (by decide))))⟩) dX10_coughing_103
        · refine lv_iload_n hx hb dX10_coughing_66 rfl (lv_at hl 1 rfl) ?_
          refine sb_if_le (tgt := 96) hx hb rfl dX10_coughing_67 (by decide) (fun c_67_24 => ?_) (fun c_67_24 => ?_)
          · refine lv_aload_n hx hb dX10_coughing_96 rfl (lv_at hl 2 rfl) ?_
            refine ti_get (ci := 10) (k := 37) (N := 67) (T := TX10) (v := .ref (A 60 38)) C hw iw_10 rfl ob_60 (by decide) (by decide) fl_X10_78 rfl rfl dX10_coughing_97 ?_
            refine lv_iload_n hx hb dX10_coughing_100 rfl (lv_at hl 3 rfl) ?_
            refine lv_iconst (v := 0) hx hb dX10_coughing_101 (by decide) ?_
            refine ti_iast (ci := 10) (k := 37) (n := 23) C hw ob_60 (by decide) (fun _ _ => rfl) (by unfold vp_in; decide) dX10_coughing_102 (fun H locs hw => ?_)
            obtain ⟨M_75, hM_75⟩ : ∃ z : ti_M, z = uY M 60 37 (upd (tY M 60 37) (0 : Int32).toNatClampNeg 0) := ⟨_, rfl⟩
            have hw := hw.to hM_75.symm
            have iM_75 : mI Tm M_75 := mI_up (i := 0) hI hM_75 trivial
            have hs_77 : qR (tx 4).toNat 0 (bq_fc rg) M_75 := qR_37 (z := 0) hr (by decide) rfl hM_75 (by omega) (fun j hj => fc_lt hj) (fun _ m2 h2 => fc_0 h2)
            obtain ⟨g_78, eg_78⟩ : ∃ z : Nat → Int, z = bq_fc rg := ⟨_, rfl⟩
            rw [← eg_78] at hs_77
            have E_79 : bq_hc tx rg = g_78 := by unfold bq_hc; rw [if_pos (by omega), EH, if_neg (by first | omega | (have H0 : x_4.toInt = 0 := (by rw [← EH, hs_end (by omega)]); omega)), ← eg_78]
            exact hQ _ _ _ _ _ hw (⟨(eR_Y hM_75 (bk_q (z := 0) (by decide) (by decide))), (by rw [E_79]; exact hs_77), (by rw [E_79, eg_78]; exact qV_same hV (tY_nE hM_75 (nk (by decide))) (by omega) (fun _ _ => fc_lt (by omega)) (fun _ _ => fc_lt (by omega))), iM_75, (rq_qw (qw_Y hM_75 (by decide))), (mC_qw (qw_Y hM_75 (by decide)) hC), ((tY_nE hM_75 (nk (by decide))))⟩) dX10_coughing_103
          · refine lv_iload_n hx hb dX10_coughing_70 rfl (lv_at hl 1 rfl) ?_
            refine lv_aload_n hx hb dX10_coughing_71 rfl (lv_at hl 2 rfl) ?_
            refine lv_iload_n hx hb dX10_coughing_72 rfl (lv_at hl 3 rfl) ?_
            refine lv_iload_n hx hb dX10_coughing_73 rfl (lv_at hl 4 rfl) ?_
            refine ti_callVi (ci := 10) (av := [.int 0, .int t]) C hw (z_X10_needOf_0 l D A cy hJ M hI hL t tx rg htr ht4 hr hwf (by omega) (by omega)) ⟨ml_X10_371, ym_X10_needOf, yv_X10_needOf, yi_X10_needOf, yc_X10_needOf⟩ yd_X10_needOf ob_60 (by decide) rfl rfl hl.1 (Nat.le_of_ble_eq_true rfl) ⟨by decide, by decide⟩ ⟨Nat.zero_le _, Nat.zero_le _⟩ dX10_coughing_74 (fun r_27 M_28 H locs hp_28 hw => ?_)
            obtain ⟨fi_31, pr_27, iM_28, q_29, q_30⟩ := hp_28
            have hs_32 : qR (tx 4).toNat 0 rg M_28 := qR_of hr q_30
            refine sb_icmp_lt (tgt := 96) hx hb rfl rfl dX10_coughing_77 (by decide) (fun c_77_32 => ?_) (fun c_77_32 => ?_)
            · refine lv_aload_n hx hb dX10_coughing_96 rfl (lv_at hl 2 rfl) ?_
              refine ti_get (ci := 10) (k := 37) (N := 67) (T := TX10) (v := .ref (A 60 38)) C hw iw_10 rfl ob_60 (by decide) (by decide) fl_X10_78 rfl rfl dX10_coughing_97 ?_
              refine lv_iload_n hx hb dX10_coughing_100 rfl (lv_at hl 3 rfl) ?_
              refine lv_iconst (v := 0) hx hb dX10_coughing_101 (by decide) ?_
              refine ti_iast (ci := 10) (k := 37) (n := 23) C hw ob_60 (by decide) (fun _ _ => rfl) (by unfold vp_in; decide) dX10_coughing_102 (fun H locs hw => ?_)
              obtain ⟨M_85, hM_85⟩ : ∃ z : ti_M, z = uY M_28 60 37 (upd (tY M_28 60 37) (0 : Int32).toNatClampNeg 0) := ⟨_, rfl⟩
              have hw := hw.to hM_85.symm
              have iM_85 : mI Tm M_85 := mI_up (i := 0) iM_28 hM_85 trivial
              have hs_87 : qR (tx 4).toNat 0 (bq_fc rg) M_85 := qR_37 (z := 0) hs_32 (by decide) rfl hM_85 (by omega) (fun j hj => fc_lt hj) (fun _ m2 h2 => fc_0 h2)
              obtain ⟨g_88, eg_88⟩ : ∃ z : Nat → Int, z = bq_fc rg := ⟨_, rfl⟩
              rw [← eg_88] at hs_87
              have E_89 : bq_hc tx rg = g_88 := by unfold bq_hc; rw [if_pos (by omega), EH, if_neg (by first | omega | (have H0 : x_4.toInt = 0 := (by rw [← EH, hs_end (by omega)]); omega)), ← eg_88]
              exact hQ _ _ _ _ _ hw (⟨(eR.trans (eR_Y hM_85 (bk_q (z := 0) (by decide) (by decide))) (eR_fI fi_31 q_30)), (by rw [E_89]; exact hs_87), (by rw [E_89, eg_88]; exact qV_same (qV_rows hV (fun k i _ => cg (tY_fr ((q_30) : M_28.2.1 = M.2.1)) i) (by omega)) (tY_nE hM_85 (nk (by decide))) (by omega) (fun _ _ => fc_lt (by omega)) (fun _ _ => fc_lt (by omega))), iM_85, (rq.trans (rq_qw (qw_Y hM_85 (by decide))) (rq_qw q_29)), (mC_qw (qw.trans (qw_Y hM_85 (by decide)) q_29) hC), (((tY_nE hM_85 (nk (by decide))).trans (tY_fr q_30)))⟩) dX10_coughing_103
            · refine lv_aload_n hx hb dX10_coughing_80 rfl (lv_at hl 2 rfl) ?_
              refine lv_iload_n hx hb dX10_coughing_81 rfl (lv_at hl 3 rfl) ?_
              refine ti_callVi (ci := 10) (av := [.int 0]) C hw (z_X10_isGuarded_0 l D A cy hJ M_28 iM_28 tx rg (tR_lw htr (eR_lw (q := 0) (eR_fI fi_31 q_30))) ht4 hs_32 hwf htW) ⟨ml_X10_374, ym_X10_isGuarded, yv_X10_isGuarded, yi_X10_isGuarded, yc_X10_isGuarded⟩ yd_X10_isGuarded ob_60 (by decide) rfl rfl hl.1 (Nat.le_of_ble_eq_true rfl) ⟨by decide, by decide⟩ ⟨Nat.zero_le _, Nat.zero_le _⟩ dX10_coughing_82 (fun r_41 M_42 H locs hp_42 hw => ?_)
              obtain ⟨hm9, hz9⟩ := hp_42
              have hw := hw.to hm9
              rcases hz9 with ⟨rfl, dg_43⟩ | ⟨rfl, dg_43⟩
              · refine sb_if_ne (tgt := 96) hx hb (by decide : (1 : Int32).toInt = 1) dX10_coughing_85 (by decide) (fun c_85_43 => ?_) (fun h => absurd h (by decide))
                refine lv_aload_n hx hb dX10_coughing_96 rfl (lv_at hl 2 rfl) ?_
                refine ti_get (ci := 10) (k := 37) (N := 67) (T := TX10) (v := .ref (A 60 38)) C hw iw_10 rfl ob_60 (by decide) (by decide) fl_X10_78 rfl rfl dX10_coughing_97 ?_
                refine lv_iload_n hx hb dX10_coughing_100 rfl (lv_at hl 3 rfl) ?_
                refine lv_iconst (v := 0) hx hb dX10_coughing_101 (by decide) ?_
                refine ti_iast (ci := 10) (k := 37) (n := 23) C hw ob_60 (by decide) (fun _ _ => rfl) (by unfold vp_in; decide) dX10_coughing_102 (fun H locs hw => ?_)
                obtain ⟨M_95, hM_95⟩ : ∃ z : ti_M, z = uY M_28 60 37 (upd (tY M_28 60 37) (0 : Int32).toNatClampNeg 0) := ⟨_, rfl⟩
                have hw := hw.to hM_95.symm
                have iM_95 : mI Tm M_95 := mI_up (i := 0) iM_28 hM_95 trivial
                have hs_97 : qR (tx 4).toNat 0 (bq_fc rg) M_95 := qR_37 (z := 0) hs_32 (by decide) rfl hM_95 (by omega) (fun j hj => fc_lt hj) (fun _ m2 h2 => fc_0 h2)
                obtain ⟨g_98, eg_98⟩ : ∃ z : Nat → Int, z = bq_fc rg := ⟨_, rfl⟩
                rw [← eg_98] at hs_97
                have E_99 : bq_hc tx rg = g_98 := by unfold bq_hc; rw [if_pos (by omega), EH, if_neg (by first | omega | (have H0 : x_4.toInt = 0 := (by rw [← EH, hs_end (by omega)]); omega)), ← eg_98]
                exact hQ _ _ _ _ _ hw (⟨(eR.trans (eR_Y hM_95 (bk_q (z := 0) (by decide) (by decide))) (eR_fI fi_31 q_30)), (by rw [E_99]; exact hs_97), (by rw [E_99, eg_98]; exact qV_same (qV_rows hV (fun k i _ => cg (tY_fr ((q_30) : M_28.2.1 = M.2.1)) i) (by omega)) (tY_nE hM_95 (nk (by decide))) (by omega) (fun _ _ => fc_lt (by omega)) (fun _ _ => fc_lt (by omega))), iM_95, (rq.trans (rq_qw (qw_Y hM_95 (by decide))) (rq_qw q_29)), (mC_qw (qw.trans (qw_Y hM_95 (by decide)) q_29) hC), (((tY_nE hM_95 (nk (by decide))).trans (tY_fr q_30)))⟩) dX10_coughing_103
              · refine sb_if_ne (tgt := 96) hx hb (by decide : (0 : Int32).toInt = 0) dX10_coughing_85 (by decide) (fun h => absurd h (by decide)) (fun c_85_44 => ?_)
                refine lv_aload_n hx hb dX10_coughing_88 rfl (lv_at hl 2 rfl) ?_
                refine lv_iload_n hx hb dX10_coughing_89 rfl (lv_at hl 3 rfl) ?_
                refine lv_iconst (v := 0) hx hb dX10_coughing_90 (by decide) ?_
                refine lv_iconst (v := 3) hx hb dX10_coughing_91 (by decide) ?_
                refine lv_iload_n hx hb dX10_coughing_92 rfl (lv_at hl 4 rfl) ?_
                have lk_53 : (tY M_28 60 38 0).toInt = (tY M 60 38 0).toInt := by rw [(cg (tY_fr q_30) 0)]
                refine ti_callVv (ci := 10) (av := [.int 0, .int 0, .int 3, .int t]) C hw (z_X10_leaves_0 l D A cy hJ M_28 iM_28 (mC_qw q_29 hC) 0 3 t (by first | omega | decide | (have l0 : (0 : Int32).toInt = 0 := (by decide); have l2 : (2 : Int32).toInt = 2 := (by decide); have l3 : (3 : Int32).toInt = 3 := (by decide); omega)) (by first | omega | decide | (have l0 : (0 : Int32).toInt = 0 := (by decide); have l2 : (2 : Int32).toInt = 2 := (by decide); have l3 : (3 : Int32).toInt = 3 := (by decide); omega)) (by first | omega | decide | (have l0 : (0 : Int32).toInt = 0 := (by decide); have l2 : (2 : Int32).toInt = 2 := (by decide); have l3 : (3 : Int32).toInt = 3 := (by decide); omega)) tx rg (tR_lw htr (eR_lw (q := 0) (eR_fI fi_31 q_30))) ht4 hs_32 (qV_rows hV (fun k i _ => cg (tY_fr ((q_30) : M_28.2.1 = M.2.1)) i) (by omega)) hwf (by omega)) ⟨ml_X10_377, ym_X10_leaves, yv_X10_leaves, yi_X10_leaves, yc_X10_leaves⟩ yd_X10_leaves ob_60 (by decide) rfl rfl hl.1 (Nat.le_of_ble_eq_true rfl) ⟨by decide, by decide⟩ ⟨Nat.zero_le _, Nat.zero_le _⟩ dX10_coughing_93 (fun M_52 H locs hp_52 hw => ?_)
                obtain ⟨erM_52, hrM_52, qvM_52, hqM_52⟩ := hp_52
                obtain ⟨iM_52, q_54, q_55, q_56, p0r_51⟩ := hqM_52
                simp only [show (0 : Int32).toInt = 0 by decide] at hrM_52 qvM_52
                simp only [show (3 : Int32).toInt = 3 by decide] at hrM_52 qvM_52
                obtain ⟨g_57, eg_57⟩ : ∃ z : Nat → Int, z = bq_rm rg 0 3 := ⟨_, rfl⟩
                rw [← eg_57] at hrM_52
                rw [← eg_57] at qvM_52
                refine lv_aload_n hx hb dX10_coughing_96 rfl (lv_at hl 2 rfl) ?_
                refine ti_get (ci := 10) (k := 37) (N := 67) (T := TX10) (v := .ref (A 60 38)) C hw iw_10 rfl ob_60 (by decide) (by decide) fl_X10_78 rfl rfl dX10_coughing_97 ?_
                refine lv_iload_n hx hb dX10_coughing_100 rfl (lv_at hl 3 rfl) ?_
                refine lv_iconst (v := 0) hx hb dX10_coughing_101 (by decide) ?_
                refine ti_iast (ci := 10) (k := 37) (n := 23) C hw ob_60 (by decide) (fun _ _ => rfl) (by unfold vp_in; decide) dX10_coughing_102 (fun H locs hw => ?_)
                obtain ⟨M_105, hM_105⟩ : ∃ z : ti_M, z = uY M_52 60 37 (upd (tY M_52 60 37) (0 : Int32).toNatClampNeg 0) := ⟨_, rfl⟩
                have hw := hw.to hM_105.symm
                have iM_105 : mI Tm M_105 := mI_up (i := 0) iM_52 hM_105 trivial
                have hs_107 : qR (tx 4).toNat 0 (bq_fc g_57) M_105 := qR_37 (z := 0) hrM_52 (by decide) rfl hM_105 (by omega) (fun j hj => fc_lt hj) (fun _ m2 h2 => fc_0 h2)
                obtain ⟨g_108, eg_108⟩ : ∃ z : Nat → Int, z = bq_fc g_57 := ⟨_, rfl⟩
                rw [← eg_108] at hs_107
                have E_109 : bq_hc tx rg = g_108 := by unfold bq_hc; rw [if_pos (by omega), EH, if_pos (by omega), ← eg_57, ← eg_108]
                exact hQ _ _ _ _ _ hw (⟨(eR.trans (eR_Y hM_105 (bk_q (z := 0) (by decide) (by decide))) (eR.trans erM_52 (eR_fI fi_31 q_30))), (by rw [E_109]; exact hs_107), (by rw [E_109, eg_108]; exact qV_same qvM_52 (tY_nE hM_105 (nk (by decide))) (by omega) (fun _ _ => fc_lt (by omega)) (fun _ _ => fc_lt (by omega))), iM_105, (rq.trans (rq_qw (qw_Y hM_105 (by decide))) (rq.trans q_54 (rq_qw q_29))), (mC_qw (qw_Y hM_105 (by decide)) q_55), (((tY_nE hM_105 (nk (by decide))).trans ((q_56).trans (tY_fr q_30))))⟩) dX10_coughing_103
      · refine lv_iload hx hb dX10_coughing_16 (lv_at hl 0 rfl) ?_
        refine lv_aload_n hx hb dX10_coughing_18 rfl (lv_at hl 2 rfl) ?_
        refine ti_get (ci := 10) (k := 3) (N := 67) (T := TX10) (v := .ref (A 60 4)) C hw iw_10 rfl ob_60 (by decide) (by decide) fl_X10_13 rfl rfl dX10_coughing_19 ?_
        refine lv_iconst (v := 4) hx hb dX10_coughing_22 (by decide) ?_
        refine ti_iald (ci := 10) (k := 3) (n := 22) C hw ob_60 (by decide) (fun _ _ => rfl) (by unfold vp_in; decide) dX10_coughing_23 ?_
        refine lv_topi (fun x_10 ex_10 => ?_)
        have yx_10 : tY M 60 3 4 = x_10 := ((congrArg _ (by decide)).symm.trans ex_10.symm)
        have zx_10 : (tY M 60 3 4).toInt = x_10.toInt := by rw [yx_10]
        have L_11 : tx 9 = x_10.toInt := (htr.1.2.2.2.2.1).trans ((congrArg Int32.toInt (cg rfl 4)).symm.trans (congrArg Int32.toInt (yx_10)))
        refine sb_icmp_gt (tgt := 57) hx hb rfl rfl dX10_coughing_24 (by decide) (fun c_24_11 => ?_) (fun c_24_11 => ?_)
        · have EH : bq_hs rg (bq_lh tx rg).toNat 1 0 = x_4.toInt := by rw [← j_5, hs_end (by omega)]
          refine lv_aload_n hx hb dX10_coughing_57 rfl (lv_at hl 2 rfl) ?_
          refine ti_get (ci := 10) (k := 38) (N := 67) (T := TX10) (v := .ref (A 60 39)) C hw iw_10 rfl ob_60 (by decide) (by decide) fl_X10_81 rfl rfl dX10_coughing_58 ?_
          refine lv_iload_n hx hb dX10_coughing_61 rfl (lv_at hl 3 rfl) ?_
          refine ti_iald (ci := 10) (k := 38) (n := 23) C hw ob_60 (by decide) (fun _ _ => rfl) (by unfold vp_in; decide) dX10_coughing_62 ?_
          refine ti_top (y := x_7) ((congrArg _ (by decide)).trans (yx_7)) ?_
          have L_23 : rg 3 = x_7.toInt := (hr.1.2.1).trans (congrArg Int32.toInt (yx_7))
          refine sb_if_le (tgt := 96) hx hb rfl dX10_coughing_63 (by decide) (fun c_63_23 => ?_) (fun c_63_23 => ?_)
          · refine lv_aload_n hx hb dX10_coughing_96 rfl (lv_at hl 2 rfl) ?_
            refine ti_get (ci := 10) (k := 37) (N := 67) (T := TX10) (v := .ref (A 60 38)) C hw iw_10 rfl ob_60 (by decide) (by decide) fl_X10_78 rfl rfl dX10_coughing_97 ?_
            refine lv_iload_n hx hb dX10_coughing_100 rfl (lv_at hl 3 rfl) ?_
            refine lv_iconst (v := 0) hx hb dX10_coughing_101 (by decide) ?_
            refine ti_iast (ci := 10) (k := 37) (n := 23) C hw ob_60 (by decide) (fun _ _ => rfl) (by unfold vp_in; decide) dX10_coughing_102 (fun H locs hw => ?_)
            obtain ⟨M_70, hM_70⟩ : ∃ z : ti_M, z = uY M 60 37 (upd (tY M 60 37) (0 : Int32).toNatClampNeg 0) := ⟨_, rfl⟩
            have hw := hw.to hM_70.symm
            have iM_70 : mI Tm M_70 := mI_up (i := 0) hI hM_70 trivial
            have hs_72 : qR (tx 4).toNat 0 (bq_fc rg) M_70 := qR_37 (z := 0) hr (by decide) rfl hM_70 (by omega) (fun j hj => fc_lt hj) (fun _ m2 h2 => fc_0 h2)
            obtain ⟨g_73, eg_73⟩ : ∃ z : Nat → Int, z = bq_fc rg := ⟨_, rfl⟩
            rw [← eg_73] at hs_72
            have E_74 : bq_hc tx rg = g_73 := by unfold bq_hc; rw [if_pos (by omega), EH, if_neg (by first | omega | (have H0 : x_4.toInt = 0 := (by rw [← EH, hs_end (by omega)]); omega)), ← eg_73]
            exact hQ _ _ _ _ _ hw (⟨(eR_Y hM_70 (bk_q (z := 0) (by decide) (by decide))), (by rw [E_74]; exact hs_72), (by rw [E_74, eg_73]; exact qV_same hV (tY_nE hM_70 (nk (by decide))) (by omega) (fun _ _ => fc_lt (by omega)) (fun _ _ => fc_lt (by omega))), iM_70, (rq_qw (qw_Y hM_70 (by decide))), (mC_qw (qw_Y hM_70 (by decide)) hC), ((tY_nE hM_70 (nk (by decide))))⟩) dX10_coughing_103
          · refine lv_iload_n hx hb dX10_coughing_66 rfl (lv_at hl 1 rfl) ?_
            refine sb_if_le (tgt := 96) hx hb rfl dX10_coughing_67 (by decide) (fun c_67_25 => ?_) (fun c_67_25 => ?_)
            · refine lv_aload_n hx hb dX10_coughing_96 rfl (lv_at hl 2 rfl) ?_
              refine ti_get (ci := 10) (k := 37) (N := 67) (T := TX10) (v := .ref (A 60 38)) C hw iw_10 rfl ob_60 (by decide) (by decide) fl_X10_78 rfl rfl dX10_coughing_97 ?_
              refine lv_iload_n hx hb dX10_coughing_100 rfl (lv_at hl 3 rfl) ?_
              refine lv_iconst (v := 0) hx hb dX10_coughing_101 (by decide) ?_
              refine ti_iast (ci := 10) (k := 37) (n := 23) C hw ob_60 (by decide) (fun _ _ => rfl) (by unfold vp_in; decide) dX10_coughing_102 (fun H locs hw => ?_)
              obtain ⟨M_80, hM_80⟩ : ∃ z : ti_M, z = uY M 60 37 (upd (tY M 60 37) (0 : Int32).toNatClampNeg 0) := ⟨_, rfl⟩
              have hw := hw.to hM_80.symm
              have iM_80 : mI Tm M_80 := mI_up (i := 0) hI hM_80 trivial
              have hs_82 : qR (tx 4).toNat 0 (bq_fc rg) M_80 := qR_37 (z := 0) hr (by decide) rfl hM_80 (by omega) (fun j hj => fc_lt hj) (fun _ m2 h2 => fc_0 h2)
              obtain ⟨g_83, eg_83⟩ : ∃ z : Nat → Int, z = bq_fc rg := ⟨_, rfl⟩
              rw [← eg_83] at hs_82
              have E_84 : bq_hc tx rg = g_83 := by unfold bq_hc; rw [if_pos (by omega), EH, if_neg (by first | omega | (have H0 : x_4.toInt = 0 := (by rw [← EH, hs_end (by omega)]); omega)), ← eg_83]
              exact hQ _ _ _ _ _ hw (⟨(eR_Y hM_80 (bk_q (z := 0) (by decide) (by decide))), (by rw [E_84]; exact hs_82), (by rw [E_84, eg_83]; exact qV_same hV (tY_nE hM_80 (nk (by decide))) (by omega) (fun _ _ => fc_lt (by omega)) (fun _ _ => fc_lt (by omega))), iM_80, (rq_qw (qw_Y hM_80 (by decide))), (mC_qw (qw_Y hM_80 (by decide)) hC), ((tY_nE hM_80 (nk (by decide))))⟩) dX10_coughing_103
            · refine lv_iload_n hx hb dX10_coughing_70 rfl (lv_at hl 1 rfl) ?_
              refine lv_aload_n hx hb dX10_coughing_71 rfl (lv_at hl 2 rfl) ?_
              refine lv_iload_n hx hb dX10_coughing_72 rfl (lv_at hl 3 rfl) ?_
              refine lv_iload_n hx hb dX10_coughing_73 rfl (lv_at hl 4 rfl) ?_
              refine ti_callVi (ci := 10) (av := [.int 0, .int t]) C hw (z_X10_needOf_0 l D A cy hJ M hI hL t tx rg htr ht4 hr hwf (by omega) (by omega)) ⟨ml_X10_371, ym_X10_needOf, yv_X10_needOf, yi_X10_needOf, yc_X10_needOf⟩ yd_X10_needOf ob_60 (by decide) rfl rfl hl.1 (Nat.le_of_ble_eq_true rfl) ⟨by decide, by decide⟩ ⟨Nat.zero_le _, Nat.zero_le _⟩ dX10_coughing_74 (fun r_34 M_35 H locs hp_35 hw => ?_)
              obtain ⟨fi_38, pr_34, iM_35, q_36, q_37⟩ := hp_35
              have hs_39 : qR (tx 4).toNat 0 rg M_35 := qR_of hr q_37
              refine sb_icmp_lt (tgt := 96) hx hb rfl rfl dX10_coughing_77 (by decide) (fun c_77_39 => ?_) (fun c_77_39 => ?_)
              · refine lv_aload_n hx hb dX10_coughing_96 rfl (lv_at hl 2 rfl) ?_
                refine ti_get (ci := 10) (k := 37) (N := 67) (T := TX10) (v := .ref (A 60 38)) C hw iw_10 rfl ob_60 (by decide) (by decide) fl_X10_78 rfl rfl dX10_coughing_97 ?_
                refine lv_iload_n hx hb dX10_coughing_100 rfl (lv_at hl 3 rfl) ?_
                refine lv_iconst (v := 0) hx hb dX10_coughing_101 (by decide) ?_
                refine ti_iast (ci := 10) (k := 37) (n := 23) C hw ob_60 (by decide) (fun _ _ => rfl) (by unfold vp_in; decide) dX10_coughing_102 (fun H locs hw => ?_)
                obtain ⟨M_90, hM_90⟩ : ∃ z : ti_M, z = uY M_35 60 37 (upd (tY M_35 60 37) (0 : Int32).toNatClampNeg 0) := ⟨_, rfl⟩
                have hw := hw.to hM_90.symm
                have iM_90 : mI Tm M_90 := mI_up (i := 0) iM_35 hM_90 trivial
                have hs_92 : qR (tx 4).toNat 0 (bq_fc rg) M_90 := qR_37 (z := 0) hs_39 (by decide) rfl hM_90 (by omega) (fun j hj => fc_lt hj) (fun _ m2 h2 => fc_0 h2)
                obtain ⟨g_93, eg_93⟩ : ∃ z : Nat → Int, z = bq_fc rg := ⟨_, rfl⟩
                rw [← eg_93] at hs_92
                have E_94 : bq_hc tx rg = g_93 := by unfold bq_hc; rw [if_pos (by omega), EH, if_neg (by first | omega | (have H0 : x_4.toInt = 0 := (by rw [← EH, hs_end (by omega)]); omega)), ← eg_93]
                exact hQ _ _ _ _ _ hw (⟨(eR.trans (eR_Y hM_90 (bk_q (z := 0) (by decide) (by decide))) (eR_fI fi_38 q_37)), (by rw [E_94]; exact hs_92), (by rw [E_94, eg_93]; exact qV_same (qV_rows hV (fun k i _ => cg (tY_fr ((q_37) : M_35.2.1 = M.2.1)) i) (by omega)) (tY_nE hM_90 (nk (by decide))) (by omega) (fun _ _ => fc_lt (by omega)) (fun _ _ => fc_lt (by omega))), iM_90, (rq.trans (rq_qw (qw_Y hM_90 (by decide))) (rq_qw q_36)), (mC_qw (qw.trans (qw_Y hM_90 (by decide)) q_36) hC), (((tY_nE hM_90 (nk (by decide))).trans (tY_fr q_37)))⟩) dX10_coughing_103
              · refine lv_aload_n hx hb dX10_coughing_80 rfl (lv_at hl 2 rfl) ?_
                refine lv_iload_n hx hb dX10_coughing_81 rfl (lv_at hl 3 rfl) ?_
                refine ti_callVi (ci := 10) (av := [.int 0]) C hw (z_X10_isGuarded_0 l D A cy hJ M_35 iM_35 tx rg (tR_lw htr (eR_lw (q := 0) (eR_fI fi_38 q_37))) ht4 hs_39 hwf htW) ⟨ml_X10_374, ym_X10_isGuarded, yv_X10_isGuarded, yi_X10_isGuarded, yc_X10_isGuarded⟩ yd_X10_isGuarded ob_60 (by decide) rfl rfl hl.1 (Nat.le_of_ble_eq_true rfl) ⟨by decide, by decide⟩ ⟨Nat.zero_le _, Nat.zero_le _⟩ dX10_coughing_82 (fun r_46 M_47 H locs hp_47 hw => ?_)
                obtain ⟨hm9, hz9⟩ := hp_47
                have hw := hw.to hm9
                rcases hz9 with ⟨rfl, dg_48⟩ | ⟨rfl, dg_48⟩
                · refine sb_if_ne (tgt := 96) hx hb (by decide : (1 : Int32).toInt = 1) dX10_coughing_85 (by decide) (fun c_85_48 => ?_) (fun h => absurd h (by decide))
                  refine lv_aload_n hx hb dX10_coughing_96 rfl (lv_at hl 2 rfl) ?_
                  refine ti_get (ci := 10) (k := 37) (N := 67) (T := TX10) (v := .ref (A 60 38)) C hw iw_10 rfl ob_60 (by decide) (by decide) fl_X10_78 rfl rfl dX10_coughing_97 ?_
                  refine lv_iload_n hx hb dX10_coughing_100 rfl (lv_at hl 3 rfl) ?_
                  refine lv_iconst (v := 0) hx hb dX10_coughing_101 (by decide) ?_
                  refine ti_iast (ci := 10) (k := 37) (n := 23) C hw ob_60 (by decide) (fun _ _ => rfl) (by unfold vp_in; decide) dX10_coughing_102 (fun H locs hw => ?_)
                  obtain ⟨M_100, hM_100⟩ : ∃ z : ti_M, z = uY M_35 60 37 (upd (tY M_35 60 37) (0 : Int32).toNatClampNeg 0) := ⟨_, rfl⟩
                  have hw := hw.to hM_100.symm
                  have iM_100 : mI Tm M_100 := mI_up (i := 0) iM_35 hM_100 trivial
                  have hs_102 : qR (tx 4).toNat 0 (bq_fc rg) M_100 := qR_37 (z := 0) hs_39 (by decide) rfl hM_100 (by omega) (fun j hj => fc_lt hj) (fun _ m2 h2 => fc_0 h2)
                  obtain ⟨g_103, eg_103⟩ : ∃ z : Nat → Int, z = bq_fc rg := ⟨_, rfl⟩
                  rw [← eg_103] at hs_102
                  have E_104 : bq_hc tx rg = g_103 := by unfold bq_hc; rw [if_pos (by omega), EH, if_neg (by first | omega | (have H0 : x_4.toInt = 0 := (by rw [← EH, hs_end (by omega)]); omega)), ← eg_103]
                  exact hQ _ _ _ _ _ hw (⟨(eR.trans (eR_Y hM_100 (bk_q (z := 0) (by decide) (by decide))) (eR_fI fi_38 q_37)), (by rw [E_104]; exact hs_102), (by rw [E_104, eg_103]; exact qV_same (qV_rows hV (fun k i _ => cg (tY_fr ((q_37) : M_35.2.1 = M.2.1)) i) (by omega)) (tY_nE hM_100 (nk (by decide))) (by omega) (fun _ _ => fc_lt (by omega)) (fun _ _ => fc_lt (by omega))), iM_100, (rq.trans (rq_qw (qw_Y hM_100 (by decide))) (rq_qw q_36)), (mC_qw (qw.trans (qw_Y hM_100 (by decide)) q_36) hC), (((tY_nE hM_100 (nk (by decide))).trans (tY_fr q_37)))⟩) dX10_coughing_103
                · refine sb_if_ne (tgt := 96) hx hb (by decide : (0 : Int32).toInt = 0) dX10_coughing_85 (by decide) (fun h => absurd h (by decide)) (fun c_85_49 => ?_)
                  refine lv_aload_n hx hb dX10_coughing_88 rfl (lv_at hl 2 rfl) ?_
                  refine lv_iload_n hx hb dX10_coughing_89 rfl (lv_at hl 3 rfl) ?_
                  refine lv_iconst (v := 0) hx hb dX10_coughing_90 (by decide) ?_
                  refine lv_iconst (v := 3) hx hb dX10_coughing_91 (by decide) ?_
                  refine lv_iload_n hx hb dX10_coughing_92 rfl (lv_at hl 4 rfl) ?_
                  have lk_60 : (tY M_35 60 38 0).toInt = (tY M 60 38 0).toInt := by rw [(cg (tY_fr q_37) 0)]
                  refine ti_callVv (ci := 10) (av := [.int 0, .int 0, .int 3, .int t]) C hw (z_X10_leaves_0 l D A cy hJ M_35 iM_35 (mC_qw q_36 hC) 0 3 t (by first | omega | decide | (have l0 : (0 : Int32).toInt = 0 := (by decide); have l2 : (2 : Int32).toInt = 2 := (by decide); have l3 : (3 : Int32).toInt = 3 := (by decide); omega)) (by first | omega | decide | (have l0 : (0 : Int32).toInt = 0 := (by decide); have l2 : (2 : Int32).toInt = 2 := (by decide); have l3 : (3 : Int32).toInt = 3 := (by decide); omega)) (by first | omega | decide | (have l0 : (0 : Int32).toInt = 0 := (by decide); have l2 : (2 : Int32).toInt = 2 := (by decide); have l3 : (3 : Int32).toInt = 3 := (by decide); omega)) tx rg (tR_lw htr (eR_lw (q := 0) (eR_fI fi_38 q_37))) ht4 hs_39 (qV_rows hV (fun k i _ => cg (tY_fr ((q_37) : M_35.2.1 = M.2.1)) i) (by omega)) hwf (by omega)) ⟨ml_X10_377, ym_X10_leaves, yv_X10_leaves, yi_X10_leaves, yc_X10_leaves⟩ yd_X10_leaves ob_60 (by decide) rfl rfl hl.1 (Nat.le_of_ble_eq_true rfl) ⟨by decide, by decide⟩ ⟨Nat.zero_le _, Nat.zero_le _⟩ dX10_coughing_93 (fun M_59 H locs hp_59 hw => ?_)
                  obtain ⟨erM_59, hrM_59, qvM_59, hqM_59⟩ := hp_59
                  obtain ⟨iM_59, q_61, q_62, q_63, p0r_58⟩ := hqM_59
                  simp only [show (0 : Int32).toInt = 0 by decide] at hrM_59 qvM_59
                  simp only [show (3 : Int32).toInt = 3 by decide] at hrM_59 qvM_59
                  obtain ⟨g_64, eg_64⟩ : ∃ z : Nat → Int, z = bq_rm rg 0 3 := ⟨_, rfl⟩
                  rw [← eg_64] at hrM_59
                  rw [← eg_64] at qvM_59
                  refine lv_aload_n hx hb dX10_coughing_96 rfl (lv_at hl 2 rfl) ?_
                  refine ti_get (ci := 10) (k := 37) (N := 67) (T := TX10) (v := .ref (A 60 38)) C hw iw_10 rfl ob_60 (by decide) (by decide) fl_X10_78 rfl rfl dX10_coughing_97 ?_
                  refine lv_iload_n hx hb dX10_coughing_100 rfl (lv_at hl 3 rfl) ?_
                  refine lv_iconst (v := 0) hx hb dX10_coughing_101 (by decide) ?_
                  refine ti_iast (ci := 10) (k := 37) (n := 23) C hw ob_60 (by decide) (fun _ _ => rfl) (by unfold vp_in; decide) dX10_coughing_102 (fun H locs hw => ?_)
                  obtain ⟨M_110, hM_110⟩ : ∃ z : ti_M, z = uY M_59 60 37 (upd (tY M_59 60 37) (0 : Int32).toNatClampNeg 0) := ⟨_, rfl⟩
                  have hw := hw.to hM_110.symm
                  have iM_110 : mI Tm M_110 := mI_up (i := 0) iM_59 hM_110 trivial
                  have hs_112 : qR (tx 4).toNat 0 (bq_fc g_64) M_110 := qR_37 (z := 0) hrM_59 (by decide) rfl hM_110 (by omega) (fun j hj => fc_lt hj) (fun _ m2 h2 => fc_0 h2)
                  obtain ⟨g_113, eg_113⟩ : ∃ z : Nat → Int, z = bq_fc g_64 := ⟨_, rfl⟩
                  rw [← eg_113] at hs_112
                  have E_114 : bq_hc tx rg = g_113 := by unfold bq_hc; rw [if_pos (by omega), EH, if_pos (by omega), ← eg_64, ← eg_113]
                  exact hQ _ _ _ _ _ hw (⟨(eR.trans (eR_Y hM_110 (bk_q (z := 0) (by decide) (by decide))) (eR.trans erM_59 (eR_fI fi_38 q_37))), (by rw [E_114]; exact hs_112), (by rw [E_114, eg_113]; exact qV_same qvM_59 (tY_nE hM_110 (nk (by decide))) (by omega) (fun _ _ => fc_lt (by omega)) (fun _ _ => fc_lt (by omega))), iM_110, (rq.trans (rq_qw (qw_Y hM_110 (by decide))) (rq.trans q_61 (rq_qw q_36))), (mC_qw (qw_Y hM_110 (by decide)) q_62), (((tY_nE hM_110 (nk (by decide))).trans ((q_63).trans (tY_fr q_37))))⟩) dX10_coughing_103
        · refine lv_iload_n hx hb dX10_coughing_27 rfl (lv_at hl 1 rfl) ?_
          refine lv_aload_n hx hb dX10_coughing_28 rfl (lv_at hl 2 rfl) ?_
          refine ti_get (ci := 10) (k := 37) (N := 67) (T := TX10) (v := .ref (A 60 38)) C hw iw_10 rfl ob_60 (by decide) (by decide) fl_X10_78 rfl rfl dX10_coughing_29 ?_
          refine lv_iload_n hx hb dX10_coughing_32 rfl (lv_at hl 3 rfl) ?_
          refine ti_iald (ci := 10) (k := 37) (n := 23) C hw ob_60 (by decide) (fun _ _ => rfl) (by unfold vp_in; decide) dX10_coughing_33 ?_
          refine lv_topi (fun x_13 ex_13 => ?_)
          have yx_13 : tY M 60 37 0 = x_13 := ((congrArg _ (by decide)).symm.trans ex_13.symm)
          refine lv_aload_n hx hb dX10_coughing_34 rfl (lv_at hl 2 rfl) ?_
          refine ti_get (ci := 10) (k := 39) (N := 67) (T := TX10) (v := .ref (A 60 40)) C hw iw_10 rfl ob_60 (by decide) (by decide) fl_X10_84 rfl rfl dX10_coughing_35 ?_
          refine lv_bipush (v := 8) hx hb dX10_coughing_38 (by decide) ?_
          refine lv_iload_n hx hb dX10_coughing_40 rfl (lv_at hl 3 rfl) ?_
          refine lv_imul hx hb dX10_coughing_41 ?_
          refine ti_top (y := 0) (by decide) ?_
          refine lv_iload hx hb dX10_coughing_42 (lv_at hl 0 rfl) ?_
          refine lv_iadd hx hb dX10_coughing_44 ?_
          refine lv_topi (fun x_14 ex_14 => ?_)
          have tx_14 : x_14.toInt = 0 + x_1.toInt := i_add ex_14 (by decide : (0 : Int32).toInt = 0) rfl (by omega) (by omega)
          refine ti_iald (ci := 10) (k := 39) (n := 184) C hw ob_60 (by decide) (fun _ _ => rfl) (vp_in_iff.mpr (by omega)) dX10_coughing_45 ?_
          refine lv_topi (fun x_15 ex_15 => ?_)
          have yx_15 : tY M 60 39 x_14.toNatClampNeg = x_15 := (ex_15.symm)
          have bx_15 : 0 ≤ x_15.toInt ∧ x_15.toInt ≤ 7 := mI_ry (k := 39) (i := x_14.toNatClampNeg) hI yx_15.symm
          have L_16 : rg (96 + x_1.toInt.toNat) = x_15.toInt := (hr.2.1 (x_1.toInt.toNat) (by omega) (by omega)).trans (rd_k (n := 8 * 0 + x_1.toInt.toNat) (by omega) (yx_15))
          have AM := hwf.2.2.1 x_1.toInt.toNat (by omega)
          rw [L_16] at AM
          refine lv_ishr hx hb dX10_coughing_46 ?_
          refine lv_topi (fun x_17 ex_17 => ?_)
          refine lv_iconst (v := 1) hx hb dX10_coughing_47 (by decide) ?_
          refine lv_iand hx hb dX10_coughing_48 ?_
          refine lv_topi (fun x_18 ex_18 => ?_)
          have bx_18 := i_and 1 ex_18 (by decide) (by decide)
          have BT : x_18.toInt = pp_bt (tY M 60 37 0) x_15.toInt.toNat := by rw [(yx_13)]; exact bt_shr (k := x_15.toInt) ex_17 rfl (by omega) (by omega) ex_18
          have BB : 0 ≤ x_18.toInt ∧ x_18.toInt ≤ 1 := by have := bt_01 (tY M 60 37 0) x_15.toInt.toNat; omega
          refine lv_iadd hx hb dX10_coughing_49 ?_
          refine lv_topi (fun x_19 ex_19 => ?_)
          have tx_19 : x_19.toInt = bw (x_4.toInt + x_18.toInt) := bw_add ex_19 rfl rfl
          refine lv_istore_n (lv' := [(3, .int x_19), (4, .int x_1), (0, .ref (A 60 0)), (1, .int 0), (2, .int t)]) hx hb dX10_coughing_50 rfl hl (by decide) rfl (fun ls hl => ?_)
          obtain ⟨x_20, ex_20⟩ : ∃ z : Int32, z = x_1 + 1 := ⟨_, rfl⟩
          have tx_20 : x_20.toInt = x_1.toInt + 1 := i_add ex_20 rfl (by decide) (by omega) (by omega)
          refine lv_iinc (v := x_20) (lv' := [(4, .int x_20), (3, .int x_19), (0, .ref (A 60 0)), (1, .int 0), (2, .int t)]) hx hb dX10_coughing_51 hl (k := 1) rfl (by rw [ex_20]; rfl) (by decide) rfl (fun ls hl => ?_)
          refine lv_goto (tgt := 5) hx hb dX10_coughing_54 (by decide) ?_
          exact ih_6 x_20 x_19 _ _ _ (by omega) (by first | omega | decide) (by first | omega | decide) (by rw [← j_5, hs_go (s := rg) (f := (bq_lh tx rg + 1 - x_1.toInt).toNat) (f' := (bq_lh tx rg + 1 - x_20.toInt).toNat) (p := x_1.toInt.toNat) (h := x_4.toInt) (by omega), L_16, G0 x_15.toInt.toNat (by omega), ← BT, ← tx_19, show x_20.toInt.toNat = x_1.toInt.toNat + 1 by omega]) hw (lv_sub hl [0, 1, 2, 3, 4] rfl)
  exact hl_5_5 ((8 - 1 : Int).toNat + 1) 1 0 _ _ _ (Nat.lt_succ_self _) (by have lt0 : (0 : Int32).toInt = 0 := (by decide); have lt1 : (1 : Int32).toInt = 1 := (by decide); first | omega | decide) (by have lt0 : (0 : Int32).toInt = 0 := (by decide); have lt1 : (1 : Int32).toInt = 1 := (by decide); first | omega | decide) (by rw [show (1 : Int32).toInt = 1 by decide, show (0 : Int32).toInt = 0 by decide, show bq_lh tx rg + 1 - 1 = bq_lh tx rg by omega]; rfl) hw (lv_sub hl [0, 1, 2, 3, 4] rfl)
set_option maxHeartbeats 4000000 in
set_option maxRecDepth 100000 in
theorem z_X10_coughing_1 (l : Launch) (D : va_G) (A : Nat → Nat → Nat) (cy : Nat → ClassId) (hJ : ti_inj ti_LM A) (M : ti_M) (hI : mI Tm M) (hC : mC M 1) (hL : mL M) (t : Int32) (tx rg : Nat → Int) (htr : tR tx M) (ht4 : 0 ≤ tx 4 ∧ tx 4 ≤ 8) (hr : qR (tx 4).toNat 1 rg M) (hV : qV (tx 4).toNat 1 rg M) (hwf : wF tx rg) (htW : tW tx) (htm : t.toInt = rg 2) (h1 : rg 1 ≠ 0) : ti_Kv l yX10_coughing cX10_coughing 5 5 ti_LM D A cy M [.ref (A 60 0), .int 1, .int t] (fun M2 => eR 1 M2 M ∧ qR (tx 4).toNat 1 (rg) M2 ∧ qV (tx 4).toNat 1 (rg) M2 ∧ mI Tm M2 ∧ rq 1 M2 M ∧ mC M2 1 ∧ tY M2 60 34 = tY M 60 34) := by
  refine ti_eV yp_X10_coughing hJ ti_LM_nd (Nat.le_of_ble_eq_true rfl) ?_
  intro p e s m args below meth c Q H0 C hQ hw ls hl
  have hx := C.1
  have hb := C.2.1
  have hl : lv_has ls 5 [(0, .ref (A 60 0)), (1, .int 1), (2, .int t)] := hl
  have LH : (bq_lh tx rg = tx 9 ∧ tx 9 ≤ rg 3 - 1) ∨ (bq_lh tx rg = rg 3 - 1 ∧ rg 3 - 1 < tx 9) := by unfold bq_lh bq_mn; split <;> omega
  have w8 := wF_8 hwf
  have G0 := hr.2.2.2.2.2
  rw [if_neg h1] at G0
  refine lv_iconst (v := 0) hx hb dX10_coughing_0 (by decide) ?_
  refine lv_istore_n (lv' := [(3, .int 0), (0, .ref (A 60 0)), (1, .int 1), (2, .int t)]) hx hb dX10_coughing_1 rfl hl (by decide) rfl (fun ls hl => ?_)
  refine lv_iconst (v := 1) hx hb dX10_coughing_2 (by decide) ?_
  refine lv_istore (lv' := [(4, .int 1), (3, .int 0), (0, .ref (A 60 0)), (1, .int 1), (2, .int t)]) hx hb dX10_coughing_3 hl (by decide) rfl (fun ls hl => ?_)
  have hl_5_5 : ∀ (n_6 : Nat) (x_1 : Int32) (x_4 : Int32) (H : Heap) (locs : List Loc) (ls : Array Slot), (8 - x_1.toInt : Int).toNat < n_6 → (1 ≤ x_1.toInt) → (x_1.toInt ≤ 8) → (x_4.toInt = 0) → ti_H ti_LM D A cy H0 M H locs → lv_has ls 5 [(4, .int x_1), (3, .int x_4), (0, .ref (A 60 0)), (1, .int 1), (2, .int t)] → W p l e (ti_rm 5) s m args below meth c H locs 0 0 Q (F0 m 5 ls []) := by
    intro n_6
    induction n_6 with
    | zero => intro x_1 x_4 H locs ls hf_6; exact absurd hf_6 (Nat.not_lt_zero _)
    | succ n_6 ih_6 =>
      intro x_1 x_4 H locs ls hf_6 b_2 b_3 j_5 hw hl
      refine lv_iload hx hb dX10_coughing_5 (lv_at hl 0 rfl) ?_
      refine lv_aload_n hx hb dX10_coughing_7 rfl (lv_at hl 2 rfl) ?_
      refine ti_get (ci := 10) (k := 38) (N := 67) (T := TX10) (v := .ref (A 60 39)) C hw iw_10 rfl ob_60 (by decide) (by decide) fl_X10_81 rfl rfl dX10_coughing_8 ?_
      refine lv_iload_n hx hb dX10_coughing_11 rfl (lv_at hl 3 rfl) ?_
      refine ti_iald (ci := 10) (k := 38) (n := 23) C hw ob_60 (by decide) (fun _ _ => rfl) (by unfold vp_in; decide) dX10_coughing_12 ?_
      refine lv_topi (fun x_7 ex_7 => ?_)
      have yx_7 : tY M 60 38 1 = x_7 := ((congrArg _ (by decide)).symm.trans ex_7.symm)
      have bx_7 : 0 ≤ x_7.toInt ∧ x_7.toInt ≤ 8 := mI_ry (k := 38) (i := 1) hI yx_7.symm
      have zx_7 : (tY M 60 38 1).toInt = x_7.toInt := by rw [yx_7]
      have L_8 : rg 3 = x_7.toInt := (hr.1.2.1).trans (congrArg Int32.toInt (yx_7))
      refine sb_icmp_ge (tgt := 57) hx hb rfl rfl dX10_coughing_13 (by decide) (fun c_13_8 => ?_) (fun c_13_8 => ?_)
      · refine lv_aload_n hx hb dX10_coughing_57 rfl (lv_at hl 2 rfl) ?_
        refine ti_get (ci := 10) (k := 38) (N := 67) (T := TX10) (v := .ref (A 60 39)) C hw iw_10 rfl ob_60 (by decide) (by decide) fl_X10_81 rfl rfl dX10_coughing_58 ?_
        refine lv_iload_n hx hb dX10_coughing_61 rfl (lv_at hl 3 rfl) ?_
        refine ti_iald (ci := 10) (k := 38) (n := 23) C hw ob_60 (by decide) (fun _ _ => rfl) (by unfold vp_in; decide) dX10_coughing_62 ?_
        refine ti_top (y := x_7) ((congrArg _ (by decide)).trans (yx_7)) ?_
        have L_21 : rg 3 = x_7.toInt := (hr.1.2.1).trans (congrArg Int32.toInt (yx_7))
        refine sb_if_le (tgt := 96) hx hb rfl dX10_coughing_63 (by decide) (fun c_63_21 => ?_) (fun c_63_21 => ?_)
        · refine lv_aload_n hx hb dX10_coughing_96 rfl (lv_at hl 2 rfl) ?_
          refine ti_get (ci := 10) (k := 37) (N := 67) (T := TX10) (v := .ref (A 60 38)) C hw iw_10 rfl ob_60 (by decide) (by decide) fl_X10_78 rfl rfl dX10_coughing_97 ?_
          refine lv_iload_n hx hb dX10_coughing_100 rfl (lv_at hl 3 rfl) ?_
          refine lv_iconst (v := 0) hx hb dX10_coughing_101 (by decide) ?_
          refine ti_iast (ci := 10) (k := 37) (n := 23) C hw ob_60 (by decide) (fun _ _ => rfl) (by unfold vp_in; decide) dX10_coughing_102 (fun H locs hw => ?_)
          obtain ⟨M_27, hM_27⟩ : ∃ z : ti_M, z = uY M 60 37 (upd (tY M 60 37) (1 : Int32).toNatClampNeg 0) := ⟨_, rfl⟩
          have hw := hw.to hM_27.symm
          have iM_27 : mI Tm M_27 := mI_up (i := 1) hI hM_27 trivial
          have hs_29 : qR (tx 4).toNat 1 rg M_27 := qR_37 (z := 1) hr (by decide) rfl hM_27 (by omega) (fun _ _ => rfl) (fun q => absurd q (by omega))
          exact hQ _ _ _ _ _ hw (⟨(eR_Y hM_27 (bk_q (z := 1) (by decide) (by decide))), hs_29, (qV_same hV (tY_nE hM_27 (nk (by decide)) : tY M_27 60 48 = tY M 60 48) (by omega) (fun _ _ => rfl) (fun _ _ => rfl)), iM_27, (rq_qw (qw_Y hM_27 (by decide))), (mC_qw (qw_Y hM_27 (by decide)) hC), ((tY_nE hM_27 (nk (by decide))))⟩) dX10_coughing_103
        · refine lv_iload_n hx hb dX10_coughing_66 rfl (lv_at hl 1 rfl) ?_
          refine sb_if_le (tgt := 96) hx hb rfl dX10_coughing_67 (by decide) (fun c_67_24 => ?_) (fun h => by omega)
          refine lv_aload_n hx hb dX10_coughing_96 rfl (lv_at hl 2 rfl) ?_
          refine ti_get (ci := 10) (k := 37) (N := 67) (T := TX10) (v := .ref (A 60 38)) C hw iw_10 rfl ob_60 (by decide) (by decide) fl_X10_78 rfl rfl dX10_coughing_97 ?_
          refine lv_iload_n hx hb dX10_coughing_100 rfl (lv_at hl 3 rfl) ?_
          refine lv_iconst (v := 0) hx hb dX10_coughing_101 (by decide) ?_
          refine ti_iast (ci := 10) (k := 37) (n := 23) C hw ob_60 (by decide) (fun _ _ => rfl) (by unfold vp_in; decide) dX10_coughing_102 (fun H locs hw => ?_)
          obtain ⟨M_33, hM_33⟩ : ∃ z : ti_M, z = uY M 60 37 (upd (tY M 60 37) (1 : Int32).toNatClampNeg 0) := ⟨_, rfl⟩
          have hw := hw.to hM_33.symm
          have iM_33 : mI Tm M_33 := mI_up (i := 1) hI hM_33 trivial
          have hs_35 : qR (tx 4).toNat 1 rg M_33 := qR_37 (z := 1) hr (by decide) rfl hM_33 (by omega) (fun _ _ => rfl) (fun q => absurd q (by omega))
          exact hQ _ _ _ _ _ hw (⟨(eR_Y hM_33 (bk_q (z := 1) (by decide) (by decide))), hs_35, (qV_same hV (tY_nE hM_33 (nk (by decide)) : tY M_33 60 48 = tY M 60 48) (by omega) (fun _ _ => rfl) (fun _ _ => rfl)), iM_33, (rq_qw (qw_Y hM_33 (by decide))), (mC_qw (qw_Y hM_33 (by decide)) hC), ((tY_nE hM_33 (nk (by decide))))⟩) dX10_coughing_103
      · refine lv_iload hx hb dX10_coughing_16 (lv_at hl 0 rfl) ?_
        refine lv_aload_n hx hb dX10_coughing_18 rfl (lv_at hl 2 rfl) ?_
        refine ti_get (ci := 10) (k := 3) (N := 67) (T := TX10) (v := .ref (A 60 4)) C hw iw_10 rfl ob_60 (by decide) (by decide) fl_X10_13 rfl rfl dX10_coughing_19 ?_
        refine lv_iconst (v := 4) hx hb dX10_coughing_22 (by decide) ?_
        refine ti_iald (ci := 10) (k := 3) (n := 22) C hw ob_60 (by decide) (fun _ _ => rfl) (by unfold vp_in; decide) dX10_coughing_23 ?_
        refine lv_topi (fun x_10 ex_10 => ?_)
        have yx_10 : tY M 60 3 4 = x_10 := ((congrArg _ (by decide)).symm.trans ex_10.symm)
        have zx_10 : (tY M 60 3 4).toInt = x_10.toInt := by rw [yx_10]
        have L_11 : tx 9 = x_10.toInt := (htr.1.2.2.2.2.1).trans ((congrArg Int32.toInt (cg rfl 4)).symm.trans (congrArg Int32.toInt (yx_10)))
        refine sb_icmp_gt (tgt := 57) hx hb rfl rfl dX10_coughing_24 (by decide) (fun c_24_11 => ?_) (fun c_24_11 => ?_)
        · refine lv_aload_n hx hb dX10_coughing_57 rfl (lv_at hl 2 rfl) ?_
          refine ti_get (ci := 10) (k := 38) (N := 67) (T := TX10) (v := .ref (A 60 39)) C hw iw_10 rfl ob_60 (by decide) (by decide) fl_X10_81 rfl rfl dX10_coughing_58 ?_
          refine lv_iload_n hx hb dX10_coughing_61 rfl (lv_at hl 3 rfl) ?_
          refine ti_iald (ci := 10) (k := 38) (n := 23) C hw ob_60 (by decide) (fun _ _ => rfl) (by unfold vp_in; decide) dX10_coughing_62 ?_
          refine ti_top (y := x_7) ((congrArg _ (by decide)).trans (yx_7)) ?_
          have L_23 : rg 3 = x_7.toInt := (hr.1.2.1).trans (congrArg Int32.toInt (yx_7))
          refine sb_if_le (tgt := 96) hx hb rfl dX10_coughing_63 (by decide) (fun c_63_23 => ?_) (fun c_63_23 => ?_)
          · refine lv_aload_n hx hb dX10_coughing_96 rfl (lv_at hl 2 rfl) ?_
            refine ti_get (ci := 10) (k := 37) (N := 67) (T := TX10) (v := .ref (A 60 38)) C hw iw_10 rfl ob_60 (by decide) (by decide) fl_X10_78 rfl rfl dX10_coughing_97 ?_
            refine lv_iload_n hx hb dX10_coughing_100 rfl (lv_at hl 3 rfl) ?_
            refine lv_iconst (v := 0) hx hb dX10_coughing_101 (by decide) ?_
            refine ti_iast (ci := 10) (k := 37) (n := 23) C hw ob_60 (by decide) (fun _ _ => rfl) (by unfold vp_in; decide) dX10_coughing_102 (fun H locs hw => ?_)
            obtain ⟨M_30, hM_30⟩ : ∃ z : ti_M, z = uY M 60 37 (upd (tY M 60 37) (1 : Int32).toNatClampNeg 0) := ⟨_, rfl⟩
            have hw := hw.to hM_30.symm
            have iM_30 : mI Tm M_30 := mI_up (i := 1) hI hM_30 trivial
            have hs_32 : qR (tx 4).toNat 1 rg M_30 := qR_37 (z := 1) hr (by decide) rfl hM_30 (by omega) (fun _ _ => rfl) (fun q => absurd q (by omega))
            exact hQ _ _ _ _ _ hw (⟨(eR_Y hM_30 (bk_q (z := 1) (by decide) (by decide))), hs_32, (qV_same hV (tY_nE hM_30 (nk (by decide)) : tY M_30 60 48 = tY M 60 48) (by omega) (fun _ _ => rfl) (fun _ _ => rfl)), iM_30, (rq_qw (qw_Y hM_30 (by decide))), (mC_qw (qw_Y hM_30 (by decide)) hC), ((tY_nE hM_30 (nk (by decide))))⟩) dX10_coughing_103
          · refine lv_iload_n hx hb dX10_coughing_66 rfl (lv_at hl 1 rfl) ?_
            refine sb_if_le (tgt := 96) hx hb rfl dX10_coughing_67 (by decide) (fun c_67_25 => ?_) (fun h => by omega)
            refine lv_aload_n hx hb dX10_coughing_96 rfl (lv_at hl 2 rfl) ?_
            refine ti_get (ci := 10) (k := 37) (N := 67) (T := TX10) (v := .ref (A 60 38)) C hw iw_10 rfl ob_60 (by decide) (by decide) fl_X10_78 rfl rfl dX10_coughing_97 ?_
            refine lv_iload_n hx hb dX10_coughing_100 rfl (lv_at hl 3 rfl) ?_
            refine lv_iconst (v := 0) hx hb dX10_coughing_101 (by decide) ?_
            refine ti_iast (ci := 10) (k := 37) (n := 23) C hw ob_60 (by decide) (fun _ _ => rfl) (by unfold vp_in; decide) dX10_coughing_102 (fun H locs hw => ?_)
            obtain ⟨M_36, hM_36⟩ : ∃ z : ti_M, z = uY M 60 37 (upd (tY M 60 37) (1 : Int32).toNatClampNeg 0) := ⟨_, rfl⟩
            have hw := hw.to hM_36.symm
            have iM_36 : mI Tm M_36 := mI_up (i := 1) hI hM_36 trivial
            have hs_38 : qR (tx 4).toNat 1 rg M_36 := qR_37 (z := 1) hr (by decide) rfl hM_36 (by omega) (fun _ _ => rfl) (fun q => absurd q (by omega))
            exact hQ _ _ _ _ _ hw (⟨(eR_Y hM_36 (bk_q (z := 1) (by decide) (by decide))), hs_38, (qV_same hV (tY_nE hM_36 (nk (by decide)) : tY M_36 60 48 = tY M 60 48) (by omega) (fun _ _ => rfl) (fun _ _ => rfl)), iM_36, (rq_qw (qw_Y hM_36 (by decide))), (mC_qw (qw_Y hM_36 (by decide)) hC), ((tY_nE hM_36 (nk (by decide))))⟩) dX10_coughing_103
        · refine lv_iload_n hx hb dX10_coughing_27 rfl (lv_at hl 1 rfl) ?_
          refine lv_aload_n hx hb dX10_coughing_28 rfl (lv_at hl 2 rfl) ?_
          refine ti_get (ci := 10) (k := 37) (N := 67) (T := TX10) (v := .ref (A 60 38)) C hw iw_10 rfl ob_60 (by decide) (by decide) fl_X10_78 rfl rfl dX10_coughing_29 ?_
          refine lv_iload_n hx hb dX10_coughing_32 rfl (lv_at hl 3 rfl) ?_
          refine ti_iald (ci := 10) (k := 37) (n := 23) C hw ob_60 (by decide) (fun _ _ => rfl) (by unfold vp_in; decide) dX10_coughing_33 ?_
          refine lv_topi (fun x_13 ex_13 => ?_)
          have yx_13 : tY M 60 37 1 = x_13 := ((congrArg _ (by decide)).symm.trans ex_13.symm)
          refine lv_aload_n hx hb dX10_coughing_34 rfl (lv_at hl 2 rfl) ?_
          refine ti_get (ci := 10) (k := 39) (N := 67) (T := TX10) (v := .ref (A 60 40)) C hw iw_10 rfl ob_60 (by decide) (by decide) fl_X10_84 rfl rfl dX10_coughing_35 ?_
          refine lv_bipush (v := 8) hx hb dX10_coughing_38 (by decide) ?_
          refine lv_iload_n hx hb dX10_coughing_40 rfl (lv_at hl 3 rfl) ?_
          refine lv_imul hx hb dX10_coughing_41 ?_
          refine ti_top (y := 8) (by decide) ?_
          refine lv_iload hx hb dX10_coughing_42 (lv_at hl 0 rfl) ?_
          refine lv_iadd hx hb dX10_coughing_44 ?_
          refine lv_topi (fun x_14 ex_14 => ?_)
          have tx_14 : x_14.toInt = 8 + x_1.toInt := i_add ex_14 (by decide : (8 : Int32).toInt = 8) rfl (by omega) (by omega)
          refine ti_iald (ci := 10) (k := 39) (n := 184) C hw ob_60 (by decide) (fun _ _ => rfl) (vp_in_iff.mpr (by omega)) dX10_coughing_45 ?_
          refine lv_topi (fun x_15 ex_15 => ?_)
          have yx_15 : tY M 60 39 x_14.toNatClampNeg = x_15 := (ex_15.symm)
          have bx_15 : 0 ≤ x_15.toInt ∧ x_15.toInt ≤ 7 := mI_ry (k := 39) (i := x_14.toNatClampNeg) hI yx_15.symm
          have L_16 : rg (96 + x_1.toInt.toNat) = x_15.toInt := (hr.2.1 (x_1.toInt.toNat) (by omega) (by omega)).trans (rd_k (n := 8 * 1 + x_1.toInt.toNat) (by omega) (yx_15))
          have AM := hwf.2.2.1 x_1.toInt.toNat (by omega)
          rw [L_16] at AM
          refine lv_ishr hx hb dX10_coughing_46 ?_
          refine lv_topi (fun x_17 ex_17 => ?_)
          refine lv_iconst (v := 1) hx hb dX10_coughing_47 (by decide) ?_
          refine lv_iand hx hb dX10_coughing_48 ?_
          refine lv_topi (fun x_18 ex_18 => ?_)
          have bx_18 := i_and 1 ex_18 (by decide) (by decide)
          have BT : x_18.toInt = pp_bt (tY M 60 37 1) x_15.toInt.toNat := by rw [(yx_13)]; exact bt_shr (k := x_15.toInt) ex_17 rfl (by omega) (by omega) ex_18
          have BB : 0 ≤ x_18.toInt ∧ x_18.toInt ≤ 1 := by have := bt_01 (tY M 60 37 1) x_15.toInt.toNat; omega
          refine lv_iadd hx hb dX10_coughing_49 ?_
          refine lv_topi (fun x_19 ex_19 => ?_)
          have tx_19 : x_19.toInt = bw (x_4.toInt + x_18.toInt) := bw_add ex_19 rfl rfl
          have NZ : x_19.toInt = 0 := by rw [tx_19, bw_id (by omega) (by omega)]; rw [G0, bt_0] at BT; omega
          refine lv_istore_n (lv' := [(3, .int x_19), (4, .int x_1), (0, .ref (A 60 0)), (1, .int 1), (2, .int t)]) hx hb dX10_coughing_50 rfl hl (by decide) rfl (fun ls hl => ?_)
          obtain ⟨x_20, ex_20⟩ : ∃ z : Int32, z = x_1 + 1 := ⟨_, rfl⟩
          have tx_20 : x_20.toInt = x_1.toInt + 1 := i_add ex_20 rfl (by decide) (by omega) (by omega)
          refine lv_iinc (v := x_20) (lv' := [(4, .int x_20), (3, .int x_19), (0, .ref (A 60 0)), (1, .int 1), (2, .int t)]) hx hb dX10_coughing_51 hl (k := 1) rfl (by rw [ex_20]; rfl) (by decide) rfl (fun ls hl => ?_)
          refine lv_goto (tgt := 5) hx hb dX10_coughing_54 (by decide) ?_
          exact ih_6 x_20 x_19 _ _ _ (by omega) (by first | omega | decide) (by first | omega | decide) (by first | omega | decide) hw (lv_sub hl [0, 1, 2, 3, 4] rfl)
  exact hl_5_5 ((8 - 1 : Int).toNat + 1) 1 0 _ _ _ (Nat.lt_succ_self _) (by have lt0 : (0 : Int32).toInt = 0 := (by decide); have lt1 : (1 : Int32).toInt = 1 := (by decide); first | omega | decide) (by have lt0 : (0 : Int32).toInt = 0 := (by decide); have lt1 : (1 : Int32).toInt = 1 := (by decide); first | omega | decide) (by have lt0 : (0 : Int32).toInt = 0 := (by decide); have lt1 : (1 : Int32).toInt = 1 := (by decide); first | omega | decide) hw (lv_sub hl [0, 1, 2, 3, 4] rfl)
end
section
variable {Tc : gC} {Tm : gM}
variable {Tc : gC} {Tm : gM}
section
theorem bw_i (x : Int32) : bw x.toInt = x.toInt := bw_id (Int32.le_toInt x) (by have := Int32.toInt_lt x; omega)
variable {tx s : Nat → Int} {j : Nat}
theorem pr_v (ht : tW tx) (h : wF tx s) (hj : (128 ≤ j ∧ j < 136) ∨ (224 ≤ j ∧ j < 232)) : bq_pr tx s j = s j := by
  unfold bq_pr
  split
  · rfl
  · rename_i c
    have h3 := wF_8 h
    have x : 0 ≤ s 96 ∧ s 96 < tx 4 ∧ s (128 + (s 96).toNat) = 1 := h.2.2.1 0 (by omega)
    have ht4 := ht.1
    rw [su_n (by omega), su_n (by omega)]
theorem l1_v (ht : tW tx) (h : wF tx s) {t : Int} {p : Nat} (h0 : 0 ≤ t) (h1 : t < tx 4) (hp : (p : Int) < s 3) (hj : (128 ≤ j ∧ j < 136) ∨ (224 ≤ j ∧ j < 232)) : bq_l1 tx s t p j = s j := by
  have ht4 := ht.1
  have x := h.2.2.1 p hp
  unfold bq_l1 bq_py
  split
  · rfl
  · rw [su_n (by omega), su_n (by omega)]
theorem lf_v (ht : tW tx) {t : Int} (h0 : 0 ≤ t) (h1 : t < tx 4) (hj : (128 ≤ j ∧ j < 136) ∨ (224 ≤ j ∧ j < 232)) : ∀ (f p : Nat) (s : Nat → Int), (p + f : Int) ≤ s 3 → wF tx s → bq_lf tx t f p s j = s j := by
  intro f
  induction f with
  | zero => intro p s _ h; rfl
  | succ f ih =>
    intro p s hp h
    rw [bq_lf, ih (p + 1) _ (by rw [l1_k (by decide)]; omega) (wF_l1 ht h h0 h1 (by omega)), l1_v ht h h0 h1 (by omega) hj]
theorem ly_v (ht : tW tx) (h : wF tx s) (hj : (128 ≤ j ∧ j < 136) ∨ (224 ≤ j ∧ j < 232)) : bq_ly tx s j = s j := by
  unfold bq_ly
  split
  · rfl
  · rename_i c
    have h8 := wF_8 h
    have k : 0 ≤ s 114 ∧ s 114 < s 3 := by
      by_cases q : 0 ≤ s 114 ∧ s 114 < s 3
      · exact q
      · exact absurd (Or.inl (by unfold bq_ma; rw [if_neg q]; decide)) c
    have x := h.2.2.1 (s 114).toNat (by omega)
    have e : bq_ma s (s 114) = s (96 + (s 114).toNat) := by unfold bq_ma; rw [if_pos k]
    rw [e]
    exact lf_v ht x.1 x.2.1 hj _ _ _ (by omega) h
theorem w1_v (ht : tW tx) (h : wF tx s) {p : Nat} (hp : (p : Int) < s 3) (hj : (128 ≤ j ∧ j < 136) ∨ (224 ≤ j ∧ j < 232)) : bq_w1 tx s p j = s j := by
  have ht4 := ht.1
  have x := h.2.2.1 p hp
  unfold bq_w1
  split
  · rw [su_n (by omega)]
  · split
    · rw [su_n (by omega)]
    · rfl
theorem wr_v (ht : tW tx) (h : wF tx s) (hj : (128 ≤ j ∧ j < 136) ∨ (224 ≤ j ∧ j < 232)) : bq_wr tx s j = s j := by
  have key : ∀ (f p : Nat) (s : Nat → Int), (p + f : Int) ≤ s 3 → wF tx s → bq_wf tx f p s j = s j := by
    intro f
    induction f with
    | zero => intro p s _ h; rfl
    | succ f ih =>
      intro p s hp h
      rw [bq_wf, ih (p + 1) _ (by rw [w1_k (by decide)]; omega) (wF_w1 ht h (by omega)), w1_v ht h (by omega) hj]
  exact key _ _ _ (by have := wF_8 h; omega) h
theorem wF_dr (ht : tW tx) (h : wF tx s) : wF tx (pp_su s 5 (bq_dr (s 5))) := by
  have hd : 0 ≤ bq_dr (s 5) := by unfold bq_dr; omega
  have D := h.2.2.2.2.2
  refine wF_of ht h (su_n (by omega)) (by rw [su_n (by omega)]; exact h.2.1.1) (by rw [su_s]; exact hd) (fun p hp => su_n (by omega)) (fun m hm => su_n (by omega)) ⟨fun m hm => ?_, fun m hm hl => ?_, fun j hj => ?_⟩
  · rw [su_n (by omega), su_n (by omega), su_n (by omega)]; exact D.1 m hm
  · rw [su_n (by omega)]; exact D.2.1 m hm hl
  · rw [su_n (by omega)]; exact D.2.2 j hj
end
set_option maxHeartbeats 4000000 in
set_option maxRecDepth 100000 in
theorem z_X10_passes_0 (l : Launch) (D : va_G) (A : Nat → Nat → Nat) (cy : Nat → ClassId) (hJ : ti_inj ti_LM A) (M : ti_M) (hI : mI Tm M) (hC : mC M 0) (hL : mL M) (mu : Int32) (h34 : (tY M 60 34 0).toInt ≤ 119) (tx rg : Nat → Int) (htr : tR tx M) (ht4 : 0 ≤ tx 4 ∧ tx 4 ≤ 8) (hr : qR (tx 4).toNat 0 rg M) (hV : qV (tx 4).toNat 0 rg M) (hwf : wF tx rg) (htw : tI M 60 53 = -1) (htW : tW tx) (h1 : rg 1 = 0) (hmu : mu.toInt ≠ 0) (h2 : 0 ≤ rg 2) : ti_Kv l yX10_passes cX10_passes 5 6 ti_LM D A cy M [.ref (A 60 0), .int 0, .int mu] (fun M2 => eR 0 M2 M ∧ qR (tx 4).toNat 0 (bq_ps tx rg) M2 ∧ qV (tx 4).toNat 0 (bq_ps tx rg) M2 ∧ mI Tm M2 ∧ rq 0 M2 M ∧ mC M2 0 ∧ (tY M2 60 34 0).toInt = (tY M 60 34 0).toInt + 1) := by
  refine ti_eV yp_X10_passes hJ ti_LM_nd (Nat.le_of_ble_eq_true rfl) ?_
  intro p e s m args below meth c Q H0 C hQ hw ls hl
  have hx := C.1
  have hb := C.2.1
  have hl : lv_has ls 5 [(0, .ref (A 60 0)), (1, .int 0), (2, .int mu)] := hl
  have h5 := hwf.2.1.2
  have ht10 := htW.2.2.2.2.2.1
  refine lv_aload_n hx hb dX10_passes_0 rfl (lv_at hl 0 rfl) ?_
  refine ti_get (ci := 10) (k := 34) (N := 67) (T := TX10) (v := .ref (A 60 35)) C hw iw_10 rfl ob_60 (by decide) (by decide) fl_X10_69 rfl rfl dX10_passes_1 ?_
  refine lv_iload_n hx hb dX10_passes_4 rfl (lv_at hl 1 rfl) ?_
  refine ti_iald (ci := 10) (k := 34) (n := 23) C hw ob_60 (by decide) (fun _ _ => rfl) (by unfold vp_in; decide) dX10_passes_5 ?_
  refine lv_topi (fun x_1 ex_1 => ?_)
  have yx_1 : tY M 60 34 0 = x_1 := ((congrArg _ (by decide)).symm.trans ex_1.symm)
  have bx_1 : 0 ≤ x_1.toInt ∧ x_1.toInt ≤ 120 := mI_ry (k := 34) (i := 0) hI yx_1.symm (by decide)
  have zx_1 : (tY M 60 34 0).toInt = x_1.toInt := by rw [yx_1]
  have L_2 : rg 2 = x_1.toInt := (hr.1.1).trans (congrArg Int32.toInt (yx_1))
  refine lv_istore_n (lv' := [(3, .int x_1), (0, .ref (A 60 0)), (1, .int 0), (2, .int mu)]) hx hb dX10_passes_6 rfl hl (by decide) rfl (fun ls hl => ?_)
  refine lv_aload_n hx hb dX10_passes_7 rfl (lv_at hl 1 rfl) ?_
  refine lv_iload_n hx hb dX10_passes_8 rfl (lv_at hl 2 rfl) ?_
  refine lv_iload_n hx hb dX10_passes_9 rfl (lv_at hl 0 rfl) ?_
  refine ti_callVv (ci := 10) (av := [.int 0, .int x_1]) C hw (z_X10_arrive_0 l D A cy hJ M hI hC x_1 tx rg htr ht4 hr hV hwf htW (by omega)) ⟨ml_X10_382, ym_X10_arrive, yv_X10_arrive, yi_X10_arrive, yc_X10_arrive⟩ yd_X10_arrive ob_60 (by decide) rfl rfl hl.1 (Nat.le_of_ble_eq_true rfl) ⟨by decide, by decide⟩ ⟨Nat.zero_le _, Nat.zero_le _⟩ dX10_passes_10 (fun M_4 H locs hp_4 hw => ?_)
  obtain ⟨erM_4, hrM_4, qvM_4, hqM_4⟩ := hp_4
  obtain ⟨iM_4, q_5, q_6, q_7⟩ := hqM_4
  obtain ⟨g_8, eg_8⟩ : ∃ z : Nat → Int, z = bq_wl tx (tx 4).toNat rg := ⟨_, rfl⟩
  rw [← eg_8] at hrM_4
  have w1g_8 : g_8 1 = rg 1 := by rw [eg_8]; exact wl_k (k := 1) (by decide) _ _
  have w2g_8 : g_8 2 = rg 2 := by rw [eg_8]; exact wl_k (k := 2) (by decide) _ _
  have w5g_8 : g_8 5 = rg 5 := by rw [eg_8]; exact wl_k (k := 5) (by decide) _ _
  have wpg_8 : wF tx g_8 := by rw [eg_8]; exact wF_wl htW _ _ hwf
  rw [← eg_8] at qvM_4
  refine lv_aload_n hx hb dX10_passes_13 rfl (lv_at hl 1 rfl) ?_
  refine lv_iload_n hx hb dX10_passes_14 rfl (lv_at hl 2 rfl) ?_
  refine lv_iload_n hx hb dX10_passes_15 rfl (lv_at hl 0 rfl) ?_
  refine ti_callVv (ci := 10) (av := [.int 0, .int x_1]) C hw (z_X10_coughing_0 l D A cy hJ M_4 iM_4 q_6 (mL_lw (lk_of q_5.1 q_5.2.1).1 hL) x_1 tx g_8 (tR_lw htr (eR_lw (q := 0) erM_4)) ht4 hrM_4 qvM_4 wpg_8 htW (by omega) (by omega)) ⟨ml_X10_385, ym_X10_coughing, yv_X10_coughing, yi_X10_coughing, yc_X10_coughing⟩ yd_X10_coughing ob_60 (by decide) rfl rfl hl.1 (Nat.le_of_ble_eq_true rfl) ⟨by decide, by decide⟩ ⟨Nat.zero_le _, Nat.zero_le _⟩ dX10_passes_16 (fun M_10 H locs hp_10 hw => ?_)
  obtain ⟨erM_10, hrM_10, qvM_10, hqM_10⟩ := hp_10
  obtain ⟨iM_10, q_11, q_12, q_13⟩ := hqM_10
  obtain ⟨g_14, eg_14⟩ : ∃ z : Nat → Int, z = bq_hc tx g_8 := ⟨_, rfl⟩
  rw [← eg_14] at hrM_10
  have w1g_14 : g_14 1 = g_8 1 := by rw [eg_14]; exact hc_k (by decide)
  have w2g_14 : g_14 2 = g_8 2 := by rw [eg_14]; exact hc_k (by decide)
  have w5g_14 : g_14 5 = g_8 5 := by rw [eg_14]; exact hc_k (by decide)
  have wpg_14 : wF tx g_14 := by rw [eg_14]; exact wF_hc htW wpg_8
  rw [← eg_14] at qvM_10
  refine lv_aload_n hx hb dX10_passes_19 rfl (lv_at hl 1 rfl) ?_
  refine lv_iload_n hx hb dX10_passes_20 rfl (lv_at hl 2 rfl) ?_
  refine ti_callVv (ci := 10) (av := [.int 0]) C hw (z_X10_pour_0 l D A cy hJ M_10 iM_10  tx g_14 (tR_lw htr (eR_lw (q := 0) (eR.trans erM_10 erM_4))) ht4 hrM_10 wpg_14 ((erM_10.1 53 (by decide)).trans ((erM_4.1 53 (by decide)).trans htw))) ⟨ml_X10_388, ym_X10_pour, yv_X10_pour, yi_X10_pour, yc_X10_pour⟩ yd_X10_pour ob_60 (by decide) rfl rfl hl.1 (Nat.le_of_ble_eq_true rfl) ⟨by decide, by decide⟩ ⟨Nat.zero_le _, Nat.zero_le _⟩ dX10_passes_21 (fun M_16 H locs hp_16 hw => ?_)
  obtain ⟨erM_16, e48M_16, hrM_16, hqM_16⟩ := hp_16
  obtain ⟨iM_16, q_17, q_18⟩ := hqM_16
  obtain ⟨g_19, eg_19⟩ : ∃ z : Nat → Int, z = bq_pr tx g_14 := ⟨_, rfl⟩
  rw [← eg_19] at hrM_16
  have w1g_19 : g_19 1 = g_14 1 := by rw [eg_19]; exact pr_k (by decide)
  have w2g_19 : g_19 2 = g_14 2 := by rw [eg_19]; exact pr_k (by decide)
  have w5g_19 : g_19 5 = g_14 5 := by rw [eg_19]; exact pr_k (by decide)
  have wpg_19 : wF tx g_19 := by rw [eg_19]; exact wF_pr htW wpg_14
  have qvM_16 : qV (tx 4).toNat 0 g_19 M_16 := qV_same qvM_10 e48M_16 (by omega) (fun m hm => by rw [eg_19]; exact pr_v htW wpg_14 (by omega)) (fun m hm => by rw [eg_19]; exact pr_v htW wpg_14 (by omega))
  refine lv_aload_n hx hb dX10_passes_24 rfl (lv_at hl 1 rfl) ?_
  refine lv_iload_n hx hb dX10_passes_25 rfl (lv_at hl 2 rfl) ?_
  refine lv_iload_n hx hb dX10_passes_26 rfl (lv_at hl 0 rfl) ?_
  refine ti_callVv (ci := 10) (av := [.int 0, .int x_1]) C hw (z_X10_levy_0 l D A cy hJ M_16 iM_16 (mL_lw (lk.trans (lk_of q_17.1 q_17.2.1) (lk.trans (lk_of q_11.1 q_11.2.1) (lk_of q_5.1 q_5.2.1))).1 hL) x_1 tx g_19 (tR_lw htr (eR_lw (q := 0) (eR.trans erM_16 (eR.trans erM_10 erM_4)))) ht4 hrM_16 wpg_19 ((erM_16.1 53 (by decide)).trans ((erM_10.1 53 (by decide)).trans ((erM_4.1 53 (by decide)).trans htw))) htW (by omega) (by omega)) ⟨ml_X10_391, ym_X10_levy, yv_X10_levy, yi_X10_levy, yc_X10_levy⟩ yd_X10_levy ob_60 (by decide) rfl rfl hl.1 (Nat.le_of_ble_eq_true rfl) ⟨by decide, by decide⟩ ⟨Nat.zero_le _, Nat.zero_le _⟩ dX10_passes_27 (fun M_21 H locs hp_21 hw => ?_)
  obtain ⟨erM_21, e48M_21, hrM_21, hqM_21⟩ := hp_21
  obtain ⟨iM_21, q_22, q_23⟩ := hqM_21
  obtain ⟨g_24, eg_24⟩ : ∃ z : Nat → Int, z = bq_ly tx g_19 := ⟨_, rfl⟩
  rw [← eg_24] at hrM_21
  have w1g_24 : g_24 1 = g_19 1 := by rw [eg_24]; exact ly_k (by decide)
  have w2g_24 : g_24 2 = g_19 2 := by rw [eg_24]; exact ly_k (by decide)
  have w5g_24 : g_24 5 = g_19 5 := by rw [eg_24]; exact ly_k (by decide)
  have wpg_24 : wF tx g_24 := by rw [eg_24]; exact wF_ly htW wpg_19
  have qvM_21 : qV (tx 4).toNat 0 g_24 M_21 := qV_same qvM_16 e48M_21 (by omega) (fun m hm => by rw [eg_24]; exact ly_v htW wpg_19 (by omega)) (fun m hm => by rw [eg_24]; exact ly_v htW wpg_19 (by omega))
  refine lv_aload_n hx hb dX10_passes_30 rfl (lv_at hl 1 rfl) ?_
  refine lv_iload_n hx hb dX10_passes_31 rfl (lv_at hl 2 rfl) ?_
  refine lv_iload_n hx hb dX10_passes_32 rfl (lv_at hl 0 rfl) ?_
  refine ti_callVv (ci := 10) (av := [.int 0, .int x_1]) C hw (z_X10_wear_0 l D A cy hJ M_21 iM_21 (mL_lw (lk.trans (lk_of q_22.1 q_22.2.1) (lk.trans (lk_of q_17.1 q_17.2.1) (lk.trans (lk_of q_11.1 q_11.2.1) (lk_of q_5.1 q_5.2.1)))).1 hL) x_1 tx g_24 (tR_lw htr (eR_lw (q := 0) (eR.trans erM_21 (eR.trans erM_16 (eR.trans erM_10 erM_4))))) ht4 hrM_21 wpg_24 ((erM_21.1 53 (by decide)).trans ((erM_16.1 53 (by decide)).trans ((erM_10.1 53 (by decide)).trans ((erM_4.1 53 (by decide)).trans htw)))) (by omega)) ⟨ml_X10_394, ym_X10_wear, yv_X10_wear, yi_X10_wear, yc_X10_wear⟩ yd_X10_wear ob_60 (by decide) rfl rfl hl.1 (Nat.le_of_ble_eq_true rfl) ⟨by decide, by decide⟩ ⟨Nat.zero_le _, Nat.zero_le _⟩ dX10_passes_33 (fun M_26 H locs hp_26 hw => ?_)
  obtain ⟨erM_26, e48M_26, hrM_26, hqM_26⟩ := hp_26
  obtain ⟨iM_26, q_27, q_28⟩ := hqM_26
  obtain ⟨g_29, eg_29⟩ : ∃ z : Nat → Int, z = bq_wr tx g_24 := ⟨_, rfl⟩
  rw [← eg_29] at hrM_26
  have w1g_29 : g_29 1 = g_24 1 := by rw [eg_29]; exact wr_k (by decide)
  have w2g_29 : g_29 2 = g_24 2 := by rw [eg_29]; exact wr_k (by decide)
  have w5g_29 : g_29 5 = g_24 5 := by rw [eg_29]; exact wr_k (by decide)
  have wpg_29 : wF tx g_29 := by rw [eg_29]; exact wF_wr htW wpg_24
  have qvM_26 : qV (tx 4).toNat 0 g_29 M_26 := qV_same qvM_21 e48M_26 (by omega) (fun m hm => by rw [eg_29]; exact wr_v htW wpg_24 (by omega)) (fun m hm => by rw [eg_29]; exact wr_v htW wpg_24 (by omega))
  have w85 := wF_8 wpg_29
  refine lv_aload_n hx hb dX10_passes_36 rfl (lv_at hl 1 rfl) ?_
  refine ti_get (ci := 10) (k := 38) (N := 67) (T := TX10) (v := .ref (A 60 39)) C hw iw_10 rfl ob_60 (by decide) (by decide) fl_X10_81 rfl rfl dX10_passes_37 ?_
  refine lv_iload_n hx hb dX10_passes_40 rfl (lv_at hl 2 rfl) ?_
  refine ti_iald (ci := 10) (k := 38) (n := 23) C hw ob_60 (by decide) (fun _ _ => rfl) (by unfold vp_in; decide) dX10_passes_41 ?_
  refine lv_topi (fun x_30 ex_30 => ?_)
  have yx_30 : tY M_26 60 38 0 = x_30 := ((congrArg _ (by decide)).symm.trans ex_30.symm)
  have bx_30 : 0 ≤ x_30.toInt ∧ x_30.toInt ≤ 8 := mI_ry (k := 38) (i := 0) iM_26 yx_30.symm
  have zx_30 : (tY M_26 60 38 0).toInt = x_30.toInt := by rw [yx_30]
  have wx_30 : tY M_10 60 38 0 = x_30 := (((cg q_27.2.2.1 0).trans ((cg q_22.2.2.1 0).trans (cg q_17.2.2.1 0)))).symm.trans yx_30
  have zwx_30 : (tY M_10 60 38 0).toInt = x_30.toInt := by rw [wx_30]
  have L_31 : g_29 3 = x_30.toInt := (hrM_26.1.2.1).trans (congrArg Int32.toInt ((cg q_27.2.2.1 0).trans ((cg q_22.2.2.1 0).trans ((cg q_17.2.2.1 0).trans wx_30))))
  have hl_99_73 : ∀ (n_74 : Nat) (x_56 : Int32) (M_59 : ti_M) (g_64 : Nat → Int) (H : Heap) (locs : List Loc) (ls : Array Slot), (x_56.toInt + 1 : Int).toNat < n_74 → ((-1) ≤ x_56.toInt) → (x_56.toInt ≤ 7) → (mI Tm M_59) → (rq 0 M_59 M) → (mC M_59 0) → (tY M_59 60 34 = tY M 60 34) → (eR 0 M_59 M) → (qR (tx 4).toNat 0 g_64 M_59) → (x_56.toInt < (tY M_59 60 38 0).toInt) → (bq_of (x_56.toInt).toNat g_64 = bq_rl tx g_29) → (wF tx g_64) → (qV (tx 4).toNat 0 g_64 M_59) → (g_64 1 = rg 1) → (g_64 2 = rg 2) → (g_64 5 = rg 5) → (x_56.toInt < g_64 3 ∨ x_56.toInt ≤ 0) → ti_H ti_LM D A cy H0 M_59 H locs → lv_has ls 5 [(4, .int x_56), (3, .int x_1), (0, .ref (A 60 0)), (1, .int 0), (2, .int mu)] → W p l e (ti_rm 6) s m args below meth c H locs 0 0 Q (F0 m 99 ls []) := by
    intro n_74
    induction n_74 with
    | zero => intro x_56 M_59 g_64 H locs ls hf_74; exact absurd hf_74 (Nat.not_lt_zero _)
    | succ n_74 ih_74 =>
      intro x_56 M_59 g_64 H locs ls hf_74 b_57 b_58 iM_59 f_60 f_61 f_62 f_63 hs_65 j_66 j_67 j_68 j_69 j_70 j_71 j_72 j_73 hw hl
      refine lv_iload hx hb dX10_passes_99 (lv_at hl 0 rfl) ?_
      refine lv_iconst (v := 1) hx hb dX10_passes_101 (by decide) ?_
      refine sb_icmp_lt (tgt := 145) hx hb rfl (by decide : (1 : Int32).toInt = 1) dX10_passes_102 (by decide) (fun c_102_76 => ?_) (fun c_102_76 => ?_)
      · refine lv_iload_n hx hb dX10_passes_145 rfl (lv_at hl 4 rfl) ?_
        refine sb_if_eq (tgt := 197) hx hb rfl dX10_passes_146 (by decide) (fun c_146_92 => ?_) (fun c_146_92 => ?_)
        · refine lv_aload_n hx hb dX10_passes_197 rfl (lv_at hl 2 rfl) ?_
          refine ti_get (ci := 10) (k := 34) (N := 67) (T := TX10) (v := .ref (A 60 35)) C hw iw_10 rfl ob_60 (by decide) (by decide) fl_X10_69 rfl rfl dX10_passes_198 ?_
          refine lv_iload_n hx hb dX10_passes_201 rfl (lv_at hl 3 rfl) ?_
          refine lv_dup2_11 hx hb dX10_passes_202 rfl rfl ?_
          refine ti_iald (ci := 10) (k := 34) (n := 23) C hw ob_60 (by decide) (fun _ _ => rfl) (by unfold vp_in; decide) dX10_passes_203 ?_
          refine ti_top (y := x_1) ((congrArg _ (by decide)).trans ((cg f_62 0).trans yx_1)) ?_
          have L_116 : g_64 2 = x_1.toInt := (hs_65.1.1).trans (congrArg Int32.toInt ((cg f_62 0).trans yx_1))
          refine lv_iconst (v := 1) hx hb dX10_passes_204 (by decide) ?_
          refine lv_iadd hx hb dX10_passes_205 ?_
          refine lv_topi (fun x_117 ex_117 => ?_)
          have tx_117 : x_117.toInt = x_1.toInt + 1 := i_add ex_117 rfl (by decide : (1 : Int32).toInt = 1) (by omega) (by omega)
          refine ti_iast (ci := 10) (k := 34) (n := 23) C hw ob_60 (by decide) (fun _ _ => rfl) (by unfold vp_in; decide) dX10_passes_206 (fun H locs hw => ?_)
          obtain ⟨M_118, hM_118⟩ : ∃ z : ti_M, z = uY M_59 60 34 (upd (tY M_59 60 34) (0 : Int32).toNatClampNeg x_117) := ⟨_, rfl⟩
          have hw := hw.to hM_118.symm
          have iM_118 : mI Tm M_118 := mI_up (i := 0) iM_59 hM_118 (fun _ => (ib_mk (lo := 0) (hi := 120) (by omega) (by omega)))
          have hs_119 : qR (tx 4).toNat 0 (pp_su g_64 2 x_117.toInt) M_118 := qR_34 (z := 0) hs_65 (by decide) rfl hM_118
          obtain ⟨g_120, eg_120⟩ : ∃ z : Nat → Int, z = pp_su g_64 2 x_117.toInt := ⟨_, rfl⟩
          rw [← eg_120] at hs_119
          have sg_120 : g_120 2 = x_117.toInt := by rw [eg_120, su_s]
          have w1g_120 : g_120 1 = g_64 1 := by rw [eg_120, su_n (by omega)]
          have w5g_120 : g_120 5 = g_64 5 := by rw [eg_120, su_n (by omega)]
          have ER : g_64 = bq_rl tx g_29 := by rw [← j_67, show x_56.toInt.toNat = 0 by omega]; rfl
          have EM : bq_mt tx g_64 = g_64 := by unfold bq_mt; rw [if_pos (by omega)]
          have E_121 : bq_ps tx rg = g_120 := by unfold bq_ps; rw [← eg_8, ← eg_14, ← eg_19, ← eg_24, ← eg_29, ← ER, EM]; unfold bq_m1; rw [show g_64 2 = x_1.toInt by omega, ← tx_117, bw_i, ← eg_120]
          exact hQ _ _ _ _ _ hw (⟨(eR.trans (eR_Y hM_118 (bk_q (z := 0) (by decide) (by decide))) f_63), (by rw [E_121]; exact hs_119), (by rw [E_121]; exact (qV_same j_69 (tY_nE hM_118 (nk (by decide))) (by omega) (fun _ _ => by rw [eg_120, su_n (by omega)]) (fun _ _ => by rw [eg_120, su_n (by omega)]))), iM_118, (rq.trans (rq_qw (qw_Y hM_118 (by decide))) f_60), (mC_qw (qw_Y hM_118 (by decide)) f_61), by rw [tY_uE hM_118, upl (by decide)]; omega⟩) dX10_passes_207
        · refine lv_aload_n hx hb dX10_passes_149 rfl (lv_at hl 2 rfl) ?_
          refine ti_get (ci := 10) (k := 3) (N := 67) (T := TX10) (v := .ref (A 60 4)) C hw iw_10 rfl ob_60 (by decide) (by decide) fl_X10_13 rfl rfl dX10_passes_150 ?_
          refine lv_iconst (v := 5) hx hb dX10_passes_153 (by decide) ?_
          refine ti_iald (ci := 10) (k := 3) (n := 22) C hw ob_60 (by decide) (fun _ _ => rfl) (by unfold vp_in; decide) dX10_passes_154 ?_
          refine lv_topi (fun x_94 ex_94 => ?_)
          have yx_94 : tY M_59 60 3 5 = x_94 := ((congrArg _ (by decide)).symm.trans ex_94.symm)
          have zx_94 : (tY M_59 60 3 5).toInt = x_94.toInt := by rw [yx_94]
          have wx_94 : tY M 60 3 5 = x_94 := ((cg (f_60.1 3 (by decide) (by decide)) 5)).symm.trans yx_94
          have zwx_94 : (tY M 60 3 5).toInt = x_94.toInt := by rw [wx_94]
          have L_95 : tx 10 = x_94.toInt := (htr.1.2.2.2.2.2.1).trans ((congrArg Int32.toInt (cg ((f_60.1 3 (by decide) (by decide))) 5)).symm.trans (congrArg Int32.toInt ((cg (f_60.1 3 (by decide) (by decide)) 5).trans wx_94)))
          refine sb_if_le (tgt := 197) hx hb rfl dX10_passes_155 (by decide) (fun c_155_95 => ?_) (fun c_155_95 => ?_)
          · refine lv_aload_n hx hb dX10_passes_197 rfl (lv_at hl 2 rfl) ?_
            refine ti_get (ci := 10) (k := 34) (N := 67) (T := TX10) (v := .ref (A 60 35)) C hw iw_10 rfl ob_60 (by decide) (by decide) fl_X10_69 rfl rfl dX10_passes_198 ?_
            refine lv_iload_n hx hb dX10_passes_201 rfl (lv_at hl 3 rfl) ?_
            refine lv_dup2_11 hx hb dX10_passes_202 rfl rfl ?_
            refine ti_iald (ci := 10) (k := 34) (n := 23) C hw ob_60 (by decide) (fun _ _ => rfl) (by unfold vp_in; decide) dX10_passes_203 ?_
            refine ti_top (y := x_1) ((congrArg _ (by decide)).trans ((cg f_62 0).trans yx_1)) ?_
            have L_122 : g_64 2 = x_1.toInt := (hs_65.1.1).trans (congrArg Int32.toInt ((cg f_62 0).trans yx_1))
            refine lv_iconst (v := 1) hx hb dX10_passes_204 (by decide) ?_
            refine lv_iadd hx hb dX10_passes_205 ?_
            refine lv_topi (fun x_123 ex_123 => ?_)
            have tx_123 : x_123.toInt = x_1.toInt + 1 := i_add ex_123 rfl (by decide : (1 : Int32).toInt = 1) (by omega) (by omega)
            refine ti_iast (ci := 10) (k := 34) (n := 23) C hw ob_60 (by decide) (fun _ _ => rfl) (by unfold vp_in; decide) dX10_passes_206 (fun H locs hw => ?_)
            obtain ⟨M_124, hM_124⟩ : ∃ z : ti_M, z = uY M_59 60 34 (upd (tY M_59 60 34) (0 : Int32).toNatClampNeg x_123) := ⟨_, rfl⟩
            have hw := hw.to hM_124.symm
            have iM_124 : mI Tm M_124 := mI_up (i := 0) iM_59 hM_124 (fun _ => (ib_mk (lo := 0) (hi := 120) (by omega) (by omega)))
            have hs_125 : qR (tx 4).toNat 0 (pp_su g_64 2 x_123.toInt) M_124 := qR_34 (z := 0) hs_65 (by decide) rfl hM_124
            obtain ⟨g_126, eg_126⟩ : ∃ z : Nat → Int, z = pp_su g_64 2 x_123.toInt := ⟨_, rfl⟩
            rw [← eg_126] at hs_125
            have sg_126 : g_126 2 = x_123.toInt := by rw [eg_126, su_s]
            have w1g_126 : g_126 1 = g_64 1 := by rw [eg_126, su_n (by omega)]
            have w5g_126 : g_126 5 = g_64 5 := by rw [eg_126, su_n (by omega)]
            have ER : g_64 = bq_rl tx g_29 := by rw [← j_67, show x_56.toInt.toNat = 0 by omega]; rfl
            have EM : bq_mt tx g_64 = g_64 := by unfold bq_mt; rw [if_pos (by omega)]
            have E_127 : bq_ps tx rg = g_126 := by unfold bq_ps; rw [← eg_8, ← eg_14, ← eg_19, ← eg_24, ← eg_29, ← ER, EM]; unfold bq_m1; rw [show g_64 2 = x_1.toInt by omega, ← tx_123, bw_i, ← eg_126]
            exact hQ _ _ _ _ _ hw (⟨(eR.trans (eR_Y hM_124 (bk_q (z := 0) (by decide) (by decide))) f_63), (by rw [E_127]; exact hs_125), (by rw [E_127]; exact (qV_same j_69 (tY_nE hM_124 (nk (by decide))) (by omega) (fun _ _ => by rw [eg_126, su_n (by omega)]) (fun _ _ => by rw [eg_126, su_n (by omega)]))), iM_124, (rq.trans (rq_qw (qw_Y hM_124 (by decide))) f_60), (mC_qw (qw_Y hM_124 (by decide)) f_61), by rw [tY_uE hM_124, upl (by decide)]; omega⟩) dX10_passes_207
          · refine lv_aload_n hx hb dX10_passes_158 rfl (lv_at hl 2 rfl) ?_
            refine lv_iload_n hx hb dX10_passes_159 rfl (lv_at hl 3 rfl) ?_
            refine ti_callVi (ci := 10) (av := [.int 0]) C hw (z_X10_draw_0 l D A cy hJ M_59 iM_59  tx g_64 (tR_lw htr (eR_lw (q := 0) f_63)) ht4 hs_65 (by omega)) ⟨ml_X10_397, ym_X10_draw, yv_X10_draw, yi_X10_draw, yc_X10_draw⟩ yd_X10_draw ob_60 (by decide) rfl rfl hl.1 (Nat.le_of_ble_eq_true rfl) ⟨by decide, by decide⟩ ⟨Nat.zero_le _, Nat.zero_le _⟩ dX10_passes_160 (fun r_97 M_98 H locs hp_98 hw => ?_)
            obtain ⟨erM_98, e48M_98, hrM_98, rvM_98, hqM_98⟩ := hp_98
            obtain ⟨iM_98, q_99, q_100⟩ := hqM_98
            obtain ⟨g_101, eg_101⟩ : ∃ z : Nat → Int, z = pp_su g_64 5 (bq_dr (g_64 5)) := ⟨_, rfl⟩
            rw [← eg_101] at hrM_98
            have w1g_101 : g_101 1 = g_64 1 := by rw [eg_101]; exact su_n (by decide)
            have w2g_101 : g_101 2 = g_64 2 := by rw [eg_101]; exact su_n (by decide)
            have wpg_101 : wF tx g_101 := by rw [eg_101]; exact wF_dr htW j_68
            have qvM_98 : qV (tx 4).toNat 0 g_101 M_98 := qV_same j_69 e48M_98 (by omega) (fun m hm => by rw [eg_101]; exact su_n (by omega)) (fun m hm => by rw [eg_101]; exact su_n (by omega))
            refine lv_aload_n hx hb dX10_passes_163 rfl (lv_at hl 2 rfl) ?_
            refine ti_get (ci := 10) (k := 3) (N := 67) (T := TX10) (v := .ref (A 60 4)) C hw iw_10 rfl ob_60 (by decide) (by decide) fl_X10_13 rfl rfl dX10_passes_164 ?_
            refine lv_iconst (v := 5) hx hb dX10_passes_167 (by decide) ?_
            refine ti_iald (ci := 10) (k := 3) (n := 22) C hw ob_60 (by decide) (fun _ _ => rfl) (by unfold vp_in; decide) dX10_passes_168 ?_
            refine ti_top (y := x_94) ((congrArg _ (by decide)).trans ((cg (q_99.1 3 (by decide) (by decide)) 5).trans ((cg (f_60.1 3 (by decide) (by decide)) 5).trans wx_94))) ?_
            have L_102 : tx 10 = x_94.toInt := (htr.1.2.2.2.2.2.1).trans ((congrArg Int32.toInt (cg (((q_99.1 3 (by decide) (by decide)).trans (f_60.1 3 (by decide) (by decide)))) 5)).symm.trans (congrArg Int32.toInt ((cg (q_99.1 3 (by decide) (by decide)) 5).trans ((cg (f_60.1 3 (by decide) (by decide)) 5).trans wx_94))))
            refine sb_icmp_ge (tgt := 197) hx hb rfl rfl dX10_passes_169 (by decide) (fun c_169_102 => ?_) (fun c_169_102 => ?_)
            · refine lv_aload_n hx hb dX10_passes_197 rfl (lv_at hl 2 rfl) ?_
              refine ti_get (ci := 10) (k := 34) (N := 67) (T := TX10) (v := .ref (A 60 35)) C hw iw_10 rfl ob_60 (by decide) (by decide) fl_X10_69 rfl rfl dX10_passes_198 ?_
              refine lv_iload_n hx hb dX10_passes_201 rfl (lv_at hl 3 rfl) ?_
              refine lv_dup2_11 hx hb dX10_passes_202 rfl rfl ?_
              refine ti_iald (ci := 10) (k := 34) (n := 23) C hw ob_60 (by decide) (fun _ _ => rfl) (by unfold vp_in; decide) dX10_passes_203 ?_
              refine ti_top (y := x_1) ((congrArg _ (by decide)).trans ((cg q_100 0).trans ((cg f_62 0).trans yx_1))) ?_
              have L_128 : g_101 2 = x_1.toInt := (hrM_98.1.1).trans (congrArg Int32.toInt ((cg q_100 0).trans ((cg f_62 0).trans yx_1)))
              refine lv_iconst (v := 1) hx hb dX10_passes_204 (by decide) ?_
              refine lv_iadd hx hb dX10_passes_205 ?_
              refine lv_topi (fun x_129 ex_129 => ?_)
              have tx_129 : x_129.toInt = x_1.toInt + 1 := i_add ex_129 rfl (by decide : (1 : Int32).toInt = 1) (by omega) (by omega)
              refine ti_iast (ci := 10) (k := 34) (n := 23) C hw ob_60 (by decide) (fun _ _ => rfl) (by unfold vp_in; decide) dX10_passes_206 (fun H locs hw => ?_)
              obtain ⟨M_130, hM_130⟩ : ∃ z : ti_M, z = uY M_98 60 34 (upd (tY M_98 60 34) (0 : Int32).toNatClampNeg x_129) := ⟨_, rfl⟩
              have hw := hw.to hM_130.symm
              have iM_130 : mI Tm M_130 := mI_up (i := 0) iM_98 hM_130 (fun _ => (ib_mk (lo := 0) (hi := 120) (by omega) (by omega)))
              have hs_131 : qR (tx 4).toNat 0 (pp_su g_101 2 x_129.toInt) M_130 := qR_34 (z := 0) hrM_98 (by decide) rfl hM_130
              obtain ⟨g_132, eg_132⟩ : ∃ z : Nat → Int, z = pp_su g_101 2 x_129.toInt := ⟨_, rfl⟩
              rw [← eg_132] at hs_131
              have sg_132 : g_132 2 = x_129.toInt := by rw [eg_132, su_s]
              have w1g_132 : g_132 1 = g_101 1 := by rw [eg_132, su_n (by omega)]
              have w5g_132 : g_132 5 = g_101 5 := by rw [eg_132, su_n (by omega)]
              have ER : g_64 = bq_rl tx g_29 := by rw [← j_67, show x_56.toInt.toNat = 0 by omega]; rfl
              have w3g_101 : g_101 3 = g_64 3 := by rw [eg_101]; exact su_n (by decide)
              have EM : bq_mt tx g_64 = g_101 := by unfold bq_mt; rw [if_neg (by omega), if_neg (by omega), ← eg_101]
              have E_133 : bq_ps tx rg = g_132 := by unfold bq_ps; rw [← eg_8, ← eg_14, ← eg_19, ← eg_24, ← eg_29, ← ER, EM]; unfold bq_m1; rw [show g_101 2 = x_1.toInt by omega, ← tx_129, bw_i, ← eg_132]
              exact hQ _ _ _ _ _ hw (⟨(eR.trans (eR_Y hM_130 (bk_q (z := 0) (by decide) (by decide))) (eR.trans erM_98 f_63)), (by rw [E_133]; exact hs_131), (by rw [E_133]; exact (qV_same qvM_98 (tY_nE hM_130 (nk (by decide))) (by omega) (fun _ _ => by rw [eg_132, su_n (by omega)]) (fun _ _ => by rw [eg_132, su_n (by omega)]))), iM_130, (rq.trans (rq_qw (qw_Y hM_130 (by decide))) (rq.trans (rq_qw q_99) f_60)), (mC_qw (qw.trans (qw_Y hM_130 (by decide)) q_99) f_61), by rw [tY_uE hM_130, upl (by decide)]; omega⟩) dX10_passes_207
            · refine lv_aload_n hx hb dX10_passes_172 rfl (lv_at hl 2 rfl) ?_
              refine ti_get (ci := 10) (k := 38) (N := 67) (T := TX10) (v := .ref (A 60 39)) C hw iw_10 rfl ob_60 (by decide) (by decide) fl_X10_81 rfl rfl dX10_passes_173 ?_
              refine lv_iload_n hx hb dX10_passes_176 rfl (lv_at hl 3 rfl) ?_
              refine ti_iald (ci := 10) (k := 38) (n := 23) C hw ob_60 (by decide) (fun _ _ => rfl) (by unfold vp_in; decide) dX10_passes_177 ?_
              refine lv_topi (fun x_104 ex_104 => ?_)
              have yx_104 : tY M_98 60 38 0 = x_104 := ((congrArg _ (by decide)).symm.trans ex_104.symm)
              have bx_104 : 0 ≤ x_104.toInt ∧ x_104.toInt ≤ 8 := mI_ry (k := 38) (i := 0) iM_98 yx_104.symm
              have zx_104 : (tY M_98 60 38 0).toInt = x_104.toInt := by rw [yx_104]
              have wx_104 : tY M_59 60 38 0 = x_104 := ((cg q_99.2.2.1 0)).symm.trans yx_104
              have zwx_104 : (tY M_59 60 38 0).toInt = x_104.toInt := by rw [wx_104]
              have L_105 : g_101 3 = x_104.toInt := (hrM_98.1.2.1).trans (congrArg Int32.toInt ((cg q_99.2.2.1 0).trans wx_104))
              refine lv_iconst (v := 1) hx hb dX10_passes_178 (by decide) ?_
              refine sb_icmp_le (tgt := 197) hx hb rfl (by decide : (1 : Int32).toInt = 1) dX10_passes_179 (by decide) (fun c_179_105 => ?_) (fun c_179_105 => ?_)
              · refine lv_aload_n hx hb dX10_passes_197 rfl (lv_at hl 2 rfl) ?_
                refine ti_get (ci := 10) (k := 34) (N := 67) (T := TX10) (v := .ref (A 60 35)) C hw iw_10 rfl ob_60 (by decide) (by decide) fl_X10_69 rfl rfl dX10_passes_198 ?_
                refine lv_iload_n hx hb dX10_passes_201 rfl (lv_at hl 3 rfl) ?_
                refine lv_dup2_11 hx hb dX10_passes_202 rfl rfl ?_
                refine ti_iald (ci := 10) (k := 34) (n := 23) C hw ob_60 (by decide) (fun _ _ => rfl) (by unfold vp_in; decide) dX10_passes_203 ?_
                refine ti_top (y := x_1) ((congrArg _ (by decide)).trans ((cg q_100 0).trans ((cg f_62 0).trans yx_1))) ?_
                have L_134 : g_101 2 = x_1.toInt := (hrM_98.1.1).trans (congrArg Int32.toInt ((cg q_100 0).trans ((cg f_62 0).trans yx_1)))
                refine lv_iconst (v := 1) hx hb dX10_passes_204 (by decide) ?_
                refine lv_iadd hx hb dX10_passes_205 ?_
                refine lv_topi (fun x_135 ex_135 => ?_)
                have tx_135 : x_135.toInt = x_1.toInt + 1 := i_add ex_135 rfl (by decide : (1 : Int32).toInt = 1) (by omega) (by omega)
                refine ti_iast (ci := 10) (k := 34) (n := 23) C hw ob_60 (by decide) (fun _ _ => rfl) (by unfold vp_in; decide) dX10_passes_206 (fun H locs hw => ?_)
                obtain ⟨M_136, hM_136⟩ : ∃ z : ti_M, z = uY M_98 60 34 (upd (tY M_98 60 34) (0 : Int32).toNatClampNeg x_135) := ⟨_, rfl⟩
                have hw := hw.to hM_136.symm
                have iM_136 : mI Tm M_136 := mI_up (i := 0) iM_98 hM_136 (fun _ => (ib_mk (lo := 0) (hi := 120) (by omega) (by omega)))
                have hs_137 : qR (tx 4).toNat 0 (pp_su g_101 2 x_135.toInt) M_136 := qR_34 (z := 0) hrM_98 (by decide) rfl hM_136
                obtain ⟨g_138, eg_138⟩ : ∃ z : Nat → Int, z = pp_su g_101 2 x_135.toInt := ⟨_, rfl⟩
                rw [← eg_138] at hs_137
                have sg_138 : g_138 2 = x_135.toInt := by rw [eg_138, su_s]
                have w1g_138 : g_138 1 = g_101 1 := by rw [eg_138, su_n (by omega)]
                have w5g_138 : g_138 5 = g_101 5 := by rw [eg_138, su_n (by omega)]
                have ER : g_64 = bq_rl tx g_29 := by rw [← j_67, show x_56.toInt.toNat = 0 by omega]; rfl
                have w3g_101 : g_101 3 = g_64 3 := by rw [eg_101]; exact su_n (by decide)
                have EM : bq_mt tx g_64 = g_101 := by unfold bq_mt; rw [if_neg (by omega), if_neg (by omega), ← eg_101]
                have E_139 : bq_ps tx rg = g_138 := by unfold bq_ps; rw [← eg_8, ← eg_14, ← eg_19, ← eg_24, ← eg_29, ← ER, EM]; unfold bq_m1; rw [show g_101 2 = x_1.toInt by omega, ← tx_135, bw_i, ← eg_138]
                exact hQ _ _ _ _ _ hw (⟨(eR.trans (eR_Y hM_136 (bk_q (z := 0) (by decide) (by decide))) (eR.trans erM_98 f_63)), (by rw [E_139]; exact hs_137), (by rw [E_139]; exact (qV_same qvM_98 (tY_nE hM_136 (nk (by decide))) (by omega) (fun _ _ => by rw [eg_138, su_n (by omega)]) (fun _ _ => by rw [eg_138, su_n (by omega)]))), iM_136, (rq.trans (rq_qw (qw_Y hM_136 (by decide))) (rq.trans (rq_qw q_99) f_60)), (mC_qw (qw.trans (qw_Y hM_136 (by decide)) q_99) f_61), by rw [tY_uE hM_136, upl (by decide)]; omega⟩) dX10_passes_207
              · refine lv_aload_n hx hb dX10_passes_182 rfl (lv_at hl 2 rfl) ?_
                refine lv_iload_n hx hb dX10_passes_183 rfl (lv_at hl 3 rfl) ?_
                refine lv_aload_n hx hb dX10_passes_184 rfl (lv_at hl 2 rfl) ?_
                refine ti_get (ci := 10) (k := 38) (N := 67) (T := TX10) (v := .ref (A 60 39)) C hw iw_10 rfl ob_60 (by decide) (by decide) fl_X10_81 rfl rfl dX10_passes_185 ?_
                refine lv_iload_n hx hb dX10_passes_188 rfl (lv_at hl 3 rfl) ?_
                refine ti_iald (ci := 10) (k := 38) (n := 23) C hw ob_60 (by decide) (fun _ _ => rfl) (by unfold vp_in; decide) dX10_passes_189 ?_
                refine ti_top (y := x_104) ((congrArg _ (by decide)).trans ((cg q_99.2.2.1 0).trans wx_104)) ?_
                have L_107 : g_101 3 = x_104.toInt := (hrM_98.1.2.1).trans (congrArg Int32.toInt ((cg q_99.2.2.1 0).trans wx_104))
                refine lv_iconst (v := 1) hx hb dX10_passes_190 (by decide) ?_
                refine lv_isub hx hb dX10_passes_191 ?_
                refine lv_topi (fun x_108 ex_108 => ?_)
                have tx_108 : x_108.toInt = x_104.toInt - 1 := i_sub ex_108 rfl (by decide : (1 : Int32).toInt = 1) (by omega) (by omega)
                refine lv_iconst (v := 3) hx hb dX10_passes_192 (by decide) ?_
                refine lv_iload_n hx hb dX10_passes_193 rfl (lv_at hl 1 rfl) ?_
                have lk_111 : (tY M_98 60 38 0).toInt = (tY M_59 60 38 0).toInt := by rw [(cg q_99.2.2.1 0)]
                refine ti_callVv (ci := 10) (av := [.int 0, .int x_108, .int 3, .int x_1]) C hw (z_X10_leaves_0 l D A cy hJ M_98 iM_98 (mC_qw q_99 f_61) x_108 3 x_1 (by first | omega | decide | (have l0 : (0 : Int32).toInt = 0 := (by decide); have l2 : (2 : Int32).toInt = 2 := (by decide); have l3 : (3 : Int32).toInt = 3 := (by decide); omega)) (by first | omega | decide | (have l0 : (0 : Int32).toInt = 0 := (by decide); have l2 : (2 : Int32).toInt = 2 := (by decide); have l3 : (3 : Int32).toInt = 3 := (by decide); omega)) (by first | omega | decide | (have l0 : (0 : Int32).toInt = 0 := (by decide); have l2 : (2 : Int32).toInt = 2 := (by decide); have l3 : (3 : Int32).toInt = 3 := (by decide); omega)) tx g_101 (tR_lw htr (eR_lw (q := 0) (eR.trans erM_98 f_63))) ht4 hrM_98 qvM_98 wpg_101 (by omega)) ⟨ml_X10_377, ym_X10_leaves, yv_X10_leaves, yi_X10_leaves, yc_X10_leaves⟩ yd_X10_leaves ob_60 (by decide) rfl rfl hl.1 (Nat.le_of_ble_eq_true rfl) ⟨by decide, by decide⟩ ⟨Nat.zero_le _, Nat.zero_le _⟩ dX10_passes_194 (fun M_110 H locs hp_110 hw => ?_)
                obtain ⟨erM_110, hrM_110, qvM_110, hqM_110⟩ := hp_110
                obtain ⟨iM_110, q_112, q_113, q_114, p0r_109⟩ := hqM_110
                simp only [show (3 : Int32).toInt = 3 by decide] at hrM_110 qvM_110
                obtain ⟨g_115, eg_115⟩ : ∃ z : Nat → Int, z = bq_rm g_101 x_108.toInt 3 := ⟨_, rfl⟩
                rw [← eg_115] at hrM_110
                rw [← eg_115] at qvM_110
                have w1g_115 : g_115 1 = g_101 1 := by rw [eg_115]; exact rm_k (by decide)
                have w2g_115 : g_115 2 = g_101 2 := by rw [eg_115]; exact rm_k (by decide)
                have w5g_115 : g_115 5 = g_101 5 := by rw [eg_115]; exact rm_k (by decide)
                have wrg_115 := wF_rm htW wpg_101 (p := x_108.toInt.toNat) (by omega) (ns := 3) (by decide)
                rw [show ((x_108.toInt.toNat : Nat) : Int) = x_108.toInt by omega, ← eg_115] at wrg_115
                have wpg_115 := wrg_115.1
                have wng_115 := wrg_115.2.1
                refine lv_aload_n hx hb dX10_passes_197 rfl (lv_at hl 2 rfl) ?_
                refine ti_get (ci := 10) (k := 34) (N := 67) (T := TX10) (v := .ref (A 60 35)) C hw iw_10 rfl ob_60 (by decide) (by decide) fl_X10_69 rfl rfl dX10_passes_198 ?_
                refine lv_iload_n hx hb dX10_passes_201 rfl (lv_at hl 3 rfl) ?_
                refine lv_dup2_11 hx hb dX10_passes_202 rfl rfl ?_
                refine ti_iald (ci := 10) (k := 34) (n := 23) C hw ob_60 (by decide) (fun _ _ => rfl) (by unfold vp_in; decide) dX10_passes_203 ?_
                refine ti_top (y := x_1) ((congrArg _ (by decide)).trans ((cg q_114 0).trans ((cg q_100 0).trans ((cg f_62 0).trans yx_1)))) ?_
                have L_140 : g_115 2 = x_1.toInt := (hrM_110.1.1).trans (congrArg Int32.toInt ((cg q_114 0).trans ((cg q_100 0).trans ((cg f_62 0).trans yx_1))))
                refine lv_iconst (v := 1) hx hb dX10_passes_204 (by decide) ?_
                refine lv_iadd hx hb dX10_passes_205 ?_
                refine lv_topi (fun x_141 ex_141 => ?_)
                have tx_141 : x_141.toInt = x_1.toInt + 1 := i_add ex_141 rfl (by decide : (1 : Int32).toInt = 1) (by omega) (by omega)
                refine ti_iast (ci := 10) (k := 34) (n := 23) C hw ob_60 (by decide) (fun _ _ => rfl) (by unfold vp_in; decide) dX10_passes_206 (fun H locs hw => ?_)
                obtain ⟨M_142, hM_142⟩ : ∃ z : ti_M, z = uY M_110 60 34 (upd (tY M_110 60 34) (0 : Int32).toNatClampNeg x_141) := ⟨_, rfl⟩
                have hw := hw.to hM_142.symm
                have iM_142 : mI Tm M_142 := mI_up (i := 0) iM_110 hM_142 (fun _ => (ib_mk (lo := 0) (hi := 120) (by omega) (by omega)))
                have hs_143 : qR (tx 4).toNat 0 (pp_su g_115 2 x_141.toInt) M_142 := qR_34 (z := 0) hrM_110 (by decide) rfl hM_142
                obtain ⟨g_144, eg_144⟩ : ∃ z : Nat → Int, z = pp_su g_115 2 x_141.toInt := ⟨_, rfl⟩
                rw [← eg_144] at hs_143
                have sg_144 : g_144 2 = x_141.toInt := by rw [eg_144, su_s]
                have w1g_144 : g_144 1 = g_115 1 := by rw [eg_144, su_n (by omega)]
                have w5g_144 : g_144 5 = g_115 5 := by rw [eg_144, su_n (by omega)]
                have ER : g_64 = bq_rl tx g_29 := by rw [← j_67, show x_56.toInt.toNat = 0 by omega]; rfl
                have w3g_101 : g_101 3 = g_64 3 := by rw [eg_101]; exact su_n (by decide)
                have EM : bq_mt tx g_64 = g_115 := by unfold bq_mt; rw [if_neg (by omega), if_pos (by omega), ← eg_101, show g_64 3 - 1 = x_108.toInt by omega, ← eg_115]
                have E_145 : bq_ps tx rg = g_144 := by unfold bq_ps; rw [← eg_8, ← eg_14, ← eg_19, ← eg_24, ← eg_29, ← ER, EM]; unfold bq_m1; rw [show g_115 2 = x_1.toInt by omega, ← tx_141, bw_i, ← eg_144]
                exact hQ _ _ _ _ _ hw (⟨(eR.trans (eR_Y hM_142 (bk_q (z := 0) (by decide) (by decide))) (eR.trans erM_110 (eR.trans erM_98 f_63))), (by rw [E_145]; exact hs_143), (by rw [E_145]; exact (qV_same qvM_110 (tY_nE hM_142 (nk (by decide))) (by omega) (fun _ _ => by rw [eg_144, su_n (by omega)]) (fun _ _ => by rw [eg_144, su_n (by omega)]))), iM_142, (rq.trans (rq_qw (qw_Y hM_142 (by decide))) (rq.trans q_112 (rq.trans (rq_qw q_99) f_60))), (mC_qw (qw_Y hM_142 (by decide)) q_113), by rw [tY_uE hM_142, upl (by decide)]; omega⟩) dX10_passes_207
      · refine lv_aload_n hx hb dX10_passes_105 rfl (lv_at hl 2 rfl) ?_
        refine ti_get (ci := 10) (k := 41) (N := 67) (T := TX10) (v := .ref (A 60 42)) C hw iw_10 rfl ob_60 (by decide) (by decide) fl_X10_90 rfl rfl dX10_passes_106 ?_
        refine lv_bipush (v := 8) hx hb dX10_passes_109 (by decide) ?_
        refine lv_iload_n hx hb dX10_passes_111 rfl (lv_at hl 3 rfl) ?_
        refine lv_imul hx hb dX10_passes_112 ?_
        refine ti_top (y := 0) (by decide) ?_
        refine lv_aload_n hx hb dX10_passes_113 rfl (lv_at hl 2 rfl) ?_
        refine ti_get (ci := 10) (k := 39) (N := 67) (T := TX10) (v := .ref (A 60 40)) C hw iw_10 rfl ob_60 (by decide) (by decide) fl_X10_84 rfl rfl dX10_passes_114 ?_
        refine lv_bipush (v := 8) hx hb dX10_passes_117 (by decide) ?_
        refine lv_iload_n hx hb dX10_passes_119 rfl (lv_at hl 3 rfl) ?_
        refine lv_imul hx hb dX10_passes_120 ?_
        refine ti_top (y := 0) (by decide) ?_
        refine lv_iload hx hb dX10_passes_121 (lv_at hl 0 rfl) ?_
        refine lv_iadd hx hb dX10_passes_123 ?_
        refine lv_topi (fun x_78 ex_78 => ?_)
        have tx_78 : x_78.toInt = 0 + x_56.toInt := i_add ex_78 (by decide : (0 : Int32).toInt = 0) rfl (by omega) (by omega)
        refine ti_iald (ci := 10) (k := 39) (n := 184) C hw ob_60 (by decide) (fun _ _ => rfl) (vp_in_iff.mpr (by omega)) dX10_passes_124 ?_
        refine lv_topi (fun x_79 ex_79 => ?_)
        have yx_79 : tY M_59 60 39 x_78.toNatClampNeg = x_79 := (ex_79.symm)
        have bx_79 : 0 ≤ x_79.toInt ∧ x_79.toInt ≤ 7 := mI_ry (k := 39) (i := x_78.toNatClampNeg) iM_59 yx_79.symm
        have L_80 : g_64 (96 + x_56.toInt.toNat) = x_79.toInt := (hs_65.2.1 (x_56.toInt.toNat) (by omega) (by omega)).trans (rd_k (n := 8 * 0 + x_56.toInt.toNat) (by omega) (yx_79))
        have A6 := j_68.2.2.1 x_56.toInt.toNat (by omega)
        rw [L_80] at A6
        refine lv_iadd hx hb dX10_passes_125 ?_
        refine lv_topi (fun x_81 ex_81 => ?_)
        have tx_81 : x_81.toInt = 0 + x_79.toInt := i_add ex_81 (by decide : (0 : Int32).toInt = 0) rfl (by omega) (by omega)
        refine ti_iald (ci := 10) (k := 41) (n := 184) C hw ob_60 (by decide) (fun _ _ => rfl) (vp_in_iff.mpr (by omega)) dX10_passes_126 ?_
        refine lv_topi (fun x_82 ex_82 => ?_)
        have yx_82 : tY M_59 60 41 x_81.toNatClampNeg = x_82 := (ex_82.symm)
        have L_83 : g_64 (160 + x_79.toInt.toNat) = x_82.toInt := ((hs_65.2.2.2.1 (x_79.toInt.toNat) (by omega)).2.2.1).trans (rd_k (n := 8 * 0 + x_79.toInt.toNat) (by omega) (yx_82))
        refine sb_if_gt (tgt := 139) hx hb rfl dX10_passes_127 (by decide) (fun c_127_83 => ?_) (fun c_127_83 => ?_)
        · obtain ⟨x_91, ex_91⟩ : ∃ z : Int32, z = x_56 + (-1) := ⟨_, rfl⟩
          have tx_91 : x_91.toInt = x_56.toInt + (-1) := i_add ex_91 rfl (by decide) (by omega) (by omega)
          refine lv_iinc (v := x_91) (lv' := [(4, .int x_91), (3, .int x_1), (0, .ref (A 60 0)), (1, .int 0), (2, .int mu)]) hx hb dX10_passes_139 hl (k := 0) rfl (by rw [ex_91]; rfl) (by decide) rfl (fun ls hl => ?_)
          refine lv_goto (tgt := 99) hx hb dX10_passes_142 (by decide) ?_
          exact ih_74 x_91 M_59 g_64 _ _ _ (by omega) (by first | omega | decide) (by first | omega | decide) iM_59 f_60 f_61 ((f_62)) f_63 hs_65 (by first | omega | decide) (by rw [← j_67, of_go (p := x_56.toInt.toNat) (p' := x_91.toInt.toNat) (s := g_64) (by omega), show bq_o1 g_64 x_56.toInt.toNat = g_64 by (unfold bq_o1; rw [L_80, show g_64 (160 + x_79.toInt.toNat) = x_82.toInt by omega, if_neg (by omega)])]) j_68 j_69 (by first | omega | decide) (by first | omega | decide) (by first | omega | decide) (by first | omega | decide) hw (lv_sub hl [0, 1, 2, 3, 4] rfl)
        · refine lv_aload_n hx hb dX10_passes_130 rfl (lv_at hl 2 rfl) ?_
          refine lv_iload_n hx hb dX10_passes_131 rfl (lv_at hl 3 rfl) ?_
          refine lv_iload hx hb dX10_passes_132 (lv_at hl 0 rfl) ?_
          refine lv_iconst (v := 3) hx hb dX10_passes_134 (by decide) ?_
          refine lv_iload_n hx hb dX10_passes_135 rfl (lv_at hl 1 rfl) ?_
          refine ti_callVv (ci := 10) (av := [.int 0, .int x_56, .int 3, .int x_1]) C hw (z_X10_leaves_0 l D A cy hJ M_59 iM_59 f_61 x_56 3 x_1 (by first | omega | decide | (have l0 : (0 : Int32).toInt = 0 := (by decide); have l2 : (2 : Int32).toInt = 2 := (by decide); have l3 : (3 : Int32).toInt = 3 := (by decide); omega)) (by first | omega | decide | (have l0 : (0 : Int32).toInt = 0 := (by decide); have l2 : (2 : Int32).toInt = 2 := (by decide); have l3 : (3 : Int32).toInt = 3 := (by decide); omega)) (by first | omega | decide | (have l0 : (0 : Int32).toInt = 0 := (by decide); have l2 : (2 : Int32).toInt = 2 := (by decide); have l3 : (3 : Int32).toInt = 3 := (by decide); omega)) tx g_64 (tR_lw htr (eR_lw (q := 0) f_63)) ht4 hs_65 j_69 j_68 (by omega)) ⟨ml_X10_377, ym_X10_leaves, yv_X10_leaves, yi_X10_leaves, yc_X10_leaves⟩ yd_X10_leaves ob_60 (by decide) rfl rfl hl.1 (Nat.le_of_ble_eq_true rfl) ⟨by decide, by decide⟩ ⟨Nat.zero_le _, Nat.zero_le _⟩ dX10_passes_136 (fun M_86 H locs hp_86 hw => ?_)
          obtain ⟨erM_86, hrM_86, qvM_86, hqM_86⟩ := hp_86
          obtain ⟨iM_86, q_87, q_88, q_89, p0r_85⟩ := hqM_86
          simp only [show (3 : Int32).toInt = 3 by decide] at hrM_86 qvM_86
          obtain ⟨g_90, eg_90⟩ : ∃ z : Nat → Int, z = bq_rm g_64 x_56.toInt 3 := ⟨_, rfl⟩
          rw [← eg_90] at hrM_86
          rw [← eg_90] at qvM_86
          have w1g_90 : g_90 1 = g_64 1 := by rw [eg_90]; exact rm_k (by decide)
          have w2g_90 : g_90 2 = g_64 2 := by rw [eg_90]; exact rm_k (by decide)
          have w5g_90 : g_90 5 = g_64 5 := by rw [eg_90]; exact rm_k (by decide)
          have wrg_90 := wF_rm htW j_68 (p := x_56.toInt.toNat) (by omega) (ns := 3) (by decide)
          rw [show ((x_56.toInt.toNat : Nat) : Int) = x_56.toInt by omega, ← eg_90] at wrg_90
          have wpg_90 := wrg_90.1
          have wng_90 := wrg_90.2.1
          obtain ⟨x_92, ex_92⟩ : ∃ z : Int32, z = x_56 + (-1) := ⟨_, rfl⟩
          have tx_92 : x_92.toInt = x_56.toInt + (-1) := i_add ex_92 rfl (by decide) (by omega) (by omega)
          refine lv_iinc (v := x_92) (lv' := [(4, .int x_92), (3, .int x_1), (0, .ref (A 60 0)), (1, .int 0), (2, .int mu)]) hx hb dX10_passes_139 hl (k := 0) rfl (by rw [ex_92]; rfl) (by decide) rfl (fun ls hl => ?_)
          refine lv_goto (tgt := 99) hx hb dX10_passes_142 (by decide) ?_
          exact ih_74 x_92 M_86 g_90 _ _ _ (by omega) (by first | omega | decide) (by first | omega | decide) iM_86 (rq.trans q_87 f_60) q_88 (((q_89).trans f_62)) (eR.trans erM_86 f_63) hrM_86 (by first | omega | decide) (by rw [← j_67, of_go (p := x_56.toInt.toNat) (p' := x_92.toInt.toNat) (s := g_64) (by omega), show bq_o1 g_64 x_56.toInt.toNat = g_90 by (unfold bq_o1; rw [L_80, show g_64 (160 + x_79.toInt.toNat) = x_82.toInt by omega, if_pos (by omega), show ((x_56.toInt.toNat : Nat) : Int) = x_56.toInt by omega, ← eg_90])]) wpg_90 qvM_86 (by first | omega | decide) (by first | omega | decide) (by first | omega | decide) (by first | omega | decide) hw (lv_sub hl [0, 1, 2, 3, 4] rfl)
  refine sb_if_le (tgt := 89) hx hb rfl dX10_passes_42 (by decide) (fun c_42_31 => ?_) (fun c_42_31 => ?_)
  · refine lv_aload_n hx hb dX10_passes_89 rfl (lv_at hl 1 rfl) ?_
    refine ti_get (ci := 10) (k := 38) (N := 67) (T := TX10) (v := .ref (A 60 39)) C hw iw_10 rfl ob_60 (by decide) (by decide) fl_X10_81 rfl rfl dX10_passes_90 ?_
    refine lv_iload_n hx hb dX10_passes_93 rfl (lv_at hl 2 rfl) ?_
    refine ti_iald (ci := 10) (k := 38) (n := 23) C hw ob_60 (by decide) (fun _ _ => rfl) (by unfold vp_in; decide) dX10_passes_94 ?_
    refine ti_top (y := x_30) ((congrArg _ (by decide)).trans ((cg q_27.2.2.1 0).trans ((cg q_22.2.2.1 0).trans ((cg q_17.2.2.1 0).trans wx_30)))) ?_
    have L_49 : g_29 3 = x_30.toInt := (hrM_26.1.2.1).trans (congrArg Int32.toInt ((cg q_27.2.2.1 0).trans ((cg q_22.2.2.1 0).trans ((cg q_17.2.2.1 0).trans wx_30))))
    refine lv_iconst (v := 1) hx hb dX10_passes_95 (by decide) ?_
    refine lv_isub hx hb dX10_passes_96 ?_
    refine lv_topi (fun x_50 ex_50 => ?_)
    have tx_50 : x_50.toInt = x_30.toInt - 1 := i_sub ex_50 rfl (by decide : (1 : Int32).toInt = 1) (by omega) (by omega)
    refine lv_istore (lv' := [(4, .int x_50), (3, .int x_1), (0, .ref (A 60 0)), (1, .int 0), (2, .int mu)]) hx hb dX10_passes_97 hl (by decide) rfl (fun ls hl => ?_)
    have lk_75 : (tY M_26 60 38 0).toInt = (tY M_10 60 38 0).toInt := by rw [((cg q_27.2.2.1 0).trans ((cg q_22.2.2.1 0).trans (cg q_17.2.2.1 0)))]
    exact hl_99_73 ((x_50.toInt + 1 : Int).toNat + 1) x_50 M_26 g_29 _ _ _ (Nat.lt_succ_self _) (by first | omega | decide) (by first | omega | decide) iM_26 (rq.trans (rq_qw q_27) (rq.trans (rq_qw q_22) (rq.trans (rq_qw q_17) (rq.trans q_11 q_5)))) (mC_qw (qw.trans q_27 (qw.trans q_22 q_17)) q_12) (((q_28).trans ((q_23).trans ((q_18).trans ((q_13).trans q_7))))) (eR.trans erM_26 (eR.trans erM_21 (eR.trans erM_16 (eR.trans erM_10 erM_4)))) hrM_26 (by first | omega | decide) (by have ES : bq_sv tx g_29 = g_29 := (by unfold bq_sv; rw [if_neg (by omega)]); unfold bq_rl; rw [ES]; exact congrArg (fun k => bq_of k g_29) (by omega)) wpg_29 qvM_26 (by first | omega | decide) (by first | omega | decide) (by first | omega | decide) (by first | omega | decide) hw (lv_sub hl [0, 1, 2, 3, 4] rfl)
  · refine lv_aload_n hx hb dX10_passes_45 rfl (lv_at hl 1 rfl) ?_
    refine ti_get (ci := 10) (k := 42) (N := 67) (T := TX10) (v := .ref (A 60 43)) C hw iw_10 rfl ob_60 (by decide) (by decide) fl_X10_93 rfl rfl dX10_passes_46 ?_
    refine lv_bipush (v := 8) hx hb dX10_passes_49 (by decide) ?_
    refine lv_iload_n hx hb dX10_passes_51 rfl (lv_at hl 2 rfl) ?_
    refine lv_imul hx hb dX10_passes_52 ?_
    refine ti_top (y := 0) (by decide) ?_
    refine lv_aload_n hx hb dX10_passes_53 rfl (lv_at hl 1 rfl) ?_
    refine ti_get (ci := 10) (k := 39) (N := 67) (T := TX10) (v := .ref (A 60 40)) C hw iw_10 rfl ob_60 (by decide) (by decide) fl_X10_84 rfl rfl dX10_passes_54 ?_
    refine lv_bipush (v := 8) hx hb dX10_passes_57 (by decide) ?_
    refine lv_iload_n hx hb dX10_passes_59 rfl (lv_at hl 2 rfl) ?_
    refine lv_imul hx hb dX10_passes_60 ?_
    refine ti_top (y := 0) (by decide) ?_
    refine ti_iald (ci := 10) (k := 39) (n := 184) C hw ob_60 (by decide) (fun _ _ => rfl) (by unfold vp_in; decide) dX10_passes_61 ?_
    refine lv_topi (fun x_33 ex_33 => ?_)
    have yx_33 : tY M_26 60 39 0 = x_33 := ((congrArg _ (by decide)).symm.trans ex_33.symm)
    have bx_33 : 0 ≤ x_33.toInt ∧ x_33.toInt ≤ 7 := mI_ry (k := 39) (i := 0) iM_26 yx_33.symm
    have wx_33 : tY M_10 60 39 0 = x_33 := (((cg q_27.2.2.2.1 0).trans ((cg q_22.2.2.2.1 0).trans (cg q_17.2.2.2.1 0)))).symm.trans yx_33
    have L_34 : g_29 96 = x_33.toInt := (hrM_26.2.1 (0) (by omega) (by omega)).trans (congrArg Int32.toInt ((cg q_27.2.2.2.1 0).trans ((cg q_22.2.2.2.1 0).trans ((cg q_17.2.2.2.1 0).trans wx_33))))
    have A5 : 0 ≤ g_29 96 ∧ g_29 96 < tx 4 ∧ g_29 (128 + (g_29 96).toNat) = 1 := wpg_29.2.2.1 0 (by omega)
    have D5 := wpg_29.2.2.2.2.2.2.1 (g_29 96).toNat (by omega) (by omega)
    rw [show g_29 96 = x_33.toInt by omega] at A5 D5
    refine lv_iadd hx hb dX10_passes_62 ?_
    refine lv_topi (fun x_35 ex_35 => ?_)
    have tx_35 : x_35.toInt = 0 + x_33.toInt := i_add ex_35 (by decide : (0 : Int32).toInt = 0) rfl (by omega) (by omega)
    refine ti_iald (ci := 10) (k := 42) (n := 184) C hw ob_60 (by decide) (fun _ _ => rfl) (vp_in_iff.mpr (by omega)) dX10_passes_63 ?_
    refine lv_topi (fun x_36 ex_36 => ?_)
    have yx_36 : tY M_26 60 42 x_35.toNatClampNeg = x_36 := (ex_36.symm)
    have L_37 : g_29 (176 + x_33.toInt.toNat) = x_36.toInt := ((hrM_26.2.2.2.1 (x_33.toInt.toNat) (by omega)).2.2.2.1).trans (rd_k (n := 8 * 0 + x_33.toInt.toNat) (by omega) (yx_36))
    refine lv_aload_n hx hb dX10_passes_64 rfl (lv_at hl 1 rfl) ?_
    refine ti_get (ci := 10) (k := 8) (N := 67) (T := TX10) (v := .ref (A 60 9)) C hw iw_10 rfl ob_60 (by decide) (by decide) fl_X10_28 rfl rfl dX10_passes_65 ?_
    refine lv_aload_n hx hb dX10_passes_68 rfl (lv_at hl 1 rfl) ?_
    refine ti_get (ci := 10) (k := 39) (N := 67) (T := TX10) (v := .ref (A 60 40)) C hw iw_10 rfl ob_60 (by decide) (by decide) fl_X10_84 rfl rfl dX10_passes_69 ?_
    refine lv_bipush (v := 8) hx hb dX10_passes_72 (by decide) ?_
    refine lv_iload_n hx hb dX10_passes_74 rfl (lv_at hl 2 rfl) ?_
    refine lv_imul hx hb dX10_passes_75 ?_
    refine ti_top (y := 0) (by decide) ?_
    refine ti_iald (ci := 10) (k := 39) (n := 184) C hw ob_60 (by decide) (fun _ _ => rfl) (by unfold vp_in; decide) dX10_passes_76 ?_
    refine ti_top (y := x_33) ((congrArg _ (by decide)).trans ((cg q_27.2.2.2.1 0).trans ((cg q_22.2.2.2.1 0).trans ((cg q_17.2.2.2.1 0).trans wx_33)))) ?_
    have L_38 : g_29 96 = x_33.toInt := (hrM_26.2.1 (0) (by omega) (by omega)).trans (congrArg Int32.toInt ((cg q_27.2.2.2.1 0).trans ((cg q_22.2.2.2.1 0).trans ((cg q_17.2.2.2.1 0).trans wx_33))))
    refine ti_iald (ci := 10) (k := 8) (n := 16) C hw ob_60 (by decide) (fun _ _ => rfl) (vp_in_iff.mpr (by omega)) dX10_passes_77 ?_
    refine lv_topi (fun x_39 ex_39 => ?_)
    have yx_39 : tY M_26 60 8 x_33.toNatClampNeg = x_39 := (ex_39.symm)
    have wx_39 : tY M 60 8 x_33.toNatClampNeg = x_39 := (((cg (q_27.1 8 (by decide) (by decide)) x_33.toNatClampNeg).trans ((cg (q_22.1 8 (by decide) (by decide)) x_33.toNatClampNeg).trans ((cg (q_17.1 8 (by decide) (by decide)) x_33.toNatClampNeg).trans ((cg (q_11.1 8 (by decide) (by decide)) x_33.toNatClampNeg).trans (cg (q_5.1 8 (by decide) (by decide)) x_33.toNatClampNeg)))))).symm.trans yx_39
    have L_40 : tx (100 + 16 * x_33.toInt.toNat + 4) = x_39.toInt := (htr.2.2.1 (x_33.toInt.toNat) (by omega) (by omega)).2.2.2.1.trans ((congrArg Int32.toInt (cg (((q_27.1 8 (by decide) (by decide)).trans ((q_22.1 8 (by decide) (by decide)).trans ((q_17.1 8 (by decide) (by decide)).trans ((q_11.1 8 (by decide) (by decide)).trans (q_5.1 8 (by decide) (by decide))))))) (x_33.toInt.toNat))).symm.trans (rd_k (n := x_33.toInt.toNat) (by omega) ((cg (q_27.1 8 (by decide) (by decide)) x_33.toNatClampNeg).trans ((cg (q_22.1 8 (by decide) (by decide)) x_33.toNatClampNeg).trans ((cg (q_17.1 8 (by decide) (by decide)) x_33.toNatClampNeg).trans ((cg (q_11.1 8 (by decide) (by decide)) x_33.toNatClampNeg).trans ((cg (q_5.1 8 (by decide) (by decide)) x_33.toNatClampNeg).trans wx_39)))))))
    refine sb_icmp_ne (tgt := 89) hx hb rfl rfl dX10_passes_78 (by decide) (fun c_78_40 => ?_) (fun c_78_40 => ?_)
    · refine lv_aload_n hx hb dX10_passes_89 rfl (lv_at hl 1 rfl) ?_
      refine ti_get (ci := 10) (k := 38) (N := 67) (T := TX10) (v := .ref (A 60 39)) C hw iw_10 rfl ob_60 (by decide) (by decide) fl_X10_81 rfl rfl dX10_passes_90 ?_
      refine lv_iload_n hx hb dX10_passes_93 rfl (lv_at hl 2 rfl) ?_
      refine ti_iald (ci := 10) (k := 38) (n := 23) C hw ob_60 (by decide) (fun _ _ => rfl) (by unfold vp_in; decide) dX10_passes_94 ?_
      refine ti_top (y := x_30) ((congrArg _ (by decide)).trans ((cg q_27.2.2.1 0).trans ((cg q_22.2.2.1 0).trans ((cg q_17.2.2.1 0).trans wx_30)))) ?_
      have L_51 : g_29 3 = x_30.toInt := (hrM_26.1.2.1).trans (congrArg Int32.toInt ((cg q_27.2.2.1 0).trans ((cg q_22.2.2.1 0).trans ((cg q_17.2.2.1 0).trans wx_30))))
      refine lv_iconst (v := 1) hx hb dX10_passes_95 (by decide) ?_
      refine lv_isub hx hb dX10_passes_96 ?_
      refine lv_topi (fun x_52 ex_52 => ?_)
      have tx_52 : x_52.toInt = x_30.toInt - 1 := i_sub ex_52 rfl (by decide : (1 : Int32).toInt = 1) (by omega) (by omega)
      refine lv_istore (lv' := [(4, .int x_52), (3, .int x_1), (0, .ref (A 60 0)), (1, .int 0), (2, .int mu)]) hx hb dX10_passes_97 hl (by decide) rfl (fun ls hl => ?_)
      have lk_76 : (tY M_26 60 38 0).toInt = (tY M_10 60 38 0).toInt := by rw [((cg q_27.2.2.1 0).trans ((cg q_22.2.2.1 0).trans (cg q_17.2.2.1 0)))]
      exact hl_99_73 ((x_52.toInt + 1 : Int).toNat + 1) x_52 M_26 g_29 _ _ _ (Nat.lt_succ_self _) (by first | omega | decide) (by first | omega | decide) iM_26 (rq.trans (rq_qw q_27) (rq.trans (rq_qw q_22) (rq.trans (rq_qw q_17) (rq.trans q_11 q_5)))) (mC_qw (qw.trans q_27 (qw.trans q_22 q_17)) q_12) (((q_28).trans ((q_23).trans ((q_18).trans ((q_13).trans q_7))))) (eR.trans erM_26 (eR.trans erM_21 (eR.trans erM_16 (eR.trans erM_10 erM_4)))) hrM_26 (by first | omega | decide) (by have ES : bq_sv tx g_29 = g_29 := (by unfold bq_sv; rw [show g_29 96 = x_33.toInt by omega, show tx (100 + 16 * x_33.toInt.toNat + 4) = x_39.toInt by omega]; rw [if_neg (by omega)]); unfold bq_rl; rw [ES]; exact congrArg (fun k => bq_of k g_29) (by omega)) wpg_29 qvM_26 (by first | omega | decide) (by first | omega | decide) (by first | omega | decide) (by first | omega | decide) hw (lv_sub hl [0, 1, 2, 3, 4] rfl)
    · refine lv_aload_n hx hb dX10_passes_81 rfl (lv_at hl 1 rfl) ?_
      refine lv_iload_n hx hb dX10_passes_82 rfl (lv_at hl 2 rfl) ?_
      refine lv_iconst (v := 0) hx hb dX10_passes_83 (by decide) ?_
      refine lv_iconst (v := 2) hx hb dX10_passes_84 (by decide) ?_
      refine lv_iload_n hx hb dX10_passes_85 rfl (lv_at hl 0 rfl) ?_
      have lk_44 : (tY M_26 60 38 0).toInt = (tY M_10 60 38 0).toInt := by rw [((cg q_27.2.2.1 0).trans ((cg q_22.2.2.1 0).trans (cg q_17.2.2.1 0)))]
      refine ti_callVv (ci := 10) (av := [.int 0, .int 0, .int 2, .int x_1]) C hw (z_X10_leaves_0 l D A cy hJ M_26 iM_26 (mC_qw (qw.trans q_27 (qw.trans q_22 q_17)) q_12) 0 2 x_1 (by first | omega | decide | (have l0 : (0 : Int32).toInt = 0 := (by decide); have l2 : (2 : Int32).toInt = 2 := (by decide); have l3 : (3 : Int32).toInt = 3 := (by decide); omega)) (by first | omega | decide | (have l0 : (0 : Int32).toInt = 0 := (by decide); have l2 : (2 : Int32).toInt = 2 := (by decide); have l3 : (3 : Int32).toInt = 3 := (by decide); omega)) (by first | omega | decide | (have l0 : (0 : Int32).toInt = 0 := (by decide); have l2 : (2 : Int32).toInt = 2 := (by decide); have l3 : (3 : Int32).toInt = 3 := (by decide); omega)) tx g_29 (tR_lw htr (eR_lw (q := 0) (eR.trans erM_26 (eR.trans erM_21 (eR.trans erM_16 (eR.trans erM_10 erM_4)))))) ht4 hrM_26 qvM_26 wpg_29 (by omega)) ⟨ml_X10_377, ym_X10_leaves, yv_X10_leaves, yi_X10_leaves, yc_X10_leaves⟩ yd_X10_leaves ob_60 (by decide) rfl rfl hl.1 (Nat.le_of_ble_eq_true rfl) ⟨by decide, by decide⟩ ⟨Nat.zero_le _, Nat.zero_le _⟩ dX10_passes_86 (fun M_43 H locs hp_43 hw => ?_)
      obtain ⟨erM_43, hrM_43, qvM_43, hqM_43⟩ := hp_43
      obtain ⟨iM_43, q_45, q_46, q_47, p0r_42⟩ := hqM_43
      simp only [show (0 : Int32).toInt = 0 by decide] at hrM_43 qvM_43
      simp only [show (2 : Int32).toInt = 2 by decide] at hrM_43 qvM_43
      obtain ⟨g_48, eg_48⟩ : ∃ z : Nat → Int, z = bq_rm g_29 0 2 := ⟨_, rfl⟩
      rw [← eg_48] at hrM_43
      rw [← eg_48] at qvM_43
      have w1g_48 : g_48 1 = g_29 1 := by rw [eg_48]; exact rm_k (by decide)
      have w2g_48 : g_48 2 = g_29 2 := by rw [eg_48]; exact rm_k (by decide)
      have w5g_48 : g_48 5 = g_29 5 := by rw [eg_48]; exact rm_k (by decide)
      have wrg_48 := wF_rm htW wpg_29 (p := 0) (by omega) (ns := 2) (by decide)
      rw [show ((0 : Nat) : Int) = 0 by rfl, ← eg_48] at wrg_48
      have wpg_48 := wrg_48.1
      have wng_48 := wrg_48.2.1
      refine lv_aload_n hx hb dX10_passes_89 rfl (lv_at hl 1 rfl) ?_
      refine ti_get (ci := 10) (k := 38) (N := 67) (T := TX10) (v := .ref (A 60 39)) C hw iw_10 rfl ob_60 (by decide) (by decide) fl_X10_81 rfl rfl dX10_passes_90 ?_
      refine lv_iload_n hx hb dX10_passes_93 rfl (lv_at hl 2 rfl) ?_
      refine ti_iald (ci := 10) (k := 38) (n := 23) C hw ob_60 (by decide) (fun _ _ => rfl) (by unfold vp_in; decide) dX10_passes_94 ?_
      refine lv_topi (fun x_53 ex_53 => ?_)
      have yx_53 : tY M_43 60 38 0 = x_53 := ((congrArg _ (by decide)).symm.trans ex_53.symm)
      have bx_53 : 0 ≤ x_53.toInt ∧ x_53.toInt ≤ 8 := mI_ry (k := 38) (i := 0) iM_43 yx_53.symm
      have zx_53 : (tY M_43 60 38 0).toInt = x_53.toInt := by rw [yx_53]
      have L_54 : g_48 3 = x_53.toInt := (hrM_43.1.2.1).trans (congrArg Int32.toInt (yx_53))
      refine lv_iconst (v := 1) hx hb dX10_passes_95 (by decide) ?_
      refine lv_isub hx hb dX10_passes_96 ?_
      refine lv_topi (fun x_55 ex_55 => ?_)
      have tx_55 : x_55.toInt = x_53.toInt - 1 := i_sub ex_55 rfl (by decide : (1 : Int32).toInt = 1) (by omega) (by omega)
      refine lv_istore (lv' := [(4, .int x_55), (3, .int x_1), (0, .ref (A 60 0)), (1, .int 0), (2, .int mu)]) hx hb dX10_passes_97 hl (by decide) rfl (fun ls hl => ?_)
      exact hl_99_73 ((x_55.toInt + 1 : Int).toNat + 1) x_55 M_43 g_48 _ _ _ (Nat.lt_succ_self _) (by first | omega | decide) (by first | omega | decide) iM_43 (rq.trans q_45 (rq.trans (rq_qw q_27) (rq.trans (rq_qw q_22) (rq.trans (rq_qw q_17) (rq.trans q_11 q_5))))) q_46 (((q_47).trans ((q_28).trans ((q_23).trans ((q_18).trans ((q_13).trans q_7)))))) (eR.trans erM_43 (eR.trans erM_26 (eR.trans erM_21 (eR.trans erM_16 (eR.trans erM_10 erM_4))))) hrM_43 (by first | omega | decide) (by have ES : bq_sv tx g_29 = g_48 := (by unfold bq_sv; rw [show g_29 96 = x_33.toInt by omega, show tx (100 + 16 * x_33.toInt.toNat + 4) = x_39.toInt by omega]; rw [if_pos (by omega), ← eg_48]); unfold bq_rl; rw [ES]; exact congrArg (fun k => bq_of k g_48) (by omega)) wpg_48 qvM_43 (by first | omega | decide) (by first | omega | decide) (by first | omega | decide) (by first | omega | decide) hw (lv_sub hl [0, 1, 2, 3, 4] rfl)
set_option maxHeartbeats 4000000 in
set_option maxRecDepth 100000 in
theorem z_X10_passes_1 (l : Launch) (D : va_G) (A : Nat → Nat → Nat) (cy : Nat → ClassId) (hJ : ti_inj ti_LM A) (M : ti_M) (hI : mI Tm M) (hC : mC M 1) (hL : mL M) (mu : Int32) (tx rg : Nat → Int) (htr : tR tx M) (ht4 : 0 ≤ tx 4 ∧ tx 4 ≤ 8) (hr : qR (tx 4).toNat 1 rg M) (hV : qV (tx 4).toNat 1 rg M) (hwf : wF tx rg) (htw : tI M 60 53 = -1) (htW : tW tx) (h1 : rg 1 = 1 ∨ rg 1 = 3) (hmu : mu.toInt = 0 ↔ rg 1 = 3) (h2 : 0 ≤ rg 2) : ti_Kv l yX10_passes cX10_passes 5 6 ti_LM D A cy M [.ref (A 60 0), .int 1, .int mu] (fun M2 => eR 1 M2 M ∧ qR (tx 4).toNat 1 (bq_ps tx rg) M2 ∧ qV (tx 4).toNat 1 (bq_ps tx rg) M2 ∧ mI Tm M2 ∧ rq 1 M2 M ∧ mC M2 1) := by
  refine ti_eV yp_X10_passes hJ ti_LM_nd (Nat.le_of_ble_eq_true rfl) ?_
  intro p e s m args below meth c Q H0 C hQ hw ls hl
  have hx := C.1
  have hb := C.2.1
  have hl : lv_has ls 5 [(0, .ref (A 60 0)), (1, .int 1), (2, .int mu)] := hl
  have h5 := hwf.2.1.2
  have ht10 := htW.2.2.2.2.2.1
  refine lv_aload_n hx hb dX10_passes_0 rfl (lv_at hl 0 rfl) ?_
  refine ti_get (ci := 10) (k := 34) (N := 67) (T := TX10) (v := .ref (A 60 35)) C hw iw_10 rfl ob_60 (by decide) (by decide) fl_X10_69 rfl rfl dX10_passes_1 ?_
  refine lv_iload_n hx hb dX10_passes_4 rfl (lv_at hl 1 rfl) ?_
  refine ti_iald (ci := 10) (k := 34) (n := 23) C hw ob_60 (by decide) (fun _ _ => rfl) (by unfold vp_in; decide) dX10_passes_5 ?_
  refine lv_topi (fun x_1 ex_1 => ?_)
  have yx_1 : tY M 60 34 1 = x_1 := ((congrArg _ (by decide)).symm.trans ex_1.symm)
  have zx_1 : (tY M 60 34 1).toInt = x_1.toInt := by rw [yx_1]
  have L_2 : rg 2 = x_1.toInt := (hr.1.1).trans (congrArg Int32.toInt (yx_1))
  refine lv_istore_n (lv' := [(3, .int x_1), (0, .ref (A 60 0)), (1, .int 1), (2, .int mu)]) hx hb dX10_passes_6 rfl hl (by decide) rfl (fun ls hl => ?_)
  refine lv_aload_n hx hb dX10_passes_7 rfl (lv_at hl 1 rfl) ?_
  refine lv_iload_n hx hb dX10_passes_8 rfl (lv_at hl 2 rfl) ?_
  refine lv_iload_n hx hb dX10_passes_9 rfl (lv_at hl 0 rfl) ?_
  refine ti_callVv (ci := 10) (av := [.int 1, .int x_1]) C hw (z_X10_arrive_1 l D A cy hJ M hI hC x_1 tx rg htr ht4 hr hV hwf htW (by omega)) ⟨ml_X10_382, ym_X10_arrive, yv_X10_arrive, yi_X10_arrive, yc_X10_arrive⟩ yd_X10_arrive ob_60 (by decide) rfl rfl hl.1 (Nat.le_of_ble_eq_true rfl) ⟨by decide, by decide⟩ ⟨Nat.zero_le _, Nat.zero_le _⟩ dX10_passes_10 (fun M_4 H locs hp_4 hw => ?_)
  obtain ⟨erM_4, hrM_4, qvM_4, hqM_4⟩ := hp_4
  obtain ⟨iM_4, q_5, q_6, q_7⟩ := hqM_4
  obtain ⟨g_8, eg_8⟩ : ∃ z : Nat → Int, z = bq_wl tx (tx 4).toNat rg := ⟨_, rfl⟩
  rw [← eg_8] at hrM_4
  have w1g_8 : g_8 1 = rg 1 := by rw [eg_8]; exact wl_k (k := 1) (by decide) _ _
  have w2g_8 : g_8 2 = rg 2 := by rw [eg_8]; exact wl_k (k := 2) (by decide) _ _
  have w5g_8 : g_8 5 = rg 5 := by rw [eg_8]; exact wl_k (k := 5) (by decide) _ _
  have wpg_8 : wF tx g_8 := by rw [eg_8]; exact wF_wl htW _ _ hwf
  rw [← eg_8] at qvM_4
  refine lv_aload_n hx hb dX10_passes_13 rfl (lv_at hl 1 rfl) ?_
  refine lv_iload_n hx hb dX10_passes_14 rfl (lv_at hl 2 rfl) ?_
  refine lv_iload_n hx hb dX10_passes_15 rfl (lv_at hl 0 rfl) ?_
  refine ti_callVv (ci := 10) (av := [.int 1, .int x_1]) C hw (z_X10_coughing_1 l D A cy hJ M_4 iM_4 q_6 (mL_lw (lk_of q_5.1 q_5.2.1).1 hL) x_1 tx g_8 (tR_lw htr (eR_lw (q := 1) erM_4)) ht4 hrM_4 qvM_4 wpg_8 htW (by omega) (by omega)) ⟨ml_X10_385, ym_X10_coughing, yv_X10_coughing, yi_X10_coughing, yc_X10_coughing⟩ yd_X10_coughing ob_60 (by decide) rfl rfl hl.1 (Nat.le_of_ble_eq_true rfl) ⟨by decide, by decide⟩ ⟨Nat.zero_le _, Nat.zero_le _⟩ dX10_passes_16 (fun M_10 H locs hp_10 hw => ?_)
  obtain ⟨erM_10, hrM_10, qvM_10, hqM_10⟩ := hp_10
  obtain ⟨iM_10, q_11, q_12, q_13⟩ := hqM_10
  refine lv_aload_n hx hb dX10_passes_19 rfl (lv_at hl 1 rfl) ?_
  refine lv_iload_n hx hb dX10_passes_20 rfl (lv_at hl 2 rfl) ?_
  refine ti_callVv (ci := 10) (av := [.int 1]) C hw (z_X10_pour_1 l D A cy hJ M_10 iM_10  tx g_8 (tR_lw htr (eR_lw (q := 1) (eR.trans erM_10 erM_4))) ht4 hrM_10 wpg_8 ((erM_10.1 53 (by decide)).trans ((erM_4.1 53 (by decide)).trans htw))) ⟨ml_X10_388, ym_X10_pour, yv_X10_pour, yi_X10_pour, yc_X10_pour⟩ yd_X10_pour ob_60 (by decide) rfl rfl hl.1 (Nat.le_of_ble_eq_true rfl) ⟨by decide, by decide⟩ ⟨Nat.zero_le _, Nat.zero_le _⟩ dX10_passes_21 (fun M_15 H locs hp_15 hw => ?_)
  obtain ⟨erM_15, e48M_15, hrM_15, hqM_15⟩ := hp_15
  obtain ⟨iM_15, q_16, q_17⟩ := hqM_15
  obtain ⟨g_18, eg_18⟩ : ∃ z : Nat → Int, z = bq_pr tx g_8 := ⟨_, rfl⟩
  rw [← eg_18] at hrM_15
  have w1g_18 : g_18 1 = g_8 1 := by rw [eg_18]; exact pr_k (by decide)
  have w2g_18 : g_18 2 = g_8 2 := by rw [eg_18]; exact pr_k (by decide)
  have w5g_18 : g_18 5 = g_8 5 := by rw [eg_18]; exact pr_k (by decide)
  have wpg_18 : wF tx g_18 := by rw [eg_18]; exact wF_pr htW wpg_8
  have qvM_15 : qV (tx 4).toNat 1 g_18 M_15 := qV_same qvM_10 e48M_15 (by omega) (fun m hm => by rw [eg_18]; exact pr_v htW wpg_8 (by omega)) (fun m hm => by rw [eg_18]; exact pr_v htW wpg_8 (by omega))
  refine lv_aload_n hx hb dX10_passes_24 rfl (lv_at hl 1 rfl) ?_
  refine lv_iload_n hx hb dX10_passes_25 rfl (lv_at hl 2 rfl) ?_
  refine lv_iload_n hx hb dX10_passes_26 rfl (lv_at hl 0 rfl) ?_
  refine ti_callVv (ci := 10) (av := [.int 1, .int x_1]) C hw (z_X10_levy_1 l D A cy hJ M_15 iM_15 (mL_lw (lk.trans (lk_of q_16.1 q_16.2.1) (lk.trans (lk_of q_11.1 q_11.2.1) (lk_of q_5.1 q_5.2.1))).1 hL) x_1 tx g_18 (tR_lw htr (eR_lw (q := 1) (eR.trans erM_15 (eR.trans erM_10 erM_4)))) ht4 hrM_15 wpg_18 ((erM_15.1 53 (by decide)).trans ((erM_10.1 53 (by decide)).trans ((erM_4.1 53 (by decide)).trans htw))) htW (by omega) (by omega)) ⟨ml_X10_391, ym_X10_levy, yv_X10_levy, yi_X10_levy, yc_X10_levy⟩ yd_X10_levy ob_60 (by decide) rfl rfl hl.1 (Nat.le_of_ble_eq_true rfl) ⟨by decide, by decide⟩ ⟨Nat.zero_le _, Nat.zero_le _⟩ dX10_passes_27 (fun M_20 H locs hp_20 hw => ?_)
  obtain ⟨erM_20, e48M_20, hrM_20, hqM_20⟩ := hp_20
  obtain ⟨iM_20, q_21, q_22⟩ := hqM_20
  obtain ⟨g_23, eg_23⟩ : ∃ z : Nat → Int, z = bq_ly tx g_18 := ⟨_, rfl⟩
  rw [← eg_23] at hrM_20
  have w1g_23 : g_23 1 = g_18 1 := by rw [eg_23]; exact ly_k (by decide)
  have w2g_23 : g_23 2 = g_18 2 := by rw [eg_23]; exact ly_k (by decide)
  have w5g_23 : g_23 5 = g_18 5 := by rw [eg_23]; exact ly_k (by decide)
  have wpg_23 : wF tx g_23 := by rw [eg_23]; exact wF_ly htW wpg_18
  have qvM_20 : qV (tx 4).toNat 1 g_23 M_20 := qV_same qvM_15 e48M_20 (by omega) (fun m hm => by rw [eg_23]; exact ly_v htW wpg_18 (by omega)) (fun m hm => by rw [eg_23]; exact ly_v htW wpg_18 (by omega))
  refine lv_aload_n hx hb dX10_passes_30 rfl (lv_at hl 1 rfl) ?_
  refine lv_iload_n hx hb dX10_passes_31 rfl (lv_at hl 2 rfl) ?_
  refine lv_iload_n hx hb dX10_passes_32 rfl (lv_at hl 0 rfl) ?_
  refine ti_callVv (ci := 10) (av := [.int 1, .int x_1]) C hw (z_X10_wear_1 l D A cy hJ M_20 iM_20 (mL_lw (lk.trans (lk_of q_21.1 q_21.2.1) (lk.trans (lk_of q_16.1 q_16.2.1) (lk.trans (lk_of q_11.1 q_11.2.1) (lk_of q_5.1 q_5.2.1)))).1 hL) x_1 tx g_23 (tR_lw htr (eR_lw (q := 1) (eR.trans erM_20 (eR.trans erM_15 (eR.trans erM_10 erM_4))))) ht4 hrM_20 wpg_23 ((erM_20.1 53 (by decide)).trans ((erM_15.1 53 (by decide)).trans ((erM_10.1 53 (by decide)).trans ((erM_4.1 53 (by decide)).trans htw)))) (by omega)) ⟨ml_X10_394, ym_X10_wear, yv_X10_wear, yi_X10_wear, yc_X10_wear⟩ yd_X10_wear ob_60 (by decide) rfl rfl hl.1 (Nat.le_of_ble_eq_true rfl) ⟨by decide, by decide⟩ ⟨Nat.zero_le _, Nat.zero_le _⟩ dX10_passes_33 (fun M_25 H locs hp_25 hw => ?_)
  obtain ⟨erM_25, e48M_25, hrM_25, hqM_25⟩ := hp_25
  obtain ⟨iM_25, q_26, q_27⟩ := hqM_25
  obtain ⟨g_28, eg_28⟩ : ∃ z : Nat → Int, z = bq_wr tx g_23 := ⟨_, rfl⟩
  rw [← eg_28] at hrM_25
  have w1g_28 : g_28 1 = g_23 1 := by rw [eg_28]; exact wr_k (by decide)
  have w2g_28 : g_28 2 = g_23 2 := by rw [eg_28]; exact wr_k (by decide)
  have w5g_28 : g_28 5 = g_23 5 := by rw [eg_28]; exact wr_k (by decide)
  have wpg_28 : wF tx g_28 := by rw [eg_28]; exact wF_wr htW wpg_23
  have qvM_25 : qV (tx 4).toNat 1 g_28 M_25 := qV_same qvM_20 e48M_25 (by omega) (fun m hm => by rw [eg_28]; exact wr_v htW wpg_23 (by omega)) (fun m hm => by rw [eg_28]; exact wr_v htW wpg_23 (by omega))
  have w85 := wF_8 wpg_28
  refine lv_aload_n hx hb dX10_passes_36 rfl (lv_at hl 1 rfl) ?_
  refine ti_get (ci := 10) (k := 38) (N := 67) (T := TX10) (v := .ref (A 60 39)) C hw iw_10 rfl ob_60 (by decide) (by decide) fl_X10_81 rfl rfl dX10_passes_37 ?_
  refine lv_iload_n hx hb dX10_passes_40 rfl (lv_at hl 2 rfl) ?_
  refine ti_iald (ci := 10) (k := 38) (n := 23) C hw ob_60 (by decide) (fun _ _ => rfl) (by unfold vp_in; decide) dX10_passes_41 ?_
  refine lv_topi (fun x_29 ex_29 => ?_)
  have yx_29 : tY M_25 60 38 1 = x_29 := ((congrArg _ (by decide)).symm.trans ex_29.symm)
  have bx_29 : 0 ≤ x_29.toInt ∧ x_29.toInt ≤ 8 := mI_ry (k := 38) (i := 1) iM_25 yx_29.symm
  have zx_29 : (tY M_25 60 38 1).toInt = x_29.toInt := by rw [yx_29]
  have wx_29 : tY M_10 60 38 1 = x_29 := (((cg q_26.2.2.1 1).trans ((cg q_21.2.2.1 1).trans (cg q_16.2.2.1 1)))).symm.trans yx_29
  have zwx_29 : (tY M_10 60 38 1).toInt = x_29.toInt := by rw [wx_29]
  have L_30 : g_28 3 = x_29.toInt := (hrM_25.1.2.1).trans (congrArg Int32.toInt ((cg q_26.2.2.1 1).trans ((cg q_21.2.2.1 1).trans ((cg q_16.2.2.1 1).trans wx_29))))
  have hl_99_72 : ∀ (n_73 : Nat) (x_55 : Int32) (M_58 : ti_M) (g_63 : Nat → Int) (H : Heap) (locs : List Loc) (ls : Array Slot), (x_55.toInt + 1 : Int).toNat < n_73 → ((-1) ≤ x_55.toInt) → (x_55.toInt ≤ 7) → (mI Tm M_58) → (rq 1 M_58 M) → (mC M_58 1) → (tY M_58 60 34 = tY M 60 34) → (eR 1 M_58 M) → (qR (tx 4).toNat 1 g_63 M_58) → (x_55.toInt < (tY M_58 60 38 1).toInt) → (bq_of (x_55.toInt).toNat g_63 = bq_rl tx g_28) → (wF tx g_63) → (qV (tx 4).toNat 1 g_63 M_58) → (g_63 1 = rg 1) → (g_63 2 = rg 2) → (g_63 5 = rg 5) → (x_55.toInt < g_63 3 ∨ x_55.toInt ≤ 0) → ti_H ti_LM D A cy H0 M_58 H locs → lv_has ls 5 [(4, .int x_55), (3, .int x_1), (0, .ref (A 60 0)), (1, .int 1), (2, .int mu)] → W p l e (ti_rm 6) s m args below meth c H locs 0 0 Q (F0 m 99 ls []) := by
    intro n_73
    induction n_73 with
    | zero => intro x_55 M_58 g_63 H locs ls hf_73; exact absurd hf_73 (Nat.not_lt_zero _)
    | succ n_73 ih_73 =>
      intro x_55 M_58 g_63 H locs ls hf_73 b_56 b_57 iM_58 f_59 f_60 f_61 f_62 hs_64 j_65 j_66 j_67 j_68 j_69 j_70 j_71 j_72 hw hl
      refine lv_iload hx hb dX10_passes_99 (lv_at hl 0 rfl) ?_
      refine lv_iconst (v := 1) hx hb dX10_passes_101 (by decide) ?_
      refine sb_icmp_lt (tgt := 145) hx hb rfl (by decide : (1 : Int32).toInt = 1) dX10_passes_102 (by decide) (fun c_102_75 => ?_) (fun c_102_75 => ?_)
      · refine lv_iload_n hx hb dX10_passes_145 rfl (lv_at hl 4 rfl) ?_
        refine sb_if_eq (tgt := 197) hx hb rfl dX10_passes_146 (by decide) (fun c_146_91 => ?_) (fun c_146_91 => ?_)
        · refine lv_aload_n hx hb dX10_passes_197 rfl (lv_at hl 2 rfl) ?_
          refine ti_get (ci := 10) (k := 34) (N := 67) (T := TX10) (v := .ref (A 60 35)) C hw iw_10 rfl ob_60 (by decide) (by decide) fl_X10_69 rfl rfl dX10_passes_198 ?_
          refine lv_iload_n hx hb dX10_passes_201 rfl (lv_at hl 3 rfl) ?_
          refine lv_dup2_11 hx hb dX10_passes_202 rfl rfl ?_
          refine ti_iald (ci := 10) (k := 34) (n := 23) C hw ob_60 (by decide) (fun _ _ => rfl) (by unfold vp_in; decide) dX10_passes_203 ?_
          refine ti_top (y := x_1) ((congrArg _ (by decide)).trans ((cg f_61 1).trans yx_1)) ?_
          have L_115 : g_63 2 = x_1.toInt := (hs_64.1.1).trans (congrArg Int32.toInt ((cg f_61 1).trans yx_1))
          refine lv_iconst (v := 1) hx hb dX10_passes_204 (by decide) ?_
          refine lv_iadd hx hb dX10_passes_205 ?_
          refine lv_topi (fun x_116 ex_116 => ?_)
          have tx_116 : x_116.toInt = bw (x_1.toInt + 1) := bw_add ex_116 rfl (by decide : (1 : Int32).toInt = 1)
          refine ti_iast (ci := 10) (k := 34) (n := 23) C hw ob_60 (by decide) (fun _ _ => rfl) (by unfold vp_in; decide) dX10_passes_206 (fun H locs hw => ?_)
          obtain ⟨M_117, hM_117⟩ : ∃ z : ti_M, z = uY M_58 60 34 (upd (tY M_58 60 34) (1 : Int32).toNatClampNeg x_116) := ⟨_, rfl⟩
          have hw := hw.to hM_117.symm
          have iM_117 : mI Tm M_117 := mI_up (i := 1) iM_58 hM_117 (fun h => absurd rfl h)
          have hs_118 : qR (tx 4).toNat 1 (pp_su g_63 2 x_116.toInt) M_117 := qR_34 (z := 1) hs_64 (by decide) rfl hM_117
          obtain ⟨g_119, eg_119⟩ : ∃ z : Nat → Int, z = pp_su g_63 2 x_116.toInt := ⟨_, rfl⟩
          rw [← eg_119] at hs_118
          have sg_119 : g_119 2 = x_116.toInt := by rw [eg_119, su_s]
          have w1g_119 : g_119 1 = g_63 1 := by rw [eg_119, su_n (by omega)]
          have w5g_119 : g_119 5 = g_63 5 := by rw [eg_119, su_n (by omega)]
          have ER : g_63 = bq_rl tx g_28 := by rw [← j_66, show x_55.toInt.toNat = 0 by omega]; rfl
          have EM : bq_mt tx g_63 = g_63 := by unfold bq_mt; rw [if_pos (by omega)]
          have HC1 : g_8 = bq_hc tx g_8 := by unfold bq_hc; rw [if_neg (by omega)]
          have E_120 : bq_ps tx rg = g_119 := by unfold bq_ps; rw [← eg_8, ← HC1, ← eg_18, ← eg_23, ← eg_28, ← ER, EM]; unfold bq_m1; rw [show g_63 2 = x_1.toInt by omega, ← tx_116, ← eg_119]
          exact hQ _ _ _ _ _ hw (⟨(eR.trans (eR_Y hM_117 (bk_q (z := 1) (by decide) (by decide))) f_62), (by rw [E_120]; exact hs_118), (by rw [E_120]; exact (qV_same j_68 (tY_nE hM_117 (nk (by decide))) (by omega) (fun _ _ => by rw [eg_119, su_n (by omega)]) (fun _ _ => by rw [eg_119, su_n (by omega)]))), iM_117, (rq.trans (rq_qw (qw_Y hM_117 (by decide))) f_59), (mC_qw (qw_Y hM_117 (by decide)) f_60)⟩) dX10_passes_207
        · refine lv_aload_n hx hb dX10_passes_149 rfl (lv_at hl 2 rfl) ?_
          refine ti_get (ci := 10) (k := 3) (N := 67) (T := TX10) (v := .ref (A 60 4)) C hw iw_10 rfl ob_60 (by decide) (by decide) fl_X10_13 rfl rfl dX10_passes_150 ?_
          refine lv_iconst (v := 5) hx hb dX10_passes_153 (by decide) ?_
          refine ti_iald (ci := 10) (k := 3) (n := 22) C hw ob_60 (by decide) (fun _ _ => rfl) (by unfold vp_in; decide) dX10_passes_154 ?_
          refine lv_topi (fun x_93 ex_93 => ?_)
          have yx_93 : tY M_58 60 3 5 = x_93 := ((congrArg _ (by decide)).symm.trans ex_93.symm)
          have zx_93 : (tY M_58 60 3 5).toInt = x_93.toInt := by rw [yx_93]
          have wx_93 : tY M 60 3 5 = x_93 := ((cg (f_59.1 3 (by decide) (by decide)) 5)).symm.trans yx_93
          have zwx_93 : (tY M 60 3 5).toInt = x_93.toInt := by rw [wx_93]
          have L_94 : tx 10 = x_93.toInt := (htr.1.2.2.2.2.2.1).trans ((congrArg Int32.toInt (cg ((f_59.1 3 (by decide) (by decide))) 5)).symm.trans (congrArg Int32.toInt ((cg (f_59.1 3 (by decide) (by decide)) 5).trans wx_93)))
          refine sb_if_le (tgt := 197) hx hb rfl dX10_passes_155 (by decide) (fun c_155_94 => ?_) (fun c_155_94 => ?_)
          · refine lv_aload_n hx hb dX10_passes_197 rfl (lv_at hl 2 rfl) ?_
            refine ti_get (ci := 10) (k := 34) (N := 67) (T := TX10) (v := .ref (A 60 35)) C hw iw_10 rfl ob_60 (by decide) (by decide) fl_X10_69 rfl rfl dX10_passes_198 ?_
            refine lv_iload_n hx hb dX10_passes_201 rfl (lv_at hl 3 rfl) ?_
            refine lv_dup2_11 hx hb dX10_passes_202 rfl rfl ?_
            refine ti_iald (ci := 10) (k := 34) (n := 23) C hw ob_60 (by decide) (fun _ _ => rfl) (by unfold vp_in; decide) dX10_passes_203 ?_
            refine ti_top (y := x_1) ((congrArg _ (by decide)).trans ((cg f_61 1).trans yx_1)) ?_
            have L_121 : g_63 2 = x_1.toInt := (hs_64.1.1).trans (congrArg Int32.toInt ((cg f_61 1).trans yx_1))
            refine lv_iconst (v := 1) hx hb dX10_passes_204 (by decide) ?_
            refine lv_iadd hx hb dX10_passes_205 ?_
            refine lv_topi (fun x_122 ex_122 => ?_)
            have tx_122 : x_122.toInt = bw (x_1.toInt + 1) := bw_add ex_122 rfl (by decide : (1 : Int32).toInt = 1)
            refine ti_iast (ci := 10) (k := 34) (n := 23) C hw ob_60 (by decide) (fun _ _ => rfl) (by unfold vp_in; decide) dX10_passes_206 (fun H locs hw => ?_)
            obtain ⟨M_123, hM_123⟩ : ∃ z : ti_M, z = uY M_58 60 34 (upd (tY M_58 60 34) (1 : Int32).toNatClampNeg x_122) := ⟨_, rfl⟩
            have hw := hw.to hM_123.symm
            have iM_123 : mI Tm M_123 := mI_up (i := 1) iM_58 hM_123 (fun h => absurd rfl h)
            have hs_124 : qR (tx 4).toNat 1 (pp_su g_63 2 x_122.toInt) M_123 := qR_34 (z := 1) hs_64 (by decide) rfl hM_123
            obtain ⟨g_125, eg_125⟩ : ∃ z : Nat → Int, z = pp_su g_63 2 x_122.toInt := ⟨_, rfl⟩
            rw [← eg_125] at hs_124
            have sg_125 : g_125 2 = x_122.toInt := by rw [eg_125, su_s]
            have w1g_125 : g_125 1 = g_63 1 := by rw [eg_125, su_n (by omega)]
            have w5g_125 : g_125 5 = g_63 5 := by rw [eg_125, su_n (by omega)]
            have ER : g_63 = bq_rl tx g_28 := by rw [← j_66, show x_55.toInt.toNat = 0 by omega]; rfl
            have EM : bq_mt tx g_63 = g_63 := by unfold bq_mt; rw [if_pos (by omega)]
            have HC1 : g_8 = bq_hc tx g_8 := by unfold bq_hc; rw [if_neg (by omega)]
            have E_126 : bq_ps tx rg = g_125 := by unfold bq_ps; rw [← eg_8, ← HC1, ← eg_18, ← eg_23, ← eg_28, ← ER, EM]; unfold bq_m1; rw [show g_63 2 = x_1.toInt by omega, ← tx_122, ← eg_125]
            exact hQ _ _ _ _ _ hw (⟨(eR.trans (eR_Y hM_123 (bk_q (z := 1) (by decide) (by decide))) f_62), (by rw [E_126]; exact hs_124), (by rw [E_126]; exact (qV_same j_68 (tY_nE hM_123 (nk (by decide))) (by omega) (fun _ _ => by rw [eg_125, su_n (by omega)]) (fun _ _ => by rw [eg_125, su_n (by omega)]))), iM_123, (rq.trans (rq_qw (qw_Y hM_123 (by decide))) f_59), (mC_qw (qw_Y hM_123 (by decide)) f_60)⟩) dX10_passes_207
          · refine lv_aload_n hx hb dX10_passes_158 rfl (lv_at hl 2 rfl) ?_
            refine lv_iload_n hx hb dX10_passes_159 rfl (lv_at hl 3 rfl) ?_
            refine ti_callVi (ci := 10) (av := [.int 1]) C hw (z_X10_draw_1 l D A cy hJ M_58 iM_58  tx g_63 (tR_lw htr (eR_lw (q := 1) f_62)) ht4 hs_64 (by omega)) ⟨ml_X10_397, ym_X10_draw, yv_X10_draw, yi_X10_draw, yc_X10_draw⟩ yd_X10_draw ob_60 (by decide) rfl rfl hl.1 (Nat.le_of_ble_eq_true rfl) ⟨by decide, by decide⟩ ⟨Nat.zero_le _, Nat.zero_le _⟩ dX10_passes_160 (fun r_96 M_97 H locs hp_97 hw => ?_)
            obtain ⟨erM_97, e48M_97, hrM_97, rvM_97, hqM_97⟩ := hp_97
            obtain ⟨iM_97, q_98, q_99⟩ := hqM_97
            obtain ⟨g_100, eg_100⟩ : ∃ z : Nat → Int, z = pp_su g_63 5 (bq_dr (g_63 5)) := ⟨_, rfl⟩
            rw [← eg_100] at hrM_97
            have w1g_100 : g_100 1 = g_63 1 := by rw [eg_100]; exact su_n (by decide)
            have w2g_100 : g_100 2 = g_63 2 := by rw [eg_100]; exact su_n (by decide)
            have wpg_100 : wF tx g_100 := by rw [eg_100]; exact wF_dr htW j_67
            have qvM_97 : qV (tx 4).toNat 1 g_100 M_97 := qV_same j_68 e48M_97 (by omega) (fun m hm => by rw [eg_100]; exact su_n (by omega)) (fun m hm => by rw [eg_100]; exact su_n (by omega))
            refine lv_aload_n hx hb dX10_passes_163 rfl (lv_at hl 2 rfl) ?_
            refine ti_get (ci := 10) (k := 3) (N := 67) (T := TX10) (v := .ref (A 60 4)) C hw iw_10 rfl ob_60 (by decide) (by decide) fl_X10_13 rfl rfl dX10_passes_164 ?_
            refine lv_iconst (v := 5) hx hb dX10_passes_167 (by decide) ?_
            refine ti_iald (ci := 10) (k := 3) (n := 22) C hw ob_60 (by decide) (fun _ _ => rfl) (by unfold vp_in; decide) dX10_passes_168 ?_
            refine ti_top (y := x_93) ((congrArg _ (by decide)).trans ((cg (q_98.1 3 (by decide) (by decide)) 5).trans ((cg (f_59.1 3 (by decide) (by decide)) 5).trans wx_93))) ?_
            have L_101 : tx 10 = x_93.toInt := (htr.1.2.2.2.2.2.1).trans ((congrArg Int32.toInt (cg (((q_98.1 3 (by decide) (by decide)).trans (f_59.1 3 (by decide) (by decide)))) 5)).symm.trans (congrArg Int32.toInt ((cg (q_98.1 3 (by decide) (by decide)) 5).trans ((cg (f_59.1 3 (by decide) (by decide)) 5).trans wx_93))))
            refine sb_icmp_ge (tgt := 197) hx hb rfl rfl dX10_passes_169 (by decide) (fun c_169_101 => ?_) (fun c_169_101 => ?_)
            · refine lv_aload_n hx hb dX10_passes_197 rfl (lv_at hl 2 rfl) ?_
              refine ti_get (ci := 10) (k := 34) (N := 67) (T := TX10) (v := .ref (A 60 35)) C hw iw_10 rfl ob_60 (by decide) (by decide) fl_X10_69 rfl rfl dX10_passes_198 ?_
              refine lv_iload_n hx hb dX10_passes_201 rfl (lv_at hl 3 rfl) ?_
              refine lv_dup2_11 hx hb dX10_passes_202 rfl rfl ?_
              refine ti_iald (ci := 10) (k := 34) (n := 23) C hw ob_60 (by decide) (fun _ _ => rfl) (by unfold vp_in; decide) dX10_passes_203 ?_
              refine ti_top (y := x_1) ((congrArg _ (by decide)).trans ((cg q_99 1).trans ((cg f_61 1).trans yx_1))) ?_
              have L_127 : g_100 2 = x_1.toInt := (hrM_97.1.1).trans (congrArg Int32.toInt ((cg q_99 1).trans ((cg f_61 1).trans yx_1)))
              refine lv_iconst (v := 1) hx hb dX10_passes_204 (by decide) ?_
              refine lv_iadd hx hb dX10_passes_205 ?_
              refine lv_topi (fun x_128 ex_128 => ?_)
              have tx_128 : x_128.toInt = bw (x_1.toInt + 1) := bw_add ex_128 rfl (by decide : (1 : Int32).toInt = 1)
              refine ti_iast (ci := 10) (k := 34) (n := 23) C hw ob_60 (by decide) (fun _ _ => rfl) (by unfold vp_in; decide) dX10_passes_206 (fun H locs hw => ?_)
              obtain ⟨M_129, hM_129⟩ : ∃ z : ti_M, z = uY M_97 60 34 (upd (tY M_97 60 34) (1 : Int32).toNatClampNeg x_128) := ⟨_, rfl⟩
              have hw := hw.to hM_129.symm
              have iM_129 : mI Tm M_129 := mI_up (i := 1) iM_97 hM_129 (fun h => absurd rfl h)
              have hs_130 : qR (tx 4).toNat 1 (pp_su g_100 2 x_128.toInt) M_129 := qR_34 (z := 1) hrM_97 (by decide) rfl hM_129
              obtain ⟨g_131, eg_131⟩ : ∃ z : Nat → Int, z = pp_su g_100 2 x_128.toInt := ⟨_, rfl⟩
              rw [← eg_131] at hs_130
              have sg_131 : g_131 2 = x_128.toInt := by rw [eg_131, su_s]
              have w1g_131 : g_131 1 = g_100 1 := by rw [eg_131, su_n (by omega)]
              have w5g_131 : g_131 5 = g_100 5 := by rw [eg_131, su_n (by omega)]
              have ER : g_63 = bq_rl tx g_28 := by rw [← j_66, show x_55.toInt.toNat = 0 by omega]; rfl
              have w3g_100 : g_100 3 = g_63 3 := by rw [eg_100]; exact su_n (by decide)
              have EM : bq_mt tx g_63 = g_100 := by unfold bq_mt; rw [if_neg (by omega), if_neg (by omega), ← eg_100]
              have HC1 : g_8 = bq_hc tx g_8 := by unfold bq_hc; rw [if_neg (by omega)]
              have E_132 : bq_ps tx rg = g_131 := by unfold bq_ps; rw [← eg_8, ← HC1, ← eg_18, ← eg_23, ← eg_28, ← ER, EM]; unfold bq_m1; rw [show g_100 2 = x_1.toInt by omega, ← tx_128, ← eg_131]
              exact hQ _ _ _ _ _ hw (⟨(eR.trans (eR_Y hM_129 (bk_q (z := 1) (by decide) (by decide))) (eR.trans erM_97 f_62)), (by rw [E_132]; exact hs_130), (by rw [E_132]; exact (qV_same qvM_97 (tY_nE hM_129 (nk (by decide))) (by omega) (fun _ _ => by rw [eg_131, su_n (by omega)]) (fun _ _ => by rw [eg_131, su_n (by omega)]))), iM_129, (rq.trans (rq_qw (qw_Y hM_129 (by decide))) (rq.trans (rq_qw q_98) f_59)), (mC_qw (qw.trans (qw_Y hM_129 (by decide)) q_98) f_60)⟩) dX10_passes_207
            · refine lv_aload_n hx hb dX10_passes_172 rfl (lv_at hl 2 rfl) ?_
              refine ti_get (ci := 10) (k := 38) (N := 67) (T := TX10) (v := .ref (A 60 39)) C hw iw_10 rfl ob_60 (by decide) (by decide) fl_X10_81 rfl rfl dX10_passes_173 ?_
              refine lv_iload_n hx hb dX10_passes_176 rfl (lv_at hl 3 rfl) ?_
              refine ti_iald (ci := 10) (k := 38) (n := 23) C hw ob_60 (by decide) (fun _ _ => rfl) (by unfold vp_in; decide) dX10_passes_177 ?_
              refine lv_topi (fun x_103 ex_103 => ?_)
              have yx_103 : tY M_97 60 38 1 = x_103 := ((congrArg _ (by decide)).symm.trans ex_103.symm)
              have bx_103 : 0 ≤ x_103.toInt ∧ x_103.toInt ≤ 8 := mI_ry (k := 38) (i := 1) iM_97 yx_103.symm
              have zx_103 : (tY M_97 60 38 1).toInt = x_103.toInt := by rw [yx_103]
              have wx_103 : tY M_58 60 38 1 = x_103 := ((cg q_98.2.2.1 1)).symm.trans yx_103
              have zwx_103 : (tY M_58 60 38 1).toInt = x_103.toInt := by rw [wx_103]
              have L_104 : g_100 3 = x_103.toInt := (hrM_97.1.2.1).trans (congrArg Int32.toInt ((cg q_98.2.2.1 1).trans wx_103))
              refine lv_iconst (v := 1) hx hb dX10_passes_178 (by decide) ?_
              refine sb_icmp_le (tgt := 197) hx hb rfl (by decide : (1 : Int32).toInt = 1) dX10_passes_179 (by decide) (fun c_179_104 => ?_) (fun c_179_104 => ?_)
              · refine lv_aload_n hx hb dX10_passes_197 rfl (lv_at hl 2 rfl) ?_
                refine ti_get (ci := 10) (k := 34) (N := 67) (T := TX10) (v := .ref (A 60 35)) C hw iw_10 rfl ob_60 (by decide) (by decide) fl_X10_69 rfl rfl dX10_passes_198 ?_
                refine lv_iload_n hx hb dX10_passes_201 rfl (lv_at hl 3 rfl) ?_
                refine lv_dup2_11 hx hb dX10_passes_202 rfl rfl ?_
                refine ti_iald (ci := 10) (k := 34) (n := 23) C hw ob_60 (by decide) (fun _ _ => rfl) (by unfold vp_in; decide) dX10_passes_203 ?_
                refine ti_top (y := x_1) ((congrArg _ (by decide)).trans ((cg q_99 1).trans ((cg f_61 1).trans yx_1))) ?_
                have L_133 : g_100 2 = x_1.toInt := (hrM_97.1.1).trans (congrArg Int32.toInt ((cg q_99 1).trans ((cg f_61 1).trans yx_1)))
                refine lv_iconst (v := 1) hx hb dX10_passes_204 (by decide) ?_
                refine lv_iadd hx hb dX10_passes_205 ?_
                refine lv_topi (fun x_134 ex_134 => ?_)
                have tx_134 : x_134.toInt = bw (x_1.toInt + 1) := bw_add ex_134 rfl (by decide : (1 : Int32).toInt = 1)
                refine ti_iast (ci := 10) (k := 34) (n := 23) C hw ob_60 (by decide) (fun _ _ => rfl) (by unfold vp_in; decide) dX10_passes_206 (fun H locs hw => ?_)
                obtain ⟨M_135, hM_135⟩ : ∃ z : ti_M, z = uY M_97 60 34 (upd (tY M_97 60 34) (1 : Int32).toNatClampNeg x_134) := ⟨_, rfl⟩
                have hw := hw.to hM_135.symm
                have iM_135 : mI Tm M_135 := mI_up (i := 1) iM_97 hM_135 (fun h => absurd rfl h)
                have hs_136 : qR (tx 4).toNat 1 (pp_su g_100 2 x_134.toInt) M_135 := qR_34 (z := 1) hrM_97 (by decide) rfl hM_135
                obtain ⟨g_137, eg_137⟩ : ∃ z : Nat → Int, z = pp_su g_100 2 x_134.toInt := ⟨_, rfl⟩
                rw [← eg_137] at hs_136
                have sg_137 : g_137 2 = x_134.toInt := by rw [eg_137, su_s]
                have w1g_137 : g_137 1 = g_100 1 := by rw [eg_137, su_n (by omega)]
                have w5g_137 : g_137 5 = g_100 5 := by rw [eg_137, su_n (by omega)]
                have ER : g_63 = bq_rl tx g_28 := by rw [← j_66, show x_55.toInt.toNat = 0 by omega]; rfl
                have w3g_100 : g_100 3 = g_63 3 := by rw [eg_100]; exact su_n (by decide)
                have EM : bq_mt tx g_63 = g_100 := by unfold bq_mt; rw [if_neg (by omega), if_neg (by omega), ← eg_100]
                have HC1 : g_8 = bq_hc tx g_8 := by unfold bq_hc; rw [if_neg (by omega)]
                have E_138 : bq_ps tx rg = g_137 := by unfold bq_ps; rw [← eg_8, ← HC1, ← eg_18, ← eg_23, ← eg_28, ← ER, EM]; unfold bq_m1; rw [show g_100 2 = x_1.toInt by omega, ← tx_134, ← eg_137]
                exact hQ _ _ _ _ _ hw (⟨(eR.trans (eR_Y hM_135 (bk_q (z := 1) (by decide) (by decide))) (eR.trans erM_97 f_62)), (by rw [E_138]; exact hs_136), (by rw [E_138]; exact (qV_same qvM_97 (tY_nE hM_135 (nk (by decide))) (by omega) (fun _ _ => by rw [eg_137, su_n (by omega)]) (fun _ _ => by rw [eg_137, su_n (by omega)]))), iM_135, (rq.trans (rq_qw (qw_Y hM_135 (by decide))) (rq.trans (rq_qw q_98) f_59)), (mC_qw (qw.trans (qw_Y hM_135 (by decide)) q_98) f_60)⟩) dX10_passes_207
              · refine lv_aload_n hx hb dX10_passes_182 rfl (lv_at hl 2 rfl) ?_
                refine lv_iload_n hx hb dX10_passes_183 rfl (lv_at hl 3 rfl) ?_
                refine lv_aload_n hx hb dX10_passes_184 rfl (lv_at hl 2 rfl) ?_
                refine ti_get (ci := 10) (k := 38) (N := 67) (T := TX10) (v := .ref (A 60 39)) C hw iw_10 rfl ob_60 (by decide) (by decide) fl_X10_81 rfl rfl dX10_passes_185 ?_
                refine lv_iload_n hx hb dX10_passes_188 rfl (lv_at hl 3 rfl) ?_
                refine ti_iald (ci := 10) (k := 38) (n := 23) C hw ob_60 (by decide) (fun _ _ => rfl) (by unfold vp_in; decide) dX10_passes_189 ?_
                refine ti_top (y := x_103) ((congrArg _ (by decide)).trans ((cg q_98.2.2.1 1).trans wx_103)) ?_
                have L_106 : g_100 3 = x_103.toInt := (hrM_97.1.2.1).trans (congrArg Int32.toInt ((cg q_98.2.2.1 1).trans wx_103))
                refine lv_iconst (v := 1) hx hb dX10_passes_190 (by decide) ?_
                refine lv_isub hx hb dX10_passes_191 ?_
                refine lv_topi (fun x_107 ex_107 => ?_)
                have tx_107 : x_107.toInt = x_103.toInt - 1 := i_sub ex_107 rfl (by decide : (1 : Int32).toInt = 1) (by omega) (by omega)
                refine lv_iconst (v := 3) hx hb dX10_passes_192 (by decide) ?_
                refine lv_iload_n hx hb dX10_passes_193 rfl (lv_at hl 1 rfl) ?_
                have lk_110 : (tY M_97 60 38 1).toInt = (tY M_58 60 38 1).toInt := by rw [(cg q_98.2.2.1 1)]
                refine ti_callVv (ci := 10) (av := [.int 1, .int x_107, .int 3, .int x_1]) C hw (z_X10_leaves_1 l D A cy hJ M_97 iM_97 (mC_qw q_98 f_60) x_107 3 x_1 (by first | omega | decide | (have l0 : (0 : Int32).toInt = 0 := (by decide); have l2 : (2 : Int32).toInt = 2 := (by decide); have l3 : (3 : Int32).toInt = 3 := (by decide); omega)) (by first | omega | decide | (have l0 : (0 : Int32).toInt = 0 := (by decide); have l2 : (2 : Int32).toInt = 2 := (by decide); have l3 : (3 : Int32).toInt = 3 := (by decide); omega)) (by first | omega | decide | (have l0 : (0 : Int32).toInt = 0 := (by decide); have l2 : (2 : Int32).toInt = 2 := (by decide); have l3 : (3 : Int32).toInt = 3 := (by decide); omega)) tx g_100 (tR_lw htr (eR_lw (q := 1) (eR.trans erM_97 f_62))) ht4 hrM_97 qvM_97 wpg_100 (by omega)) ⟨ml_X10_377, ym_X10_leaves, yv_X10_leaves, yi_X10_leaves, yc_X10_leaves⟩ yd_X10_leaves ob_60 (by decide) rfl rfl hl.1 (Nat.le_of_ble_eq_true rfl) ⟨by decide, by decide⟩ ⟨Nat.zero_le _, Nat.zero_le _⟩ dX10_passes_194 (fun M_109 H locs hp_109 hw => ?_)
                obtain ⟨erM_109, hrM_109, qvM_109, hqM_109⟩ := hp_109
                obtain ⟨iM_109, q_111, q_112, q_113, p0r_108⟩ := hqM_109
                simp only [show (3 : Int32).toInt = 3 by decide] at hrM_109 qvM_109
                obtain ⟨g_114, eg_114⟩ : ∃ z : Nat → Int, z = bq_rm g_100 x_107.toInt 3 := ⟨_, rfl⟩
                rw [← eg_114] at hrM_109
                rw [← eg_114] at qvM_109
                have w1g_114 : g_114 1 = g_100 1 := by rw [eg_114]; exact rm_k (by decide)
                have w2g_114 : g_114 2 = g_100 2 := by rw [eg_114]; exact rm_k (by decide)
                have w5g_114 : g_114 5 = g_100 5 := by rw [eg_114]; exact rm_k (by decide)
                have wrg_114 := wF_rm htW wpg_100 (p := x_107.toInt.toNat) (by omega) (ns := 3) (by decide)
                rw [show ((x_107.toInt.toNat : Nat) : Int) = x_107.toInt by omega, ← eg_114] at wrg_114
                have wpg_114 := wrg_114.1
                have wng_114 := wrg_114.2.1
                refine lv_aload_n hx hb dX10_passes_197 rfl (lv_at hl 2 rfl) ?_
                refine ti_get (ci := 10) (k := 34) (N := 67) (T := TX10) (v := .ref (A 60 35)) C hw iw_10 rfl ob_60 (by decide) (by decide) fl_X10_69 rfl rfl dX10_passes_198 ?_
                refine lv_iload_n hx hb dX10_passes_201 rfl (lv_at hl 3 rfl) ?_
                refine lv_dup2_11 hx hb dX10_passes_202 rfl rfl ?_
                refine ti_iald (ci := 10) (k := 34) (n := 23) C hw ob_60 (by decide) (fun _ _ => rfl) (by unfold vp_in; decide) dX10_passes_203 ?_
                refine ti_top (y := x_1) ((congrArg _ (by decide)).trans ((cg q_113 1).trans ((cg q_99 1).trans ((cg f_61 1).trans yx_1)))) ?_
                have L_139 : g_114 2 = x_1.toInt := (hrM_109.1.1).trans (congrArg Int32.toInt ((cg q_113 1).trans ((cg q_99 1).trans ((cg f_61 1).trans yx_1))))
                refine lv_iconst (v := 1) hx hb dX10_passes_204 (by decide) ?_
                refine lv_iadd hx hb dX10_passes_205 ?_
                refine lv_topi (fun x_140 ex_140 => ?_)
                have tx_140 : x_140.toInt = bw (x_1.toInt + 1) := bw_add ex_140 rfl (by decide : (1 : Int32).toInt = 1)
                refine ti_iast (ci := 10) (k := 34) (n := 23) C hw ob_60 (by decide) (fun _ _ => rfl) (by unfold vp_in; decide) dX10_passes_206 (fun H locs hw => ?_)
                obtain ⟨M_141, hM_141⟩ : ∃ z : ti_M, z = uY M_109 60 34 (upd (tY M_109 60 34) (1 : Int32).toNatClampNeg x_140) := ⟨_, rfl⟩
                have hw := hw.to hM_141.symm
                have iM_141 : mI Tm M_141 := mI_up (i := 1) iM_109 hM_141 (fun h => absurd rfl h)
                have hs_142 : qR (tx 4).toNat 1 (pp_su g_114 2 x_140.toInt) M_141 := qR_34 (z := 1) hrM_109 (by decide) rfl hM_141
                obtain ⟨g_143, eg_143⟩ : ∃ z : Nat → Int, z = pp_su g_114 2 x_140.toInt := ⟨_, rfl⟩
                rw [← eg_143] at hs_142
                have sg_143 : g_143 2 = x_140.toInt := by rw [eg_143, su_s]
                have w1g_143 : g_143 1 = g_114 1 := by rw [eg_143, su_n (by omega)]
                have w5g_143 : g_143 5 = g_114 5 := by rw [eg_143, su_n (by omega)]
                have ER : g_63 = bq_rl tx g_28 := by rw [← j_66, show x_55.toInt.toNat = 0 by omega]; rfl
                have w3g_100 : g_100 3 = g_63 3 := by rw [eg_100]; exact su_n (by decide)
                have EM : bq_mt tx g_63 = g_114 := by unfold bq_mt; rw [if_neg (by omega), if_pos (by omega), ← eg_100, show g_63 3 - 1 = x_107.toInt by omega, ← eg_114]
                have HC1 : g_8 = bq_hc tx g_8 := by unfold bq_hc; rw [if_neg (by omega)]
                have E_144 : bq_ps tx rg = g_143 := by unfold bq_ps; rw [← eg_8, ← HC1, ← eg_18, ← eg_23, ← eg_28, ← ER, EM]; unfold bq_m1; rw [show g_114 2 = x_1.toInt by omega, ← tx_140, ← eg_143]
                exact hQ _ _ _ _ _ hw (⟨(eR.trans (eR_Y hM_141 (bk_q (z := 1) (by decide) (by decide))) (eR.trans erM_109 (eR.trans erM_97 f_62))), (by rw [E_144]; exact hs_142), (by rw [E_144]; exact (qV_same qvM_109 (tY_nE hM_141 (nk (by decide))) (by omega) (fun _ _ => by rw [eg_143, su_n (by omega)]) (fun _ _ => by rw [eg_143, su_n (by omega)]))), iM_141, (rq.trans (rq_qw (qw_Y hM_141 (by decide))) (rq.trans q_111 (rq.trans (rq_qw q_98) f_59))), (mC_qw (qw_Y hM_141 (by decide)) q_112)⟩) dX10_passes_207
      · refine lv_aload_n hx hb dX10_passes_105 rfl (lv_at hl 2 rfl) ?_
        refine ti_get (ci := 10) (k := 41) (N := 67) (T := TX10) (v := .ref (A 60 42)) C hw iw_10 rfl ob_60 (by decide) (by decide) fl_X10_90 rfl rfl dX10_passes_106 ?_
        refine lv_bipush (v := 8) hx hb dX10_passes_109 (by decide) ?_
        refine lv_iload_n hx hb dX10_passes_111 rfl (lv_at hl 3 rfl) ?_
        refine lv_imul hx hb dX10_passes_112 ?_
        refine ti_top (y := 8) (by decide) ?_
        refine lv_aload_n hx hb dX10_passes_113 rfl (lv_at hl 2 rfl) ?_
        refine ti_get (ci := 10) (k := 39) (N := 67) (T := TX10) (v := .ref (A 60 40)) C hw iw_10 rfl ob_60 (by decide) (by decide) fl_X10_84 rfl rfl dX10_passes_114 ?_
        refine lv_bipush (v := 8) hx hb dX10_passes_117 (by decide) ?_
        refine lv_iload_n hx hb dX10_passes_119 rfl (lv_at hl 3 rfl) ?_
        refine lv_imul hx hb dX10_passes_120 ?_
        refine ti_top (y := 8) (by decide) ?_
        refine lv_iload hx hb dX10_passes_121 (lv_at hl 0 rfl) ?_
        refine lv_iadd hx hb dX10_passes_123 ?_
        refine lv_topi (fun x_77 ex_77 => ?_)
        have tx_77 : x_77.toInt = 8 + x_55.toInt := i_add ex_77 (by decide : (8 : Int32).toInt = 8) rfl (by omega) (by omega)
        refine ti_iald (ci := 10) (k := 39) (n := 184) C hw ob_60 (by decide) (fun _ _ => rfl) (vp_in_iff.mpr (by omega)) dX10_passes_124 ?_
        refine lv_topi (fun x_78 ex_78 => ?_)
        have yx_78 : tY M_58 60 39 x_77.toNatClampNeg = x_78 := (ex_78.symm)
        have bx_78 : 0 ≤ x_78.toInt ∧ x_78.toInt ≤ 7 := mI_ry (k := 39) (i := x_77.toNatClampNeg) iM_58 yx_78.symm
        have L_79 : g_63 (96 + x_55.toInt.toNat) = x_78.toInt := (hs_64.2.1 (x_55.toInt.toNat) (by omega) (by omega)).trans (rd_k (n := 8 * 1 + x_55.toInt.toNat) (by omega) (yx_78))
        have A6 := j_67.2.2.1 x_55.toInt.toNat (by omega)
        rw [L_79] at A6
        refine lv_iadd hx hb dX10_passes_125 ?_
        refine lv_topi (fun x_80 ex_80 => ?_)
        have tx_80 : x_80.toInt = 8 + x_78.toInt := i_add ex_80 (by decide : (8 : Int32).toInt = 8) rfl (by omega) (by omega)
        refine ti_iald (ci := 10) (k := 41) (n := 184) C hw ob_60 (by decide) (fun _ _ => rfl) (vp_in_iff.mpr (by omega)) dX10_passes_126 ?_
        refine lv_topi (fun x_81 ex_81 => ?_)
        have yx_81 : tY M_58 60 41 x_80.toNatClampNeg = x_81 := (ex_81.symm)
        have L_82 : g_63 (160 + x_78.toInt.toNat) = x_81.toInt := ((hs_64.2.2.2.1 (x_78.toInt.toNat) (by omega)).2.2.1).trans (rd_k (n := 8 * 1 + x_78.toInt.toNat) (by omega) (yx_81))
        refine sb_if_gt (tgt := 139) hx hb rfl dX10_passes_127 (by decide) (fun c_127_82 => ?_) (fun c_127_82 => ?_)
        · obtain ⟨x_90, ex_90⟩ : ∃ z : Int32, z = x_55 + (-1) := ⟨_, rfl⟩
          have tx_90 : x_90.toInt = x_55.toInt + (-1) := i_add ex_90 rfl (by decide) (by omega) (by omega)
          refine lv_iinc (v := x_90) (lv' := [(4, .int x_90), (3, .int x_1), (0, .ref (A 60 0)), (1, .int 1), (2, .int mu)]) hx hb dX10_passes_139 hl (k := 0) rfl (by rw [ex_90]; rfl) (by decide) rfl (fun ls hl => ?_)
          refine lv_goto (tgt := 99) hx hb dX10_passes_142 (by decide) ?_
          exact ih_73 x_90 M_58 g_63 _ _ _ (by omega) (by first | omega | decide) (by first | omega | decide) iM_58 f_59 f_60 ((f_61)) f_62 hs_64 (by first | omega | decide) (by rw [← j_66, of_go (p := x_55.toInt.toNat) (p' := x_90.toInt.toNat) (s := g_63) (by omega), show bq_o1 g_63 x_55.toInt.toNat = g_63 by (unfold bq_o1; rw [L_79, show g_63 (160 + x_78.toInt.toNat) = x_81.toInt by omega, if_neg (by omega)])]) j_67 j_68 (by first | omega | decide) (by first | omega | decide) (by first | omega | decide) (by first | omega | decide) hw (lv_sub hl [0, 1, 2, 3, 4] rfl)
        · refine lv_aload_n hx hb dX10_passes_130 rfl (lv_at hl 2 rfl) ?_
          refine lv_iload_n hx hb dX10_passes_131 rfl (lv_at hl 3 rfl) ?_
          refine lv_iload hx hb dX10_passes_132 (lv_at hl 0 rfl) ?_
          refine lv_iconst (v := 3) hx hb dX10_passes_134 (by decide) ?_
          refine lv_iload_n hx hb dX10_passes_135 rfl (lv_at hl 1 rfl) ?_
          refine ti_callVv (ci := 10) (av := [.int 1, .int x_55, .int 3, .int x_1]) C hw (z_X10_leaves_1 l D A cy hJ M_58 iM_58 f_60 x_55 3 x_1 (by first | omega | decide | (have l0 : (0 : Int32).toInt = 0 := (by decide); have l2 : (2 : Int32).toInt = 2 := (by decide); have l3 : (3 : Int32).toInt = 3 := (by decide); omega)) (by first | omega | decide | (have l0 : (0 : Int32).toInt = 0 := (by decide); have l2 : (2 : Int32).toInt = 2 := (by decide); have l3 : (3 : Int32).toInt = 3 := (by decide); omega)) (by first | omega | decide | (have l0 : (0 : Int32).toInt = 0 := (by decide); have l2 : (2 : Int32).toInt = 2 := (by decide); have l3 : (3 : Int32).toInt = 3 := (by decide); omega)) tx g_63 (tR_lw htr (eR_lw (q := 1) f_62)) ht4 hs_64 j_68 j_67 (by omega)) ⟨ml_X10_377, ym_X10_leaves, yv_X10_leaves, yi_X10_leaves, yc_X10_leaves⟩ yd_X10_leaves ob_60 (by decide) rfl rfl hl.1 (Nat.le_of_ble_eq_true rfl) ⟨by decide, by decide⟩ ⟨Nat.zero_le _, Nat.zero_le _⟩ dX10_passes_136 (fun M_85 H locs hp_85 hw => ?_)
          obtain ⟨erM_85, hrM_85, qvM_85, hqM_85⟩ := hp_85
          obtain ⟨iM_85, q_86, q_87, q_88, p0r_84⟩ := hqM_85
          simp only [show (3 : Int32).toInt = 3 by decide] at hrM_85 qvM_85
          obtain ⟨g_89, eg_89⟩ : ∃ z : Nat → Int, z = bq_rm g_63 x_55.toInt 3 := ⟨_, rfl⟩
          rw [← eg_89] at hrM_85
          rw [← eg_89] at qvM_85
          have w1g_89 : g_89 1 = g_63 1 := by rw [eg_89]; exact rm_k (by decide)
          have w2g_89 : g_89 2 = g_63 2 := by rw [eg_89]; exact rm_k (by decide)
          have w5g_89 : g_89 5 = g_63 5 := by rw [eg_89]; exact rm_k (by decide)
          have wrg_89 := wF_rm htW j_67 (p := x_55.toInt.toNat) (by omega) (ns := 3) (by decide)
          rw [show ((x_55.toInt.toNat : Nat) : Int) = x_55.toInt by omega, ← eg_89] at wrg_89
          have wpg_89 := wrg_89.1
          have wng_89 := wrg_89.2.1
          obtain ⟨x_91, ex_91⟩ : ∃ z : Int32, z = x_55 + (-1) := ⟨_, rfl⟩
          have tx_91 : x_91.toInt = x_55.toInt + (-1) := i_add ex_91 rfl (by decide) (by omega) (by omega)
          refine lv_iinc (v := x_91) (lv' := [(4, .int x_91), (3, .int x_1), (0, .ref (A 60 0)), (1, .int 1), (2, .int mu)]) hx hb dX10_passes_139 hl (k := 0) rfl (by rw [ex_91]; rfl) (by decide) rfl (fun ls hl => ?_)
          refine lv_goto (tgt := 99) hx hb dX10_passes_142 (by decide) ?_
          exact ih_73 x_91 M_85 g_89 _ _ _ (by omega) (by first | omega | decide) (by first | omega | decide) iM_85 (rq.trans q_86 f_59) q_87 (((q_88).trans f_61)) (eR.trans erM_85 f_62) hrM_85 (by first | omega | decide) (by rw [← j_66, of_go (p := x_55.toInt.toNat) (p' := x_91.toInt.toNat) (s := g_63) (by omega), show bq_o1 g_63 x_55.toInt.toNat = g_89 by (unfold bq_o1; rw [L_79, show g_63 (160 + x_78.toInt.toNat) = x_81.toInt by omega, if_pos (by omega), show ((x_55.toInt.toNat : Nat) : Int) = x_55.toInt by omega, ← eg_89])]) wpg_89 qvM_85 (by first | omega | decide) (by first | omega | decide) (by first | omega | decide) (by first | omega | decide) hw (lv_sub hl [0, 1, 2, 3, 4] rfl)
  refine sb_if_le (tgt := 89) hx hb rfl dX10_passes_42 (by decide) (fun c_42_30 => ?_) (fun c_42_30 => ?_)
  · refine lv_aload_n hx hb dX10_passes_89 rfl (lv_at hl 1 rfl) ?_
    refine ti_get (ci := 10) (k := 38) (N := 67) (T := TX10) (v := .ref (A 60 39)) C hw iw_10 rfl ob_60 (by decide) (by decide) fl_X10_81 rfl rfl dX10_passes_90 ?_
    refine lv_iload_n hx hb dX10_passes_93 rfl (lv_at hl 2 rfl) ?_
    refine ti_iald (ci := 10) (k := 38) (n := 23) C hw ob_60 (by decide) (fun _ _ => rfl) (by unfold vp_in; decide) dX10_passes_94 ?_
    refine ti_top (y := x_29) ((congrArg _ (by decide)).trans ((cg q_26.2.2.1 1).trans ((cg q_21.2.2.1 1).trans ((cg q_16.2.2.1 1).trans wx_29)))) ?_
    have L_48 : g_28 3 = x_29.toInt := (hrM_25.1.2.1).trans (congrArg Int32.toInt ((cg q_26.2.2.1 1).trans ((cg q_21.2.2.1 1).trans ((cg q_16.2.2.1 1).trans wx_29))))
    refine lv_iconst (v := 1) hx hb dX10_passes_95 (by decide) ?_
    refine lv_isub hx hb dX10_passes_96 ?_
    refine lv_topi (fun x_49 ex_49 => ?_)
    have tx_49 : x_49.toInt = x_29.toInt - 1 := i_sub ex_49 rfl (by decide : (1 : Int32).toInt = 1) (by omega) (by omega)
    refine lv_istore (lv' := [(4, .int x_49), (3, .int x_1), (0, .ref (A 60 0)), (1, .int 1), (2, .int mu)]) hx hb dX10_passes_97 hl (by decide) rfl (fun ls hl => ?_)
    have lk_74 : (tY M_25 60 38 1).toInt = (tY M_10 60 38 1).toInt := by rw [((cg q_26.2.2.1 1).trans ((cg q_21.2.2.1 1).trans (cg q_16.2.2.1 1)))]
    exact hl_99_72 ((x_49.toInt + 1 : Int).toNat + 1) x_49 M_25 g_28 _ _ _ (Nat.lt_succ_self _) (by first | omega | decide) (by first | omega | decide) iM_25 (rq.trans (rq_qw q_26) (rq.trans (rq_qw q_21) (rq.trans (rq_qw q_16) (rq.trans q_11 q_5)))) (mC_qw (qw.trans q_26 (qw.trans q_21 q_16)) q_12) (((q_27).trans ((q_22).trans ((q_17).trans ((q_13).trans q_7))))) (eR.trans erM_25 (eR.trans erM_20 (eR.trans erM_15 (eR.trans erM_10 erM_4)))) hrM_25 (by first | omega | decide) (by have ES : bq_sv tx g_28 = g_28 := (by unfold bq_sv; rw [if_neg (by omega)]); unfold bq_rl; rw [ES]; exact congrArg (fun k => bq_of k g_28) (by omega)) wpg_28 qvM_25 (by first | omega | decide) (by first | omega | decide) (by first | omega | decide) (by first | omega | decide) hw (lv_sub hl [0, 1, 2, 3, 4] rfl)
  · refine lv_aload_n hx hb dX10_passes_45 rfl (lv_at hl 1 rfl) ?_
    refine ti_get (ci := 10) (k := 42) (N := 67) (T := TX10) (v := .ref (A 60 43)) C hw iw_10 rfl ob_60 (by decide) (by decide) fl_X10_93 rfl rfl dX10_passes_46 ?_
    refine lv_bipush (v := 8) hx hb dX10_passes_49 (by decide) ?_
    refine lv_iload_n hx hb dX10_passes_51 rfl (lv_at hl 2 rfl) ?_
    refine lv_imul hx hb dX10_passes_52 ?_
    refine ti_top (y := 8) (by decide) ?_
    refine lv_aload_n hx hb dX10_passes_53 rfl (lv_at hl 1 rfl) ?_
    refine ti_get (ci := 10) (k := 39) (N := 67) (T := TX10) (v := .ref (A 60 40)) C hw iw_10 rfl ob_60 (by decide) (by decide) fl_X10_84 rfl rfl dX10_passes_54 ?_
    refine lv_bipush (v := 8) hx hb dX10_passes_57 (by decide) ?_
    refine lv_iload_n hx hb dX10_passes_59 rfl (lv_at hl 2 rfl) ?_
    refine lv_imul hx hb dX10_passes_60 ?_
    refine ti_top (y := 8) (by decide) ?_
    refine ti_iald (ci := 10) (k := 39) (n := 184) C hw ob_60 (by decide) (fun _ _ => rfl) (by unfold vp_in; decide) dX10_passes_61 ?_
    refine lv_topi (fun x_32 ex_32 => ?_)
    have yx_32 : tY M_25 60 39 8 = x_32 := ((congrArg _ (by decide)).symm.trans ex_32.symm)
    have bx_32 : 0 ≤ x_32.toInt ∧ x_32.toInt ≤ 7 := mI_ry (k := 39) (i := 8) iM_25 yx_32.symm
    have wx_32 : tY M_10 60 39 8 = x_32 := (((cg q_26.2.2.2.1 8).trans ((cg q_21.2.2.2.1 8).trans (cg q_16.2.2.2.1 8)))).symm.trans yx_32
    have L_33 : g_28 96 = x_32.toInt := (hrM_25.2.1 (0) (by omega) (by omega)).trans (congrArg Int32.toInt ((cg q_26.2.2.2.1 8).trans ((cg q_21.2.2.2.1 8).trans ((cg q_16.2.2.2.1 8).trans wx_32))))
    have A5 : 0 ≤ g_28 96 ∧ g_28 96 < tx 4 ∧ g_28 (128 + (g_28 96).toNat) = 1 := wpg_28.2.2.1 0 (by omega)
    have D5 := wpg_28.2.2.2.2.2.2.1 (g_28 96).toNat (by omega) (by omega)
    rw [show g_28 96 = x_32.toInt by omega] at A5 D5
    refine lv_iadd hx hb dX10_passes_62 ?_
    refine lv_topi (fun x_34 ex_34 => ?_)
    have tx_34 : x_34.toInt = 8 + x_32.toInt := i_add ex_34 (by decide : (8 : Int32).toInt = 8) rfl (by omega) (by omega)
    refine ti_iald (ci := 10) (k := 42) (n := 184) C hw ob_60 (by decide) (fun _ _ => rfl) (vp_in_iff.mpr (by omega)) dX10_passes_63 ?_
    refine lv_topi (fun x_35 ex_35 => ?_)
    have yx_35 : tY M_25 60 42 x_34.toNatClampNeg = x_35 := (ex_35.symm)
    have L_36 : g_28 (176 + x_32.toInt.toNat) = x_35.toInt := ((hrM_25.2.2.2.1 (x_32.toInt.toNat) (by omega)).2.2.2.1).trans (rd_k (n := 8 * 1 + x_32.toInt.toNat) (by omega) (yx_35))
    refine lv_aload_n hx hb dX10_passes_64 rfl (lv_at hl 1 rfl) ?_
    refine ti_get (ci := 10) (k := 8) (N := 67) (T := TX10) (v := .ref (A 60 9)) C hw iw_10 rfl ob_60 (by decide) (by decide) fl_X10_28 rfl rfl dX10_passes_65 ?_
    refine lv_aload_n hx hb dX10_passes_68 rfl (lv_at hl 1 rfl) ?_
    refine ti_get (ci := 10) (k := 39) (N := 67) (T := TX10) (v := .ref (A 60 40)) C hw iw_10 rfl ob_60 (by decide) (by decide) fl_X10_84 rfl rfl dX10_passes_69 ?_
    refine lv_bipush (v := 8) hx hb dX10_passes_72 (by decide) ?_
    refine lv_iload_n hx hb dX10_passes_74 rfl (lv_at hl 2 rfl) ?_
    refine lv_imul hx hb dX10_passes_75 ?_
    refine ti_top (y := 8) (by decide) ?_
    refine ti_iald (ci := 10) (k := 39) (n := 184) C hw ob_60 (by decide) (fun _ _ => rfl) (by unfold vp_in; decide) dX10_passes_76 ?_
    refine ti_top (y := x_32) ((congrArg _ (by decide)).trans ((cg q_26.2.2.2.1 8).trans ((cg q_21.2.2.2.1 8).trans ((cg q_16.2.2.2.1 8).trans wx_32)))) ?_
    have L_37 : g_28 96 = x_32.toInt := (hrM_25.2.1 (0) (by omega) (by omega)).trans (congrArg Int32.toInt ((cg q_26.2.2.2.1 8).trans ((cg q_21.2.2.2.1 8).trans ((cg q_16.2.2.2.1 8).trans wx_32))))
    refine ti_iald (ci := 10) (k := 8) (n := 16) C hw ob_60 (by decide) (fun _ _ => rfl) (vp_in_iff.mpr (by omega)) dX10_passes_77 ?_
    refine lv_topi (fun x_38 ex_38 => ?_)
    have yx_38 : tY M_25 60 8 x_32.toNatClampNeg = x_38 := (ex_38.symm)
    have wx_38 : tY M 60 8 x_32.toNatClampNeg = x_38 := (((cg (q_26.1 8 (by decide) (by decide)) x_32.toNatClampNeg).trans ((cg (q_21.1 8 (by decide) (by decide)) x_32.toNatClampNeg).trans ((cg (q_16.1 8 (by decide) (by decide)) x_32.toNatClampNeg).trans ((cg (q_11.1 8 (by decide) (by decide)) x_32.toNatClampNeg).trans (cg (q_5.1 8 (by decide) (by decide)) x_32.toNatClampNeg)))))).symm.trans yx_38
    have L_39 : tx (100 + 16 * x_32.toInt.toNat + 4) = x_38.toInt := (htr.2.2.1 (x_32.toInt.toNat) (by omega) (by omega)).2.2.2.1.trans ((congrArg Int32.toInt (cg (((q_26.1 8 (by decide) (by decide)).trans ((q_21.1 8 (by decide) (by decide)).trans ((q_16.1 8 (by decide) (by decide)).trans ((q_11.1 8 (by decide) (by decide)).trans (q_5.1 8 (by decide) (by decide))))))) (x_32.toInt.toNat))).symm.trans (rd_k (n := x_32.toInt.toNat) (by omega) ((cg (q_26.1 8 (by decide) (by decide)) x_32.toNatClampNeg).trans ((cg (q_21.1 8 (by decide) (by decide)) x_32.toNatClampNeg).trans ((cg (q_16.1 8 (by decide) (by decide)) x_32.toNatClampNeg).trans ((cg (q_11.1 8 (by decide) (by decide)) x_32.toNatClampNeg).trans ((cg (q_5.1 8 (by decide) (by decide)) x_32.toNatClampNeg).trans wx_38)))))))
    refine sb_icmp_ne (tgt := 89) hx hb rfl rfl dX10_passes_78 (by decide) (fun c_78_39 => ?_) (fun c_78_39 => ?_)
    · refine lv_aload_n hx hb dX10_passes_89 rfl (lv_at hl 1 rfl) ?_
      refine ti_get (ci := 10) (k := 38) (N := 67) (T := TX10) (v := .ref (A 60 39)) C hw iw_10 rfl ob_60 (by decide) (by decide) fl_X10_81 rfl rfl dX10_passes_90 ?_
      refine lv_iload_n hx hb dX10_passes_93 rfl (lv_at hl 2 rfl) ?_
      refine ti_iald (ci := 10) (k := 38) (n := 23) C hw ob_60 (by decide) (fun _ _ => rfl) (by unfold vp_in; decide) dX10_passes_94 ?_
      refine ti_top (y := x_29) ((congrArg _ (by decide)).trans ((cg q_26.2.2.1 1).trans ((cg q_21.2.2.1 1).trans ((cg q_16.2.2.1 1).trans wx_29)))) ?_
      have L_50 : g_28 3 = x_29.toInt := (hrM_25.1.2.1).trans (congrArg Int32.toInt ((cg q_26.2.2.1 1).trans ((cg q_21.2.2.1 1).trans ((cg q_16.2.2.1 1).trans wx_29))))
      refine lv_iconst (v := 1) hx hb dX10_passes_95 (by decide) ?_
      refine lv_isub hx hb dX10_passes_96 ?_
      refine lv_topi (fun x_51 ex_51 => ?_)
      have tx_51 : x_51.toInt = x_29.toInt - 1 := i_sub ex_51 rfl (by decide : (1 : Int32).toInt = 1) (by omega) (by omega)
      refine lv_istore (lv' := [(4, .int x_51), (3, .int x_1), (0, .ref (A 60 0)), (1, .int 1), (2, .int mu)]) hx hb dX10_passes_97 hl (by decide) rfl (fun ls hl => ?_)
      have lk_75 : (tY M_25 60 38 1).toInt = (tY M_10 60 38 1).toInt := by rw [((cg q_26.2.2.1 1).trans ((cg q_21.2.2.1 1).trans (cg q_16.2.2.1 1)))]
      exact hl_99_72 ((x_51.toInt + 1 : Int).toNat + 1) x_51 M_25 g_28 _ _ _ (Nat.lt_succ_self _) (by first | omega | decide) (by first | omega | decide) iM_25 (rq.trans (rq_qw q_26) (rq.trans (rq_qw q_21) (rq.trans (rq_qw q_16) (rq.trans q_11 q_5)))) (mC_qw (qw.trans q_26 (qw.trans q_21 q_16)) q_12) (((q_27).trans ((q_22).trans ((q_17).trans ((q_13).trans q_7))))) (eR.trans erM_25 (eR.trans erM_20 (eR.trans erM_15 (eR.trans erM_10 erM_4)))) hrM_25 (by first | omega | decide) (by have ES : bq_sv tx g_28 = g_28 := (by unfold bq_sv; rw [show g_28 96 = x_32.toInt by omega, show tx (100 + 16 * x_32.toInt.toNat + 4) = x_38.toInt by omega]; rw [if_neg (by omega)]); unfold bq_rl; rw [ES]; exact congrArg (fun k => bq_of k g_28) (by omega)) wpg_28 qvM_25 (by first | omega | decide) (by first | omega | decide) (by first | omega | decide) (by first | omega | decide) hw (lv_sub hl [0, 1, 2, 3, 4] rfl)
    · refine lv_aload_n hx hb dX10_passes_81 rfl (lv_at hl 1 rfl) ?_
      refine lv_iload_n hx hb dX10_passes_82 rfl (lv_at hl 2 rfl) ?_
      refine lv_iconst (v := 0) hx hb dX10_passes_83 (by decide) ?_
      refine lv_iconst (v := 2) hx hb dX10_passes_84 (by decide) ?_
      refine lv_iload_n hx hb dX10_passes_85 rfl (lv_at hl 0 rfl) ?_
      have lk_43 : (tY M_25 60 38 1).toInt = (tY M_10 60 38 1).toInt := by rw [((cg q_26.2.2.1 1).trans ((cg q_21.2.2.1 1).trans (cg q_16.2.2.1 1)))]
      refine ti_callVv (ci := 10) (av := [.int 1, .int 0, .int 2, .int x_1]) C hw (z_X10_leaves_1 l D A cy hJ M_25 iM_25 (mC_qw (qw.trans q_26 (qw.trans q_21 q_16)) q_12) 0 2 x_1 (by first | omega | decide | (have l0 : (0 : Int32).toInt = 0 := (by decide); have l2 : (2 : Int32).toInt = 2 := (by decide); have l3 : (3 : Int32).toInt = 3 := (by decide); omega)) (by first | omega | decide | (have l0 : (0 : Int32).toInt = 0 := (by decide); have l2 : (2 : Int32).toInt = 2 := (by decide); have l3 : (3 : Int32).toInt = 3 := (by decide); omega)) (by first | omega | decide | (have l0 : (0 : Int32).toInt = 0 := (by decide); have l2 : (2 : Int32).toInt = 2 := (by decide); have l3 : (3 : Int32).toInt = 3 := (by decide); omega)) tx g_28 (tR_lw htr (eR_lw (q := 1) (eR.trans erM_25 (eR.trans erM_20 (eR.trans erM_15 (eR.trans erM_10 erM_4)))))) ht4 hrM_25 qvM_25 wpg_28 (by omega)) ⟨ml_X10_377, ym_X10_leaves, yv_X10_leaves, yi_X10_leaves, yc_X10_leaves⟩ yd_X10_leaves ob_60 (by decide) rfl rfl hl.1 (Nat.le_of_ble_eq_true rfl) ⟨by decide, by decide⟩ ⟨Nat.zero_le _, Nat.zero_le _⟩ dX10_passes_86 (fun M_42 H locs hp_42 hw => ?_)
      obtain ⟨erM_42, hrM_42, qvM_42, hqM_42⟩ := hp_42
      obtain ⟨iM_42, q_44, q_45, q_46, p0r_41⟩ := hqM_42
      simp only [show (0 : Int32).toInt = 0 by decide] at hrM_42 qvM_42
      simp only [show (2 : Int32).toInt = 2 by decide] at hrM_42 qvM_42
      obtain ⟨g_47, eg_47⟩ : ∃ z : Nat → Int, z = bq_rm g_28 0 2 := ⟨_, rfl⟩
      rw [← eg_47] at hrM_42
      rw [← eg_47] at qvM_42
      have w1g_47 : g_47 1 = g_28 1 := by rw [eg_47]; exact rm_k (by decide)
      have w2g_47 : g_47 2 = g_28 2 := by rw [eg_47]; exact rm_k (by decide)
      have w5g_47 : g_47 5 = g_28 5 := by rw [eg_47]; exact rm_k (by decide)
      have wrg_47 := wF_rm htW wpg_28 (p := 0) (by omega) (ns := 2) (by decide)
      rw [show ((0 : Nat) : Int) = 0 by rfl, ← eg_47] at wrg_47
      have wpg_47 := wrg_47.1
      have wng_47 := wrg_47.2.1
      refine lv_aload_n hx hb dX10_passes_89 rfl (lv_at hl 1 rfl) ?_
      refine ti_get (ci := 10) (k := 38) (N := 67) (T := TX10) (v := .ref (A 60 39)) C hw iw_10 rfl ob_60 (by decide) (by decide) fl_X10_81 rfl rfl dX10_passes_90 ?_
      refine lv_iload_n hx hb dX10_passes_93 rfl (lv_at hl 2 rfl) ?_
      refine ti_iald (ci := 10) (k := 38) (n := 23) C hw ob_60 (by decide) (fun _ _ => rfl) (by unfold vp_in; decide) dX10_passes_94 ?_
      refine lv_topi (fun x_52 ex_52 => ?_)
      have yx_52 : tY M_42 60 38 1 = x_52 := ((congrArg _ (by decide)).symm.trans ex_52.symm)
      have bx_52 : 0 ≤ x_52.toInt ∧ x_52.toInt ≤ 8 := mI_ry (k := 38) (i := 1) iM_42 yx_52.symm
      have zx_52 : (tY M_42 60 38 1).toInt = x_52.toInt := by rw [yx_52]
      have L_53 : g_47 3 = x_52.toInt := (hrM_42.1.2.1).trans (congrArg Int32.toInt (yx_52))
      refine lv_iconst (v := 1) hx hb dX10_passes_95 (by decide) ?_
      refine lv_isub hx hb dX10_passes_96 ?_
      refine lv_topi (fun x_54 ex_54 => ?_)
      have tx_54 : x_54.toInt = x_52.toInt - 1 := i_sub ex_54 rfl (by decide : (1 : Int32).toInt = 1) (by omega) (by omega)
      refine lv_istore (lv' := [(4, .int x_54), (3, .int x_1), (0, .ref (A 60 0)), (1, .int 1), (2, .int mu)]) hx hb dX10_passes_97 hl (by decide) rfl (fun ls hl => ?_)
      exact hl_99_72 ((x_54.toInt + 1 : Int).toNat + 1) x_54 M_42 g_47 _ _ _ (Nat.lt_succ_self _) (by first | omega | decide) (by first | omega | decide) iM_42 (rq.trans q_44 (rq.trans (rq_qw q_26) (rq.trans (rq_qw q_21) (rq.trans (rq_qw q_16) (rq.trans q_11 q_5))))) q_45 (((q_46).trans ((q_27).trans ((q_22).trans ((q_17).trans ((q_13).trans q_7)))))) (eR.trans erM_42 (eR.trans erM_25 (eR.trans erM_20 (eR.trans erM_15 (eR.trans erM_10 erM_4))))) hrM_42 (by first | omega | decide) (by have ES : bq_sv tx g_28 = g_47 := (by unfold bq_sv; rw [show g_28 96 = x_32.toInt by omega, show tx (100 + 16 * x_32.toInt.toNat + 4) = x_38.toInt by omega]; rw [if_pos (by omega), ← eg_47]); unfold bq_rl; rw [ES]; exact congrArg (fun k => bq_of k g_47) (by omega)) wpg_47 qvM_42 (by first | omega | decide) (by first | omega | decide) (by first | omega | decide) (by first | omega | decide) hw (lv_sub hl [0, 1, 2, 3, 4] rfl)
end
section
variable {Tc : gC} {Tm : gM}
variable {Tc : gC} {Tm : gM}
set_option maxHeartbeats 4000000 in
set_option maxRecDepth 100000 in
theorem z_X10_runs (l : Launch) (D : va_G) (A : Nat → Nat → Nat) (cy : Nat → ClassId) (hJ : ti_inj ti_LM A) (M : ti_M) (hI : mI Tm M) (hC : mC M 1) (hL : mL M) (n : Int32) (tx rg : Nat → Int) (htr : tR tx M) (ht4 : 0 ≤ tx 4 ∧ tx 4 ≤ 8) (hr : qR (tx 4).toNat 1 rg M) (hV : qV (tx 4).toNat 1 rg M) (hwf : wF tx rg) (htw : tI M 60 53 = -1) (htW : tW tx) (h1 : rg 1 = 3) (h2 : 0 ≤ rg 2) (hn2 : rg 2 + n.toInt ≤ 2147483647) : ti_Kv l yX10_runs cX10_runs 3 7 ti_LM D A cy M [.ref (A 60 0), .int n] (fun M2 => eR 1 M2 M ∧ qR (tx 4).toNat 1 (bq_pl tx n.toInt.toNat rg) M2 ∧ qV (tx 4).toNat 1 (bq_pl tx n.toInt.toNat rg) M2 ∧ mI Tm M2 ∧ rq 1 M2 M ∧ mC M2 1) := by
  refine ti_eV yp_X10_runs hJ ti_LM_nd (Nat.le_of_ble_eq_true rfl) ?_
  intro p e s m args below meth c Q H0 C hQ hw ls hl
  have hx := C.1
  have hb := C.2.1
  have hl : lv_has ls 3 [(0, .ref (A 60 0)), (1, .int n)] := hl
  have hn := n.toInt_lt
  refine lv_iconst (v := 0) hx hb dX10_runs_0 (by decide) ?_
  refine lv_istore_n (lv' := [(2, .int 0), (0, .ref (A 60 0)), (1, .int n)]) hx hb dX10_runs_1 rfl hl (by decide) rfl (fun ls hl => ?_)
  have hl_2_13 : ∀ (n_14 : Nat) (x_1 : Int32) (M_3 : ti_M) (g_7 : Nat → Int) (H : Heap) (locs : List Loc) (ls : Array Slot), (n.toInt - x_1.toInt : Int).toNat < n_14 → (0 ≤ x_1.toInt) → (mI Tm M_3) → (rq 1 M_3 M) → (mC M_3 1) → (eR 1 M_3 M) → (qR (tx 4).toNat 1 g_7 M_3) → (bq_pl tx (n.toInt - (x_1.toInt)).toNat g_7 = bq_pl tx n.toInt.toNat rg) → (wF tx g_7) → (qV (tx 4).toNat 1 g_7 M_3) → (g_7 1 = 3) → (g_7 2 = rg 2 + x_1.toInt) → ti_H ti_LM D A cy H0 M_3 H locs → lv_has ls 3 [(2, .int x_1), (0, .ref (A 60 0)), (1, .int n)] → W p l e (ti_rm 7) s m args below meth c H locs 0 0 Q (F0 m 2 ls []) := by
    intro n_14
    induction n_14 with
    | zero => intro x_1 M_3 g_7 H locs ls hf_14; exact absurd hf_14 (Nat.not_lt_zero _)
    | succ n_14 ih_14 =>
      intro x_1 M_3 g_7 H locs ls hf_14 b_2 iM_3 f_4 f_5 f_6 hs_8 j_9 j_10 j_11 j_12 j_13 hw hl
      refine lv_iload_n hx hb dX10_runs_2 rfl (lv_at hl 0 rfl) ?_
      refine lv_iload_n hx hb dX10_runs_3 rfl (lv_at hl 2 rfl) ?_
      refine sb_icmp_ge (tgt := 19) hx hb rfl rfl dX10_runs_4 (by decide) (fun c_4_14 => ?_) (fun c_4_14 => ?_)
      · exact hQ _ _ _ _ _ hw (⟨f_6, (by rw [← j_9, show (n.toInt - x_1.toInt).toNat = 0 by omega]; exact hs_8), (by rw [← j_9, show (n.toInt - x_1.toInt).toNat = 0 by omega]; exact j_11), iM_3, f_4, f_5⟩) dX10_runs_19
      · refine lv_aload_n hx hb dX10_runs_7 rfl (lv_at hl 1 rfl) ?_
        refine lv_iconst (v := 1) hx hb dX10_runs_8 (by decide) ?_
        refine lv_iconst (v := 0) hx hb dX10_runs_9 (by decide) ?_
        refine ti_callVv (ci := 10) (av := [.int 1, .int 0]) C hw (z_X10_passes_1 l D A cy hJ M_3 iM_3 f_5 (mL_lw (lk_of f_4.1 f_4.2.1).1 hL) 0 tx g_7 (tR_lw htr (eR_lw (q := 1) f_6)) ht4 hs_8 j_11 j_10 ((f_6.1 53 (by decide)).trans htw) htW (Or.inr (by omega)) ⟨fun _ => by omega, fun _ => by decide⟩ (by omega)) ⟨ml_X10_407, ym_X10_passes, yv_X10_passes, yi_X10_passes, yc_X10_passes⟩ yd_X10_passes ob_60 (by decide) rfl rfl hl.1 (Nat.le_of_ble_eq_true rfl) ⟨by decide, by decide⟩ ⟨Nat.zero_le _, Nat.zero_le _⟩ dX10_runs_10 (fun M_17 H locs hp_17 hw => ?_)
        obtain ⟨erM_17, hrM_17, qvM_17, hqM_17⟩ := hp_17
        obtain ⟨iM_17, q_18, q_19⟩ := hqM_17
        obtain ⟨g_20, eg_20⟩ : ∃ z : Nat → Int, z = bq_ps tx g_7 := ⟨_, rfl⟩
        rw [← eg_20] at hrM_17
        have w1g_20 : g_20 1 = g_7 1 := by rw [eg_20]; exact ps_1
        have w2g_20 : g_20 2 = g_7 2 + 1 := by rw [eg_20, ps_2, bw_id (by omega) (by omega)]
        have wpg_20 : wF tx g_20 := by rw [eg_20]; exact wF_ps htW j_10
        rw [← eg_20] at qvM_17
        obtain ⟨x_21, ex_21⟩ : ∃ z : Int32, z = x_1 + 1 := ⟨_, rfl⟩
        have lox_21 := x_1.le_toInt
        have hix_21 := x_1.toInt_lt
        have tx_21 : x_21.toInt = x_1.toInt + 1 := i_add ex_21 rfl (by decide) (by omega) (by omega)
        refine lv_iinc (v := x_21) (lv' := [(2, .int x_21), (0, .ref (A 60 0)), (1, .int n)]) hx hb dX10_runs_13 hl (k := 0) rfl (by rw [ex_21]; rfl) (by decide) rfl (fun ls hl => ?_)
        refine lv_goto (tgt := 2) hx hb dX10_runs_16 (by decide) ?_
        exact ih_14 x_21 M_17 g_20 _ _ _ (by omega) (by first | omega | decide) iM_17 (rq.trans q_18 f_4) q_19 (eR.trans erM_17 f_6) hrM_17 (by rw [← j_9, pl_go (tx := tx) (s := g_7) (f := (n.toInt - x_1.toInt).toNat) (f' := (n.toInt - x_21.toInt).toNat) (by omega), ← eg_20]) wpg_20 qvM_17 (by first | omega | decide) (by first | omega | decide) hw (lv_sub hl [0, 1, 2] rfl)
  exact hl_2_13 ((n.toInt - 0 : Int).toNat + 1) 0 M rg _ _ _ (Nat.lt_succ_self _) (by have lt0 : (0 : Int32).toInt = 0 := (by decide); first | omega | decide) hI rq.refl hC eR.refl hr (congrArg (fun k => bq_pl tx k rg) (by have z0 : (0 : Int32).toInt = 0 := (by decide); omega)) hwf hV (by have lt0 : (0 : Int32).toInt = 0 := (by decide); first | omega | decide) (by have lt0 : (0 : Int32).toInt = 0 := (by decide); first | omega | decide) hw (lv_sub hl [0, 1, 2] rfl)
end
section
variable {Tc : gC} {Tm : gM}
variable {Tc : gC} {Tm : gM}
/-- what starts lays: the queue's own numbers; the first n men; the first n powers -/
def sd (q : Nat) (tx : Nat → Int) (M : ti_M) : Prop := (tY M 60 34 q).toInt = 0 ∧ (tY M 60 38 q).toInt = 0 ∧ (tY M 60 35 q).toInt = tx 6 ∧ (tY M 60 36 q).toInt = tx 11 ∧ tY M 60 37 q = 0
def sm (q n : Nat) (tx : Nat → Int) (M : ti_M) : Prop := ∀ m : Nat, m < n → (tY M 60 40 (8 * q + m)).toInt = 0 ∧ (tY M 60 44 (8 * q + m)).toInt = tx (100 + 16 * m + 7) ∧ (tY M 60 41 (8 * q + m)).toInt = tx (100 + 16 * m + 3) ∧ (tY M 60 42 (8 * q + m)).toInt = 0 ∧ (tY M 60 43 (8 * q + m)).toInt = tx (100 + 16 * m + 5) ∧ (tY M 60 47 (8 * q + m)).toInt = 0 ∧ (tY M 60 48 (8 * q + m)).toInt = -2
def sp (q n : Nat) (tx : Nat → Int) (M : ti_M) : Prop := ∀ k : Nat, k < n → k < 3 → (tY M 60 49 (3 * q + k)).toInt = tx (32 + k)
theorem sd_k {q : Nat} {tx : Nat → Int} {M N : ti_M} (h : sd q tx M) (a : tY N 60 34 = tY M 60 34) (b : tY N 60 35 = tY M 60 35) (c : tY N 60 36 = tY M 60 36) (d : tY N 60 37 = tY M 60 37) (e : tY N 60 38 = tY M 60 38) : sd q tx N := by
  unfold sd; rw [a, b, c, d, e]; exact h
theorem sm_0 {q : Nat} {tx : Nat → Int} {M : ti_M} : sm q 0 tx M := fun m h => absurd h (Nat.not_lt_zero m)
theorem sp_0 {q : Nat} {tx : Nat → Int} {M : ti_M} : sp q 0 tx M := fun m h => absurd h (Nat.not_lt_zero m)
theorem sm_s {q n i : Nat} {tx : Nat → Int} {M N : ti_M} {a40 a44 a41 a42 a43 a47 a48 : Int32} (h : sm q n tx M) (hi : i = 8 * q + n) (e40 : tY N 60 40 = upd (tY M 60 40) i a40) (e44 : tY N 60 44 = upd (tY M 60 44) i a44) (e41 : tY N 60 41 = upd (tY M 60 41) i a41) (e42 : tY N 60 42 = upd (tY M 60 42) i a42) (e43 : tY N 60 43 = upd (tY M 60 43) i a43) (e47 : tY N 60 47 = upd (tY M 60 47) i a47) (e48 : tY N 60 48 = upd (tY M 60 48) i a48) (v40 : a40.toInt = 0) (v44 : a44.toInt = tx (100 + 16 * n + 7)) (v41 : a41.toInt = tx (100 + 16 * n + 3)) (v42 : a42.toInt = 0) (v43 : a43.toInt = tx (100 + 16 * n + 5)) (v47 : a47.toInt = 0) (v48 : a48.toInt = -2) : sm q (n + 1) tx N := by
  subst hi
  intro m hm
  rw [e40, e44, e41, e42, e43, e47, e48]
  by_cases c : m = n
  · subst c
    rw [pk_us, pk_us, pk_us, pk_us, pk_us, pk_us, pk_us]
    exact ⟨v40, v44, v41, v42, v43, v47, v48⟩
  · rw [pk_un (by omega), pk_un (by omega), pk_un (by omega), pk_un (by omega), pk_un (by omega), pk_un (by omega), pk_un (by omega)]
    exact h m (by omega)
theorem sm_k {q n : Nat} {tx : Nat → Int} {M N : ti_M} (h : sm q n tx M) (e40 : tY N 60 40 = tY M 60 40) (e44 : tY N 60 44 = tY M 60 44) (e41 : tY N 60 41 = tY M 60 41) (e42 : tY N 60 42 = tY M 60 42) (e43 : tY N 60 43 = tY M 60 43) (e47 : tY N 60 47 = tY M 60 47) (e48 : tY N 60 48 = tY M 60 48) : sm q n tx N := by
  intro m hm; rw [e40, e44, e41, e42, e43, e47, e48]; exact h m hm
theorem sp_s {q n i : Nat} {tx : Nat → Int} {M N : ti_M} {a : Int32} (h : sp q n tx M) (hi : i = 3 * q + n) (e : tY N 60 49 = upd (tY M 60 49) i a) (v : a.toInt = tx (32 + n)) : sp q (n + 1) tx N := by
  subst hi
  intro m hm h3
  rw [e]
  by_cases c : m = n
  · subst c; rw [pk_us]; exact v
  · rw [pk_un (by omega)]; exact h m (by omega) h3
section
variable {tx J : Nat → Int} {m : Nat}
theorem s0_2 : bq_s0 tx J 2 = 0 := by unfold bq_s0 bq_fl bq_s1; rw [if_neg (by omega), if_neg (by omega), if_neg (by omega), if_neg (by omega), if_pos (by omega)]
theorem s0_3 : bq_s0 tx J 3 = 0 := by unfold bq_s0 bq_fl bq_s1; rw [if_neg (by omega), if_neg (by omega), if_neg (by omega), if_neg (by omega), if_pos (by omega)]
theorem s0_1 : bq_s0 tx J 1 = 0 := by unfold bq_s0 bq_fl bq_s1; rw [if_neg (by omega), if_neg (by omega), if_neg (by omega), if_neg (by omega), if_pos (by omega)]
theorem s0_4 : bq_s0 tx J 4 = tx 6 := by unfold bq_s0 bq_fl bq_s1; rw [if_neg (by omega), if_neg (by omega), if_neg (by omega), if_neg (by omega), if_neg (by omega), if_pos rfl]
theorem s0_5 : bq_s0 tx J 5 = tx 11 := by unfold bq_s0 bq_fl bq_s1; rw [if_neg (by omega), if_neg (by omega), if_neg (by omega), if_neg (by omega), if_neg (by omega), if_neg (by omega), if_pos rfl]
theorem s0_p (h : m < 3) : bq_s0 tx J (112 + m) = tx (32 + m) := by unfold bq_s0 bq_fl bq_s1; rw [if_neg (by omega), if_neg (by omega), if_neg (by omega), if_neg (by omega), if_neg (by omega), if_neg (by omega), if_neg (by omega), if_pos (by omega), show 112 + m - 112 = m by omega]
theorem s0_128 (h : m < 8) : bq_s0 tx J (128 + m) = 0 := by unfold bq_s0 bq_fl; rw [if_neg (by omega), if_neg (by omega), if_neg (by omega), if_pos (by omega)]
theorem s0_176 (h : m < 8) : bq_s0 tx J (176 + m) = 0 := by unfold bq_s0 bq_fl; rw [if_neg (by omega), if_neg (by omega), if_pos (by omega)]
theorem s0_240 (h : m < 8) : bq_s0 tx J (240 + m) = 0 := by unfold bq_s0 bq_fl; rw [if_neg (by omega), if_pos (by omega)]
theorem s0_256 (h : m < 8) : bq_s0 tx J (256 + m) = 0 := by unfold bq_s0 bq_fl; rw [if_pos (by omega)]
theorem s0_144 (h : m < (tx 4).toNat) (h4 : tx 4 ≤ 8) : bq_s0 tx J (144 + m) = tx (100 + 16 * m + 7) := by
  unfold bq_s0 bq_fl bq_s1; rw [if_neg (by omega), if_neg (by omega), if_neg (by omega), if_neg (by omega), if_neg (by omega), if_neg (by omega), if_neg (by omega), if_neg (by omega), if_pos (by omega), show 144 + m - 144 = m by omega]
theorem s0_160 (h : m < (tx 4).toNat) (h4 : tx 4 ≤ 8) : bq_s0 tx J (160 + m) = tx (100 + 16 * m + 3) := by
  unfold bq_s0 bq_fl bq_s1; rw [if_neg (by omega), if_neg (by omega), if_neg (by omega), if_neg (by omega), if_neg (by omega), if_neg (by omega), if_neg (by omega), if_neg (by omega), if_neg (by omega), if_pos (by omega), show 160 + m - 160 = m by omega]
theorem s0_192 (h : m < (tx 4).toNat) (h4 : tx 4 ≤ 8) : bq_s0 tx J (192 + m) = tx (100 + 16 * m + 5) := by
  unfold bq_s0 bq_fl bq_s1; rw [if_neg (by omega), if_neg (by omega), if_neg (by omega), if_neg (by omega), if_neg (by omega), if_neg (by omega), if_neg (by omega), if_neg (by omega), if_neg (by omega), if_neg (by omega), if_pos (by omega), show 192 + m - 192 = m by omega]
theorem s0_qR {q : Nat} {M : ti_M} (h4 : tx 4 ≤ 8) (a : sd q tx M) (b : sm q (tx 4).toNat tx M) (c : sp q 3 tx M) : qR (tx 4).toNat q (bq_s0 tx J) M ∧ qV (tx 4).toNat q (bq_s0 tx J) M := by
  refine ⟨⟨⟨s0_2.trans a.1.symm, s0_3.trans a.2.1.symm, s0_4.trans a.2.2.1.symm, s0_5.trans a.2.2.2.1.symm⟩, fun p _ h => ?_, fun k hk => (s0_p hk).trans (c k hk hk).symm, fun m hm => ?_, fun m hm => ?_, ?_⟩, fun m hm => ?_⟩
  · rw [s0_3] at h; exact absurd h (by omega)
  · have x := b m hm
    exact ⟨(s0_128 (by omega)).trans x.1.symm, (s0_144 hm h4).trans x.2.1.symm, (s0_160 hm h4).trans x.2.2.1.symm, (s0_176 (by omega)).trans x.2.2.2.1.symm, (s0_192 hm h4).trans x.2.2.2.2.1.symm, (s0_240 (by omega)).trans x.2.2.2.2.2.1.symm⟩
  · rw [s0_128 (by omega)]; exact ⟨fun h => absurd rfl h, fun h => absurd h (by decide)⟩
  · rw [if_pos s0_1]; intro m hm; rw [s0_256 hm, a.2.2.2.2, bt_0]
  · rw [s0_128 (by omega), if_neg (by decide)]; exact (b m hm).2.2.2.2.2.2
end
set_option maxHeartbeats 4000000 in
set_option maxRecDepth 100000 in
theorem z_X10_starts_0 (l : Launch) (D : va_G) (A : Nat → Nat → Nat) (cy : Nat → ClassId) (hJ : ti_inj ti_LM A) (M : ti_M) (hI : mI Tm M)  (tx J : Nat → Int) (htr : tR tx M) (ht4 : 0 ≤ tx 4 ∧ tx 4 ≤ 8) : ti_Kv l yX10_starts cX10_starts 4 0 ti_LM D A cy M [.ref (A 60 0), .int 0] (fun M2 => eR 0 M2 M ∧ qR (tx 4).toNat 0 (bq_s0 tx J) M2 ∧ qV (tx 4).toNat 0 (bq_s0 tx J) M2 ∧ mI Tm M2 ∧ rq 0 M2 M ∧ mC M2 0 ∧ mP M2 0) := by
  refine ti_eV yp_X10_starts hJ ti_LM_nd (Nat.le_of_ble_eq_true rfl) ?_
  intro p e s m args below meth c Q H0 C hQ hw ls hl
  have hx := C.1
  have hb := C.2.1
  have hl : lv_has ls 4 [(0, .ref (A 60 0)), (1, .int 0)] := hl
  refine lv_aload_n hx hb dX10_starts_0 rfl (lv_at hl 0 rfl) ?_
  refine ti_get (ci := 10) (k := 34) (N := 67) (T := TX10) (v := .ref (A 60 35)) C hw iw_10 rfl ob_60 (by decide) (by decide) fl_X10_69 rfl rfl dX10_starts_1 ?_
  refine lv_iload_n hx hb dX10_starts_4 rfl (lv_at hl 1 rfl) ?_
  refine lv_iconst (v := 0) hx hb dX10_starts_5 (by decide) ?_
  refine ti_iast (ci := 10) (k := 34) (n := 23) C hw ob_60 (by decide) (fun _ _ => rfl) (by unfold vp_in; decide) dX10_starts_6 (fun H locs hw => ?_)
  obtain ⟨M_1, hM_1⟩ : ∃ z : ti_M, z = uY M 60 34 (upd (tY M 60 34) (0 : Int32).toNatClampNeg 0) := ⟨_, rfl⟩
  have hw := hw.to hM_1.symm
  have iM_1 : mI Tm M_1 := mI_up (i := 0) hI hM_1 (fun _ => (ib_mk (lo := 0) (hi := 120) (by decide) (by decide)))
  refine lv_aload_n hx hb dX10_starts_7 rfl (lv_at hl 0 rfl) ?_
  refine ti_get (ci := 10) (k := 35) (N := 67) (T := TX10) (v := .ref (A 60 36)) C hw iw_10 rfl ob_60 (by decide) (by decide) fl_X10_72 rfl rfl dX10_starts_8 ?_
  refine lv_iload_n hx hb dX10_starts_11 rfl (lv_at hl 1 rfl) ?_
  refine lv_aload_n hx hb dX10_starts_12 rfl (lv_at hl 0 rfl) ?_
  refine ti_get (ci := 10) (k := 3) (N := 67) (T := TX10) (v := .ref (A 60 4)) C hw iw_10 rfl ob_60 (by decide) (by decide) fl_X10_13 rfl rfl dX10_starts_13 ?_
  refine lv_iconst (v := 1) hx hb dX10_starts_16 (by decide) ?_
  refine ti_iald (ci := 10) (k := 3) (n := 22) C hw ob_60 (by decide) (fun _ _ => rfl) (by unfold vp_in; decide) dX10_starts_17 ?_
  refine lv_topi (fun x_2 ex_2 => ?_)
  have yx_2 : tY M_1 60 3 1 = x_2 := ((congrArg _ (by decide)).symm.trans ex_2.symm)
  have zx_2 : (tY M_1 60 3 1).toInt = x_2.toInt := by rw [yx_2]
  have wx_2 : tY M 60 3 1 = x_2 := ((cg (tY_nE hM_1 (nk (by decide))) 1)).symm.trans yx_2
  have zwx_2 : (tY M 60 3 1).toInt = x_2.toInt := by rw [wx_2]
  have L_3 : tx 6 = x_2.toInt := (htr.1.2.1).trans ((congrArg Int32.toInt (cg ((tY_nE hM_1 (nk (by decide)))) 1)).symm.trans (congrArg Int32.toInt ((cg (tY_nE hM_1 (nk (by decide))) 1).trans wx_2)))
  refine ti_iast (ci := 10) (k := 35) (n := 23) C hw ob_60 (by decide) (fun _ _ => rfl) (by unfold vp_in; decide) dX10_starts_18 (fun H locs hw => ?_)
  obtain ⟨M_4, hM_4⟩ : ∃ z : ti_M, z = uY M_1 60 35 (upd (tY M_1 60 35) (0 : Int32).toNatClampNeg x_2) := ⟨_, rfl⟩
  have hw := hw.to hM_4.symm
  have iM_4 : mI Tm M_4 := mI_up (i := 0) iM_1 hM_4 trivial
  refine lv_aload_n hx hb dX10_starts_19 rfl (lv_at hl 0 rfl) ?_
  refine ti_get (ci := 10) (k := 36) (N := 67) (T := TX10) (v := .ref (A 60 37)) C hw iw_10 rfl ob_60 (by decide) (by decide) fl_X10_75 rfl rfl dX10_starts_20 ?_
  refine lv_iload_n hx hb dX10_starts_23 rfl (lv_at hl 1 rfl) ?_
  refine lv_aload_n hx hb dX10_starts_24 rfl (lv_at hl 0 rfl) ?_
  refine ti_get (ci := 10) (k := 3) (N := 67) (T := TX10) (v := .ref (A 60 4)) C hw iw_10 rfl ob_60 (by decide) (by decide) fl_X10_13 rfl rfl dX10_starts_25 ?_
  refine lv_bipush (v := 6) hx hb dX10_starts_28 (by decide) ?_
  refine ti_iald (ci := 10) (k := 3) (n := 22) C hw ob_60 (by decide) (fun _ _ => rfl) (by unfold vp_in; decide) dX10_starts_30 ?_
  refine lv_topi (fun x_5 ex_5 => ?_)
  have yx_5 : tY M_4 60 3 6 = x_5 := ((congrArg _ (by decide)).symm.trans ex_5.symm)
  have zx_5 : (tY M_4 60 3 6).toInt = x_5.toInt := by rw [yx_5]
  have wx_5 : tY M 60 3 6 = x_5 := (((cg (tY_nE hM_4 (nk (by decide))) 6).trans (cg (tY_nE hM_1 (nk (by decide))) 6))).symm.trans yx_5
  have zwx_5 : (tY M 60 3 6).toInt = x_5.toInt := by rw [wx_5]
  have L_6 : tx 11 = x_5.toInt := (htr.1.2.2.2.2.2.2.1).trans ((congrArg Int32.toInt (cg (((tY_nE hM_4 (nk (by decide))).trans (tY_nE hM_1 (nk (by decide))))) 6)).symm.trans (congrArg Int32.toInt ((cg (tY_nE hM_4 (nk (by decide))) 6).trans ((cg (tY_nE hM_1 (nk (by decide))) 6).trans wx_5))))
  refine ti_iast (ci := 10) (k := 36) (n := 23) C hw ob_60 (by decide) (fun _ _ => rfl) (by unfold vp_in; decide) dX10_starts_31 (fun H locs hw => ?_)
  obtain ⟨M_7, hM_7⟩ : ∃ z : ti_M, z = uY M_4 60 36 (upd (tY M_4 60 36) (0 : Int32).toNatClampNeg x_5) := ⟨_, rfl⟩
  have hw := hw.to hM_7.symm
  have iM_7 : mI Tm M_7 := mI_up (i := 0) iM_4 hM_7 trivial
  refine lv_aload_n hx hb dX10_starts_32 rfl (lv_at hl 0 rfl) ?_
  refine ti_get (ci := 10) (k := 37) (N := 67) (T := TX10) (v := .ref (A 60 38)) C hw iw_10 rfl ob_60 (by decide) (by decide) fl_X10_78 rfl rfl dX10_starts_33 ?_
  refine lv_iload_n hx hb dX10_starts_36 rfl (lv_at hl 1 rfl) ?_
  refine lv_iconst (v := 0) hx hb dX10_starts_37 (by decide) ?_
  refine ti_iast (ci := 10) (k := 37) (n := 23) C hw ob_60 (by decide) (fun _ _ => rfl) (by unfold vp_in; decide) dX10_starts_38 (fun H locs hw => ?_)
  obtain ⟨M_8, hM_8⟩ : ∃ z : ti_M, z = uY M_7 60 37 (upd (tY M_7 60 37) (0 : Int32).toNatClampNeg 0) := ⟨_, rfl⟩
  have hw := hw.to hM_8.symm
  have iM_8 : mI Tm M_8 := mI_up (i := 0) iM_7 hM_8 trivial
  refine lv_aload_n hx hb dX10_starts_39 rfl (lv_at hl 0 rfl) ?_
  refine ti_get (ci := 10) (k := 38) (N := 67) (T := TX10) (v := .ref (A 60 39)) C hw iw_10 rfl ob_60 (by decide) (by decide) fl_X10_81 rfl rfl dX10_starts_40 ?_
  refine lv_iload_n hx hb dX10_starts_43 rfl (lv_at hl 1 rfl) ?_
  refine lv_iconst (v := 0) hx hb dX10_starts_44 (by decide) ?_
  refine ti_iast (ci := 10) (k := 38) (n := 23) C hw ob_60 (by decide) (fun _ _ => rfl) (by unfold vp_in; decide) dX10_starts_45 (fun H locs hw => ?_)
  obtain ⟨M_9, hM_9⟩ : ∃ z : ti_M, z = uY M_8 60 38 (upd (tY M_8 60 38) (0 : Int32).toNatClampNeg 0) := ⟨_, rfl⟩
  have hw := hw.to hM_9.symm
  have iM_9 : mI Tm M_9 := mI_up (i := 0) iM_8 hM_9 (ib_mk (lo := 0) (hi := 8) (by decide) (by decide))
  refine lv_iconst (v := 0) hx hb dX10_starts_46 (by decide) ?_
  refine lv_istore_n (lv' := [(2, .int 0), (0, .ref (A 60 0)), (1, .int 0)]) hx hb dX10_starts_47 rfl hl (by decide) rfl (fun ls hl => ?_)
  have hl_48_19 : ∀ (n_20 : Nat) (x_10 : Int32) (M_13 : ti_M) (H : Heap) (locs : List Loc) (ls : Array Slot), (8 - x_10.toInt : Int).toNat < n_20 → (0 ≤ x_10.toInt) → (x_10.toInt ≤ 8) → (mI Tm M_13) → (lk M_13 M) → (eR 0 M_13 M) → (stq M M_13 0 x_10.toInt) → (sd 0 tx M_13) → (sm 0 (x_10.toInt).toNat tx M_13) → (x_10.toInt ≤ tx 4) → ti_H ti_LM D A cy H0 M_13 H locs → lv_has ls 4 [(2, .int x_10), (0, .ref (A 60 0)), (1, .int 0)] → W p l e (ti_rm 0) s m args below meth c H locs 0 0 Q (F0 m 48 ls []) := by
    intro n_20
    induction n_20 with
    | zero => intro x_10 M_13 H locs ls hf_20; exact absurd hf_20 (Nat.not_lt_zero _)
    | succ n_20 ih_20 =>
      intro x_10 M_13 H locs ls hf_20 b_11 b_12 iM_13 f_14 f_15 j_16 j_17 j_18 j_19 hw hl
      refine lv_iload_n hx hb dX10_starts_48 rfl (lv_at hl 0 rfl) ?_
      refine lv_aload_n hx hb dX10_starts_49 rfl (lv_at hl 1 rfl) ?_
      refine ti_get (ci := 10) (k := 3) (N := 67) (T := TX10) (v := .ref (A 60 4)) C hw iw_10 rfl ob_60 (by decide) (by decide) fl_X10_13 rfl rfl dX10_starts_50 ?_
      refine lv_iconst (v := 0) hx hb dX10_starts_53 (by decide) ?_
      refine ti_iald (ci := 10) (k := 3) (n := 22) C hw ob_60 (by decide) (fun _ _ => rfl) (by unfold vp_in; decide) dX10_starts_54 ?_
      refine lv_topi (fun x_21 ex_21 => ?_)
      have yx_21 : tY M_13 60 3 0 = x_21 := ((congrArg _ (by decide)).symm.trans ex_21.symm)
      have bx_21 : 0 ≤ x_21.toInt ∧ x_21.toInt ≤ 8 := mI_rn (i := 0) iM_13 yx_21.symm (fun _ h => h)
      have zx_21 : (tY M_13 60 3 0).toInt = x_21.toInt := by rw [yx_21]
      have wx_21 : tY M 60 3 0 = x_21 := ((cg (f_14.1 3 (by decide) (by decide)) 0)).symm.trans yx_21
      have zwx_21 : (tY M 60 3 0).toInt = x_21.toInt := by rw [wx_21]
      have L_22 : tx 4 = x_21.toInt := (htr.1.1).trans ((congrArg Int32.toInt (cg ((f_14.1 3 (by decide) (by decide))) 0)).symm.trans (congrArg Int32.toInt ((cg (f_14.1 3 (by decide) (by decide)) 0).trans wx_21)))
      refine sb_icmp_ge (tgt := 150) hx hb rfl rfl dX10_starts_55 (by decide) (fun c_55_22 => ?_) (fun c_55_22 => ?_)
      · refine lv_iconst (v := 0) hx hb dX10_starts_150 (by decide) ?_
        refine lv_istore_n (lv' := [(2, .int 0), (0, .ref (A 60 0)), (1, .int 0)]) hx hb dX10_starts_151 rfl hl (by decide) rfl (fun ls hl => ?_)
        have hl_152_50 : ∀ (n_51 : Nat) (x_41 : Int32) (M_44 : ti_M) (H : Heap) (locs : List Loc) (ls : Array Slot), (3 - x_41.toInt : Int).toNat < n_51 → (0 ≤ x_41.toInt) → (x_41.toInt ≤ 3) → (mI Tm M_44) → (lk M_44 M) → (eR 0 M_44 M) → (stq M M_44 0 (tY M 60 3 0).toInt) → (sd 0 tx M_44) → (sm 0 (tx 4).toNat tx M_44) → (sp 0 (x_41.toInt).toNat tx M_44) → ti_H ti_LM D A cy H0 M_44 H locs → lv_has ls 4 [(2, .int x_41), (0, .ref (A 60 0)), (1, .int 0)] → W p l e (ti_rm 0) s m args below meth c H locs 0 0 Q (F0 m 152 ls []) := by
          intro n_51
          induction n_51 with
          | zero => intro x_41 M_44 H locs ls hf_51; exact absurd hf_51 (Nat.not_lt_zero _)
          | succ n_51 ih_51 =>
            intro x_41 M_44 H locs ls hf_51 b_42 b_43 iM_44 f_45 f_46 j_47 j_48 j_49 j_50 hw hl
            refine lv_iload_n hx hb dX10_starts_152 rfl (lv_at hl 0 rfl) ?_
            refine lv_iconst (v := 3) hx hb dX10_starts_153 (by decide) ?_
            refine sb_icmp_ge (tgt := 182) hx hb rfl (by decide : (3 : Int32).toInt = 3) dX10_starts_154 (by decide) (fun c_154_51 => ?_) (fun c_154_51 => ?_)
            · have jj := q_start hI j_47 f_45
              have SQ_60 := s0_qR (J := J) ht4.2 j_48 j_49 (by have q := j_50; rw [show x_41.toInt.toNat = 3 by omega] at q; exact q)
              exact hQ _ _ _ _ _ hw (⟨f_46, SQ_60.1, SQ_60.2, iM_44, jj.1, jj.2.1, jj.2.2⟩) dX10_starts_182
            · refine lv_aload_n hx hb dX10_starts_157 rfl (lv_at hl 1 rfl) ?_
              refine ti_get (ci := 10) (k := 49) (N := 67) (T := TX10) (v := .ref (A 60 50)) C hw iw_10 rfl ob_60 (by decide) (by decide) fl_X10_114 rfl rfl dX10_starts_158 ?_
              refine lv_iconst (v := 3) hx hb dX10_starts_161 (by decide) ?_
              refine lv_iload_n hx hb dX10_starts_162 rfl (lv_at hl 2 rfl) ?_
              refine lv_imul hx hb dX10_starts_163 ?_
              refine ti_top (y := 0) (by decide) ?_
              refine lv_iload_n hx hb dX10_starts_164 rfl (lv_at hl 0 rfl) ?_
              refine lv_iadd hx hb dX10_starts_165 ?_
              refine lv_topi (fun x_53 ex_53 => ?_)
              have tx_53 : x_53.toInt = 0 + x_41.toInt := i_add ex_53 (by decide : (0 : Int32).toInt = 0) rfl (by omega) (by omega)
              refine lv_aload_n hx hb dX10_starts_166 rfl (lv_at hl 1 rfl) ?_
              refine ti_get (ci := 10) (k := 3) (N := 67) (T := TX10) (v := .ref (A 60 4)) C hw iw_10 rfl ob_60 (by decide) (by decide) fl_X10_13 rfl rfl dX10_starts_167 ?_
              refine lv_bipush (v := 8) hx hb dX10_starts_170 (by decide) ?_
              refine lv_iload_n hx hb dX10_starts_172 rfl (lv_at hl 0 rfl) ?_
              refine lv_iadd hx hb dX10_starts_173 ?_
              refine lv_topi (fun x_54 ex_54 => ?_)
              have tx_54 : x_54.toInt = 8 + x_41.toInt := i_add ex_54 (by decide : (8 : Int32).toInt = 8) rfl (by omega) (by omega)
              refine ti_iald (ci := 10) (k := 3) (n := 22) C hw ob_60 (by decide) (fun _ _ => rfl) (vp_in_iff.mpr (by omega)) dX10_starts_174 ?_
              refine lv_topi (fun x_55 ex_55 => ?_)
              have yx_55 : tY M_44 60 3 x_54.toNatClampNeg = x_55 := (ex_55.symm)
              have bx_55 : 0 ≤ x_55.toInt ∧ x_55.toInt ≤ 7 := mI_rn (i := x_54.toNatClampNeg) iM_44 yx_55.symm (fun _ h => mN_p (by show 8 ≤ (x_54).toInt.toNat; omega) (by show (x_54).toInt.toNat ≤ 10; omega) h)
              have zx_55 : (tY M_44 60 3 x_54.toNatClampNeg).toInt = x_55.toInt := by rw [yx_55]
              have wx_55 : tY M 60 3 x_54.toNatClampNeg = x_55 := ((cg (f_45.1 3 (by decide) (by decide)) x_54.toNatClampNeg)).symm.trans yx_55
              have zwx_55 : (tY M 60 3 x_54.toNatClampNeg).toInt = x_55.toInt := by rw [wx_55]
              have PW_57 : x_55.toInt = tx (32 + x_41.toInt.toNat) := by rw [htr.2.1 x_41.toInt.toNat (by omega), ← zx_55, i_cl (n := 8 + x_41.toInt.toNat) (by omega), ((f_45.1 3 (by decide) (by decide)))]
              refine ti_iast (ci := 10) (k := 49) (n := 69) C hw ob_60 (by decide) (fun _ _ => rfl) (vp_in_iff.mpr (by omega)) dX10_starts_175 (fun H locs hw => ?_)
              obtain ⟨M_58, hM_58⟩ : ∃ z : ti_M, z = uY M_44 60 49 (upd (tY M_44 60 49) (x_53 : Int32).toNatClampNeg x_55) := ⟨_, rfl⟩
              have hw := hw.to hM_58.symm
              have iM_58 : mI Tm M_58 := mI_up (i := x_53.toNatClampNeg) iM_44 hM_58 (ib_mk (lo := 0) (hi := 7) (by omega) (by omega))
              obtain ⟨x_59, ex_59⟩ : ∃ z : Int32, z = x_41 + 1 := ⟨_, rfl⟩
              have tx_59 : x_59.toInt = x_41.toInt + 1 := i_add ex_59 rfl (by decide) (by omega) (by omega)
              refine lv_iinc (v := x_59) (lv' := [(2, .int x_59), (0, .ref (A 60 0)), (1, .int 0)]) hx hb dX10_starts_176 hl (k := 0) rfl (by rw [ex_59]; rfl) (by decide) rfl (fun ls hl => ?_)
              refine lv_goto (tgt := 152) hx hb dX10_starts_179 (by decide) ?_
              exact ih_51 x_59 M_58 _ _ _ (by omega) (by first | omega | decide) (by first | omega | decide) iM_58 (lk.trans (lk_Y hM_58 (by decide)) f_45) (eR.trans (eR_Y hM_58 (bk_p (z := x_53) (by omega))) f_46) (stq_qw j_47 (qw_Y hM_58 (by decide))) (sd_k j_48 ((tY_nE hM_58 (nk (by decide)))) ((tY_nE hM_58 (nk (by decide)))) ((tY_nE hM_58 (nk (by decide)))) ((tY_nE hM_58 (nk (by decide)))) ((tY_nE hM_58 (nk (by decide))))) (sm_k j_49 ((tY_nE hM_58 (nk (by decide)))) ((tY_nE hM_58 (nk (by decide)))) ((tY_nE hM_58 (nk (by decide)))) ((tY_nE hM_58 (nk (by decide)))) ((tY_nE hM_58 (nk (by decide)))) ((tY_nE hM_58 (nk (by decide)))) ((tY_nE hM_58 (nk (by decide))))) (by rw [show x_59.toInt.toNat = x_41.toInt.toNat + 1 by omega]; exact sp_s j_50 (i_cl (by omega)) (tY_uE hM_58) PW_57) hw (lv_sub hl [0, 1, 2] rfl)
        exact hl_152_50 ((3 - 0 : Int).toNat + 1) 0 M_13 _ _ _ (Nat.lt_succ_self _) (by have lt0 : (0 : Int32).toInt = 0 := (by decide); first | omega | decide) (by have lt0 : (0 : Int32).toInt = 0 := (by decide); first | omega | decide) iM_13 f_14 f_15 (stq_le j_16 (by omega)) j_17 (by rw [show (tx 4).toNat = x_10.toInt.toNat by omega]; exact j_18) sp_0 hw (lv_sub hl [0, 1, 2] rfl)
      · refine lv_bipush (v := 8) hx hb dX10_starts_58 (by decide) ?_
        refine lv_iload_n hx hb dX10_starts_60 rfl (lv_at hl 2 rfl) ?_
        refine lv_imul hx hb dX10_starts_61 ?_
        refine ti_top (y := 0) (by decide) ?_
        refine lv_iload_n hx hb dX10_starts_62 rfl (lv_at hl 0 rfl) ?_
        refine lv_iadd hx hb dX10_starts_63 ?_
        refine lv_topi (fun x_24 ex_24 => ?_)
        have tx_24 : x_24.toInt = 0 + x_10.toInt := i_add ex_24 (by decide : (0 : Int32).toInt = 0) rfl (by omega) (by omega)
        refine lv_istore_n (lv' := [(3, .int x_24), (2, .int x_10), (0, .ref (A 60 0)), (1, .int 0)]) hx hb dX10_starts_64 rfl hl (by decide) rfl (fun ls hl => ?_)
        refine lv_aload_n hx hb dX10_starts_65 rfl (lv_at hl 2 rfl) ?_
        refine ti_get (ci := 10) (k := 40) (N := 67) (T := TX10) (v := .ref (A 60 41)) C hw iw_10 rfl ob_60 (by decide) (by decide) fl_X10_87 rfl rfl dX10_starts_66 ?_
        refine lv_iload_n hx hb dX10_starts_69 rfl (lv_at hl 0 rfl) ?_
        refine lv_iconst (v := 0) hx hb dX10_starts_70 (by decide) ?_
        refine ti_iast (ci := 10) (k := 40) (n := 184) C hw ob_60 (by decide) (fun _ _ => rfl) (vp_in_iff.mpr (by omega)) dX10_starts_71 (fun H locs hw => ?_)
        obtain ⟨M_25, hM_25⟩ : ∃ z : ti_M, z = uY M_13 60 40 (upd (tY M_13 60 40) (x_24 : Int32).toNatClampNeg 0) := ⟨_, rfl⟩
        have hw := hw.to hM_25.symm
        have iM_25 : mI Tm M_25 := mI_up (i := x_24.toNatClampNeg) iM_13 hM_25 trivial
        refine lv_aload_n hx hb dX10_starts_72 rfl (lv_at hl 2 rfl) ?_
        refine ti_get (ci := 10) (k := 41) (N := 67) (T := TX10) (v := .ref (A 60 42)) C hw iw_10 rfl ob_60 (by decide) (by decide) fl_X10_90 rfl rfl dX10_starts_73 ?_
        refine lv_iload_n hx hb dX10_starts_76 rfl (lv_at hl 0 rfl) ?_
        refine lv_aload_n hx hb dX10_starts_77 rfl (lv_at hl 2 rfl) ?_
        refine ti_get (ci := 10) (k := 7) (N := 67) (T := TX10) (v := .ref (A 60 8)) C hw iw_10 rfl ob_60 (by decide) (by decide) fl_X10_25 rfl rfl dX10_starts_78 ?_
        refine lv_iload_n hx hb dX10_starts_81 rfl (lv_at hl 1 rfl) ?_
        refine ti_iald (ci := 10) (k := 7) (n := 16) C hw ob_60 (by decide) (fun _ _ => rfl) (vp_in_iff.mpr (by omega)) dX10_starts_82 ?_
        refine lv_topi (fun x_26 ex_26 => ?_)
        have yx_26 : tY M_25 60 7 x_10.toNatClampNeg = x_26 := (ex_26.symm)
        have wx_26 : tY M 60 7 x_10.toNatClampNeg = x_26 := (((cg (tY_nE hM_25 (nk (by decide))) x_10.toNatClampNeg).trans (cg (f_14.1 7 (by decide) (by decide)) x_10.toNatClampNeg))).symm.trans yx_26
        have L_27 : tx (100 + 16 * x_10.toInt.toNat + 3) = x_26.toInt := (htr.2.2.1 (x_10.toInt.toNat) (by omega) (by omega)).2.2.1.trans ((congrArg Int32.toInt (cg (((tY_nE hM_25 (nk (by decide))).trans (f_14.1 7 (by decide) (by decide)))) (x_10.toInt.toNat))).symm.trans (rd_k (n := x_10.toInt.toNat) (by omega) ((cg (tY_nE hM_25 (nk (by decide))) x_10.toNatClampNeg).trans ((cg (f_14.1 7 (by decide) (by decide)) x_10.toNatClampNeg).trans wx_26))))
        refine ti_iast (ci := 10) (k := 41) (n := 184) C hw ob_60 (by decide) (fun _ _ => rfl) (vp_in_iff.mpr (by omega)) dX10_starts_83 (fun H locs hw => ?_)
        obtain ⟨M_28, hM_28⟩ : ∃ z : ti_M, z = uY M_25 60 41 (upd (tY M_25 60 41) (x_24 : Int32).toNatClampNeg x_26) := ⟨_, rfl⟩
        have hw := hw.to hM_28.symm
        have iM_28 : mI Tm M_28 := mI_up (i := x_24.toNatClampNeg) iM_25 hM_28 trivial
        refine lv_aload_n hx hb dX10_starts_84 rfl (lv_at hl 2 rfl) ?_
        refine ti_get (ci := 10) (k := 42) (N := 67) (T := TX10) (v := .ref (A 60 43)) C hw iw_10 rfl ob_60 (by decide) (by decide) fl_X10_93 rfl rfl dX10_starts_85 ?_
        refine lv_iload_n hx hb dX10_starts_88 rfl (lv_at hl 0 rfl) ?_
        refine lv_iconst (v := 0) hx hb dX10_starts_89 (by decide) ?_
        refine ti_iast (ci := 10) (k := 42) (n := 184) C hw ob_60 (by decide) (fun _ _ => rfl) (vp_in_iff.mpr (by omega)) dX10_starts_90 (fun H locs hw => ?_)
        obtain ⟨M_29, hM_29⟩ : ∃ z : ti_M, z = uY M_28 60 42 (upd (tY M_28 60 42) (x_24 : Int32).toNatClampNeg 0) := ⟨_, rfl⟩
        have hw := hw.to hM_29.symm
        have iM_29 : mI Tm M_29 := mI_up (i := x_24.toNatClampNeg) iM_28 hM_29 trivial
        refine lv_aload_n hx hb dX10_starts_91 rfl (lv_at hl 2 rfl) ?_
        refine ti_get (ci := 10) (k := 43) (N := 67) (T := TX10) (v := .ref (A 60 44)) C hw iw_10 rfl ob_60 (by decide) (by decide) fl_X10_96 rfl rfl dX10_starts_92 ?_
        refine lv_iload_n hx hb dX10_starts_95 rfl (lv_at hl 0 rfl) ?_
        refine lv_aload_n hx hb dX10_starts_96 rfl (lv_at hl 2 rfl) ?_
        refine ti_get (ci := 10) (k := 9) (N := 67) (T := TX10) (v := .ref (A 60 10)) C hw iw_10 rfl ob_60 (by decide) (by decide) fl_X10_31 rfl rfl dX10_starts_97 ?_
        refine lv_iload_n hx hb dX10_starts_100 rfl (lv_at hl 1 rfl) ?_
        refine ti_iald (ci := 10) (k := 9) (n := 16) C hw ob_60 (by decide) (fun _ _ => rfl) (vp_in_iff.mpr (by omega)) dX10_starts_101 ?_
        refine lv_topi (fun x_30 ex_30 => ?_)
        have yx_30 : tY M_29 60 9 x_10.toNatClampNeg = x_30 := (ex_30.symm)
        have wx_30 : tY M 60 9 x_10.toNatClampNeg = x_30 := (((cg (tY_nE hM_29 (nk (by decide))) x_10.toNatClampNeg).trans ((cg (tY_nE hM_28 (nk (by decide))) x_10.toNatClampNeg).trans ((cg (tY_nE hM_25 (nk (by decide))) x_10.toNatClampNeg).trans (cg (f_14.1 9 (by decide) (by decide)) x_10.toNatClampNeg))))).symm.trans yx_30
        have L_31 : tx (100 + 16 * x_10.toInt.toNat + 5) = x_30.toInt := (htr.2.2.1 (x_10.toInt.toNat) (by omega) (by omega)).2.2.2.2.1.trans ((congrArg Int32.toInt (cg (((tY_nE hM_29 (nk (by decide))).trans ((tY_nE hM_28 (nk (by decide))).trans ((tY_nE hM_25 (nk (by decide))).trans (f_14.1 9 (by decide) (by decide)))))) (x_10.toInt.toNat))).symm.trans (rd_k (n := x_10.toInt.toNat) (by omega) ((cg (tY_nE hM_29 (nk (by decide))) x_10.toNatClampNeg).trans ((cg (tY_nE hM_28 (nk (by decide))) x_10.toNatClampNeg).trans ((cg (tY_nE hM_25 (nk (by decide))) x_10.toNatClampNeg).trans ((cg (f_14.1 9 (by decide) (by decide)) x_10.toNatClampNeg).trans wx_30))))))
        refine ti_iast (ci := 10) (k := 43) (n := 184) C hw ob_60 (by decide) (fun _ _ => rfl) (vp_in_iff.mpr (by omega)) dX10_starts_102 (fun H locs hw => ?_)
        obtain ⟨M_32, hM_32⟩ : ∃ z : ti_M, z = uY M_29 60 43 (upd (tY M_29 60 43) (x_24 : Int32).toNatClampNeg x_30) := ⟨_, rfl⟩
        have hw := hw.to hM_32.symm
        have iM_32 : mI Tm M_32 := mI_up (i := x_24.toNatClampNeg) iM_29 hM_32 trivial
        refine lv_aload_n hx hb dX10_starts_103 rfl (lv_at hl 2 rfl) ?_
        refine ti_get (ci := 10) (k := 44) (N := 67) (T := TX10) (v := .ref (A 60 45)) C hw iw_10 rfl ob_60 (by decide) (by decide) fl_X10_99 rfl rfl dX10_starts_104 ?_
        refine lv_iload_n hx hb dX10_starts_107 rfl (lv_at hl 0 rfl) ?_
        refine lv_aload_n hx hb dX10_starts_108 rfl (lv_at hl 2 rfl) ?_
        refine ti_get (ci := 10) (k := 11) (N := 67) (T := TX10) (v := .ref (A 60 12)) C hw iw_10 rfl ob_60 (by decide) (by decide) fl_X10_37 rfl rfl dX10_starts_109 ?_
        refine lv_iload_n hx hb dX10_starts_112 rfl (lv_at hl 1 rfl) ?_
        refine ti_iald (ci := 10) (k := 11) (n := 16) C hw ob_60 (by decide) (fun _ _ => rfl) (vp_in_iff.mpr (by omega)) dX10_starts_113 ?_
        refine lv_topi (fun x_33 ex_33 => ?_)
        have yx_33 : tY M_32 60 11 x_10.toNatClampNeg = x_33 := (ex_33.symm)
        have wx_33 : tY M 60 11 x_10.toNatClampNeg = x_33 := (((cg (tY_nE hM_32 (nk (by decide))) x_10.toNatClampNeg).trans ((cg (tY_nE hM_29 (nk (by decide))) x_10.toNatClampNeg).trans ((cg (tY_nE hM_28 (nk (by decide))) x_10.toNatClampNeg).trans ((cg (tY_nE hM_25 (nk (by decide))) x_10.toNatClampNeg).trans (cg (f_14.1 11 (by decide) (by decide)) x_10.toNatClampNeg)))))).symm.trans yx_33
        have L_34 : tx (100 + 16 * x_10.toInt.toNat + 7) = x_33.toInt := (htr.2.2.1 (x_10.toInt.toNat) (by omega) (by omega)).2.2.2.2.2.2.1.trans ((congrArg Int32.toInt (cg (((tY_nE hM_32 (nk (by decide))).trans ((tY_nE hM_29 (nk (by decide))).trans ((tY_nE hM_28 (nk (by decide))).trans ((tY_nE hM_25 (nk (by decide))).trans (f_14.1 11 (by decide) (by decide))))))) (x_10.toInt.toNat))).symm.trans (rd_k (n := x_10.toInt.toNat) (by omega) ((cg (tY_nE hM_32 (nk (by decide))) x_10.toNatClampNeg).trans ((cg (tY_nE hM_29 (nk (by decide))) x_10.toNatClampNeg).trans ((cg (tY_nE hM_28 (nk (by decide))) x_10.toNatClampNeg).trans ((cg (tY_nE hM_25 (nk (by decide))) x_10.toNatClampNeg).trans ((cg (f_14.1 11 (by decide) (by decide)) x_10.toNatClampNeg).trans wx_33)))))))
        refine ti_iast (ci := 10) (k := 44) (n := 184) C hw ob_60 (by decide) (fun _ _ => rfl) (vp_in_iff.mpr (by omega)) dX10_starts_114 (fun H locs hw => ?_)
        obtain ⟨M_35, hM_35⟩ : ∃ z : ti_M, z = uY M_32 60 44 (upd (tY M_32 60 44) (x_24 : Int32).toNatClampNeg x_33) := ⟨_, rfl⟩
        have hw := hw.to hM_35.symm
        have iM_35 : mI Tm M_35 := mI_up (i := x_24.toNatClampNeg) iM_32 hM_35 trivial
        refine lv_aload_n hx hb dX10_starts_115 rfl (lv_at hl 2 rfl) ?_
        refine ti_get (ci := 10) (k := 45) (N := 67) (T := TX10) (v := .ref (A 60 46)) C hw iw_10 rfl ob_60 (by decide) (by decide) fl_X10_102 rfl rfl dX10_starts_116 ?_
        refine lv_iload_n hx hb dX10_starts_119 rfl (lv_at hl 0 rfl) ?_
        refine lv_iconst (v := 0) hx hb dX10_starts_120 (by decide) ?_
        refine ti_iast (ci := 10) (k := 45) (n := 184) C hw ob_60 (by decide) (fun _ _ => rfl) (vp_in_iff.mpr (by omega)) dX10_starts_121 (fun H locs hw => ?_)
        obtain ⟨M_36, hM_36⟩ : ∃ z : ti_M, z = uY M_35 60 45 (upd (tY M_35 60 45) (x_24 : Int32).toNatClampNeg 0) := ⟨_, rfl⟩
        have hw := hw.to hM_36.symm
        have iM_36 : mI Tm M_36 := mI_up (i := x_24.toNatClampNeg) iM_35 hM_36 trivial
        refine lv_aload_n hx hb dX10_starts_122 rfl (lv_at hl 2 rfl) ?_
        refine ti_get (ci := 10) (k := 46) (N := 67) (T := TX10) (v := .ref (A 60 47)) C hw iw_10 rfl ob_60 (by decide) (by decide) fl_X10_105 rfl rfl dX10_starts_123 ?_
        refine lv_iload_n hx hb dX10_starts_126 rfl (lv_at hl 0 rfl) ?_
        refine lv_iconst (v := 0) hx hb dX10_starts_127 (by decide) ?_
        refine ti_iast (ci := 10) (k := 46) (n := 184) C hw ob_60 (by decide) (fun _ _ => rfl) (vp_in_iff.mpr (by omega)) dX10_starts_128 (fun H locs hw => ?_)
        obtain ⟨M_37, hM_37⟩ : ∃ z : ti_M, z = uY M_36 60 46 (upd (tY M_36 60 46) (x_24 : Int32).toNatClampNeg 0) := ⟨_, rfl⟩
        have hw := hw.to hM_37.symm
        have iM_37 : mI Tm M_37 := mI_up (i := x_24.toNatClampNeg) iM_36 hM_37 trivial
        refine lv_aload_n hx hb dX10_starts_129 rfl (lv_at hl 2 rfl) ?_
        refine ti_get (ci := 10) (k := 47) (N := 67) (T := TX10) (v := .ref (A 60 48)) C hw iw_10 rfl ob_60 (by decide) (by decide) fl_X10_108 rfl rfl dX10_starts_130 ?_
        refine lv_iload_n hx hb dX10_starts_133 rfl (lv_at hl 0 rfl) ?_
        refine lv_iconst (v := 0) hx hb dX10_starts_134 (by decide) ?_
        refine ti_iast (ci := 10) (k := 47) (n := 184) C hw ob_60 (by decide) (fun _ _ => rfl) (vp_in_iff.mpr (by omega)) dX10_starts_135 (fun H locs hw => ?_)
        obtain ⟨M_38, hM_38⟩ : ∃ z : ti_M, z = uY M_37 60 47 (upd (tY M_37 60 47) (x_24 : Int32).toNatClampNeg 0) := ⟨_, rfl⟩
        have hw := hw.to hM_38.symm
        have iM_38 : mI Tm M_38 := mI_up (i := x_24.toNatClampNeg) iM_37 hM_38 trivial
        refine lv_aload_n hx hb dX10_starts_136 rfl (lv_at hl 2 rfl) ?_
        refine ti_get (ci := 10) (k := 48) (N := 67) (T := TX10) (v := .ref (A 60 49)) C hw iw_10 rfl ob_60 (by decide) (by decide) fl_X10_111 rfl rfl dX10_starts_137 ?_
        refine lv_iload_n hx hb dX10_starts_140 rfl (lv_at hl 0 rfl) ?_
        refine lv_bipush (v := (-2)) hx hb dX10_starts_141 (by decide) ?_
        refine ti_iast (ci := 10) (k := 48) (n := 184) C hw ob_60 (by decide) (fun _ _ => rfl) (vp_in_iff.mpr (by omega)) dX10_starts_143 (fun H locs hw => ?_)
        obtain ⟨M_39, hM_39⟩ : ∃ z : ti_M, z = uY M_38 60 48 (upd (tY M_38 60 48) (x_24 : Int32).toNatClampNeg (-2)) := ⟨_, rfl⟩
        have hw := hw.to hM_39.symm
        have iM_39 : mI Tm M_39 := mI_up (i := x_24.toNatClampNeg) iM_38 hM_39 trivial
        obtain ⟨x_40, ex_40⟩ : ∃ z : Int32, z = x_10 + 1 := ⟨_, rfl⟩
        have tx_40 : x_40.toInt = x_10.toInt + 1 := i_add ex_40 rfl (by decide) (by omega) (by omega)
        refine lv_iinc (v := x_40) (lv' := [(2, .int x_40), (3, .int x_24), (0, .ref (A 60 0)), (1, .int 0)]) hx hb dX10_starts_144 hl (k := 1) rfl (by rw [ex_40]; rfl) (by decide) rfl (fun ls hl => ?_)
        refine lv_goto (tgt := 48) hx hb dX10_starts_147 (by decide) ?_
        exact ih_20 x_40 M_39 _ _ _ (by omega) (by first | omega | decide) (by first | omega | decide) iM_39 (lk.trans (lk_Y hM_39 (by decide)) (lk.trans (lk_Y hM_38 (by decide)) (lk.trans (lk_Y hM_37 (by decide)) (lk.trans (lk_Y hM_36 (by decide)) (lk.trans (lk_Y hM_35 (by decide)) (lk.trans (lk_Y hM_32 (by decide)) (lk.trans (lk_Y hM_29 (by decide)) (lk.trans (lk_Y hM_28 (by decide)) (lk.trans (lk_Y hM_25 (by decide)) f_14))))))))) (eR.trans (eR_Y hM_39 (bk_m (z := x_24) (by omega) (by decide))) (eR.trans (eR_Y hM_38 (bk_m (z := x_24) (by omega) (by decide))) (eR.trans (eR_Y hM_37 (bk_m (z := x_24) (by omega) (by decide))) (eR.trans (eR_Y hM_36 (bk_m (z := x_24) (by omega) (by decide))) (eR.trans (eR_Y hM_35 (bk_m (z := x_24) (by omega) (by decide))) (eR.trans (eR_Y hM_32 (bk_m (z := x_24) (by omega) (by decide))) (eR.trans (eR_Y hM_29 (bk_m (z := x_24) (by omega) (by decide))) (eR.trans (eR_Y hM_28 (bk_m (z := x_24) (by omega) (by decide))) (eR.trans (eR_Y hM_25 (bk_m (z := x_24) (by omega) (by decide))) f_15))))))))) (stq_s j_16 hM_25 (qw.trans (qw_Y hM_39 (by decide)) (qw.trans (qw_Y hM_38 (by decide)) (qw.trans (qw_Y hM_37 (by decide)) (qw.trans (qw_Y hM_36 (by decide)) (qw.trans (qw_Y hM_35 (by decide)) (qw.trans (qw_Y hM_32 (by decide)) (qw.trans (qw_Y hM_29 (by decide)) (qw_Y hM_28 (by decide))))))))) (by show ((x_24.toInt.toNat : Nat) : Int) = _; omega) (by omega) (by omega) (by omega)) (sd_k j_17 (((tY_nE hM_39 (nk (by decide))).trans ((tY_nE hM_38 (nk (by decide))).trans ((tY_nE hM_37 (nk (by decide))).trans ((tY_nE hM_36 (nk (by decide))).trans ((tY_nE hM_35 (nk (by decide))).trans ((tY_nE hM_32 (nk (by decide))).trans ((tY_nE hM_29 (nk (by decide))).trans ((tY_nE hM_28 (nk (by decide))).trans (tY_nE hM_25 (nk (by decide)))))))))))) (((tY_nE hM_39 (nk (by decide))).trans ((tY_nE hM_38 (nk (by decide))).trans ((tY_nE hM_37 (nk (by decide))).trans ((tY_nE hM_36 (nk (by decide))).trans ((tY_nE hM_35 (nk (by decide))).trans ((tY_nE hM_32 (nk (by decide))).trans ((tY_nE hM_29 (nk (by decide))).trans ((tY_nE hM_28 (nk (by decide))).trans (tY_nE hM_25 (nk (by decide)))))))))))) (((tY_nE hM_39 (nk (by decide))).trans ((tY_nE hM_38 (nk (by decide))).trans ((tY_nE hM_37 (nk (by decide))).trans ((tY_nE hM_36 (nk (by decide))).trans ((tY_nE hM_35 (nk (by decide))).trans ((tY_nE hM_32 (nk (by decide))).trans ((tY_nE hM_29 (nk (by decide))).trans ((tY_nE hM_28 (nk (by decide))).trans (tY_nE hM_25 (nk (by decide)))))))))))) (((tY_nE hM_39 (nk (by decide))).trans ((tY_nE hM_38 (nk (by decide))).trans ((tY_nE hM_37 (nk (by decide))).trans ((tY_nE hM_36 (nk (by decide))).trans ((tY_nE hM_35 (nk (by decide))).trans ((tY_nE hM_32 (nk (by decide))).trans ((tY_nE hM_29 (nk (by decide))).trans ((tY_nE hM_28 (nk (by decide))).trans (tY_nE hM_25 (nk (by decide)))))))))))) (((tY_nE hM_39 (nk (by decide))).trans ((tY_nE hM_38 (nk (by decide))).trans ((tY_nE hM_37 (nk (by decide))).trans ((tY_nE hM_36 (nk (by decide))).trans ((tY_nE hM_35 (nk (by decide))).trans ((tY_nE hM_32 (nk (by decide))).trans ((tY_nE hM_29 (nk (by decide))).trans ((tY_nE hM_28 (nk (by decide))).trans (tY_nE hM_25 (nk (by decide))))))))))))) (by rw [show x_40.toInt.toNat = x_10.toInt.toNat + 1 by omega]; exact sm_s j_18 (i_cl (by omega)) ((((tY_nE hM_39 (nk (by decide))).trans ((tY_nE hM_38 (nk (by decide))).trans ((tY_nE hM_37 (nk (by decide))).trans ((tY_nE hM_36 (nk (by decide))).trans ((tY_nE hM_35 (nk (by decide))).trans ((tY_nE hM_32 (nk (by decide))).trans ((tY_nE hM_29 (nk (by decide))).trans (tY_nE hM_28 (nk (by decide))))))))))).trans (tY_uE hM_25)) ((((tY_nE hM_39 (nk (by decide))).trans ((tY_nE hM_38 (nk (by decide))).trans ((tY_nE hM_37 (nk (by decide))).trans (tY_nE hM_36 (nk (by decide))))))).trans ((tY_uE hM_35).trans (congrArg (fun z => upd z _ _) (((tY_nE hM_32 (nk (by decide))).trans ((tY_nE hM_29 (nk (by decide))).trans ((tY_nE hM_28 (nk (by decide))).trans (tY_nE hM_25 (nk (by decide)))))))))) ((((tY_nE hM_39 (nk (by decide))).trans ((tY_nE hM_38 (nk (by decide))).trans ((tY_nE hM_37 (nk (by decide))).trans ((tY_nE hM_36 (nk (by decide))).trans ((tY_nE hM_35 (nk (by decide))).trans ((tY_nE hM_32 (nk (by decide))).trans (tY_nE hM_29 (nk (by decide)))))))))).trans ((tY_uE hM_28).trans (congrArg (fun z => upd z _ _) ((tY_nE hM_25 (nk (by decide))))))) ((((tY_nE hM_39 (nk (by decide))).trans ((tY_nE hM_38 (nk (by decide))).trans ((tY_nE hM_37 (nk (by decide))).trans ((tY_nE hM_36 (nk (by decide))).trans ((tY_nE hM_35 (nk (by decide))).trans (tY_nE hM_32 (nk (by decide))))))))).trans ((tY_uE hM_29).trans (congrArg (fun z => upd z _ _) (((tY_nE hM_28 (nk (by decide))).trans (tY_nE hM_25 (nk (by decide)))))))) ((((tY_nE hM_39 (nk (by decide))).trans ((tY_nE hM_38 (nk (by decide))).trans ((tY_nE hM_37 (nk (by decide))).trans ((tY_nE hM_36 (nk (by decide))).trans (tY_nE hM_35 (nk (by decide)))))))).trans ((tY_uE hM_32).trans (congrArg (fun z => upd z _ _) (((tY_nE hM_29 (nk (by decide))).trans ((tY_nE hM_28 (nk (by decide))).trans (tY_nE hM_25 (nk (by decide))))))))) (((tY_nE hM_39 (nk (by decide)))).trans ((tY_uE hM_38).trans (congrArg (fun z => upd z _ _) (((tY_nE hM_37 (nk (by decide))).trans ((tY_nE hM_36 (nk (by decide))).trans ((tY_nE hM_35 (nk (by decide))).trans ((tY_nE hM_32 (nk (by decide))).trans ((tY_nE hM_29 (nk (by decide))).trans ((tY_nE hM_28 (nk (by decide))).trans (tY_nE hM_25 (nk (by decide))))))))))))) ((tY_uE hM_39).trans (congrArg (fun z => upd z _ _) (((tY_nE hM_38 (nk (by decide))).trans ((tY_nE hM_37 (nk (by decide))).trans ((tY_nE hM_36 (nk (by decide))).trans ((tY_nE hM_35 (nk (by decide))).trans ((tY_nE hM_32 (nk (by decide))).trans ((tY_nE hM_29 (nk (by decide))).trans ((tY_nE hM_28 (nk (by decide))).trans (tY_nE hM_25 (nk (by decide))))))))))))) (by decide) L_34.symm L_27.symm (by decide) L_31.symm (by decide) (by decide)) (by first | omega | decide) hw (lv_sub hl [0, 2, 3] rfl)
  exact hl_48_19 ((8 - 0 : Int).toNat + 1) 0 M_9 _ _ _ (Nat.lt_succ_self _) (by have lt0 : (0 : Int32).toInt = 0 := (by decide); first | omega | decide) (by have lt0 : (0 : Int32).toInt = 0 := (by decide); first | omega | decide) iM_9 (lk.trans (lk_Y hM_9 (by decide)) (lk.trans (lk_Y hM_8 (by decide)) (lk.trans (lk_Y hM_7 (by decide)) (lk.trans (lk_Y hM_4 (by decide)) (lk_Y hM_1 (by decide)))))) (eR.trans (eR_Y hM_9 (bk_q (z := 0) (by decide) (by decide))) (eR.trans (eR_Y hM_8 (bk_q (z := 0) (by decide) (by decide))) (eR.trans (eR_Y hM_7 (bk_q (z := 0) (by decide) (by decide))) (eR.trans (eR_Y hM_4 (bk_q (z := 0) (by decide) (by decide))) (eR_Y hM_1 (bk_q (z := 0) (by decide) (by decide))))))) (stq_0 (qw.trans (qw_Y hM_8 (by decide)) (qw.trans (qw_Y hM_7 (by decide)) (qw.trans (qw_Y hM_4 (by decide)) (qw_Y hM_1 (by decide))))) hM_9 (by decide)) ⟨((congrArg Int32.toInt (((cg (((tY_nE hM_9 (nk (by decide))).trans ((tY_nE hM_8 (nk (by decide))).trans ((tY_nE hM_7 (nk (by decide))).trans (tY_nE hM_4 (nk (by decide))))))) 0).trans (cg (tY_uE hM_1) 0)).trans (upl (by decide)))).trans (by decide)), ((congrArg Int32.toInt (((cg (tY_uE hM_9) 0)).trans (upl (by decide)))).trans (by decide)), ((congrArg Int32.toInt (((cg (((tY_nE hM_9 (nk (by decide))).trans ((tY_nE hM_8 (nk (by decide))).trans (tY_nE hM_7 (nk (by decide)))))) 0).trans (cg (tY_uE hM_4) 0)).trans (upl (by decide)))).trans L_3.symm), ((congrArg Int32.toInt (((cg (((tY_nE hM_9 (nk (by decide))).trans (tY_nE hM_8 (nk (by decide))))) 0).trans (cg (tY_uE hM_7) 0)).trans (upl (by decide)))).trans L_6.symm), (((cg ((tY_nE hM_9 (nk (by decide)))) 0).trans (cg (tY_uE hM_8) 0)).trans (upl (by decide)))⟩ sm_0 (by have lt0 : (0 : Int32).toInt = 0 := (by decide); first | omega | decide) hw (lv_sub hl [0, 1, 2] rfl)
end
section
variable {Tc : gC} {Tm : gM}
variable {Tc : gC} {Tm : gM}
/-- the queue t is as the queue a was -/
def cxh (t a : Nat) (N M : ti_M) : Prop := tY N 60 34 t = tY M 60 34 a ∧ tY N 60 35 t = tY M 60 35 a ∧ tY N 60 36 t = tY M 60 36 a ∧ tY N 60 37 t = tY M 60 37 a ∧ tY N 60 38 t = tY M 60 38 a
def cxm (t a n : Nat) (N M : ti_M) : Prop := ∀ k : Nat, 39 ≤ k → k ≤ 48 → ∀ i : Nat, i < n → tY N 60 k (8 * t + i) = tY M 60 k (8 * a + i)
def cxp (t a n : Nat) (N M : ti_M) : Prop := ∀ i : Nat, i < n → i < 3 → tY N 60 49 (3 * t + i) = tY M 60 49 (3 * a + i)
def cx (t a : Nat) (N M : ti_M) : Prop := cxh t a N M ∧ cxm t a 8 N M ∧ cxp t a 3 N M
theorem cxm_0 {t a : Nat} {N M : ti_M} : cxm t a 0 N M := fun _ _ _ i h => absurd h (Nat.not_lt_zero i)
theorem cxp_0 {t a : Nat} {N M : ti_M} : cxp t a 0 N M := fun i h => absurd h (Nat.not_lt_zero i)
theorem cxh_k {t a : Nat} {G N M : ti_M} (h : cxh t a G M) (e : ∀ k : Nat, 34 ≤ k → k ≤ 38 → tY N 60 k = tY G 60 k) : cxh t a N M := by
  unfold cxh; rw [e 34 (by decide) (by decide), e 35 (by decide) (by decide), e 36 (by decide) (by decide), e 37 (by decide) (by decide), e 38 (by decide) (by decide)]; exact h
theorem cxm_k {t a n : Nat} {G N M : ti_M} (h : cxm t a n G M) (e : ∀ k : Nat, 39 ≤ k → k ≤ 48 → tY N 60 k = tY G 60 k) : cxm t a n N M := fun k h1 h2 i hi => by rw [e k h1 h2]; exact h k h1 h2 i hi
theorem cx_h1 {t a i j k : Nat} {N M P : ti_M} {v : Int32} (e : tY N 60 k = upd (tY M 60 k) i v) (y : tY P 60 k j = v) (p : tY P 60 k = tY M 60 k) (hi : i = t) (hj : j = a) : tY N 60 k t = tY M 60 k a := by
  subst hi hj; rw [e, pk_us, ← y, p]
theorem cx_row {G N M P : ti_M} {k t a n i j : Nat} {v : Int32} (hk : 39 ≤ k ∧ k ≤ 48) (h : cxm t a n G M) (er : eR t G M) (hne : t ≠ a) (hn : n < 8) (hi : i = 8 * t + n) (hj : j = 8 * a + n) (e : tY N 60 k = upd (tY G 60 k) i v) (y : tY P 60 k j = v) (p : tY P 60 k = tY G 60 k) : ∀ i2 : Nat, i2 < n + 1 → tY N 60 k (8 * t + i2) = tY M 60 k (8 * a + i2) := by
  subst hi hj
  intro i2 h2
  rw [e]
  by_cases c : i2 = n
  · subst c
    rw [pk_us, ← y, p]
    refine er.2 k _ (fun b => ?_)
    have b2 := b.2.2
    rw [if_neg (by omega), if_pos (by omega)] at b2
    omega
  · rw [pk_un (by omega)]; exact h k hk.1 hk.2 i2 (by omega)
theorem cxm_s {t a n : Nat} {N M : ti_M} (r39 : ∀ i2 : Nat, i2 < n + 1 → tY N 60 39 (8 * t + i2) = tY M 60 39 (8 * a + i2)) (r40 : ∀ i2 : Nat, i2 < n + 1 → tY N 60 40 (8 * t + i2) = tY M 60 40 (8 * a + i2)) (r41 : ∀ i2 : Nat, i2 < n + 1 → tY N 60 41 (8 * t + i2) = tY M 60 41 (8 * a + i2)) (r42 : ∀ i2 : Nat, i2 < n + 1 → tY N 60 42 (8 * t + i2) = tY M 60 42 (8 * a + i2)) (r43 : ∀ i2 : Nat, i2 < n + 1 → tY N 60 43 (8 * t + i2) = tY M 60 43 (8 * a + i2)) (r44 : ∀ i2 : Nat, i2 < n + 1 → tY N 60 44 (8 * t + i2) = tY M 60 44 (8 * a + i2)) (r45 : ∀ i2 : Nat, i2 < n + 1 → tY N 60 45 (8 * t + i2) = tY M 60 45 (8 * a + i2)) (r46 : ∀ i2 : Nat, i2 < n + 1 → tY N 60 46 (8 * t + i2) = tY M 60 46 (8 * a + i2)) (r47 : ∀ i2 : Nat, i2 < n + 1 → tY N 60 47 (8 * t + i2) = tY M 60 47 (8 * a + i2)) (r48 : ∀ i2 : Nat, i2 < n + 1 → tY N 60 48 (8 * t + i2) = tY M 60 48 (8 * a + i2)) : cxm t a (n + 1) N M := by
  intro k h1 h2
  rcases (show k = 39 ∨ k = 40 ∨ k = 41 ∨ k = 42 ∨ k = 43 ∨ k = 44 ∨ k = 45 ∨ k = 46 ∨ k = 47 ∨ k = 48 by omega) with rfl | rfl | rfl | rfl | rfl | rfl | rfl | rfl | rfl | rfl
  · exact r39
  · exact r40
  · exact r41
  · exact r42
  · exact r43
  · exact r44
  · exact r45
  · exact r46
  · exact r47
  · exact r48
theorem cxp_s {G N M P : ti_M} {t a n i j : Nat} {v : Int32} (h : cxp t a n G M) (er : eR t G M) (hne : t ≠ a) (hn : n < 3) (hi : i = 3 * t + n) (hj : j = 3 * a + n) (e : tY N 60 49 = upd (tY G 60 49) i v) (y : tY P 60 49 j = v) (p : tY P 60 49 = tY G 60 49) : cxp t a (n + 1) N M := by
  subst hi hj
  intro i2 h2 h3
  rw [e]
  by_cases c : i2 = n
  · subst c
    rw [pk_us, ← y, p]
    refine er.2 49 _ (fun b => ?_)
    have b2 := b.2.2
    rw [if_neg (by omega), if_neg (by omega)] at b2
    omega
  · rw [pk_un (by omega)]; exact h i2 (by omega) h3
theorem cx_qR {n t a : Nat} {s : Nat → Int} {N M : ti_M} (hn : n ≤ 8) (x : cx t a N M) (h : qR n a s M) : qR n t s N := by
  obtain ⟨⟨c34, c35, c36, c37, c38⟩, cm, cp⟩ := x
  obtain ⟨a1, b, c, d, f, g⟩ := h
  have q : ∀ k m : Nat, 39 ≤ k → k ≤ 48 → m < 8 → (tY N 60 k (8 * t + m)).toInt = (tY M 60 k (8 * a + m)).toInt := fun k m h1 h2 h3 => congrArg Int32.toInt (cm k h1 h2 m h3)
  refine ⟨⟨a1.1.trans (congrArg Int32.toInt c34.symm), a1.2.1.trans (congrArg Int32.toInt c38.symm), a1.2.2.1.trans (congrArg Int32.toInt c35.symm), a1.2.2.2.trans (congrArg Int32.toInt c36.symm)⟩, fun p h1 h2 => (b p h1 h2).trans (q 39 p (by decide) (by decide) h1).symm, fun k hk => (c k hk).trans (congrArg Int32.toInt (cp k hk hk).symm), fun m hm => ?_, fun m hm => ?_, ?_⟩
  · rw [q 40 m (by decide) (by decide) (by omega), q 41 m (by decide) (by decide) (by omega), q 42 m (by decide) (by decide) (by omega), q 43 m (by decide) (by decide) (by omega), q 44 m (by decide) (by decide) (by omega), q 47 m (by decide) (by decide) (by omega)]; exact d m hm
  · rw [q 45 m (by decide) (by decide) (by omega), q 46 m (by decide) (by decide) (by omega)]; exact f m hm
  · rw [c37]; exact g
theorem cx_qV {n t a : Nat} {s : Nat → Int} {N M : ti_M} (hn : n ≤ 8) (x : cx t a N M) (h : qV n a s M) : qV n t s N := fun m hm => (congrArg Int32.toInt (x.2.1 48 (by decide) (by decide) m (by omega))).trans (h m hm)
set_option maxHeartbeats 4000000 in
set_option maxRecDepth 100000 in
theorem z_X10_copies (l : Launch) (D : va_G) (A : Nat → Nat → Nat) (cy : Nat → ClassId) (hJ : ti_inj ti_LM A) (M : ti_M) (hI : mI Tm M) (to as : Int32) (h1 : 0 ≤ to.toInt) (h2 : to.toInt ≤ 22) (h3 : 0 ≤ as.toInt) (h4 : as.toInt ≤ 22) (h5 : as.toInt ≠ 1) (h6 : to.toInt ≠ as.toInt) : ti_Kv l yX10_copies cX10_copies 6 0 ti_LM D A cy M [.ref (A 60 0), .int to, .int as] (fun M2 => eR to.toInt.toNat M2 M ∧ cx to.toInt.toNat as.toInt.toNat M2 M ∧ mI Tm M2 ∧ lk M2 M ∧ cq to.toNatClampNeg as.toNatClampNeg M2 M) := by
  refine ti_eV yp_X10_copies hJ ti_LM_nd (Nat.le_of_ble_eq_true rfl) ?_
  intro p e s m args below meth c Q H0 C hQ hw ls hl
  have hx := C.1
  have hb := C.2.1
  have hl : lv_has ls 6 [(0, .ref (A 60 0)), (1, .int to), (2, .int as)] := hl
  refine lv_aload_n hx hb dX10_copies_0 rfl (lv_at hl 0 rfl) ?_
  refine ti_get (ci := 10) (k := 34) (N := 67) (T := TX10) (v := .ref (A 60 35)) C hw iw_10 rfl ob_60 (by decide) (by decide) fl_X10_69 rfl rfl dX10_copies_1 ?_
  refine lv_iload_n hx hb dX10_copies_4 rfl (lv_at hl 1 rfl) ?_
  refine lv_aload_n hx hb dX10_copies_5 rfl (lv_at hl 0 rfl) ?_
  refine ti_get (ci := 10) (k := 34) (N := 67) (T := TX10) (v := .ref (A 60 35)) C hw iw_10 rfl ob_60 (by decide) (by decide) fl_X10_69 rfl rfl dX10_copies_6 ?_
  refine lv_iload_n hx hb dX10_copies_9 rfl (lv_at hl 2 rfl) ?_
  refine ti_iald (ci := 10) (k := 34) (n := 23) C hw ob_60 (by decide) (fun _ _ => rfl) (vp_in_iff.mpr (by omega)) dX10_copies_10 ?_
  refine lv_topi (fun x_1 ex_1 => ?_)
  have yx_1 : tY M 60 34 as.toNatClampNeg = x_1 := (ex_1.symm)
  have bx_1 : 0 ≤ x_1.toInt ∧ x_1.toInt ≤ 120 := mI_ry (k := 34) (i := as.toNatClampNeg) hI yx_1.symm (by show as.toInt.toNat ≠ 1; omega)
  have zx_1 : (tY M 60 34 as.toNatClampNeg).toInt = x_1.toInt := by rw [yx_1]
  refine ti_iast (ci := 10) (k := 34) (n := 23) C hw ob_60 (by decide) (fun _ _ => rfl) (vp_in_iff.mpr (by omega)) dX10_copies_11 (fun H locs hw => ?_)
  obtain ⟨M_2, hM_2⟩ : ∃ z : ti_M, z = uY M 60 34 (upd (tY M 60 34) (to : Int32).toNatClampNeg x_1) := ⟨_, rfl⟩
  have hw := hw.to hM_2.symm
  have iM_2 : mI Tm M_2 := mI_up (i := to.toNatClampNeg) hI hM_2 (fun _ => (ib_mk (lo := 0) (hi := 120) (by omega) (by omega)))
  refine lv_aload_n hx hb dX10_copies_12 rfl (lv_at hl 0 rfl) ?_
  refine ti_get (ci := 10) (k := 35) (N := 67) (T := TX10) (v := .ref (A 60 36)) C hw iw_10 rfl ob_60 (by decide) (by decide) fl_X10_72 rfl rfl dX10_copies_13 ?_
  refine lv_iload_n hx hb dX10_copies_16 rfl (lv_at hl 1 rfl) ?_
  refine lv_aload_n hx hb dX10_copies_17 rfl (lv_at hl 0 rfl) ?_
  refine ti_get (ci := 10) (k := 35) (N := 67) (T := TX10) (v := .ref (A 60 36)) C hw iw_10 rfl ob_60 (by decide) (by decide) fl_X10_72 rfl rfl dX10_copies_18 ?_
  refine lv_iload_n hx hb dX10_copies_21 rfl (lv_at hl 2 rfl) ?_
  refine ti_iald (ci := 10) (k := 35) (n := 23) C hw ob_60 (by decide) (fun _ _ => rfl) (vp_in_iff.mpr (by omega)) dX10_copies_22 ?_
  refine lv_topi (fun x_3 ex_3 => ?_)
  have yx_3 : tY M_2 60 35 as.toNatClampNeg = x_3 := (ex_3.symm)
  have wx_3 : tY M 60 35 as.toNatClampNeg = x_3 := ((cg (tY_nE hM_2 (nk (by decide))) as.toNatClampNeg)).symm.trans yx_3
  refine ti_iast (ci := 10) (k := 35) (n := 23) C hw ob_60 (by decide) (fun _ _ => rfl) (vp_in_iff.mpr (by omega)) dX10_copies_23 (fun H locs hw => ?_)
  obtain ⟨M_4, hM_4⟩ : ∃ z : ti_M, z = uY M_2 60 35 (upd (tY M_2 60 35) (to : Int32).toNatClampNeg x_3) := ⟨_, rfl⟩
  have hw := hw.to hM_4.symm
  have iM_4 : mI Tm M_4 := mI_up (i := to.toNatClampNeg) iM_2 hM_4 trivial
  refine lv_aload_n hx hb dX10_copies_24 rfl (lv_at hl 0 rfl) ?_
  refine ti_get (ci := 10) (k := 36) (N := 67) (T := TX10) (v := .ref (A 60 37)) C hw iw_10 rfl ob_60 (by decide) (by decide) fl_X10_75 rfl rfl dX10_copies_25 ?_
  refine lv_iload_n hx hb dX10_copies_28 rfl (lv_at hl 1 rfl) ?_
  refine lv_aload_n hx hb dX10_copies_29 rfl (lv_at hl 0 rfl) ?_
  refine ti_get (ci := 10) (k := 36) (N := 67) (T := TX10) (v := .ref (A 60 37)) C hw iw_10 rfl ob_60 (by decide) (by decide) fl_X10_75 rfl rfl dX10_copies_30 ?_
  refine lv_iload_n hx hb dX10_copies_33 rfl (lv_at hl 2 rfl) ?_
  refine ti_iald (ci := 10) (k := 36) (n := 23) C hw ob_60 (by decide) (fun _ _ => rfl) (vp_in_iff.mpr (by omega)) dX10_copies_34 ?_
  refine lv_topi (fun x_5 ex_5 => ?_)
  have yx_5 : tY M_4 60 36 as.toNatClampNeg = x_5 := (ex_5.symm)
  have wx_5 : tY M 60 36 as.toNatClampNeg = x_5 := (((cg (tY_nE hM_4 (nk (by decide))) as.toNatClampNeg).trans (cg (tY_nE hM_2 (nk (by decide))) as.toNatClampNeg))).symm.trans yx_5
  refine ti_iast (ci := 10) (k := 36) (n := 23) C hw ob_60 (by decide) (fun _ _ => rfl) (vp_in_iff.mpr (by omega)) dX10_copies_35 (fun H locs hw => ?_)
  obtain ⟨M_6, hM_6⟩ : ∃ z : ti_M, z = uY M_4 60 36 (upd (tY M_4 60 36) (to : Int32).toNatClampNeg x_5) := ⟨_, rfl⟩
  have hw := hw.to hM_6.symm
  have iM_6 : mI Tm M_6 := mI_up (i := to.toNatClampNeg) iM_4 hM_6 trivial
  refine lv_aload_n hx hb dX10_copies_36 rfl (lv_at hl 0 rfl) ?_
  refine ti_get (ci := 10) (k := 37) (N := 67) (T := TX10) (v := .ref (A 60 38)) C hw iw_10 rfl ob_60 (by decide) (by decide) fl_X10_78 rfl rfl dX10_copies_37 ?_
  refine lv_iload_n hx hb dX10_copies_40 rfl (lv_at hl 1 rfl) ?_
  refine lv_aload_n hx hb dX10_copies_41 rfl (lv_at hl 0 rfl) ?_
  refine ti_get (ci := 10) (k := 37) (N := 67) (T := TX10) (v := .ref (A 60 38)) C hw iw_10 rfl ob_60 (by decide) (by decide) fl_X10_78 rfl rfl dX10_copies_42 ?_
  refine lv_iload_n hx hb dX10_copies_45 rfl (lv_at hl 2 rfl) ?_
  refine ti_iald (ci := 10) (k := 37) (n := 23) C hw ob_60 (by decide) (fun _ _ => rfl) (vp_in_iff.mpr (by omega)) dX10_copies_46 ?_
  refine lv_topi (fun x_7 ex_7 => ?_)
  have yx_7 : tY M_6 60 37 as.toNatClampNeg = x_7 := (ex_7.symm)
  have wx_7 : tY M 60 37 as.toNatClampNeg = x_7 := (((cg (tY_nE hM_6 (nk (by decide))) as.toNatClampNeg).trans ((cg (tY_nE hM_4 (nk (by decide))) as.toNatClampNeg).trans (cg (tY_nE hM_2 (nk (by decide))) as.toNatClampNeg)))).symm.trans yx_7
  refine ti_iast (ci := 10) (k := 37) (n := 23) C hw ob_60 (by decide) (fun _ _ => rfl) (vp_in_iff.mpr (by omega)) dX10_copies_47 (fun H locs hw => ?_)
  obtain ⟨M_8, hM_8⟩ : ∃ z : ti_M, z = uY M_6 60 37 (upd (tY M_6 60 37) (to : Int32).toNatClampNeg x_7) := ⟨_, rfl⟩
  have hw := hw.to hM_8.symm
  have iM_8 : mI Tm M_8 := mI_up (i := to.toNatClampNeg) iM_6 hM_8 trivial
  refine lv_aload_n hx hb dX10_copies_48 rfl (lv_at hl 0 rfl) ?_
  refine ti_get (ci := 10) (k := 38) (N := 67) (T := TX10) (v := .ref (A 60 39)) C hw iw_10 rfl ob_60 (by decide) (by decide) fl_X10_81 rfl rfl dX10_copies_49 ?_
  refine lv_iload_n hx hb dX10_copies_52 rfl (lv_at hl 1 rfl) ?_
  refine lv_aload_n hx hb dX10_copies_53 rfl (lv_at hl 0 rfl) ?_
  refine ti_get (ci := 10) (k := 38) (N := 67) (T := TX10) (v := .ref (A 60 39)) C hw iw_10 rfl ob_60 (by decide) (by decide) fl_X10_81 rfl rfl dX10_copies_54 ?_
  refine lv_iload_n hx hb dX10_copies_57 rfl (lv_at hl 2 rfl) ?_
  refine ti_iald (ci := 10) (k := 38) (n := 23) C hw ob_60 (by decide) (fun _ _ => rfl) (vp_in_iff.mpr (by omega)) dX10_copies_58 ?_
  refine lv_topi (fun x_9 ex_9 => ?_)
  have yx_9 : tY M_8 60 38 as.toNatClampNeg = x_9 := (ex_9.symm)
  have bx_9 : 0 ≤ x_9.toInt ∧ x_9.toInt ≤ 8 := mI_ry (k := 38) (i := as.toNatClampNeg) iM_8 yx_9.symm
  have zx_9 : (tY M_8 60 38 as.toNatClampNeg).toInt = x_9.toInt := by rw [yx_9]
  have wx_9 : tY M 60 38 as.toNatClampNeg = x_9 := (((cg (tY_nE hM_8 (nk (by decide))) as.toNatClampNeg).trans ((cg (tY_nE hM_6 (nk (by decide))) as.toNatClampNeg).trans ((cg (tY_nE hM_4 (nk (by decide))) as.toNatClampNeg).trans (cg (tY_nE hM_2 (nk (by decide))) as.toNatClampNeg))))).symm.trans yx_9
  have zwx_9 : (tY M 60 38 as.toNatClampNeg).toInt = x_9.toInt := by rw [wx_9]
  refine ti_iast (ci := 10) (k := 38) (n := 23) C hw ob_60 (by decide) (fun _ _ => rfl) (vp_in_iff.mpr (by omega)) dX10_copies_59 (fun H locs hw => ?_)
  obtain ⟨M_10, hM_10⟩ : ∃ z : ti_M, z = uY M_8 60 38 (upd (tY M_8 60 38) (to : Int32).toNatClampNeg x_9) := ⟨_, rfl⟩
  have hw := hw.to hM_10.symm
  have iM_10 : mI Tm M_10 := mI_up (i := to.toNatClampNeg) iM_8 hM_10 (ib_mk (lo := 0) (hi := 8) (by omega) (by omega))
  refine lv_iconst (v := 0) hx hb dX10_copies_60 (by decide) ?_
  refine lv_istore_n (lv' := [(3, .int 0), (0, .ref (A 60 0)), (1, .int to), (2, .int as)]) hx hb dX10_copies_61 rfl hl (by decide) rfl (fun ls hl => ?_)
  have hl_62_19 : ∀ (n_20 : Nat) (x_11 : Int32) (M_14 : ti_M) (H : Heap) (locs : List Loc) (ls : Array Slot), (8 - x_11.toInt : Int).toNat < n_20 → (0 ≤ x_11.toInt) → (x_11.toInt ≤ 8) → (mI Tm M_14) → (lk M_14 M) → (eR to.toInt.toNat M_14 M) → (cpq M M_14 to.toNatClampNeg as.toNatClampNeg x_11.toInt) → (cxh to.toInt.toNat as.toInt.toNat M_14 M) → (cxm to.toInt.toNat as.toInt.toNat (x_11.toInt).toNat M_14 M) → ti_H ti_LM D A cy H0 M_14 H locs → lv_has ls 6 [(3, .int x_11), (0, .ref (A 60 0)), (1, .int to), (2, .int as)] → W p l e (ti_rm 0) s m args below meth c H locs 0 0 Q (F0 m 62 ls []) := by
    intro n_20
    induction n_20 with
    | zero => intro x_11 M_14 H locs ls hf_20; exact absurd hf_20 (Nat.not_lt_zero _)
    | succ n_20 ih_20 =>
      intro x_11 M_14 H locs ls hf_20 b_12 b_13 iM_14 f_15 f_16 j_17 j_18 j_19 hw hl
      refine lv_iload_n hx hb dX10_copies_62 rfl (lv_at hl 0 rfl) ?_
      refine lv_bipush (v := 8) hx hb dX10_copies_63 (by decide) ?_
      refine sb_icmp_ge (tgt := 230) hx hb rfl (by decide : (8 : Int32).toInt = 8) dX10_copies_65 (by decide) (fun c_65_20 => ?_) (fun c_65_20 => ?_)
      · refine lv_iconst (v := 0) hx hb dX10_copies_230 (by decide) ?_
        refine lv_istore_n (lv' := [(3, .int 0), (0, .ref (A 60 0)), (1, .int to), (2, .int as)]) hx hb dX10_copies_231 rfl hl (by decide) rfl (fun ls hl => ?_)
        have hl_232_56 : ∀ (n_57 : Nat) (x_47 : Int32) (M_50 : ti_M) (H : Heap) (locs : List Loc) (ls : Array Slot), (3 - x_47.toInt : Int).toNat < n_57 → (0 ≤ x_47.toInt) → (x_47.toInt ≤ 3) → (mI Tm M_50) → (lk M_50 M) → (eR to.toInt.toNat M_50 M) → (cpq M M_50 to.toNatClampNeg as.toNatClampNeg 8) → (cxh to.toInt.toNat as.toInt.toNat M_50 M) → (cxm to.toInt.toNat as.toInt.toNat 8 M_50 M) → (cxp to.toInt.toNat as.toInt.toNat (x_47.toInt).toNat M_50 M) → ti_H ti_LM D A cy H0 M_50 H locs → lv_has ls 6 [(3, .int x_47), (0, .ref (A 60 0)), (1, .int to), (2, .int as)] → W p l e (ti_rm 0) s m args below meth c H locs 0 0 Q (F0 m 232 ls []) := by
          intro n_57
          induction n_57 with
          | zero => intro x_47 M_50 H locs ls hf_57; exact absurd hf_57 (Nat.not_lt_zero _)
          | succ n_57 ih_57 =>
            intro x_47 M_50 H locs ls hf_57 b_48 b_49 iM_50 f_51 f_52 j_53 j_54 j_55 j_56 hw hl
            refine lv_iload_n hx hb dX10_copies_232 rfl (lv_at hl 0 rfl) ?_
            refine lv_iconst (v := 3) hx hb dX10_copies_233 (by decide) ?_
            refine sb_icmp_ge (tgt := 263) hx hb rfl (by decide : (3 : Int32).toInt = 3) dX10_copies_234 (by decide) (fun c_234_57 => ?_) (fun c_234_57 => ?_)
            · exact hQ _ _ _ _ _ hw (⟨f_52, ⟨j_54, j_55, (by have h := j_56; rwa [show x_47.toInt.toNat = 3 by omega] at h)⟩, iM_50, f_51, q_copy hI j_53 f_51⟩) dX10_copies_263
            · refine lv_aload_n hx hb dX10_copies_237 rfl (lv_at hl 1 rfl) ?_
              refine ti_get (ci := 10) (k := 49) (N := 67) (T := TX10) (v := .ref (A 60 50)) C hw iw_10 rfl ob_60 (by decide) (by decide) fl_X10_114 rfl rfl dX10_copies_238 ?_
              refine lv_iconst (v := 3) hx hb dX10_copies_241 (by decide) ?_
              refine lv_iload_n hx hb dX10_copies_242 rfl (lv_at hl 2 rfl) ?_
              refine lv_imul hx hb dX10_copies_243 ?_
              refine lv_topi (fun x_59 ex_59 => ?_)
              have tx_59 : x_59.toInt = 3 * to.toInt := i_mul ex_59 (by decide : (3 : Int32).toInt = 3) rfl (by omega) (by omega)
              refine lv_iload_n hx hb dX10_copies_244 rfl (lv_at hl 0 rfl) ?_
              refine lv_iadd hx hb dX10_copies_245 ?_
              refine lv_topi (fun x_60 ex_60 => ?_)
              have tx_60 : x_60.toInt = x_59.toInt + x_47.toInt := i_add ex_60 rfl rfl (by omega) (by omega)
              refine lv_aload_n hx hb dX10_copies_246 rfl (lv_at hl 1 rfl) ?_
              refine ti_get (ci := 10) (k := 49) (N := 67) (T := TX10) (v := .ref (A 60 50)) C hw iw_10 rfl ob_60 (by decide) (by decide) fl_X10_114 rfl rfl dX10_copies_247 ?_
              refine lv_iconst (v := 3) hx hb dX10_copies_250 (by decide) ?_
              refine lv_iload_n hx hb dX10_copies_251 rfl (lv_at hl 3 rfl) ?_
              refine lv_imul hx hb dX10_copies_252 ?_
              refine lv_topi (fun x_61 ex_61 => ?_)
              have tx_61 : x_61.toInt = 3 * as.toInt := i_mul ex_61 (by decide : (3 : Int32).toInt = 3) rfl (by omega) (by omega)
              refine lv_iload_n hx hb dX10_copies_253 rfl (lv_at hl 0 rfl) ?_
              refine lv_iadd hx hb dX10_copies_254 ?_
              refine lv_topi (fun x_62 ex_62 => ?_)
              have tx_62 : x_62.toInt = x_61.toInt + x_47.toInt := i_add ex_62 rfl rfl (by omega) (by omega)
              refine ti_iald (ci := 10) (k := 49) (n := 69) C hw ob_60 (by decide) (fun _ _ => rfl) (vp_in_iff.mpr (by omega)) dX10_copies_255 ?_
              refine lv_topi (fun x_63 ex_63 => ?_)
              have yx_63 : tY M_50 60 49 x_62.toNatClampNeg = x_63 := (ex_63.symm)
              have bx_63 : 0 ≤ x_63.toInt ∧ x_63.toInt ≤ 7 := mI_ry (k := 49) (i := x_62.toNatClampNeg) iM_50 yx_63.symm
              refine ti_iast (ci := 10) (k := 49) (n := 69) C hw ob_60 (by decide) (fun _ _ => rfl) (vp_in_iff.mpr (by omega)) dX10_copies_256 (fun H locs hw => ?_)
              obtain ⟨M_64, hM_64⟩ : ∃ z : ti_M, z = uY M_50 60 49 (upd (tY M_50 60 49) (x_60 : Int32).toNatClampNeg x_63) := ⟨_, rfl⟩
              have hw := hw.to hM_64.symm
              have iM_64 : mI Tm M_64 := mI_up (i := x_60.toNatClampNeg) iM_50 hM_64 (ib_mk (lo := 0) (hi := 7) (by omega) (by omega))
              obtain ⟨x_65, ex_65⟩ : ∃ z : Int32, z = x_47 + 1 := ⟨_, rfl⟩
              have tx_65 : x_65.toInt = x_47.toInt + 1 := i_add ex_65 rfl (by decide) (by omega) (by omega)
              refine lv_iinc (v := x_65) (lv' := [(3, .int x_65), (0, .ref (A 60 0)), (1, .int to), (2, .int as)]) hx hb dX10_copies_257 hl (k := 0) rfl (by rw [ex_65]; rfl) (by decide) rfl (fun ls hl => ?_)
              refine lv_goto (tgt := 232) hx hb dX10_copies_260 (by decide) ?_
              exact ih_57 x_65 M_64 _ _ _ (by omega) (by first | omega | decide) (by first | omega | decide) iM_64 (lk.trans (lk_Y hM_64 (by decide)) f_51) (eR.trans (eR_Y hM_64 (bk_p (z := x_60) (by omega))) f_52) (cpq_qw j_53 (qw_Y hM_64 (by decide))) (cxh_k j_54 (fun k h1 h2 => (tY_nE hM_64 (nk (by omega))))) (cxm_k j_55 (fun k h1 h2 => (tY_nE hM_64 (nk (by omega))))) (by rw [show x_65.toInt.toNat = x_47.toInt.toNat + 1 by omega]; exact cxp_s j_56 f_52 (by omega) (by omega) (i_cl (by omega)) (i_cl (by omega)) (tY_uE hM_64) yx_63 rfl) hw (lv_sub hl [0, 1, 2, 3] rfl)
        exact hl_232_56 ((3 - 0 : Int).toNat + 1) 0 M_14 _ _ _ (Nat.lt_succ_self _) (by have lt0 : (0 : Int32).toInt = 0 := (by decide); first | omega | decide) (by have lt0 : (0 : Int32).toInt = 0 := (by decide); first | omega | decide) iM_14 f_15 f_16 (by have h := j_17; rwa [show x_11.toInt = 8 by omega] at h) j_18 (by have h := j_19; rwa [show x_11.toInt.toNat = 8 by omega] at h) cxp_0 hw (lv_sub hl [0, 1, 2, 3] rfl)
      · refine lv_bipush (v := 8) hx hb dX10_copies_68 (by decide) ?_
        refine lv_iload_n hx hb dX10_copies_70 rfl (lv_at hl 2 rfl) ?_
        refine lv_imul hx hb dX10_copies_71 ?_
        refine lv_topi (fun x_22 ex_22 => ?_)
        have tx_22 : x_22.toInt = 8 * to.toInt := i_mul ex_22 (by decide : (8 : Int32).toInt = 8) rfl (by omega) (by omega)
        refine lv_iload_n hx hb dX10_copies_72 rfl (lv_at hl 0 rfl) ?_
        refine lv_iadd hx hb dX10_copies_73 ?_
        refine lv_topi (fun x_23 ex_23 => ?_)
        have tx_23 : x_23.toInt = x_22.toInt + x_11.toInt := i_add ex_23 rfl rfl (by omega) (by omega)
        refine lv_istore (lv' := [(4, .int x_23), (3, .int x_11), (0, .ref (A 60 0)), (1, .int to), (2, .int as)]) hx hb dX10_copies_74 hl (by decide) rfl (fun ls hl => ?_)
        refine lv_bipush (v := 8) hx hb dX10_copies_76 (by decide) ?_
        refine lv_iload_n hx hb dX10_copies_78 rfl (lv_at hl 4 rfl) ?_
        refine lv_imul hx hb dX10_copies_79 ?_
        refine lv_topi (fun x_24 ex_24 => ?_)
        have tx_24 : x_24.toInt = 8 * as.toInt := i_mul ex_24 (by decide : (8 : Int32).toInt = 8) rfl (by omega) (by omega)
        refine lv_iload_n hx hb dX10_copies_80 rfl (lv_at hl 1 rfl) ?_
        refine lv_iadd hx hb dX10_copies_81 ?_
        refine lv_topi (fun x_25 ex_25 => ?_)
        have tx_25 : x_25.toInt = x_24.toInt + x_11.toInt := i_add ex_25 rfl rfl (by omega) (by omega)
        refine lv_istore (lv' := [(5, .int x_25), (4, .int x_23), (3, .int x_11), (0, .ref (A 60 0)), (1, .int to), (2, .int as)]) hx hb dX10_copies_82 hl (by decide) rfl (fun ls hl => ?_)
        refine lv_aload_n hx hb dX10_copies_84 rfl (lv_at hl 3 rfl) ?_
        refine ti_get (ci := 10) (k := 39) (N := 67) (T := TX10) (v := .ref (A 60 40)) C hw iw_10 rfl ob_60 (by decide) (by decide) fl_X10_84 rfl rfl dX10_copies_85 ?_
        refine lv_iload hx hb dX10_copies_88 (lv_at hl 1 rfl) ?_
        refine lv_aload_n hx hb dX10_copies_90 rfl (lv_at hl 3 rfl) ?_
        refine ti_get (ci := 10) (k := 39) (N := 67) (T := TX10) (v := .ref (A 60 40)) C hw iw_10 rfl ob_60 (by decide) (by decide) fl_X10_84 rfl rfl dX10_copies_91 ?_
        refine lv_iload hx hb dX10_copies_94 (lv_at hl 0 rfl) ?_
        refine ti_iald (ci := 10) (k := 39) (n := 184) C hw ob_60 (by decide) (fun _ _ => rfl) (vp_in_iff.mpr (by omega)) dX10_copies_96 ?_
        refine lv_topi (fun x_26 ex_26 => ?_)
        have yx_26 : tY M_14 60 39 x_25.toNatClampNeg = x_26 := (ex_26.symm)
        have bx_26 : 0 ≤ x_26.toInt ∧ x_26.toInt ≤ 7 := mI_ry (k := 39) (i := x_25.toNatClampNeg) iM_14 yx_26.symm
        refine ti_iast (ci := 10) (k := 39) (n := 184) C hw ob_60 (by decide) (fun _ _ => rfl) (vp_in_iff.mpr (by omega)) dX10_copies_97 (fun H locs hw => ?_)
        obtain ⟨M_27, hM_27⟩ : ∃ z : ti_M, z = uY M_14 60 39 (upd (tY M_14 60 39) (x_23 : Int32).toNatClampNeg x_26) := ⟨_, rfl⟩
        have hw := hw.to hM_27.symm
        have iM_27 : mI Tm M_27 := mI_up (i := x_23.toNatClampNeg) iM_14 hM_27 (ib_mk (lo := 0) (hi := 7) (by omega) (by omega))
        refine lv_aload_n hx hb dX10_copies_98 rfl (lv_at hl 3 rfl) ?_
        refine ti_get (ci := 10) (k := 40) (N := 67) (T := TX10) (v := .ref (A 60 41)) C hw iw_10 rfl ob_60 (by decide) (by decide) fl_X10_87 rfl rfl dX10_copies_99 ?_
        refine lv_iload hx hb dX10_copies_102 (lv_at hl 1 rfl) ?_
        refine lv_aload_n hx hb dX10_copies_104 rfl (lv_at hl 3 rfl) ?_
        refine ti_get (ci := 10) (k := 40) (N := 67) (T := TX10) (v := .ref (A 60 41)) C hw iw_10 rfl ob_60 (by decide) (by decide) fl_X10_87 rfl rfl dX10_copies_105 ?_
        refine lv_iload hx hb dX10_copies_108 (lv_at hl 0 rfl) ?_
        refine ti_iald (ci := 10) (k := 40) (n := 184) C hw ob_60 (by decide) (fun _ _ => rfl) (vp_in_iff.mpr (by omega)) dX10_copies_110 ?_
        refine lv_topi (fun x_28 ex_28 => ?_)
        have yx_28 : tY M_27 60 40 x_25.toNatClampNeg = x_28 := (ex_28.symm)
        have zx_28 : (tY M_27 60 40 x_25.toNatClampNeg).toInt = x_28.toInt := by rw [yx_28]
        have wx_28 : tY M_14 60 40 x_25.toNatClampNeg = x_28 := ((cg (tY_nE hM_27 (nk (by decide))) x_25.toNatClampNeg)).symm.trans yx_28
        have zwx_28 : (tY M_14 60 40 x_25.toNatClampNeg).toInt = x_28.toInt := by rw [wx_28]
        refine ti_iast (ci := 10) (k := 40) (n := 184) C hw ob_60 (by decide) (fun _ _ => rfl) (vp_in_iff.mpr (by omega)) dX10_copies_111 (fun H locs hw => ?_)
        obtain ⟨M_29, hM_29⟩ : ∃ z : ti_M, z = uY M_27 60 40 (upd (tY M_27 60 40) (x_23 : Int32).toNatClampNeg x_28) := ⟨_, rfl⟩
        have hw := hw.to hM_29.symm
        have iM_29 : mI Tm M_29 := mI_up (i := x_23.toNatClampNeg) iM_27 hM_29 trivial
        refine lv_aload_n hx hb dX10_copies_112 rfl (lv_at hl 3 rfl) ?_
        refine ti_get (ci := 10) (k := 41) (N := 67) (T := TX10) (v := .ref (A 60 42)) C hw iw_10 rfl ob_60 (by decide) (by decide) fl_X10_90 rfl rfl dX10_copies_113 ?_
        refine lv_iload hx hb dX10_copies_116 (lv_at hl 1 rfl) ?_
        refine lv_aload_n hx hb dX10_copies_118 rfl (lv_at hl 3 rfl) ?_
        refine ti_get (ci := 10) (k := 41) (N := 67) (T := TX10) (v := .ref (A 60 42)) C hw iw_10 rfl ob_60 (by decide) (by decide) fl_X10_90 rfl rfl dX10_copies_119 ?_
        refine lv_iload hx hb dX10_copies_122 (lv_at hl 0 rfl) ?_
        refine ti_iald (ci := 10) (k := 41) (n := 184) C hw ob_60 (by decide) (fun _ _ => rfl) (vp_in_iff.mpr (by omega)) dX10_copies_124 ?_
        refine lv_topi (fun x_30 ex_30 => ?_)
        have yx_30 : tY M_29 60 41 x_25.toNatClampNeg = x_30 := (ex_30.symm)
        have wx_30 : tY M_14 60 41 x_25.toNatClampNeg = x_30 := (((cg (tY_nE hM_29 (nk (by decide))) x_25.toNatClampNeg).trans (cg (tY_nE hM_27 (nk (by decide))) x_25.toNatClampNeg))).symm.trans yx_30
        refine ti_iast (ci := 10) (k := 41) (n := 184) C hw ob_60 (by decide) (fun _ _ => rfl) (vp_in_iff.mpr (by omega)) dX10_copies_125 (fun H locs hw => ?_)
        obtain ⟨M_31, hM_31⟩ : ∃ z : ti_M, z = uY M_29 60 41 (upd (tY M_29 60 41) (x_23 : Int32).toNatClampNeg x_30) := ⟨_, rfl⟩
        have hw := hw.to hM_31.symm
        have iM_31 : mI Tm M_31 := mI_up (i := x_23.toNatClampNeg) iM_29 hM_31 trivial
        refine lv_aload_n hx hb dX10_copies_126 rfl (lv_at hl 3 rfl) ?_
        refine ti_get (ci := 10) (k := 42) (N := 67) (T := TX10) (v := .ref (A 60 43)) C hw iw_10 rfl ob_60 (by decide) (by decide) fl_X10_93 rfl rfl dX10_copies_127 ?_
        refine lv_iload hx hb dX10_copies_130 (lv_at hl 1 rfl) ?_
        refine lv_aload_n hx hb dX10_copies_132 rfl (lv_at hl 3 rfl) ?_
        refine ti_get (ci := 10) (k := 42) (N := 67) (T := TX10) (v := .ref (A 60 43)) C hw iw_10 rfl ob_60 (by decide) (by decide) fl_X10_93 rfl rfl dX10_copies_133 ?_
        refine lv_iload hx hb dX10_copies_136 (lv_at hl 0 rfl) ?_
        refine ti_iald (ci := 10) (k := 42) (n := 184) C hw ob_60 (by decide) (fun _ _ => rfl) (vp_in_iff.mpr (by omega)) dX10_copies_138 ?_
        refine lv_topi (fun x_32 ex_32 => ?_)
        have yx_32 : tY M_31 60 42 x_25.toNatClampNeg = x_32 := (ex_32.symm)
        have wx_32 : tY M_14 60 42 x_25.toNatClampNeg = x_32 := (((cg (tY_nE hM_31 (nk (by decide))) x_25.toNatClampNeg).trans ((cg (tY_nE hM_29 (nk (by decide))) x_25.toNatClampNeg).trans (cg (tY_nE hM_27 (nk (by decide))) x_25.toNatClampNeg)))).symm.trans yx_32
        refine ti_iast (ci := 10) (k := 42) (n := 184) C hw ob_60 (by decide) (fun _ _ => rfl) (vp_in_iff.mpr (by omega)) dX10_copies_139 (fun H locs hw => ?_)
        obtain ⟨M_33, hM_33⟩ : ∃ z : ti_M, z = uY M_31 60 42 (upd (tY M_31 60 42) (x_23 : Int32).toNatClampNeg x_32) := ⟨_, rfl⟩
        have hw := hw.to hM_33.symm
        have iM_33 : mI Tm M_33 := mI_up (i := x_23.toNatClampNeg) iM_31 hM_33 trivial
        refine lv_aload_n hx hb dX10_copies_140 rfl (lv_at hl 3 rfl) ?_
        refine ti_get (ci := 10) (k := 43) (N := 67) (T := TX10) (v := .ref (A 60 44)) C hw iw_10 rfl ob_60 (by decide) (by decide) fl_X10_96 rfl rfl dX10_copies_141 ?_
        refine lv_iload hx hb dX10_copies_144 (lv_at hl 1 rfl) ?_
        refine lv_aload_n hx hb dX10_copies_146 rfl (lv_at hl 3 rfl) ?_
        refine ti_get (ci := 10) (k := 43) (N := 67) (T := TX10) (v := .ref (A 60 44)) C hw iw_10 rfl ob_60 (by decide) (by decide) fl_X10_96 rfl rfl dX10_copies_147 ?_
        refine lv_iload hx hb dX10_copies_150 (lv_at hl 0 rfl) ?_
        refine ti_iald (ci := 10) (k := 43) (n := 184) C hw ob_60 (by decide) (fun _ _ => rfl) (vp_in_iff.mpr (by omega)) dX10_copies_152 ?_
        refine lv_topi (fun x_34 ex_34 => ?_)
        have yx_34 : tY M_33 60 43 x_25.toNatClampNeg = x_34 := (ex_34.symm)
        have wx_34 : tY M_14 60 43 x_25.toNatClampNeg = x_34 := (((cg (tY_nE hM_33 (nk (by decide))) x_25.toNatClampNeg).trans ((cg (tY_nE hM_31 (nk (by decide))) x_25.toNatClampNeg).trans ((cg (tY_nE hM_29 (nk (by decide))) x_25.toNatClampNeg).trans (cg (tY_nE hM_27 (nk (by decide))) x_25.toNatClampNeg))))).symm.trans yx_34
        refine ti_iast (ci := 10) (k := 43) (n := 184) C hw ob_60 (by decide) (fun _ _ => rfl) (vp_in_iff.mpr (by omega)) dX10_copies_153 (fun H locs hw => ?_)
        obtain ⟨M_35, hM_35⟩ : ∃ z : ti_M, z = uY M_33 60 43 (upd (tY M_33 60 43) (x_23 : Int32).toNatClampNeg x_34) := ⟨_, rfl⟩
        have hw := hw.to hM_35.symm
        have iM_35 : mI Tm M_35 := mI_up (i := x_23.toNatClampNeg) iM_33 hM_35 trivial
        refine lv_aload_n hx hb dX10_copies_154 rfl (lv_at hl 3 rfl) ?_
        refine ti_get (ci := 10) (k := 44) (N := 67) (T := TX10) (v := .ref (A 60 45)) C hw iw_10 rfl ob_60 (by decide) (by decide) fl_X10_99 rfl rfl dX10_copies_155 ?_
        refine lv_iload hx hb dX10_copies_158 (lv_at hl 1 rfl) ?_
        refine lv_aload_n hx hb dX10_copies_160 rfl (lv_at hl 3 rfl) ?_
        refine ti_get (ci := 10) (k := 44) (N := 67) (T := TX10) (v := .ref (A 60 45)) C hw iw_10 rfl ob_60 (by decide) (by decide) fl_X10_99 rfl rfl dX10_copies_161 ?_
        refine lv_iload hx hb dX10_copies_164 (lv_at hl 0 rfl) ?_
        refine ti_iald (ci := 10) (k := 44) (n := 184) C hw ob_60 (by decide) (fun _ _ => rfl) (vp_in_iff.mpr (by omega)) dX10_copies_166 ?_
        refine lv_topi (fun x_36 ex_36 => ?_)
        have yx_36 : tY M_35 60 44 x_25.toNatClampNeg = x_36 := (ex_36.symm)
        have wx_36 : tY M_14 60 44 x_25.toNatClampNeg = x_36 := (((cg (tY_nE hM_35 (nk (by decide))) x_25.toNatClampNeg).trans ((cg (tY_nE hM_33 (nk (by decide))) x_25.toNatClampNeg).trans ((cg (tY_nE hM_31 (nk (by decide))) x_25.toNatClampNeg).trans ((cg (tY_nE hM_29 (nk (by decide))) x_25.toNatClampNeg).trans (cg (tY_nE hM_27 (nk (by decide))) x_25.toNatClampNeg)))))).symm.trans yx_36
        refine ti_iast (ci := 10) (k := 44) (n := 184) C hw ob_60 (by decide) (fun _ _ => rfl) (vp_in_iff.mpr (by omega)) dX10_copies_167 (fun H locs hw => ?_)
        obtain ⟨M_37, hM_37⟩ : ∃ z : ti_M, z = uY M_35 60 44 (upd (tY M_35 60 44) (x_23 : Int32).toNatClampNeg x_36) := ⟨_, rfl⟩
        have hw := hw.to hM_37.symm
        have iM_37 : mI Tm M_37 := mI_up (i := x_23.toNatClampNeg) iM_35 hM_37 trivial
        refine lv_aload_n hx hb dX10_copies_168 rfl (lv_at hl 3 rfl) ?_
        refine ti_get (ci := 10) (k := 45) (N := 67) (T := TX10) (v := .ref (A 60 46)) C hw iw_10 rfl ob_60 (by decide) (by decide) fl_X10_102 rfl rfl dX10_copies_169 ?_
        refine lv_iload hx hb dX10_copies_172 (lv_at hl 1 rfl) ?_
        refine lv_aload_n hx hb dX10_copies_174 rfl (lv_at hl 3 rfl) ?_
        refine ti_get (ci := 10) (k := 45) (N := 67) (T := TX10) (v := .ref (A 60 46)) C hw iw_10 rfl ob_60 (by decide) (by decide) fl_X10_102 rfl rfl dX10_copies_175 ?_
        refine lv_iload hx hb dX10_copies_178 (lv_at hl 0 rfl) ?_
        refine ti_iald (ci := 10) (k := 45) (n := 184) C hw ob_60 (by decide) (fun _ _ => rfl) (vp_in_iff.mpr (by omega)) dX10_copies_180 ?_
        refine lv_topi (fun x_38 ex_38 => ?_)
        have yx_38 : tY M_37 60 45 x_25.toNatClampNeg = x_38 := (ex_38.symm)
        have wx_38 : tY M_14 60 45 x_25.toNatClampNeg = x_38 := (((cg (tY_nE hM_37 (nk (by decide))) x_25.toNatClampNeg).trans ((cg (tY_nE hM_35 (nk (by decide))) x_25.toNatClampNeg).trans ((cg (tY_nE hM_33 (nk (by decide))) x_25.toNatClampNeg).trans ((cg (tY_nE hM_31 (nk (by decide))) x_25.toNatClampNeg).trans ((cg (tY_nE hM_29 (nk (by decide))) x_25.toNatClampNeg).trans (cg (tY_nE hM_27 (nk (by decide))) x_25.toNatClampNeg))))))).symm.trans yx_38
        refine ti_iast (ci := 10) (k := 45) (n := 184) C hw ob_60 (by decide) (fun _ _ => rfl) (vp_in_iff.mpr (by omega)) dX10_copies_181 (fun H locs hw => ?_)
        obtain ⟨M_39, hM_39⟩ : ∃ z : ti_M, z = uY M_37 60 45 (upd (tY M_37 60 45) (x_23 : Int32).toNatClampNeg x_38) := ⟨_, rfl⟩
        have hw := hw.to hM_39.symm
        have iM_39 : mI Tm M_39 := mI_up (i := x_23.toNatClampNeg) iM_37 hM_39 trivial
        refine lv_aload_n hx hb dX10_copies_182 rfl (lv_at hl 3 rfl) ?_
        refine ti_get (ci := 10) (k := 46) (N := 67) (T := TX10) (v := .ref (A 60 47)) C hw iw_10 rfl ob_60 (by decide) (by decide) fl_X10_105 rfl rfl dX10_copies_183 ?_
        refine lv_iload hx hb dX10_copies_186 (lv_at hl 1 rfl) ?_
        refine lv_aload_n hx hb dX10_copies_188 rfl (lv_at hl 3 rfl) ?_
        refine ti_get (ci := 10) (k := 46) (N := 67) (T := TX10) (v := .ref (A 60 47)) C hw iw_10 rfl ob_60 (by decide) (by decide) fl_X10_105 rfl rfl dX10_copies_189 ?_
        refine lv_iload hx hb dX10_copies_192 (lv_at hl 0 rfl) ?_
        refine ti_iald (ci := 10) (k := 46) (n := 184) C hw ob_60 (by decide) (fun _ _ => rfl) (vp_in_iff.mpr (by omega)) dX10_copies_194 ?_
        refine lv_topi (fun x_40 ex_40 => ?_)
        have yx_40 : tY M_39 60 46 x_25.toNatClampNeg = x_40 := (ex_40.symm)
        have wx_40 : tY M_14 60 46 x_25.toNatClampNeg = x_40 := (((cg (tY_nE hM_39 (nk (by decide))) x_25.toNatClampNeg).trans ((cg (tY_nE hM_37 (nk (by decide))) x_25.toNatClampNeg).trans ((cg (tY_nE hM_35 (nk (by decide))) x_25.toNatClampNeg).trans ((cg (tY_nE hM_33 (nk (by decide))) x_25.toNatClampNeg).trans ((cg (tY_nE hM_31 (nk (by decide))) x_25.toNatClampNeg).trans ((cg (tY_nE hM_29 (nk (by decide))) x_25.toNatClampNeg).trans (cg (tY_nE hM_27 (nk (by decide))) x_25.toNatClampNeg)))))))).symm.trans yx_40
        refine ti_iast (ci := 10) (k := 46) (n := 184) C hw ob_60 (by decide) (fun _ _ => rfl) (vp_in_iff.mpr (by omega)) dX10_copies_195 (fun H locs hw => ?_)
        obtain ⟨M_41, hM_41⟩ : ∃ z : ti_M, z = uY M_39 60 46 (upd (tY M_39 60 46) (x_23 : Int32).toNatClampNeg x_40) := ⟨_, rfl⟩
        have hw := hw.to hM_41.symm
        have iM_41 : mI Tm M_41 := mI_up (i := x_23.toNatClampNeg) iM_39 hM_41 trivial
        refine lv_aload_n hx hb dX10_copies_196 rfl (lv_at hl 3 rfl) ?_
        refine ti_get (ci := 10) (k := 47) (N := 67) (T := TX10) (v := .ref (A 60 48)) C hw iw_10 rfl ob_60 (by decide) (by decide) fl_X10_108 rfl rfl dX10_copies_197 ?_
        refine lv_iload hx hb dX10_copies_200 (lv_at hl 1 rfl) ?_
        refine lv_aload_n hx hb dX10_copies_202 rfl (lv_at hl 3 rfl) ?_
        refine ti_get (ci := 10) (k := 47) (N := 67) (T := TX10) (v := .ref (A 60 48)) C hw iw_10 rfl ob_60 (by decide) (by decide) fl_X10_108 rfl rfl dX10_copies_203 ?_
        refine lv_iload hx hb dX10_copies_206 (lv_at hl 0 rfl) ?_
        refine ti_iald (ci := 10) (k := 47) (n := 184) C hw ob_60 (by decide) (fun _ _ => rfl) (vp_in_iff.mpr (by omega)) dX10_copies_208 ?_
        refine lv_topi (fun x_42 ex_42 => ?_)
        have yx_42 : tY M_41 60 47 x_25.toNatClampNeg = x_42 := (ex_42.symm)
        have wx_42 : tY M_14 60 47 x_25.toNatClampNeg = x_42 := (((cg (tY_nE hM_41 (nk (by decide))) x_25.toNatClampNeg).trans ((cg (tY_nE hM_39 (nk (by decide))) x_25.toNatClampNeg).trans ((cg (tY_nE hM_37 (nk (by decide))) x_25.toNatClampNeg).trans ((cg (tY_nE hM_35 (nk (by decide))) x_25.toNatClampNeg).trans ((cg (tY_nE hM_33 (nk (by decide))) x_25.toNatClampNeg).trans ((cg (tY_nE hM_31 (nk (by decide))) x_25.toNatClampNeg).trans ((cg (tY_nE hM_29 (nk (by decide))) x_25.toNatClampNeg).trans (cg (tY_nE hM_27 (nk (by decide))) x_25.toNatClampNeg))))))))).symm.trans yx_42
        refine ti_iast (ci := 10) (k := 47) (n := 184) C hw ob_60 (by decide) (fun _ _ => rfl) (vp_in_iff.mpr (by omega)) dX10_copies_209 (fun H locs hw => ?_)
        obtain ⟨M_43, hM_43⟩ : ∃ z : ti_M, z = uY M_41 60 47 (upd (tY M_41 60 47) (x_23 : Int32).toNatClampNeg x_42) := ⟨_, rfl⟩
        have hw := hw.to hM_43.symm
        have iM_43 : mI Tm M_43 := mI_up (i := x_23.toNatClampNeg) iM_41 hM_43 trivial
        refine lv_aload_n hx hb dX10_copies_210 rfl (lv_at hl 3 rfl) ?_
        refine ti_get (ci := 10) (k := 48) (N := 67) (T := TX10) (v := .ref (A 60 49)) C hw iw_10 rfl ob_60 (by decide) (by decide) fl_X10_111 rfl rfl dX10_copies_211 ?_
        refine lv_iload hx hb dX10_copies_214 (lv_at hl 1 rfl) ?_
        refine lv_aload_n hx hb dX10_copies_216 rfl (lv_at hl 3 rfl) ?_
        refine ti_get (ci := 10) (k := 48) (N := 67) (T := TX10) (v := .ref (A 60 49)) C hw iw_10 rfl ob_60 (by decide) (by decide) fl_X10_111 rfl rfl dX10_copies_217 ?_
        refine lv_iload hx hb dX10_copies_220 (lv_at hl 0 rfl) ?_
        refine ti_iald (ci := 10) (k := 48) (n := 184) C hw ob_60 (by decide) (fun _ _ => rfl) (vp_in_iff.mpr (by omega)) dX10_copies_222 ?_
        refine lv_topi (fun x_44 ex_44 => ?_)
        have yx_44 : tY M_43 60 48 x_25.toNatClampNeg = x_44 := (ex_44.symm)
        have wx_44 : tY M_14 60 48 x_25.toNatClampNeg = x_44 := (((cg (tY_nE hM_43 (nk (by decide))) x_25.toNatClampNeg).trans ((cg (tY_nE hM_41 (nk (by decide))) x_25.toNatClampNeg).trans ((cg (tY_nE hM_39 (nk (by decide))) x_25.toNatClampNeg).trans ((cg (tY_nE hM_37 (nk (by decide))) x_25.toNatClampNeg).trans ((cg (tY_nE hM_35 (nk (by decide))) x_25.toNatClampNeg).trans ((cg (tY_nE hM_33 (nk (by decide))) x_25.toNatClampNeg).trans ((cg (tY_nE hM_31 (nk (by decide))) x_25.toNatClampNeg).trans ((cg (tY_nE hM_29 (nk (by decide))) x_25.toNatClampNeg).trans (cg (tY_nE hM_27 (nk (by decide))) x_25.toNatClampNeg)))))))))).symm.trans yx_44
        refine ti_iast (ci := 10) (k := 48) (n := 184) C hw ob_60 (by decide) (fun _ _ => rfl) (vp_in_iff.mpr (by omega)) dX10_copies_223 (fun H locs hw => ?_)
        obtain ⟨M_45, hM_45⟩ : ∃ z : ti_M, z = uY M_43 60 48 (upd (tY M_43 60 48) (x_23 : Int32).toNatClampNeg x_44) := ⟨_, rfl⟩
        have hw := hw.to hM_45.symm
        have iM_45 : mI Tm M_45 := mI_up (i := x_23.toNatClampNeg) iM_43 hM_45 trivial
        obtain ⟨x_46, ex_46⟩ : ∃ z : Int32, z = x_11 + 1 := ⟨_, rfl⟩
        have tx_46 : x_46.toInt = x_11.toInt + 1 := i_add ex_46 rfl (by decide) (by omega) (by omega)
        refine lv_iinc (v := x_46) (lv' := [(3, .int x_46), (5, .int x_25), (4, .int x_23), (0, .ref (A 60 0)), (1, .int to), (2, .int as)]) hx hb dX10_copies_224 hl (k := 2) rfl (by rw [ex_46]; rfl) (by decide) rfl (fun ls hl => ?_)
        refine lv_goto (tgt := 62) hx hb dX10_copies_227 (by decide) ?_
        exact ih_20 x_46 M_45 _ _ _ (by omega) (by first | omega | decide) (by first | omega | decide) iM_45 (lk.trans (lk_Y hM_45 (by decide)) (lk.trans (lk_Y hM_43 (by decide)) (lk.trans (lk_Y hM_41 (by decide)) (lk.trans (lk_Y hM_39 (by decide)) (lk.trans (lk_Y hM_37 (by decide)) (lk.trans (lk_Y hM_35 (by decide)) (lk.trans (lk_Y hM_33 (by decide)) (lk.trans (lk_Y hM_31 (by decide)) (lk.trans (lk_Y hM_29 (by decide)) (lk.trans (lk_Y hM_27 (by decide)) f_15)))))))))) (eR.trans (eR_Y hM_45 (bk_m (z := x_23) (by omega) (by decide))) (eR.trans (eR_Y hM_43 (bk_m (z := x_23) (by omega) (by decide))) (eR.trans (eR_Y hM_41 (bk_m (z := x_23) (by omega) (by decide))) (eR.trans (eR_Y hM_39 (bk_m (z := x_23) (by omega) (by decide))) (eR.trans (eR_Y hM_37 (bk_m (z := x_23) (by omega) (by decide))) (eR.trans (eR_Y hM_35 (bk_m (z := x_23) (by omega) (by decide))) (eR.trans (eR_Y hM_33 (bk_m (z := x_23) (by omega) (by decide))) (eR.trans (eR_Y hM_31 (bk_m (z := x_23) (by omega) (by decide))) (eR.trans (eR_Y hM_29 (bk_m (z := x_23) (by omega) (by decide))) (eR.trans (eR_Y hM_27 (bk_m (z := x_23) (by omega) (by decide))) f_16)))))))))) (cpq_s j_17 hM_27 yx_26 hM_29 yx_28 (qw.trans (qw_Y hM_45 (by decide)) (qw.trans (qw_Y hM_43 (by decide)) (qw.trans (qw_Y hM_41 (by decide)) (qw.trans (qw_Y hM_39 (by decide)) (qw.trans (qw_Y hM_37 (by decide)) (qw.trans (qw_Y hM_35 (by decide)) (qw.trans (qw_Y hM_33 (by decide)) (qw_Y hM_31 (by decide))))))))) (by show ((x_23.toInt.toNat : Nat) : Int) = 8 * ((to.toInt.toNat : Nat) : Int) + _; omega) (by show ((x_25.toInt.toNat : Nat) : Int) = 8 * ((as.toInt.toNat : Nat) : Int) + _; omega) (by show to.toInt.toNat ≠ as.toInt.toNat; omega) (by omega) (by omega) (by omega)) (cxh_k j_18 (fun k h1 h2 => ((tY_nE hM_45 (nk (by omega))).trans ((tY_nE hM_43 (nk (by omega))).trans ((tY_nE hM_41 (nk (by omega))).trans ((tY_nE hM_39 (nk (by omega))).trans ((tY_nE hM_37 (nk (by omega))).trans ((tY_nE hM_35 (nk (by omega))).trans ((tY_nE hM_33 (nk (by omega))).trans ((tY_nE hM_31 (nk (by omega))).trans ((tY_nE hM_29 (nk (by omega))).trans (tY_nE hM_27 (nk (by omega)))))))))))))) (by rw [show x_46.toInt.toNat = x_11.toInt.toNat + 1 by omega]; exact cxm_s (cx_row (k := 39) (by decide) j_19 f_16 (by omega) (by omega) (i_cl (by omega)) (i_cl (by omega)) ((((tY_nE hM_45 (nk (by decide))).trans ((tY_nE hM_43 (nk (by decide))).trans ((tY_nE hM_41 (nk (by decide))).trans ((tY_nE hM_39 (nk (by decide))).trans ((tY_nE hM_37 (nk (by decide))).trans ((tY_nE hM_35 (nk (by decide))).trans ((tY_nE hM_33 (nk (by decide))).trans ((tY_nE hM_31 (nk (by decide))).trans (tY_nE hM_29 (nk (by decide)))))))))))).trans (tY_uE hM_27)) yx_26 rfl) (cx_row (k := 40) (by decide) j_19 f_16 (by omega) (by omega) (i_cl (by omega)) (i_cl (by omega)) ((((tY_nE hM_45 (nk (by decide))).trans ((tY_nE hM_43 (nk (by decide))).trans ((tY_nE hM_41 (nk (by decide))).trans ((tY_nE hM_39 (nk (by decide))).trans ((tY_nE hM_37 (nk (by decide))).trans ((tY_nE hM_35 (nk (by decide))).trans ((tY_nE hM_33 (nk (by decide))).trans (tY_nE hM_31 (nk (by decide))))))))))).trans ((tY_uE hM_29).trans (congrArg (fun z => upd z _ _) ((tY_nE hM_27 (nk (by decide))))))) yx_28 ((tY_nE hM_27 (nk (by decide))))) (cx_row (k := 41) (by decide) j_19 f_16 (by omega) (by omega) (i_cl (by omega)) (i_cl (by omega)) ((((tY_nE hM_45 (nk (by decide))).trans ((tY_nE hM_43 (nk (by decide))).trans ((tY_nE hM_41 (nk (by decide))).trans ((tY_nE hM_39 (nk (by decide))).trans ((tY_nE hM_37 (nk (by decide))).trans ((tY_nE hM_35 (nk (by decide))).trans (tY_nE hM_33 (nk (by decide)))))))))).trans ((tY_uE hM_31).trans (congrArg (fun z => upd z _ _) (((tY_nE hM_29 (nk (by decide))).trans (tY_nE hM_27 (nk (by decide)))))))) yx_30 (((tY_nE hM_29 (nk (by decide))).trans (tY_nE hM_27 (nk (by decide)))))) (cx_row (k := 42) (by decide) j_19 f_16 (by omega) (by omega) (i_cl (by omega)) (i_cl (by omega)) ((((tY_nE hM_45 (nk (by decide))).trans ((tY_nE hM_43 (nk (by decide))).trans ((tY_nE hM_41 (nk (by decide))).trans ((tY_nE hM_39 (nk (by decide))).trans ((tY_nE hM_37 (nk (by decide))).trans (tY_nE hM_35 (nk (by decide))))))))).trans ((tY_uE hM_33).trans (congrArg (fun z => upd z _ _) (((tY_nE hM_31 (nk (by decide))).trans ((tY_nE hM_29 (nk (by decide))).trans (tY_nE hM_27 (nk (by decide))))))))) yx_32 (((tY_nE hM_31 (nk (by decide))).trans ((tY_nE hM_29 (nk (by decide))).trans (tY_nE hM_27 (nk (by decide))))))) (cx_row (k := 43) (by decide) j_19 f_16 (by omega) (by omega) (i_cl (by omega)) (i_cl (by omega)) ((((tY_nE hM_45 (nk (by decide))).trans ((tY_nE hM_43 (nk (by decide))).trans ((tY_nE hM_41 (nk (by decide))).trans ((tY_nE hM_39 (nk (by decide))).trans (tY_nE hM_37 (nk (by decide)))))))).trans ((tY_uE hM_35).trans (congrArg (fun z => upd z _ _) (((tY_nE hM_33 (nk (by decide))).trans ((tY_nE hM_31 (nk (by decide))).trans ((tY_nE hM_29 (nk (by decide))).trans (tY_nE hM_27 (nk (by decide)))))))))) yx_34 (((tY_nE hM_33 (nk (by decide))).trans ((tY_nE hM_31 (nk (by decide))).trans ((tY_nE hM_29 (nk (by decide))).trans (tY_nE hM_27 (nk (by decide)))))))) (cx_row (k := 44) (by decide) j_19 f_16 (by omega) (by omega) (i_cl (by omega)) (i_cl (by omega)) ((((tY_nE hM_45 (nk (by decide))).trans ((tY_nE hM_43 (nk (by decide))).trans ((tY_nE hM_41 (nk (by decide))).trans (tY_nE hM_39 (nk (by decide))))))).trans ((tY_uE hM_37).trans (congrArg (fun z => upd z _ _) (((tY_nE hM_35 (nk (by decide))).trans ((tY_nE hM_33 (nk (by decide))).trans ((tY_nE hM_31 (nk (by decide))).trans ((tY_nE hM_29 (nk (by decide))).trans (tY_nE hM_27 (nk (by decide))))))))))) yx_36 (((tY_nE hM_35 (nk (by decide))).trans ((tY_nE hM_33 (nk (by decide))).trans ((tY_nE hM_31 (nk (by decide))).trans ((tY_nE hM_29 (nk (by decide))).trans (tY_nE hM_27 (nk (by decide))))))))) (cx_row (k := 45) (by decide) j_19 f_16 (by omega) (by omega) (i_cl (by omega)) (i_cl (by omega)) ((((tY_nE hM_45 (nk (by decide))).trans ((tY_nE hM_43 (nk (by decide))).trans (tY_nE hM_41 (nk (by decide)))))).trans ((tY_uE hM_39).trans (congrArg (fun z => upd z _ _) (((tY_nE hM_37 (nk (by decide))).trans ((tY_nE hM_35 (nk (by decide))).trans ((tY_nE hM_33 (nk (by decide))).trans ((tY_nE hM_31 (nk (by decide))).trans ((tY_nE hM_29 (nk (by decide))).trans (tY_nE hM_27 (nk (by decide)))))))))))) yx_38 (((tY_nE hM_37 (nk (by decide))).trans ((tY_nE hM_35 (nk (by decide))).trans ((tY_nE hM_33 (nk (by decide))).trans ((tY_nE hM_31 (nk (by decide))).trans ((tY_nE hM_29 (nk (by decide))).trans (tY_nE hM_27 (nk (by decide)))))))))) (cx_row (k := 46) (by decide) j_19 f_16 (by omega) (by omega) (i_cl (by omega)) (i_cl (by omega)) ((((tY_nE hM_45 (nk (by decide))).trans (tY_nE hM_43 (nk (by decide))))).trans ((tY_uE hM_41).trans (congrArg (fun z => upd z _ _) (((tY_nE hM_39 (nk (by decide))).trans ((tY_nE hM_37 (nk (by decide))).trans ((tY_nE hM_35 (nk (by decide))).trans ((tY_nE hM_33 (nk (by decide))).trans ((tY_nE hM_31 (nk (by decide))).trans ((tY_nE hM_29 (nk (by decide))).trans (tY_nE hM_27 (nk (by decide))))))))))))) yx_40 (((tY_nE hM_39 (nk (by decide))).trans ((tY_nE hM_37 (nk (by decide))).trans ((tY_nE hM_35 (nk (by decide))).trans ((tY_nE hM_33 (nk (by decide))).trans ((tY_nE hM_31 (nk (by decide))).trans ((tY_nE hM_29 (nk (by decide))).trans (tY_nE hM_27 (nk (by decide))))))))))) (cx_row (k := 47) (by decide) j_19 f_16 (by omega) (by omega) (i_cl (by omega)) (i_cl (by omega)) (((tY_nE hM_45 (nk (by decide)))).trans ((tY_uE hM_43).trans (congrArg (fun z => upd z _ _) (((tY_nE hM_41 (nk (by decide))).trans ((tY_nE hM_39 (nk (by decide))).trans ((tY_nE hM_37 (nk (by decide))).trans ((tY_nE hM_35 (nk (by decide))).trans ((tY_nE hM_33 (nk (by decide))).trans ((tY_nE hM_31 (nk (by decide))).trans ((tY_nE hM_29 (nk (by decide))).trans (tY_nE hM_27 (nk (by decide)))))))))))))) yx_42 (((tY_nE hM_41 (nk (by decide))).trans ((tY_nE hM_39 (nk (by decide))).trans ((tY_nE hM_37 (nk (by decide))).trans ((tY_nE hM_35 (nk (by decide))).trans ((tY_nE hM_33 (nk (by decide))).trans ((tY_nE hM_31 (nk (by decide))).trans ((tY_nE hM_29 (nk (by decide))).trans (tY_nE hM_27 (nk (by decide)))))))))))) (cx_row (k := 48) (by decide) j_19 f_16 (by omega) (by omega) (i_cl (by omega)) (i_cl (by omega)) ((tY_uE hM_45).trans (congrArg (fun z => upd z _ _) (((tY_nE hM_43 (nk (by decide))).trans ((tY_nE hM_41 (nk (by decide))).trans ((tY_nE hM_39 (nk (by decide))).trans ((tY_nE hM_37 (nk (by decide))).trans ((tY_nE hM_35 (nk (by decide))).trans ((tY_nE hM_33 (nk (by decide))).trans ((tY_nE hM_31 (nk (by decide))).trans ((tY_nE hM_29 (nk (by decide))).trans (tY_nE hM_27 (nk (by decide)))))))))))))) yx_44 (((tY_nE hM_43 (nk (by decide))).trans ((tY_nE hM_41 (nk (by decide))).trans ((tY_nE hM_39 (nk (by decide))).trans ((tY_nE hM_37 (nk (by decide))).trans ((tY_nE hM_35 (nk (by decide))).trans ((tY_nE hM_33 (nk (by decide))).trans ((tY_nE hM_31 (nk (by decide))).trans ((tY_nE hM_29 (nk (by decide))).trans (tY_nE hM_27 (nk (by decide)))))))))))))) hw (lv_sub hl [0, 3, 4, 5] rfl)
  exact hl_62_19 ((8 - 0 : Int).toNat + 1) 0 M_10 _ _ _ (Nat.lt_succ_self _) (by have lt0 : (0 : Int32).toInt = 0 := (by decide); first | omega | decide) (by have lt0 : (0 : Int32).toInt = 0 := (by decide); first | omega | decide) iM_10 (lk.trans (lk_Y hM_10 (by decide)) (lk.trans (lk_Y hM_8 (by decide)) (lk.trans (lk_Y hM_6 (by decide)) (lk.trans (lk_Y hM_4 (by decide)) (lk_Y hM_2 (by decide)))))) (eR.trans (eR_Y hM_10 (bk_q (z := to) (by omega) (by decide))) (eR.trans (eR_Y hM_8 (bk_q (z := to) (by omega) (by decide))) (eR.trans (eR_Y hM_6 (bk_q (z := to) (by omega) (by decide))) (eR.trans (eR_Y hM_4 (bk_q (z := to) (by omega) (by decide))) (eR_Y hM_2 (bk_q (z := to) (by omega) (by decide))))))) (cpq_0 (qw.trans (qw_Y hM_8 (by decide)) (qw.trans (qw_Y hM_6 (by decide)) (qw.trans (qw_Y hM_4 (by decide)) (qw_Y hM_2 (by decide))))) hM_10 rfl rfl (wx_9)) ⟨(cx_h1 ((((tY_nE hM_10 (nk (by decide))).trans ((tY_nE hM_8 (nk (by decide))).trans ((tY_nE hM_6 (nk (by decide))).trans (tY_nE hM_4 (nk (by decide))))))).trans (tY_uE hM_2)) yx_1 rfl (i_cl (by omega)) (i_cl (by omega))), (cx_h1 ((((tY_nE hM_10 (nk (by decide))).trans ((tY_nE hM_8 (nk (by decide))).trans (tY_nE hM_6 (nk (by decide)))))).trans ((tY_uE hM_4).trans (congrArg (fun z => upd z _ _) ((tY_nE hM_2 (nk (by decide))))))) yx_3 ((tY_nE hM_2 (nk (by decide)))) (i_cl (by omega)) (i_cl (by omega))), (cx_h1 ((((tY_nE hM_10 (nk (by decide))).trans (tY_nE hM_8 (nk (by decide))))).trans ((tY_uE hM_6).trans (congrArg (fun z => upd z _ _) (((tY_nE hM_4 (nk (by decide))).trans (tY_nE hM_2 (nk (by decide)))))))) yx_5 (((tY_nE hM_4 (nk (by decide))).trans (tY_nE hM_2 (nk (by decide))))) (i_cl (by omega)) (i_cl (by omega))), (cx_h1 (((tY_nE hM_10 (nk (by decide)))).trans ((tY_uE hM_8).trans (congrArg (fun z => upd z _ _) (((tY_nE hM_6 (nk (by decide))).trans ((tY_nE hM_4 (nk (by decide))).trans (tY_nE hM_2 (nk (by decide))))))))) yx_7 (((tY_nE hM_6 (nk (by decide))).trans ((tY_nE hM_4 (nk (by decide))).trans (tY_nE hM_2 (nk (by decide)))))) (i_cl (by omega)) (i_cl (by omega))), (cx_h1 ((tY_uE hM_10).trans (congrArg (fun z => upd z _ _) (((tY_nE hM_8 (nk (by decide))).trans ((tY_nE hM_6 (nk (by decide))).trans ((tY_nE hM_4 (nk (by decide))).trans (tY_nE hM_2 (nk (by decide))))))))) yx_9 (((tY_nE hM_8 (nk (by decide))).trans ((tY_nE hM_6 (nk (by decide))).trans ((tY_nE hM_4 (nk (by decide))).trans (tY_nE hM_2 (nk (by decide))))))) (i_cl (by omega)) (i_cl (by omega)))⟩ cxm_0 hw (lv_sub hl [0, 1, 2, 3] rfl)
end

variable {Tc : gC} {Tm : gM}
variable {Tc : gC} {Tm : gM}
theorem bt_0 (k : Nat) : pp_bt 0 k = 0 := by unfold pp_bt; simp
/-- coughs are over -/
theorem qR_37 {n q : Nat} {s g : Nat → Int} {M N : ti_M} {z v : Int32} (h : qR n q s M) (hz : z.toInt = (q : Int)) (hv : v = 0) (e : N = uY M 60 37 (upd (tY M 60 37) z.toNatClampNeg v)) (hn : n ≤ 8) (hg : ∀ j : Nat, j < 256 → g j = s j) (h1 : s 1 = 0 → ∀ m : Nat, m < 8 → g (256 + m) = 0) : qR n q g N := by
  rw [i_cl hz] at e
  obtain ⟨a, b, c, d, f, g0⟩ := h
  have o : ∀ k2 : Nat, k2 ≠ 37 → tY N 60 k2 = tY M 60 k2 := fun k2 h2 => tY_nE e (nk h2)
  have e37 : tY N 60 37 q = 0 := by rw [tY_uE e, pk_us, hv]
  refine ⟨by rw [hg 2 (by decide), hg 3 (by decide), hg 4 (by decide), hg 5 (by decide), o 34 (by decide), o 38 (by decide), o 35 (by decide), o 36 (by decide)]; exact a, fun p h1 h2 => ?_, fun j hj => by rw [hg (112 + j) (by omega), o 49 (by decide)]; exact c j hj, fun m2 h2 => ?_, fun m2 h2 => ?_, ?_⟩
  · rw [hg 3 (by decide)] at h2
    rw [hg (96 + p) (by omega), o 39 (by decide)]; exact b p h1 h2
  · rw [hg (128 + m2) (by omega), hg (144 + m2) (by omega), hg (160 + m2) (by omega), hg (176 + m2) (by omega), hg (192 + m2) (by omega), hg (240 + m2) (by omega), o 40 (by decide), o 44 (by decide), o 41 (by decide), o 42 (by decide), o 43 (by decide), o 47 (by decide)]; exact d m2 h2
  · rw [hg (128 + m2) (by omega), hg (208 + m2) (by omega), hg (224 + m2) (by omega), o 45 (by decide), o 46 (by decide)]; exact f m2 h2
  · rw [hg 1 (by decide), e37]
    split
    · rename_i w
      intro m2 h2
      rw [h1 w m2 h2, bt_0]
    · rfl
theorem fc_lt {s : Nat → Int} {j : Nat} (h : j < 256) : bq_fc s j = s j := by unfold bq_fc; rw [if_neg (by omega)]
theorem fc_0 {s : Nat → Int} {m : Nat} (h : m < 8) : bq_fc s (256 + m) = 0 := by unfold bq_fc; rw [if_pos (by omega)]
set_option maxHeartbeats 4000000 in
set_option maxRecDepth 100000 in
theorem z_X10_coughing_0 (l : Launch) (D : va_G) (A : Nat → Nat → Nat) (cy : Nat → ClassId) (hJ : ti_inj ti_LM A) (M : ti_M) (hI : mI Tm M) (hC : mC M 0) (hL : mL M) (t : Int32) (tx rg : Nat → Int) (htr : tR tx M) (ht4 : 0 ≤ tx 4 ∧ tx 4 ≤ 8) (hr : qR (tx 4).toNat 0 rg M) (hV : qV (tx 4).toNat 0 rg M) (hwf : wF tx rg) (htW : tW tx) (htm : t.toInt = rg 2) (h1 : rg 1 = 0) : ti_Kv l yX10_coughing cX10_coughing 5 5 ti_LM D A cy M [.ref (A 60 0), .int 0, .int t] (fun M2 => eR 0 M2 M ∧ qR (tx 4).toNat 0 (bq_hc tx rg) M2 ∧ qV (tx 4).toNat 0 (bq_hc tx rg) M2 ∧ mI Tm M2 ∧ rq 0 M2 M ∧ mC M2 0 ∧ tY M2 60 34 = tY M 60 34) := by
  refine ti_eV yp_X10_coughing hJ ti_LM_nd (Nat.le_of_ble_eq_true rfl) ?_
  intro p e s m args below meth c Q H0 C hQ hw ls hl
  have hx := C.1
  have hb := C.2.1
  have hl : lv_has ls 5 [(0, .ref (A 60 0)), (1, .int 0), (2, .int t)] := hl
  have LH : (bq_lh tx rg = tx 9 ∧ tx 9 ≤ rg 3 - 1) ∨ (bq_lh tx rg = rg 3 - 1 ∧ rg 3 - 1 < tx 9) := by unfold bq_lh bq_mn; split <;> omega
  have w8 := wF_8 hwf
  have G0 := hr.2.2.2.2.2
  rw [if_pos h1] at G0
  refine lv_iconst (v := 0) hx hb dX10_coughing_0 (by decide) ?_
  refine lv_istore_n (lv' := [(3, .int 0), (0, .ref (A 60 0)), (1, .int 0), (2, .int t)]) hx hb dX10_coughing_1 rfl hl (by decide) rfl (fun ls hl => ?_)
  refine lv_iconst (v := 1) hx hb dX10_coughing_2 (by decide) ?_
  refine lv_istore (lv' := [(4, .int 1), (3, .int 0), (0, .ref (A 60 0)), (1, .int 0), (2, .int t)]) hx hb dX10_coughing_3 hl (by decide) rfl (fun ls hl => ?_)
  have hl_5_5 : ∀ (n_6 : Nat) (x_1 : Int32) (x_4 : Int32) (H : Heap) (locs : List Loc) (ls : Array Slot), (8 - x_1.toInt : Int).toNat < n_6 → (1 ≤ x_1.toInt) → (x_1.toInt ≤ 8) → (bq_hs rg (bq_lh tx rg + 1 - (x_1.toInt)).toNat (x_1.toInt).toNat (x_4.toInt) = bq_hs rg (bq_lh tx rg).toNat 1 0) → ti_H ti_LM D A cy H0 M H locs → lv_has ls 5 [(4, .int x_1), (3, .int x_4), (0, .ref (A 60 0)), (1, .int 0), (2, .int t)] → W p l e (ti_rm 5) s m args below meth c H locs 0 0 Q (F0 m 5 ls []) := by
    intro n_6
    induction n_6 with
    | zero => intro x_1 x_4 H locs ls hf_6; exact absurd hf_6 (Nat.not_lt_zero _)
    | succ n_6 ih_6 =>
      intro x_1 x_4 H locs ls hf_6 b_2 b_3 j_5 hw hl
      refine lv_iload hx hb dX10_coughing_5 (lv_at hl 0 rfl) ?_
      refine lv_aload_n hx hb dX10_coughing_7 rfl (lv_at hl 2 rfl) ?_
      refine ti_get (ci := 10) (k := 38) (N := 67) (T := TX10) (v := .ref (A 60 39)) C hw iw_10 rfl ob_60 (by decide) (by decide) fl_X10_81 rfl rfl dX10_coughing_8 ?_
      refine lv_iload_n hx hb dX10_coughing_11 rfl (lv_at hl 3 rfl) ?_
      refine ti_iald (ci := 10) (k := 38) (n := 23) C hw ob_60 (by decide) (fun _ _ => rfl) (by unfold vp_in; decide) dX10_coughing_12 ?_
      refine lv_topi (fun x_7 ex_7 => ?_)
      have yx_7 : tY M 60 38 0 = x_7 := ((congrArg _ (by decide)).symm.trans ex_7.symm)
      have bx_7 : 0 ≤ x_7.toInt ∧ x_7.toInt ≤ 8 := mI_ry (k := 38) (i := 0) hI yx_7.symm
      have zx_7 : (tY M 60 38 0).toInt = x_7.toInt := by rw [yx_7]
      have L_8 : rg 3 = x_7.toInt := (hr.1.2.1).trans (congrArg Int32.toInt (yx_7))
      refine sb_icmp_ge (tgt := 57) hx hb rfl rfl dX10_coughing_13 (by decide) (fun c_13_8 => ?_) (fun c_13_8 => ?_)
      · have EH : bq_hs rg (bq_lh tx rg).toNat 1 0 = x_4.toInt := by rw [← j_5, hs_end (by omega)]
        refine lv_aload_n hx hb dX10_coughing_57 rfl (lv_at hl 2 rfl) ?_
        refine ti_get (ci := 10) (k := 38) (N := 67) (T := TX10) (v := .ref (A 60 39)) C hw iw_10 rfl ob_60 (by decide) (by decide) fl_X10_81 rfl rfl dX10_coughing_58 ?_
        refine lv_iload_n hx hb dX10_coughing_61 rfl (lv_at hl 3 rfl) ?_
        refine ti_iald (ci := 10) (k := 38) (n := 23) C hw ob_60 (by decide) (fun _ _ => rfl) (by unfold vp_in; decide) dX10_coughing_62 ?_
        refine ti_top (y := x_7) ((congrArg _ (by decide)).trans (yx_7)) ?_
        have L_21 : rg 3 = x_7.toInt := (hr.1.2.1).trans (congrArg Int32.toInt (yx_7))
        refine sb_if_le (tgt := 96) hx hb rfl dX10_coughing_63 (by decide) (fun c_63_21 => ?_) (fun c_63_21 => ?_)
        · refine lv_aload_n hx hb dX10_coughing_96 rfl (lv_at hl 2 rfl) ?_
          refine ti_get (ci := 10) (k := 37) (N := 67) (T := TX10) (v := .ref (A 60 38)) C hw iw_10 rfl ob_60 (by decide) (by decide) fl_X10_78 rfl rfl dX10_coughing_97 ?_
          refine lv_iload_n hx hb dX10_coughing_100 rfl (lv_at hl 3 rfl) ?_
          refine lv_iconst (v := 0) hx hb dX10_coughing_101 (by decide) ?_
          refine ti_iast (ci := 10) (k := 37) (n := 23) C hw ob_60 (by decide) (fun _ _ => rfl) (by unfold vp_in; decide) dX10_coughing_102 (fun H locs hw => ?_)
          obtain ⟨M_65, hM_65⟩ : ∃ z : ti_M, z = uY M 60 37 (upd (tY M 60 37) (0 : Int32).toNatClampNeg 0) := ⟨_, rfl⟩
          have hw := hw.to hM_65.symm
          have iM_65 : mI Tm M_65 := mI_up (i := 0) hI hM_65 trivial
          have hs_67 : qR (tx 4).toNat 0 (bq_fc rg) M_65 := qR_37 (z := 0) hr (by decide) rfl hM_65 (by omega) (fun j hj => fc_lt hj) (fun _ m2 h2 => fc_0 h2)
          obtain ⟨g_68, eg_68⟩ : ∃ z : Nat → Int, z = bq_fc rg := ⟨_, rfl⟩
          rw [← eg_68] at hs_67
          have E_69 : bq_hc tx rg = g_68 := by unfold bq_hc; rw [if_pos (by omega), EH, if_neg (by first | omega | (have H0 : x_4.toInt = 0 := (by rw [← EH, hs_end (by omega)]); omega)), ← eg_68]
          exact hQ _ _ _ _ _ hw (⟨(eR_Y hM_65 (bk_q (z := 0) (by decide) (by decide))), (by rw [E_69]; exact hs_67), (by rw [E_69, eg_68]; exact qV_same hV (tY_nE hM_65 (nk (by decide))) (by omega) (fun _ _ => fc_lt (by omega)) (fun _ _ => fc_lt (by omega))), iM_65, (rq_qw (qw_Y hM_65 (by decide))), (mC_qw (qw_Y hM_65 (by decide)) hC), ((tY_nE hM_65 (nk (by decide))))⟩) dX10_coughing_103
        · refine lv_iload_n hx hb dX10_coughing_66 rfl (lv_at hl 1 rfl) ?_
          refine sb_if_le (tgt := 96) hx hb rfl dX10_coughing_67 (by decide) (fun c_67_24 => ?_) (fun c_67_24 => ?_)
          · refine lv_aload_n hx hb dX10_coughing_96 rfl (lv_at hl 2 rfl) ?_
            refine ti_get (ci := 10) (k := 37) (N := 67) (T := TX10) (v := .ref (A 60 38)) C hw iw_10 rfl ob_60 (by decide) (by decide) fl_X10_78 rfl rfl dX10_coughing_97 ?_
            refine lv_iload_n hx hb dX10_coughing_100 rfl (lv_at hl 3 rfl) ?_
            refine lv_iconst (v := 0) hx hb dX10_coughing_101 (by decide) ?_
            refine ti_iast (ci := 10) (k := 37) (n := 23) C hw ob_60 (by decide) (fun _ _ => rfl) (by unfold vp_in; decide) dX10_coughing_102 (fun H locs hw => ?_)
            obtain ⟨M_75, hM_75⟩ : ∃ z : ti_M, z = uY M 60 37 (upd (tY M 60 37) (0 : Int32).toNatClampNeg 0) := ⟨_, rfl⟩
            have hw := hw.to hM_75.symm
            have iM_75 : mI Tm M_75 := mI_up (i := 0) hI hM_75 trivial
            have hs_77 : qR (tx 4).toNat 0 (bq_fc rg) M_75 := qR_37 (z := 0) hr (by decide) rfl hM_75 (by omega) (fun j hj => fc_lt hj) (fun _ m2 h2 => fc_0 h2)
            obtain ⟨g_78, eg_78⟩ : ∃ z : Nat → Int, z = bq_fc rg := ⟨_, rfl⟩
            rw [← eg_78] at hs_77
            have E_79 : bq_hc tx rg = g_78 := by unfold bq_hc; rw [if_pos (by omega), EH, if_neg (by first | omega | (have H0 : x_4.toInt = 0 := (by rw [← EH, hs_end (by omega)]); omega)), ← eg_78]
            exact hQ _ _ _ _ _ hw (⟨(eR_Y hM_75 (bk_q (z := 0) (by decide) (by decide))), (by rw [E_79]; exact hs_77), (by rw [E_79, eg_78]; exact qV_same hV (tY_nE hM_75 (nk (by decide))) (by omega) (fun _ _ => fc_lt (by omega)) (fun _ _ => fc_lt (by omega))), iM_75, (rq_qw (qw_Y hM_75 (by decide))), (mC_qw (qw_Y hM_75 (by decide)) hC), ((tY_nE hM_75 (nk (by decide))))⟩) dX10_coughing_103
          · refine lv_iload_n hx hb dX10_coughing_70 rfl (lv_at hl 1 rfl) ?_
            refine lv_aload_n hx hb dX10_coughing_71 rfl (lv_at hl 2 rfl) ?_
            refine lv_iload_n hx hb dX10_coughing_72 rfl (lv_at hl 3 rfl) ?_
            refine lv_iload_n hx hb dX10_coughing_73 rfl (lv_at hl 4 rfl) ?_
            refine ti_callVi (ci := 10) (av := [.int 0, .int t]) C hw (z_X10_needOf_0 l D A cy hJ M hI hL t tx rg htr ht4 hr hwf (by omega) (by omega)) ⟨ml_X10_371, ym_X10_needOf, yv_X10_needOf, yi_X10_needOf, yc_X10_needOf⟩ yd_X10_needOf ob_60 (by decide) rfl rfl hl.1 (Nat.le_of_ble_eq_true rfl) ⟨by decide, by decide⟩ ⟨Nat.zero_le _, Nat.zero_le _⟩ dX10_coughing_74 (fun r_27 M_28 H locs hp_28 hw => ?_)
            obtain ⟨fi_31, pr_27, iM_28, q_29, q_30⟩ := hp_28
            have hs_32 : qR (tx 4).toNat 0 rg M_28 := qR_of hr q_30
            refine sb_icmp_lt (tgt := 96) hx hb rfl rfl dX10_coughing_77 (by decide) (fun c_77_32 => ?_) (fun c_77_32 => ?_)
            · refine lv_aload_n hx hb dX10_coughing_96 rfl (lv_at hl 2 rfl) ?_
              refine ti_get (ci := 10) (k := 37) (N := 67) (T := TX10) (v := .ref (A 60 38)) C hw iw_10 rfl ob_60 (by decide) (by decide) fl_X10_78 rfl rfl dX10_coughing_97 ?_
              refine lv_iload_n hx hb dX10_coughing_100 rfl (lv_at hl 3 rfl) ?_
              refine lv_iconst (v := 0) hx hb dX10_coughing_101 (by decide) ?_
              refine ti_iast (ci := 10) (k := 37) (n := 23) C hw ob_60 (by decide) (fun _ _ => rfl) (by unfold vp_in; decide) dX10_coughing_102 (fun H locs hw => ?_)
              obtain ⟨M_85, hM_85⟩ : ∃ z : ti_M, z = uY M_28 60 37 (upd (tY M_28 60 37) (0 : Int32).toNatClampNeg 0) := ⟨_, rfl⟩
              have hw := hw.to hM_85.symm
              have iM_85 : mI Tm M_85 := mI_up (i := 0) iM_28 hM_85 trivial
              have hs_87 : qR (tx 4).toNat 0 (bq_fc rg) M_85 := qR_37 (z := 0) hs_32 (by decide) rfl hM_85 (by omega) (fun j hj => fc_lt hj) (fun _ m2 h2 => fc_0 h2)
              obtain ⟨g_88, eg_88⟩ : ∃ z : Nat → Int, z = bq_fc rg := ⟨_, rfl⟩
              rw [← eg_88] at hs_87
              have E_89 : bq_hc tx rg = g_88 := by unfold bq_hc; rw [if_pos (by omega), EH, if_neg (by first | omega | (have H0 : x_4.toInt = 0 := (by rw [← EH, hs_end (by omega)]); omega)), ← eg_88]
              exact hQ _ _ _ _ _ hw (⟨(eR.trans (eR_Y hM_85 (bk_q (z := 0) (by decide) (by decide))) (eR_fI fi_31 q_30)), (by rw [E_89]; exact hs_87), (by rw [E_89, eg_88]; exact qV_same (qV_rows hV (fun k i _ => cg (tY_fr ((q_30) : M_28.2.1 = M.2.1)) i) (by omega)) (tY_nE hM_85 (nk (by decide))) (by omega) (fun _ _ => fc_lt (by omega)) (fun _ _ => fc_lt (by omega))), iM_85, (rq.trans (rq_qw (qw_Y hM_85 (by decide))) (rq_qw q_29)), (mC_qw (qw.trans (qw_Y hM_85 (by decide)) q_29) hC), (((tY_nE hM_85 (nk (by decide))).trans (tY_fr q_30)))⟩) dX10_coughing_103
            · refine lv_aload_n hx hb dX10_coughing_80 rfl (lv_at hl 2 rfl) ?_
              refine lv_iload_n hx hb dX10_coughing_81 rfl (lv_at hl 3 rfl) ?_
              refine ti_callVi (ci := 10) (av := [.int 0]) C hw (z_X10_isGuarded_0 l D A cy hJ M_28 iM_28 tx rg (tR_lw htr (eR_lw (q := 0) (eR_fI fi_31 q_30))) ht4 hs_32 hwf htW) ⟨ml_X10_374, ym_X10_isGuarded, yv_X10_isGuarded, yi_X10_isGuarded, yc_X10_isGuarded⟩ yd_X10_isGuarded ob_60 (by decide) rfl rfl hl.1 (Nat.le_of_ble_eq_true rfl) ⟨by decide, by decide⟩ ⟨Nat.zero_le _, Nat.zero_le _⟩ dX10_coughing_82 (fun r_41 M_42 H locs hp_42 hw => ?_)
              obtain ⟨hm9, hz9⟩ := hp_42
              have hw := hw.to hm9
              rcases hz9 with ⟨rfl, dg_43⟩ | ⟨rfl, dg_43⟩
              · refine sb_if_ne (tgt := 96) hx hb (by decide : (1 : Int32).toInt = 1) dX10_coughing_85 (by decide) (fun c_85_43 => ?_) (fun h => absurd h (by decide))
                refine lv_aload_n hx hb dX10_coughing_96 rfl (lv_at hl 2 rfl) ?_
                refine ti_get (ci := 10) (k := 37) (N := 67) (T := TX10) (v := .ref (A 60 38)) C hw iw_10 rfl ob_60 (by decide) (by decide) fl_X10_78 rfl rfl dX10_coughing_97 ?_
                refine lv_iload_n hx hb dX10_coughing_100 rfl (lv_at hl 3 rfl) ?_
                refine lv_iconst (v := 0) hx hb dX10_coughing_101 (by decide) ?_
                refine ti_iast (ci := 10) (k := 37) (n := 23) C hw ob_60 (by decide) (fun _ _ => rfl) (by unfold vp_in; decide) dX10_coughing_102 (fun H locs hw => ?_)
                obtain ⟨M_95, hM_95⟩ : ∃ z : ti_M, z = uY M_28 60 37 (upd (tY M_28 60 37) (0 : Int32).toNatClampNeg 0) := ⟨_, rfl⟩
                have hw := hw.to hM_95.symm
                have iM_95 : mI Tm M_95 := mI_up (i := 0) iM_28 hM_95 trivial
                have hs_97 : qR (tx 4).toNat 0 (bq_fc rg) M_95 := qR_37 (z := 0) hs_32 (by decide) rfl hM_95 (by omega) (fun j hj => fc_lt hj) (fun _ m2 h2 => fc_0 h2)
                obtain ⟨g_98, eg_98⟩ : ∃ z : Nat → Int, z = bq_fc rg := ⟨_, rfl⟩
                rw [← eg_98] at hs_97
                have E_99 : bq_hc tx rg = g_98 := by unfold bq_hc; rw [if_pos (by omega), EH, if_neg (by first | omega | (have H0 : x_4.toInt = 0 := (by rw [← EH, hs_end (by omega)]); omega)), ← eg_98]
                exact hQ _ _ _ _ _ hw (⟨(eR.trans (eR_Y hM_95 (bk_q (z := 0) (by decide) (by decide))) (eR_fI fi_31 q_30)), (by rw [E_99]; exact hs_97), (by rw [E_99, eg_98]; exact qV_same (qV_rows hV (fun k i _ => cg (tY_fr ((q_30) : M_28.2.1 = M.2.1)) i) (by omega)) (tY_nE hM_95 (nk (by decide))) (by omega) (fun _ _ => fc_lt (by omega)) (fun _ _ => fc_lt (by omega))), iM_95, (rq.trans (rq_qw (qw_Y hM_95 (by decide))) (rq_qw q_29)), (mC_qw (qw.trans (qw_Y hM_95 (by decide)) q_29) hC), (((tY_nE hM_95 (nk (by decide))).trans (tY_fr q_30)))⟩) dX10_coughing_103
              · refine sb_if_ne (tgt := 96) hx hb (by decide : (0 : Int32).toInt = 0) dX10_coughing_85 (by decide) (fun h => absurd h (by decide)) (fun c_85_44 => ?_)
                refine lv_aload_n hx hb dX10_coughing_88 rfl (lv_at hl 2 rfl) ?_
                refine lv_iload_n hx hb dX10_coughing_89 rfl (lv_at hl 3 rfl) ?_
                refine lv_iconst (v := 0) hx hb dX10_coughing_90 (by decide) ?_
                refine lv_iconst (v := 3) hx hb dX10_coughing_91 (by decide) ?_
                refine lv_iload_n hx hb dX10_coughing_92 rfl (lv_at hl 4 rfl) ?_
                have lk_53 : (tY M_28 60 38 0).toInt = (tY M 60 38 0).toInt := by rw [(cg (tY_fr q_30) 0)]
                refine ti_callVv (ci := 10) (av := [.int 0, .int 0, .int 3, .int t]) C hw (z_X10_leaves_0 l D A cy hJ M_28 iM_28 (mC_qw q_29 hC) 0 3 t (by first | omega | decide | (have l0 : (0 : Int32).toInt = 0 := (by decide); have l2 : (2 : Int32).toInt = 2 := (by decide); have l3 : (3 : Int32).toInt = 3 := (by decide); omega)) (by first | omega | decide | (have l0 : (0 : Int32).toInt = 0 := (by decide); have l2 : (2 : Int32).toInt = 2 := (by decide); have l3 : (3 : Int32).toInt = 3 := (by decide); omega)) (by first | omega | decide | (have l0 : (0 : Int32).toInt = 0 := (by decide); have l2 : (2 : Int32).toInt = 2 := (by decide); have l3 : (3 : Int32).toInt = 3 := (by decide); omega)) tx rg (tR_lw htr (eR_lw (q := 0) (eR_fI fi_31 q_30))) ht4 hs_32 (qV_rows hV (fun k i _ => cg (tY_fr ((q_30) : M_28.2.1 = M.2.1)) i) (by omega)) hwf (by omega)) ⟨ml_X10_377, ym_X10_leaves, yv_X10_leaves, yi_X10_leaves, yc_X10_leaves⟩ yd_X10_leaves ob_60 (by decide) rfl rfl hl.1 (Nat.le_of_ble_eq_true rfl) ⟨by decide, by decide⟩ ⟨Nat.zero_le _, Nat.zero_le _⟩ dX10_coughing_93 (fun M_52 H locs hp_52 hw => ?_)
                obtain ⟨erM_52, hrM_52, qvM_52, hqM_52⟩ := hp_52
                obtain ⟨iM_52, q_54, q_55, q_56, p0r_51⟩ := hqM_52
                simp only [show (0 : Int32).toInt = 0 by decide] at hrM_52 qvM_52
                simp only [show (3 : Int32).toInt = 3 by decide] at hrM_52 qvM_52
                obtain ⟨g_57, eg_57⟩ : ∃ z : Nat → Int, z = bq_rm rg 0 3 := ⟨_, rfl⟩
                rw [← eg_57] at hrM_52
                rw [← eg_57] at qvM_52
                refine lv_aload_n hx hb dX10_coughing_96 rfl (lv_at hl 2 rfl) ?_
                refine ti_get (ci := 10) (k := 37) (N := 67) (T := TX10) (v := .ref (A 60 38)) C hw iw_10 rfl ob_60 (by decide) (by decide) fl_X10_78 rfl rfl dX10_coughing_97 ?_
                refine lv_iload_n hx hb dX10_coughing_100 rfl (lv_at hl 3 rfl) ?_
                refine lv_iconst (v := 0) hx hb dX10_coughing_101 (by decide) ?_
                refine ti_iast (ci := 10) (k := 37) (n := 23) C hw ob_60 (by decide) (fun _ _ => rfl) (by unfold vp_in; decide) dX10_coughing_102 (fun H locs hw => ?_)
                obtain ⟨M_105, hM_105⟩ : ∃ z : ti_M, z = uY M_52 60 37 (upd (tY M_52 60 37) (0 : Int32).toNatClampNeg 0) := ⟨_, rfl⟩
                have hw := hw.to hM_105.symm
                have iM_105 : mI Tm M_105 := mI_up (i := 0) iM_52 hM_105 trivial
                have hs_107 : qR (tx 4).toNat 0 (bq_fc g_57) M_105 := qR_37 (z := 0) hrM_52 (by decide) rfl hM_105 (by omega) (fun j hj => fc_lt hj) (fun _ m2 h2 => fc_0 h2)
                obtain ⟨g_108, eg_108⟩ : ∃ z : Nat → Int, z = bq_fc g_57 := ⟨_, rfl⟩
                rw [← eg_108] at hs_107
                have E_109 : bq_hc tx rg = g_108 := by unfold bq_hc; rw [if_pos (by omega), EH, if_pos (by omega), ← eg_57, ← eg_108]
                exact hQ _ _ _ _ _ hw (⟨(eR.trans (eR_Y hM_105 (bk_q (z := 0) (by decide) (by decide))) (eR.trans erM_52 (eR_fI fi_31 q_30))), (by rw [E_109]; exact hs_107), (by rw [E_109, eg_108]; exact qV_same qvM_52 (tY_nE hM_105 (nk (by decide))) (by omega) (fun _ _ => fc_lt (by omega)) (fun _ _ => fc_lt (by omega))), iM_105, (rq.trans (rq_qw (qw_Y hM_105 (by decide))) (rq.trans q_54 (rq_qw q_29))), (mC_qw (qw_Y hM_105 (by decide)) q_55), (((tY_nE hM_105 (nk (by decide))).trans ((q_56).trans (tY_fr q_30))))⟩) dX10_coughing_103
      · refine lv_iload hx hb dX10_coughing_16 (lv_at hl 0 rfl) ?_
        refine lv_aload_n hx hb dX10_coughing_18 rfl (lv_at hl 2 rfl) ?_
        refine ti_get (ci := 10) (k := 3) (N := 67) (T := TX10) (v := .ref (A 60 4)) C hw iw_10 rfl ob_60 (by decide) (by decide) fl_X10_13 rfl rfl dX10_coughing_19 ?_
        refine lv_iconst (v := 4) hx hb dX10_coughing_22 (by decide) ?_
        refine ti_iald (ci := 10) (k := 3) (n := 22) C hw ob_60 (by decide) (fun _ _ => rfl) (by unfold vp_in; decide) dX10_coughing_23 ?_
        refine lv_topi (fun x_10 ex_10 => ?_)
        have yx_10 : tY M 60 3 4 = x_10 := ((congrArg _ (by decide)).symm.trans ex_10.symm)
        have zx_10 : (tY M 60 3 4).toInt = x_10.toInt := by rw [yx_10]
        have L_11 : tx 9 = x_10.toInt := (htr.1.2.2.2.2.1).trans ((congrArg Int32.toInt (cg rfl 4)).symm.trans (congrArg Int32.toInt (yx_10)))
        refine sb_icmp_gt (tgt := 57) hx hb rfl rfl dX10_coughing_24 (by decide) (fun c_24_11 => ?_) (fun c_24_11 => ?_)
        · have EH : bq_hs rg (bq_lh tx rg).toNat 1 0 = x_4.toInt := by rw [← j_5, hs_end (by omega)]
          refine lv_aload_n hx hb dX10_coughing_57 rfl (lv_at hl 2 rfl) ?_
          refine ti_get (ci := 10) (k := 38) (N := 67) (T := TX10) (v := .ref (A 60 39)) C hw iw_10 rfl ob_60 (by decide) (by decide) fl_X10_81 rfl rfl dX10_coughing_58 ?_
          refine lv_iload_n hx hb dX10_coughing_61 rfl (lv_at hl 3 rfl) ?_
          refine ti_iald (ci := 10) (k := 38) (n := 23) C hw ob_60 (by decide) (fun _ _ => rfl) (by unfold vp_in; decide) dX10_coughing_62 ?_
          refine ti_top (y := x_7) ((congrArg _ (by decide)).trans (yx_7)) ?_
          have L_23 : rg 3 = x_7.toInt := (hr.1.2.1).trans (congrArg Int32.toInt (yx_7))
          refine sb_if_le (tgt := 96) hx hb rfl dX10_coughing_63 (by decide) (fun c_63_23 => ?_) (fun c_63_23 => ?_)
          · refine lv_aload_n hx hb dX10_coughing_96 rfl (lv_at hl 2 rfl) ?_
            refine ti_get (ci := 10) (k := 37) (N := 67) (T := TX10) (v := .ref (A 60 38)) C hw iw_10 rfl ob_60 (by decide) (by decide) fl_X10_78 rfl rfl dX10_coughing_97 ?_
            refine lv_iload_n hx hb dX10_coughing_100 rfl (lv_at hl 3 rfl) ?_
            refine lv_iconst (v := 0) hx hb dX10_coughing_101 (by decide) ?_
            refine ti_iast (ci := 10) (k := 37) (n := 23) C hw ob_60 (by decide) (fun _ _ => rfl) (by unfold vp_in; decide) dX10_coughing_102 (fun H locs hw => ?_)
            obtain ⟨M_70, hM_70⟩ : ∃ z : ti_M, z = uY M 60 37 (upd (tY M 60 37) (0 : Int32).toNatClampNeg 0) := ⟨_, rfl⟩
            have hw := hw.to hM_70.symm
            have iM_70 : mI Tm M_70 := mI_up (i := 0) hI hM_70 trivial
            have hs_72 : qR (tx 4).toNat 0 (bq_fc rg) M_70 := qR_37 (z := 0) hr (by decide) rfl hM_70 (by omega) (fun j hj => fc_lt hj) (fun _ m2 h2 => fc_0 h2)
            obtain ⟨g_73, eg_73⟩ : ∃ z : Nat → Int, z = bq_fc rg := ⟨_, rfl⟩
            rw [← eg_73] at hs_72
            have E_74 : bq_hc tx rg = g_73 := by unfold bq_hc; rw [if_pos (by omega), EH, if_neg (by first | omega | (have H0 : x_4.toInt = 0 := (by rw [← EH, hs_end (by omega)]); omega)), ← eg_73]
            exact hQ _ _ _ _ _ hw (⟨(eR_Y hM_70 (bk_q (z := 0) (by decide) (by decide))), (by rw [E_74]; exact hs_72), (by rw [E_74, eg_73]; exact qV_same hV (tY_nE hM_70 (nk (by decide))) (by omega) (fun _ _ => fc_lt (by omega)) (fun _ _ => fc_lt (by omega))), iM_70, (rq_qw (qw_Y hM_70 (by decide))), (mC_qw (qw_Y hM_70 (by decide)) hC), ((tY_nE hM_70 (nk (by decide))))⟩) dX10_coughing_103
          · refine lv_iload_n hx hb dX10_coughing_66 rfl (lv_at hl 1 rfl) ?_
            refine sb_if_le (tgt := 96) hx hb rfl dX10_coughing_67 (by decide) (fun c_67_25 => ?_) (fun c_67_25 => ?_)
            · refine lv_aload_n hx hb dX10_coughing_96 rfl (lv_at hl 2 rfl) ?_
              refine ti_get (ci := 10) (k := 37) (N := 67) (T := TX10) (v := .ref (A 60 38)) C hw iw_10 rfl ob_60 (by decide) (by decide) fl_X10_78 rfl rfl dX10_coughing_97 ?_
              refine lv_iload_n hx hb dX10_coughing_100 rfl (lv_at hl 3 rfl) ?_
              refine lv_iconst (v := 0) hx hb dX10_coughing_101 (by decide) ?_
              refine ti_iast (ci := 10) (k := 37) (n := 23) C hw ob_60 (by decide) (fun _ _ => rfl) (by unfold vp_in; decide) dX10_coughing_102 (fun H locs hw => ?_)
              obtain ⟨M_80, hM_80⟩ : ∃ z : ti_M, z = uY M 60 37 (upd (tY M 60 37) (0 : Int32).toNatClampNeg 0) := ⟨_, rfl⟩
              have hw := hw.to hM_80.symm
              have iM_80 : mI Tm M_80 := mI_up (i := 0) hI hM_80 trivial
              have hs_82 : qR (tx 4).toNat 0 (bq_fc rg) M_80 := qR_37 (z := 0) hr (by decide) rfl hM_80 (by omega) (fun j hj => fc_lt hj) (fun _ m2 h2 => fc_0 h2)
              obtain ⟨g_83, eg_83⟩ : ∃ z : Nat → Int, z = bq_fc rg := ⟨_, rfl⟩
              rw [← eg_83] at hs_82
              have E_84 : bq_hc tx rg = g_83 := by unfold bq_hc; rw [if_pos (by omega), EH, if_neg (by first | omega | (have H0 : x_4.toInt = 0 := (by rw [← EH, hs_end (by omega)]); omega)), ← eg_83]
              exact hQ _ _ _ _ _ hw (⟨(eR_Y hM_80 (bk_q (z := 0) (by decide) (by decide))), (by rw [E_84]; exact hs_82), (by rw [E_84, eg_83]; exact qV_same hV (tY_nE hM_80 (nk (by decide))) (by omega) (fun _ _ => fc_lt (by omega)) (fun _ _ => fc_lt (by omega))), iM_80, (rq_qw (qw_Y hM_80 (by decide))), (mC_qw (qw_Y hM_80 (by decide)) hC), ((tY_nE hM_80 (nk (by decide))))⟩) dX10_coughing_103
            · refine lv_iload_n hx hb dX10_coughing_70 rfl (lv_at hl 1 rfl) ?_
              refine lv_aload_n hx hb dX10_coughing_71 rfl (lv_at hl 2 rfl) ?_
              refine lv_iload_n hx hb dX10_coughing_72 rfl (lv_at hl 3 rfl) ?_
              refine lv_iload_n hx hb dX10_coughing_73 rfl (lv_at hl 4 rfl) ?_
              refine ti_callVi (ci := 10) (av := [.int 0, .int t]) C hw (z_X10_needOf_0 l D A cy hJ M hI hL t tx rg htr ht4 hr hwf (by omega) (by omega)) ⟨ml_X10_371, ym_X10_needOf, yv_X10_needOf, yi_X10_needOf, yc_X10_needOf⟩ yd_X10_needOf ob_60 (by decide) rfl rfl hl.1 (Nat.le_of_ble_eq_true rfl) ⟨by decide, by decide⟩ ⟨Nat.zero_le _, Nat.zero_le _⟩ dX10_coughing_74 (fun r_34 M_35 H locs hp_35 hw => ?_)
              obtain ⟨fi_38, pr_34, iM_35, q_36, q_37⟩ := hp_35
              have hs_39 : qR (tx 4).toNat 0 rg M_35 := qR_of hr q_37
              refine sb_icmp_lt (tgt := 96) hx hb rfl rfl dX10_coughing_77 (by decide) (fun c_77_39 => ?_) (fun c_77_39 => ?_)
              · refine lv_aload_n hx hb dX10_coughing_96 rfl (lv_at hl 2 rfl) ?_
                refine ti_get (ci := 10) (k := 37) (N := 67) (T := TX10) (v := .ref (A 60 38)) C hw iw_10 rfl ob_60 (by decide) (by decide) fl_X10_78 rfl rfl dX10_coughing_97 ?_
                refine lv_iload_n hx hb dX10_coughing_100 rfl (lv_at hl 3 rfl) ?_
                refine lv_iconst (v := 0) hx hb dX10_coughing_101 (by decide) ?_
                refine ti_iast (ci := 10) (k := 37) (n := 23) C hw ob_60 (by decide) (fun _ _ => rfl) (by unfold vp_in; decide) dX10_coughing_102 (fun H locs hw => ?_)
                obtain ⟨M_90, hM_90⟩ : ∃ z : ti_M, z = uY M_35 60 37 (upd (tY M_35 60 37) (0 : Int32).toNatClampNeg 0) := ⟨_, rfl⟩
                have hw := hw.to hM_90.symm
                have iM_90 : mI Tm M_90 := mI_up (i := 0) iM_35 hM_90 trivial
                have hs_92 : qR (tx 4).toNat 0 (bq_fc rg) M_90 := qR_37 (z := 0) hs_39 (by decide) rfl hM_90 (by omega) (fun j hj => fc_lt hj) (fun _ m2 h2 => fc_0 h2)
                obtain ⟨g_93, eg_93⟩ : ∃ z : Nat → Int, z = bq_fc rg := ⟨_, rfl⟩
                rw [← eg_93] at hs_92
                have E_94 : bq_hc tx rg = g_93 := by unfold bq_hc; rw [if_pos (by omega), EH, if_neg (by first | omega | (have H0 : x_4.toInt = 0 := (by rw [← EH, hs_end (by omega)]); omega)), ← eg_93]
                exact hQ _ _ _ _ _ hw (⟨(eR.trans (eR_Y hM_90 (bk_q (z := 0) (by decide) (by decide))) (eR_fI fi_38 q_37)), (by rw [E_94]; exact hs_92), (by rw [E_94, eg_93]; exact qV_same (qV_rows hV (fun k i _ => cg (tY_fr ((q_37) : M_35.2.1 = M.2.1)) i) (by omega)) (tY_nE hM_90 (nk (by decide))) (by omega) (fun _ _ => fc_lt (by omega)) (fun _ _ => fc_lt (by omega))), iM_90, (rq.trans (rq_qw (qw_Y hM_90 (by decide))) (rq_qw q_36)), (mC_qw (qw.trans (qw_Y hM_90 (by decide)) q_36) hC), (((tY_nE hM_90 (nk (by decide))).trans (tY_fr q_37)))⟩) dX10_coughing_103
              · refine lv_aload_n hx hb dX10_coughing_80 rfl (lv_at hl 2 rfl) ?_
                refine lv_iload_n hx hb dX10_coughing_81 rfl (lv_at hl 3 rfl) ?_
                refine ti_callVi (ci := 10) (av := [.int 0]) C hw (z_X10_isGuarded_0 l D A cy hJ M_35 iM_35 tx rg (tR_lw htr (eR_lw (q := 0) (eR_fI fi_38 q_37))) ht4 hs_39 hwf htW) ⟨ml_X10_374, ym_X10_isGuarded, yv_X10_isGuarded, yi_X10_isGuarded, yc_X10_isGuarded⟩ yd_X10_isGuarded ob_60 (by decide) rfl rfl hl.1 (Nat.le_of_ble_eq_true rfl) ⟨by decide, by decide⟩ ⟨Nat.zero_le _, Nat.zero_le _⟩ dX10_coughing_82 (fun r_46 M_47 H locs hp_47 hw => ?_)
                obtain ⟨hm9, hz9⟩ := hp_47
                have hw := hw.to hm9
                rcases hz9 with ⟨rfl, dg_48⟩ | ⟨rfl, dg_48⟩
                · refine sb_if_ne (tgt := 96) hx hb (by decide : (1 : Int32).toInt = 1) dX10_coughing_85 (by decide) (fun c_85_48 => ?_) (fun h => absurd h (by decide))
                  refine lv_aload_n hx hb dX10_coughing_96 rfl (lv_at hl 2 rfl) ?_
                  refine ti_get (ci := 10) (k := 37) (N := 67) (T := TX10) (v := .ref (A 60 38)) C hw iw_10 rfl ob_60 (by decide) (by decide) fl_X10_78 rfl rfl dX10_coughing_97 ?_
                  refine lv_iload_n hx hb dX10_coughing_100 rfl (lv_at hl 3 rfl) ?_
                  refine lv_iconst (v := 0) hx hb dX10_coughing_101 (by decide) ?_
                  refine ti_iast (ci := 10) (k := 37) (n := 23) C hw ob_60 (by decide) (fun _ _ => rfl) (by unfold vp_in; decide) dX10_coughing_102 (fun H locs hw => ?_)
                  obtain ⟨M_100, hM_100⟩ : ∃ z : ti_M, z = uY M_35 60 37 (upd (tY M_35 60 37) (0 : Int32).toNatClampNeg 0) := ⟨_, rfl⟩
                  have hw := hw.to hM_100.symm
                  have iM_100 : mI Tm M_100 := mI_up (i := 0) iM_35 hM_100 trivial
                  have hs_102 : qR (tx 4).toNat 0 (bq_fc rg) M_100 := qR_37 (z := 0) hs_39 (by decide) rfl hM_100 (by omega) (fun j hj => fc_lt hj) (fun _ m2 h2 => fc_0 h2)
                  obtain ⟨g_103, eg_103⟩ : ∃ z : Nat → Int, z = bq_fc rg := ⟨_, rfl⟩
                  rw [← eg_103] at hs_102
                  have E_104 : bq_hc tx rg = g_103 := by unfold bq_hc; rw [if_pos (by omega), EH, if_neg (by first | omega | (have H0 : x_4.toInt = 0 := (by rw [← EH, hs_end (by omega)]); omega)), ← eg_103]
                  exact hQ _ _ _ _ _ hw (⟨(eR.trans (eR_Y hM_100 (bk_q (z := 0) (by decide) (by decide))) (eR_fI fi_38 q_37)), (by rw [E_104]; exact hs_102), (by rw [E_104, eg_103]; exact qV_same (qV_rows hV (fun k i _ => cg (tY_fr ((q_37) : M_35.2.1 = M.2.1)) i) (by omega)) (tY_nE hM_100 (nk (by decide))) (by omega) (fun _ _ => fc_lt (by omega)) (fun _ _ => fc_lt (by omega))), iM_100, (rq.trans (rq_qw (qw_Y hM_100 (by decide))) (rq_qw q_36)), (mC_qw (qw.trans (qw_Y hM_100 (by decide)) q_36) hC), (((tY_nE hM_100 (nk (by decide))).trans (tY_fr q_37)))⟩) dX10_coughing_103
                · refine sb_if_ne (tgt := 96) hx hb (by decide : (0 : Int32).toInt = 0) dX10_coughing_85 (by decide) (fun h => absurd h (by decide)) (fun c_85_49 => ?_)
                  refine lv_aload_n hx hb dX10_coughing_88 rfl (lv_at hl 2 rfl) ?_
                  refine lv_iload_n hx hb dX10_coughing_89 rfl (lv_at hl 3 rfl) ?_
                  refine lv_iconst (v := 0) hx hb dX10_coughing_90 (by decide) ?_
                  refine lv_iconst (v := 3) hx hb dX10_coughing_91 (by decide) ?_
                  refine lv_iload_n hx hb dX10_coughing_92 rfl (lv_at hl 4 rfl) ?_
                  have lk_60 : (tY M_35 60 38 0).toInt = (tY M 60 38 0).toInt := by rw [(cg (tY_fr q_37) 0)]
                  refine ti_callVv (ci := 10) (av := [.int 0, .int 0, .int 3, .int t]) C hw (z_X10_leaves_0 l D A cy hJ M_35 iM_35 (mC_qw q_36 hC) 0 3 t (by first | omega | decide | (have l0 : (0 : Int32).toInt = 0 := (by decide); have l2 : (2 : Int32).toInt = 2 := (by decide); have l3 : (3 : Int32).toInt = 3 := (by decide); omega)) (by first | omega | decide | (have l0 : (0 : Int32).toInt = 0 := (by decide); have l2 : (2 : Int32).toInt = 2 := (by decide); have l3 : (3 : Int32).toInt = 3 := (by decide); omega)) (by first | omega | decide | (have l0 : (0 : Int32).toInt = 0 := (by decide); have l2 : (2 : Int32).toInt = 2 := (by decide); have l3 : (3 : Int32).toInt = 3 := (by decide); omega)) tx rg (tR_lw htr (eR_lw (q := 0) (eR_fI fi_38 q_37))) ht4 hs_39 (qV_rows hV (fun k i _ => cg (tY_fr ((q_37) : M_35.2.1 = M.2.1)) i) (by omega)) hwf (by omega)) ⟨ml_X10_377, ym_X10_leaves, yv_X10_leaves, yi_X10_leaves, yc_X10_leaves⟩ yd_X10_leaves ob_60 (by decide) rfl rfl hl.1 (Nat.le_of_ble_eq_true rfl) ⟨by decide, by decide⟩ ⟨Nat.zero_le _, Nat.zero_le _⟩ dX10_coughing_93 (fun M_59 H locs hp_59 hw => ?_)
                  obtain ⟨erM_59, hrM_59, qvM_59, hqM_59⟩ := hp_59
                  obtain ⟨iM_59, q_61, q_62, q_63, p0r_58⟩ := hqM_59
                  simp only [show (0 : Int32).toInt = 0 by decide] at hrM_59 qvM_59
                  simp only [show (3 : Int32).toInt = 3 by decide] at hrM_59 qvM_59
                  obtain ⟨g_64, eg_64⟩ : ∃ z : Nat → Int, z = bq_rm rg 0 3 := ⟨_, rfl⟩
                  rw [← eg_64] at hrM_59
                  rw [← eg_64] at qvM_59
                  refine lv_aload_n hx hb dX10_coughing_96 rfl (lv_at hl 2 rfl) ?_
                  refine ti_get (ci := 10) (k := 37) (N := 67) (T := TX10) (v := .ref (A 60 38)) C hw iw_10 rfl ob_60 (by decide) (by decide) fl_X10_78 rfl rfl dX10_coughing_97 ?_
                  refine lv_iload_n hx hb dX10_coughing_100 rfl (lv_at hl 3 rfl) ?_
                  refine lv_iconst (v := 0) hx hb dX10_coughing_101 (by decide) ?_
                  refine ti_iast (ci := 10) (k := 37) (n := 23) C hw ob_60 (by decide) (fun _ _ => rfl) (by unfold vp_in; decide) dX10_coughing_102 (fun H locs hw => ?_)
                  obtain ⟨M_110, hM_110⟩ : ∃ z : ti_M, z = uY M_59 60 37 (upd (tY M_59 60 37) (0 : Int32).toNatClampNeg 0) := ⟨_, rfl⟩
                  have hw := hw.to hM_110.symm
                  have iM_110 : mI Tm M_110 := mI_up (i := 0) iM_59 hM_110 trivial
                  have hs_112 : qR (tx 4).toNat 0 (bq_fc g_64) M_110 := qR_37 (z := 0) hrM_59 (by decide) rfl hM_110 (by omega) (fun j hj => fc_lt hj) (fun _ m2 h2 => fc_0 h2)
                  obtain ⟨g_113, eg_113⟩ : ∃ z : Nat → Int, z = bq_fc g_64 := ⟨_, rfl⟩
                  rw [← eg_113] at hs_112
                  have E_114 : bq_hc tx rg = g_113 := by unfold bq_hc; rw [if_pos (by omega), EH, if_pos (by omega), ← eg_64, ← eg_113]
                  exact hQ _ _ _ _ _ hw (⟨(eR.trans (eR_Y hM_110 (bk_q (z := 0) (by decide) (by decide))) (eR.trans erM_59 (eR_fI fi_38 q_37))), (by rw [E_114]; exact hs_112), (by rw [E_114, eg_113]; exact qV_same qvM_59 (tY_nE hM_110 (nk (by decide))) (by omega) (fun _ _ => fc_lt (by omega)) (fun _ _ => fc_lt (by omega))), iM_110, (rq.trans (rq_qw (qw_Y hM_110 (by decide))) (rq.trans q_61 (rq_qw q_36))), (mC_qw (qw_Y hM_110 (by decide)) q_62), (((tY_nE hM_110 (nk (by decide))).trans ((q_63).trans (tY_fr q_37))))⟩) dX10_coughing_103
        · refine lv_iload_n hx hb dX10_coughing_27 rfl (lv_at hl 1 rfl) ?_
          refine lv_aload_n hx hb dX10_coughing_28 rfl (lv_at hl 2 rfl) ?_
          refine ti_get (ci := 10) (k := 37) (N := 67) (T := TX10) (v := .ref (A 60 38)) C hw iw_10 rfl ob_60 (by decide) (by decide) fl_X10_78 rfl rfl dX10_coughing_29 ?_
          refine lv_iload_n hx hb dX10_coughing_32 rfl (lv_at hl 3 rfl) ?_
          refine ti_iald (ci := 10) (k := 37) (n := 23) C hw ob_60 (by decide) (fun _ _ => rfl) (by unfold vp_in; decide) dX10_coughing_33 ?_
          refine lv_topi (fun x_13 ex_13 => ?_)
          have yx_13 : tY M 60 37 0 = x_13 := ((congrArg _ (by decide)).symm.trans ex_13.symm)
          refine lv_aload_n hx hb dX10_coughing_34 rfl (lv_at hl 2 rfl) ?_
          refine ti_get (ci := 10) (k := 39) (N := 67) (T := TX10) (v := .ref (A 60 40)) C hw iw_10 rfl ob_60 (by decide) (by decide) fl_X10_84 rfl rfl dX10_coughing_35 ?_
          refine lv_bipush (v := 8) hx hb dX10_coughing_38 (by decide) ?_
          refine lv_iload_n hx hb dX10_coughing_40 rfl (lv_at hl 3 rfl) ?_
          refine lv_imul hx hb dX10_coughing_41 ?_
          refine ti_top (y := 0) (by decide) ?_
          refine lv_iload hx hb dX10_coughing_42 (lv_at hl 0 rfl) ?_
          refine lv_iadd hx hb dX10_coughing_44 ?_
          refine lv_topi (fun x_14 ex_14 => ?_)
          have tx_14 : x_14.toInt = 0 + x_1.toInt := i_add ex_14 (by decide : (0 : Int32).toInt = 0) rfl (by omega) (by omega)
          refine ti_iald (ci := 10) (k := 39) (n := 184) C hw ob_60 (by decide) (fun _ _ => rfl) (vp_in_iff.mpr (by omega)) dX10_coughing_45 ?_
          refine lv_topi (fun x_15 ex_15 => ?_)
          have yx_15 : tY M 60 39 x_14.toNatClampNeg = x_15 := (ex_15.symm)
          have bx_15 : 0 ≤ x_15.toInt ∧ x_15.toInt ≤ 7 := mI_ry (k := 39) (i := x_14.toNatClampNeg) hI yx_15.symm
          have L_16 : rg (96 + x_1.toInt.toNat) = x_15.toInt := (hr.2.1 (x_1.toInt.toNat) (by omega) (by omega)).trans (rd_k (n := 8 * 0 + x_1.toInt.toNat) (by omega) (yx_15))
          have AM := hwf.2.2.1 x_1.toInt.toNat (by omega)
          rw [L_16] at AM
          refine lv_ishr hx hb dX10_coughing_46 ?_
          refine lv_topi (fun x_17 ex_17 => ?_)
          refine lv_iconst (v := 1) hx hb dX10_coughing_47 (by decide) ?_
          refine lv_iand hx hb dX10_coughing_48 ?_
          refine lv_topi (fun x_18 ex_18 => ?_)
          have bx_18 := i_and 1 ex_18 (by decide) (by decide)
          have BT : x_18.toInt = pp_bt (tY M 60 37 0) x_15.toInt.toNat := by rw [(yx_13)]; exact bt_shr (k := x_15.toInt) ex_17 rfl (by omega) (by omega) ex_18
          have BB : 0 ≤ x_18.toInt ∧ x_18.toInt ≤ 1 := by have := bt_01 (tY M 60 37 0) x_15.toInt.toNat; omega
          refine lv_iadd hx hb dX10_coughing_49 ?_
          refine lv_topi (fun x_19 ex_19 => ?_)
          have tx_19 : x_19.toInt = bw (x_4.toInt + x_18.toInt) := bw_add ex_19 rfl rfl
          refine lv_istore_n (lv' := [(3, .int x_19), (4, .int x_1), (0, .ref (A 60 0)), (1, .int 0), (2, .int t)]) hx hb dX10_coughing_50 rfl hl (by decide) rfl (fun ls hl => ?_)
          obtain ⟨x_20, ex_20⟩ : ∃ z : Int32, z = x_1 + 1 := ⟨_, rfl⟩
          have tx_20 : x_20.toInt = x_1.toInt + 1 := i_add ex_20 rfl (by decide) (by omega) (by omega)
          refine lv_iinc (v := x_20) (lv' := [(4, .int x_20), (3, .int x_19), (0, .ref (A 60 0)), (1, .int 0), (2, .int t)]) hx hb dX10_coughing_51 hl (k := 1) rfl (by rw [ex_20]; rfl) (by decide) rfl (fun ls hl => ?_)
          refine lv_goto (tgt := 5) hx hb dX10_coughing_54 (by decide) ?_
          exact ih_6 x_20 x_19 _ _ _ (by omega) (by first | omega | decide) (by first | omega | decide) (by rw [← j_5, hs_go (s := rg) (f := (bq_lh tx rg + 1 - x_1.toInt).toNat) (f' := (bq_lh tx rg + 1 - x_20.toInt).toNat) (p := x_1.toInt.toNat) (h := x_4.toInt) (by omega), L_16, G0 x_15.toInt.toNat (by omega), ← BT, ← tx_19, show x_20.toInt.toNat = x_1.toInt.toNat + 1 by omega]) hw (lv_sub hl [0, 1, 2, 3, 4] rfl)
  exact hl_5_5 ((8 - 1 : Int).toNat + 1) 1 0 _ _ _ (Nat.lt_succ_self _) (by have lt0 : (0 : Int32).toInt = 0 := (by decide); have lt1 : (1 : Int32).toInt = 1 := (by decide); first | omega | decide) (by have lt0 : (0 : Int32).toInt = 0 := (by decide); have lt1 : (1 : Int32).toInt = 1 := (by decide); first | omega | decide) (by rw [show (1 : Int32).toInt = 1 by decide, show (0 : Int32).toInt = 0 by decide, show bq_lh tx rg + 1 - 1 = bq_lh tx rg by omega]; rfl) hw (lv_sub hl [0, 1, 2, 3, 4] rfl)
set_option maxHeartbeats 4000000 in
set_option maxRecDepth 100000 in
theorem z_X10_coughing_1 (l : Launch) (D : va_G) (A : Nat → Nat → Nat) (cy : Nat → ClassId) (hJ : ti_inj ti_LM A) (M : ti_M) (hI : mI Tm M) (hC : mC M 1) (hL : mL M) (t : Int32) (tx rg : Nat → Int) (htr : tR tx M) (ht4 : 0 ≤ tx 4 ∧ tx 4 ≤ 8) (hr : qR (tx 4).toNat 1 rg M) (hV : qV (tx 4).toNat 1 rg M) (hwf : wF tx rg) (htW : tW tx) (htm : t.toInt = rg 2) (h1 : rg 1 ≠ 0) : ti_Kv l yX10_coughing cX10_coughing 5 5 ti_LM D A cy M [.ref (A 60 0), .int 1, .int t] (fun M2 => eR 1 M2 M ∧ qR (tx 4).toNat 1 (rg) M2 ∧ qV (tx 4).toNat 1 (rg) M2 ∧ mI Tm M2 ∧ rq 1 M2 M ∧ mC M2 1 ∧ tY M2 60 34 = tY M 60 34) := by
  refine ti_eV yp_X10_coughing hJ ti_LM_nd (Nat.le_of_ble_eq_true rfl) ?_
  intro p e s m args below meth c Q H0 C hQ hw ls hl
  have hx := C.1
  have hb := C.2.1
  have hl : lv_has ls 5 [(0, .ref (A 60 0)), (1, .int 1), (2, .int t)] := hl
  have LH : (bq_lh tx rg = tx 9 ∧ tx 9 ≤ rg 3 - 1) ∨ (bq_lh tx rg = rg 3 - 1 ∧ rg 3 - 1 < tx 9) := by unfold bq_lh bq_mn; split <;> omega
  have w8 := wF_8 hwf
  have G0 := hr.2.2.2.2.2
  rw [if_neg h1] at G0
  refine lv_iconst (v := 0) hx hb dX10_coughing_0 (by decide) ?_
  refine lv_istore_n (lv' := [(3, .int 0), (0, .ref (A 60 0)), (1, .int 1), (2, .int t)]) hx hb dX10_coughing_1 rfl hl (by decide) rfl (fun ls hl => ?_)
  refine lv_iconst (v := 1) hx hb dX10_coughing_2 (by decide) ?_
  refine lv_istore (lv' := [(4, .int 1), (3, .int 0), (0, .ref (A 60 0)), (1, .int 1), (2, .int t)]) hx hb dX10_coughing_3 hl (by decide) rfl (fun ls hl => ?_)
  have hl_5_5 : ∀ (n_6 : Nat) (x_1 : Int32) (x_4 : Int32) (H : Heap) (locs : List Loc) (ls : Array Slot), (8 - x_1.toInt : Int).toNat < n_6 → (1 ≤ x_1.toInt) → (x_1.toInt ≤ 8) → (x_4.toInt = 0) → ti_H ti_LM D A cy H0 M H locs → lv_has ls 5 [(4, .int x_1), (3, .int x_4), (0, .ref (A 60 0)), (1, .int 1), (2, .int t)] → W p l e (ti_rm 5) s m args below meth c H locs 0 0 Q (F0 m 5 ls []) := by
    intro n_6
    induction n_6 with
    | zero => intro x_1 x_4 H locs ls hf_6; exact absurd hf_6 (Nat.not_lt_zero _)
    | succ n_6 ih_6 =>
      intro x_1 x_4 H locs ls hf_6 b_2 b_3 j_5 hw hl
      refine lv_iload hx hb dX10_coughing_5 (lv_at hl 0 rfl) ?_
      refine lv_aload_n hx hb dX10_coughing_7 rfl (lv_at hl 2 rfl) ?_
      refine ti_get (ci := 10) (k := 38) (N := 67) (T := TX10) (v := .ref (A 60 39)) C hw iw_10 rfl ob_60 (by decide) (by decide) fl_X10_81 rfl rfl dX10_coughing_8 ?_
      refine lv_iload_n hx hb dX10_coughing_11 rfl (lv_at hl 3 rfl) ?_
      refine ti_iald (ci := 10) (k := 38) (n := 23) C hw ob_60 (by decide) (fun _ _ => rfl) (by unfold vp_in; decide) dX10_coughing_12 ?_
      refine lv_topi (fun x_7 ex_7 => ?_)
      have yx_7 : tY M 60 38 1 = x_7 := ((congrArg _ (by decide)).symm.trans ex_7.symm)
      have bx_7 : 0 ≤ x_7.toInt ∧ x_7.toInt ≤ 8 := mI_ry (k := 38) (i := 1) hI yx_7.symm
      have zx_7 : (tY M 60 38 1).toInt = x_7.toInt := by rw [yx_7]
      have L_8 : rg 3 = x_7.toInt := (hr.1.2.1).trans (congrArg Int32.toInt (yx_7))
      refine sb_icmp_ge (tgt := 57) hx hb rfl rfl dX10_coughing_13 (by decide) (fun c_13_8 => ?_) (fun c_13_8 => ?_)
      · refine lv_aload_n hx hb dX10_coughing_57 rfl (lv_at hl 2 rfl) ?_
        refine ti_get (ci := 10) (k := 38) (N := 67) (T := TX10) (v := .ref (A 60 39)) C hw iw_10 rfl ob_60 (by decide) (by decide) fl_X10_81 rfl rfl dX10_coughing_58 ?_
        refine lv_iload_n hx hb dX10_coughing_61 rfl (lv_at hl 3 rfl) ?_
        refine ti_iald (ci := 10) (k := 38) (n := 23) C hw ob_60 (by decide) (fun _ _ => rfl) (by unfold vp_in; decide) dX10_coughing_62 ?_
        refine ti_top (y := x_7) ((congrArg _ (by decide)).trans (yx_7)) ?_
        have L_21 : rg 3 = x_7.toInt := (hr.1.2.1).trans (congrArg Int32.toInt (yx_7))
        refine sb_if_le (tgt := 96) hx hb rfl dX10_coughing_63 (by decide) (fun c_63_21 => ?_) (fun c_63_21 => ?_)
        · refine lv_aload_n hx hb dX10_coughing_96 rfl (lv_at hl 2 rfl) ?_
          refine ti_get (ci := 10) (k := 37) (N := 67) (T := TX10) (v := .ref (A 60 38)) C hw iw_10 rfl ob_60 (by decide) (by decide) fl_X10_78 rfl rfl dX10_coughing_97 ?_
          refine lv_iload_n hx hb dX10_coughing_100 rfl (lv_at hl 3 rfl) ?_
          refine lv_iconst (v := 0) hx hb dX10_coughing_101 (by decide) ?_
          refine ti_iast (ci := 10) (k := 37) (n := 23) C hw ob_60 (by decide) (fun _ _ => rfl) (by unfold vp_in; decide) dX10_coughing_102 (fun H locs hw => ?_)
          obtain ⟨M_27, hM_27⟩ : ∃ z : ti_M, z = uY M 60 37 (upd (tY M 60 37) (1 : Int32).toNatClampNeg 0) := ⟨_, rfl⟩
          have hw := hw.to hM_27.symm
          have iM_27 : mI Tm M_27 := mI_up (i := 1) hI hM_27 trivial
          have hs_29 : qR (tx 4).toNat 1 rg M_27 := qR_37 (z := 1) hr (by decide) rfl hM_27 (by omega) (fun _ _ => rfl) (fun q => absurd q (by omega))
          exact hQ _ _ _ _ _ hw (⟨(eR_Y hM_27 (bk_q (z := 1) (by decide) (by decide))), hs_29, (qV_same hV (tY_nE hM_27 (nk (by decide)) : tY M_27 60 48 = tY M 60 48) (by omega) (fun _ _ => rfl) (fun _ _ => rfl)), iM_27, (rq_qw (qw_Y hM_27 (by decide))), (mC_qw (qw_Y hM_27 (by decide)) hC), ((tY_nE hM_27 (nk (by decide))))⟩) dX10_coughing_103
        · refine lv_iload_n hx hb dX10_coughing_66 rfl (lv_at hl 1 rfl) ?_
          refine sb_if_le (tgt := 96) hx hb rfl dX10_coughing_67 (by decide) (fun c_67_24 => ?_) (fun h => by omega)
          refine lv_aload_n hx hb dX10_coughing_96 rfl (lv_at hl 2 rfl) ?_
          refine ti_get (ci := 10) (k := 37) (N := 67) (T := TX10) (v := .ref (A 60 38)) C hw iw_10 rfl ob_60 (by decide) (by decide) fl_X10_78 rfl rfl dX10_coughing_97 ?_
          refine lv_iload_n hx hb dX10_coughing_100 rfl (lv_at hl 3 rfl) ?_
          refine lv_iconst (v := 0) hx hb dX10_coughing_101 (by decide) ?_
          refine ti_iast (ci := 10) (k := 37) (n := 23) C hw ob_60 (by decide) (fun _ _ => rfl) (by unfold vp_in; decide) dX10_coughing_102 (fun H locs hw => ?_)
          obtain ⟨M_33, hM_33⟩ : ∃ z : ti_M, z = uY M 60 37 (upd (tY M 60 37) (1 : Int32).toNatClampNeg 0) := ⟨_, rfl⟩
          have hw := hw.to hM_33.symm
          have iM_33 : mI Tm M_33 := mI_up (i := 1) hI hM_33 trivial
          have hs_35 : qR (tx 4).toNat 1 rg M_33 := qR_37 (z := 1) hr (by decide) rfl hM_33 (by omega) (fun _ _ => rfl) (fun q => absurd q (by omega))
          exact hQ _ _ _ _ _ hw (⟨(eR_Y hM_33 (bk_q (z := 1) (by decide) (by decide))), hs_35, (qV_same hV (tY_nE hM_33 (nk (by decide)) : tY M_33 60 48 = tY M 60 48) (by omega) (fun _ _ => rfl) (fun _ _ => rfl)), iM_33, (rq_qw (qw_Y hM_33 (by decide))), (mC_qw (qw_Y hM_33 (by decide)) hC), ((tY_nE hM_33 (nk (by decide))))⟩) dX10_coughing_103
      · refine lv_iload hx hb dX10_coughing_16 (lv_at hl 0 rfl) ?_
        refine lv_aload_n hx hb dX10_coughing_18 rfl (lv_at hl 2 rfl) ?_
        refine ti_get (ci := 10) (k := 3) (N := 67) (T := TX10) (v := .ref (A 60 4)) C hw iw_10 rfl ob_60 (by decide) (by decide) fl_X10_13 rfl rfl dX10_coughing_19 ?_
        refine lv_iconst (v := 4) hx hb dX10_coughing_22 (by decide) ?_
        refine ti_iald (ci := 10) (k := 3) (n := 22) C hw ob_60 (by decide) (fun _ _ => rfl) (by unfold vp_in; decide) dX10_coughing_23 ?_
        refine lv_topi (fun x_10 ex_10 => ?_)
        have yx_10 : tY M 60 3 4 = x_10 := ((congrArg _ (by decide)).symm.trans ex_10.symm)
        have zx_10 : (tY M 60 3 4).toInt = x_10.toInt := by rw [yx_10]
        have L_11 : tx 9 = x_10.toInt := (htr.1.2.2.2.2.1).trans ((congrArg Int32.toInt (cg rfl 4)).symm.trans (congrArg Int32.toInt (yx_10)))
        refine sb_icmp_gt (tgt := 57) hx hb rfl rfl dX10_coughing_24 (by decide) (fun c_24_11 => ?_) (fun c_24_11 => ?_)
        · refine lv_aload_n hx hb dX10_coughing_57 rfl (lv_at hl 2 rfl) ?_
          refine ti_get (ci := 10) (k := 38) (N := 67) (T := TX10) (v := .ref (A 60 39)) C hw iw_10 rfl ob_60 (by decide) (by decide) fl_X10_81 rfl rfl dX10_coughing_58 ?_
          refine lv_iload_n hx hb dX10_coughing_61 rfl (lv_at hl 3 rfl) ?_
          refine ti_iald (ci := 10) (k := 38) (n := 23) C hw ob_60 (by decide) (fun _ _ => rfl) (by unfold vp_in; decide) dX10_coughing_62 ?_
          refine ti_top (y := x_7) ((congrArg _ (by decide)).trans (yx_7)) ?_
          have L_23 : rg 3 = x_7.toInt := (hr.1.2.1).trans (congrArg Int32.toInt (yx_7))
          refine sb_if_le (tgt := 96) hx hb rfl dX10_coughing_63 (by decide) (fun c_63_23 => ?_) (fun c_63_23 => ?_)
          · refine lv_aload_n hx hb dX10_coughing_96 rfl (lv_at hl 2 rfl) ?_
            refine ti_get (ci := 10) (k := 37) (N := 67) (T := TX10) (v := .ref (A 60 38)) C hw iw_10 rfl ob_60 (by decide) (by decide) fl_X10_78 rfl rfl dX10_coughing_97 ?_
            refine lv_iload_n hx hb dX10_coughing_100 rfl (lv_at hl 3 rfl) ?_
            refine lv_iconst (v := 0) hx hb dX10_coughing_101 (by decide) ?_
            refine ti_iast (ci := 10) (k := 37) (n := 23) C hw ob_60 (by decide) (fun _ _ => rfl) (by unfold vp_in; decide) dX10_coughing_102 (fun H locs hw => ?_)
            obtain ⟨M_30, hM_30⟩ : ∃ z : ti_M, z = uY M 60 37 (upd (tY M 60 37) (1 : Int32).toNatClampNeg 0) := ⟨_, rfl⟩
            have hw := hw.to hM_30.symm
            have iM_30 : mI Tm M_30 := mI_up (i := 1) hI hM_30 trivial
            have hs_32 : qR (tx 4).toNat 1 rg M_30 := qR_37 (z := 1) hr (by decide) rfl hM_30 (by omega) (fun _ _ => rfl) (fun q => absurd q (by omega))
            exact hQ _ _ _ _ _ hw (⟨(eR_Y hM_30 (bk_q (z := 1) (by decide) (by decide))), hs_32, (qV_same hV (tY_nE hM_30 (nk (by decide)) : tY M_30 60 48 = tY M 60 48) (by omega) (fun _ _ => rfl) (fun _ _ => rfl)), iM_30, (rq_qw (qw_Y hM_30 (by decide))), (mC_qw (qw_Y hM_30 (by decide)) hC), ((tY_nE hM_30 (nk (by decide))))⟩) dX10_coughing_103
          · refine lv_iload_n hx hb dX10_coughing_66 rfl (lv_at hl 1 rfl) ?_
            refine sb_if_le (tgt := 96) hx hb rfl dX10_coughing_67 (by decide) (fun c_67_25 => ?_) (fun h => by omega)
            refine lv_aload_n hx hb dX10_coughing_96 rfl (lv_at hl 2 rfl) ?_
            refine ti_get (ci := 10) (k := 37) (N := 67) (T := TX10) (v := .ref (A 60 38)) C hw iw_10 rfl ob_60 (by decide) (by decide) fl_X10_78 rfl rfl dX10_coughing_97 ?_
            refine lv_iload_n hx hb dX10_coughing_100 rfl (lv_at hl 3 rfl) ?_
            refine lv_iconst (v := 0) hx hb dX10_coughing_101 (by decide) ?_
            refine ti_iast (ci := 10) (k := 37) (n := 23) C hw ob_60 (by decide) (fun _ _ => rfl) (by unfold vp_in; decide) dX10_coughing_102 (fun H locs hw => ?_)
            obtain ⟨M_36, hM_36⟩ : ∃ z : ti_M, z = uY M 60 37 (upd (tY M 60 37) (1 : Int32).toNatClampNeg 0) := ⟨_, rfl⟩
            have hw := hw.to hM_36.symm
            have iM_36 : mI Tm M_36 := mI_up (i := 1) hI hM_36 trivial
            have hs_38 : qR (tx 4).toNat 1 rg M_36 := qR_37 (z := 1) hr (by decide) rfl hM_36 (by omega) (fun _ _ => rfl) (fun q => absurd q (by omega))
            exact hQ _ _ _ _ _ hw (⟨(eR_Y hM_36 (bk_q (z := 1) (by decide) (by decide))), hs_38, (qV_same hV (tY_nE hM_36 (nk (by decide)) : tY M_36 60 48 = tY M 60 48) (by omega) (fun _ _ => rfl) (fun _ _ => rfl)), iM_36, (rq_qw (qw_Y hM_36 (by decide))), (mC_qw (qw_Y hM_36 (by decide)) hC), ((tY_nE hM_36 (nk (by decide))))⟩) dX10_coughing_103
        · refine lv_iload_n hx hb dX10_coughing_27 rfl (lv_at hl 1 rfl) ?_
          refine lv_aload_n hx hb dX10_coughing_28 rfl (lv_at hl 2 rfl) ?_
          refine ti_get (ci := 10) (k := 37) (N := 67) (T := TX10) (v := .ref (A 60 38)) C hw iw_10 rfl ob_60 (by decide) (by decide) fl_X10_78 rfl rfl dX10_coughing_29 ?_
          refine lv_iload_n hx hb dX10_coughing_32 rfl (lv_at hl 3 rfl) ?_
          refine ti_iald (ci := 10) (k := 37) (n := 23) C hw ob_60 (by decide) (fun _ _ => rfl) (by unfold vp_in; decide) dX10_coughing_33 ?_
          refine lv_topi (fun x_13 ex_13 => ?_)
          have yx_13 : tY M 60 37 1 = x_13 := ((congrArg _ (by decide)).symm.trans ex_13.symm)
          refine lv_aload_n hx hb dX10_coughing_34 rfl (lv_at hl 2 rfl) ?_
          refine ti_get (ci := 10) (k := 39) (N := 67) (T := TX10) (v := .ref (A 60 40)) C hw iw_10 rfl ob_60 (by decide) (by decide) fl_X10_84 rfl rfl dX10_coughing_35 ?_
          refine lv_bipush (v := 8) hx hb dX10_coughing_38 (by decide) ?_
          refine lv_iload_n hx hb dX10_coughing_40 rfl (lv_at hl 3 rfl) ?_
          refine lv_imul hx hb dX10_coughing_41 ?_
          refine ti_top (y := 8) (by decide) ?_
          refine lv_iload hx hb dX10_coughing_42 (lv_at hl 0 rfl) ?_
          refine lv_iadd hx hb dX10_coughing_44 ?_
          refine lv_topi (fun x_14 ex_14 => ?_)
          have tx_14 : x_14.toInt = 8 + x_1.toInt := i_add ex_14 (by decide : (8 : Int32).toInt = 8) rfl (by omega) (by omega)
          refine ti_iald (ci := 10) (k := 39) (n := 184) C hw ob_60 (by decide) (fun _ _ => rfl) (vp_in_iff.mpr (by omega)) dX10_coughing_45 ?_
          refine lv_topi (fun x_15 ex_15 => ?_)
          have yx_15 : tY M 60 39 x_14.toNatClampNeg = x_15 := (ex_15.symm)
          have bx_15 : 0 ≤ x_15.toInt ∧ x_15.toInt ≤ 7 := mI_ry (k := 39) (i := x_14.toNatClampNeg) hI yx_15.symm
          have L_16 : rg (96 + x_1.toInt.toNat) = x_15.toInt := (hr.2.1 (x_1.toInt.toNat) (by omega) (by omega)).trans (rd_k (n := 8 * 1 + x_1.toInt.toNat) (by omega) (yx_15))
          have AM := hwf.2.2.1 x_1.toInt.toNat (by omega)
          rw [L_16] at AM
          refine lv_ishr hx hb dX10_coughing_46 ?_
          refine lv_topi (fun x_17 ex_17 => ?_)
          refine lv_iconst (v := 1) hx hb dX10_coughing_47 (by decide) ?_
          refine lv_iand hx hb dX10_coughing_48 ?_
          refine lv_topi (fun x_18 ex_18 => ?_)
          have bx_18 := i_and 1 ex_18 (by decide) (by decide)
          have BT : x_18.toInt = pp_bt (tY M 60 37 1) x_15.toInt.toNat := by rw [(yx_13)]; exact bt_shr (k := x_15.toInt) ex_17 rfl (by omega) (by omega) ex_18
          have BB : 0 ≤ x_18.toInt ∧ x_18.toInt ≤ 1 := by have := bt_01 (tY M 60 37 1) x_15.toInt.toNat; omega
          refine lv_iadd hx hb dX10_coughing_49 ?_
          refine lv_topi (fun x_19 ex_19 => ?_)
          have tx_19 : x_19.toInt = bw (x_4.toInt + x_18.toInt) := bw_add ex_19 rfl rfl
          have NZ : x_19.toInt = 0 := by rw [tx_19, bw_id (by omega) (by omega)]; rw [G0, bt_0] at BT; omega
          refine lv_istore_n (lv' := [(3, .int x_19), (4, .int x_1), (0, .ref (A 60 0)), (1, .int 1), (2, .int t)]) hx hb dX10_coughing_50 rfl hl (by decide) rfl (fun ls hl => ?_)
          obtain ⟨x_20, ex_20⟩ : ∃ z : Int32, z = x_1 + 1 := ⟨_, rfl⟩
          have tx_20 : x_20.toInt = x_1.toInt + 1 := i_add ex_20 rfl (by decide) (by omega) (by omega)
          refine lv_iinc (v := x_20) (lv' := [(4, .int x_20), (3, .int x_19), (0, .ref (A 60 0)), (1, .int 1), (2, .int t)]) hx hb dX10_coughing_51 hl (k := 1) rfl (by rw [ex_20]; rfl) (by decide) rfl (fun ls hl => ?_)
          refine lv_goto (tgt := 5) hx hb dX10_coughing_54 (by decide) ?_
          exact ih_6 x_20 x_19 _ _ _ (by omega) (by first | omega | decide) (by first | omega | decide) (by first | omega | decide) hw (lv_sub hl [0, 1, 2, 3, 4] rfl)
  exact hl_5_5 ((8 - 1 : Int).toNat + 1) 1 0 _ _ _ (Nat.lt_succ_self _) (by have lt0 : (0 : Int32).toInt = 0 := (by decide); have lt1 : (1 : Int32).toInt = 1 := (by decide); first | omega | decide) (by have lt0 : (0 : Int32).toInt = 0 := (by decide); have lt1 : (1 : Int32).toInt = 1 := (by decide); first | omega | decide) (by have lt0 : (0 : Int32).toInt = 0 := (by decide); have lt1 : (1 : Int32).toInt = 1 := (by decide); first | omega | decide) hw (lv_sub hl [0, 1, 2, 3, 4] rfl)

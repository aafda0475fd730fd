variable {Tc : gC} {Tm : gM}
variable {Tc : gC} {Tm : gM}
theorem dr_i {x y z w : Int32} (ey : y = x * 1103515245) (ez : z = y + 12345) (ew : w = z &&& 2147483647) (h : 0 ≤ x.toInt) : w.toInt = bq_dr x.toInt := by
  have hx : x.toBitVec.toNat = x.toInt.toNat := by
    have q : x.toInt = x.toBitVec.toInt := rfl
    rw [BitVec.toInt_eq_toNat_cond] at q
    split at q <;> omega
  have hn : w.toBitVec.toNat = (x.toInt.toNat * 1103515245 + 12345) % 2147483648 := by
    rw [ew, Int32.toBitVec_and, BitVec.toNat_and, ez, Int32.toBitVec_add, BitVec.toNat_add, ey, Int32.toBitVec_mul, BitVec.toNat_mul, hx, show (1103515245 : Int32).toBitVec.toNat = 1103515245 by decide, show (12345 : Int32).toBitVec.toNat = 12345 by decide, show (2147483647 : Int32).toBitVec.toNat = 2 ^ 31 - 1 by decide, Nat.and_two_pow_sub_one_eq_mod]
    omega
  have q : w.toInt = w.toBitVec.toInt := rfl
  rw [q, BitVec.toInt_eq_toNat_cond, if_pos (by omega), hn]
  unfold bq_dr
  omega
theorem i_shr16 {x z : Int32} (e : z = x >>> ((16 : Int32) &&& 31)) (h : 0 ≤ x.toInt) : z.toInt = x.toInt / 65536 := by
  have hz : z.toBitVec = x.toBitVec.sshiftRight 16 := by
    rw [e, Int32.toBitVec_shiftRight]
    show x.toBitVec.sshiftRight (((16 : Int32) &&& 31).toBitVec.smod 32).toNat = _
    rw [show (((16 : Int32) &&& 31).toBitVec.smod 32).toNat = 16 by decide]
  have q : z.toInt = z.toBitVec.toInt := rfl
  have q2 : x.toInt = x.toBitVec.toInt := rfl
  rw [q, hz, BitVec.toInt_sshiftRight, ← q2, Int.shiftRight_eq_div_pow]
  rfl
theorem qV_ap {n q : Nat} {s : Nat → Int} {M : ti_M} (h : qV n q s M) : qV n q s M := h
set_option maxHeartbeats 4000000 in
set_option maxRecDepth 100000 in
theorem z_X10_draw_0 (l : Launch) (D : va_G) (A : Nat → Nat → Nat) (cy : Nat → ClassId) (hJ : ti_inj ti_LM A) (M : ti_M) (hI : mI Tm M)  (tx rg : Nat → Int) (htr : tR tx M) (ht4 : 0 ≤ tx 4 ∧ tx 4 ≤ 8) (hr : qR (tx 4).toNat 0 rg M) (h5 : 0 ≤ rg 5) : ti_Ki l yX10_draw cX10_draw 2 (some .int) 0 ti_LM D A cy M [.ref (A 60 0), .int 0] (fun r M2 => eR 0 M2 M ∧ tY M2 60 48 = tY M 60 48 ∧ qR (tx 4).toNat 0 (pp_su rg 5 (bq_dr (rg 5))) M2 ∧ r.toInt = bq_dr (rg 5) / 65536 % 100 ∧ mI Tm M2 ∧ qw M2 M ∧ tY M2 60 34 = tY M 60 34) := by
  refine ti_eI yp_X10_draw hJ ti_LM_nd (Nat.le_of_ble_eq_true rfl) ?_
  intro p e s m args below meth c Q H0 C hQ hw ls hl
  have hx := C.1
  have hb := C.2.1
  have hl : lv_has ls 2 [(0, .ref (A 60 0)), (1, .int 0)] := hl
  refine lv_aload_n hx hb dX10_draw_0 rfl (lv_at hl 0 rfl) ?_
  refine ti_get (ci := 10) (k := 36) (N := 67) (T := TX10) (v := .ref (A 60 37)) C hw iw_10 rfl ob_60 (by decide) (by decide) fl_X10_75 rfl rfl dX10_draw_1 ?_
  refine lv_iload_n hx hb dX10_draw_4 rfl (lv_at hl 1 rfl) ?_
  refine lv_aload_n hx hb dX10_draw_5 rfl (lv_at hl 0 rfl) ?_
  refine ti_get (ci := 10) (k := 36) (N := 67) (T := TX10) (v := .ref (A 60 37)) C hw iw_10 rfl ob_60 (by decide) (by decide) fl_X10_75 rfl rfl dX10_draw_6 ?_
  refine lv_iload_n hx hb dX10_draw_9 rfl (lv_at hl 1 rfl) ?_
  refine ti_iald (ci := 10) (k := 36) (n := 23) C hw ob_60 (by decide) (fun _ _ => rfl) (by unfold vp_in; decide) dX10_draw_10 ?_
  refine lv_topi (fun x_1 ex_1 => ?_)
  have yx_1 : tY M 60 36 0 = x_1 := ((congrArg _ (by decide)).symm.trans ex_1.symm)
  have L_2 : rg 5 = x_1.toInt := (hr.1.2.2.2).trans (congrArg Int32.toInt (yx_1))
  refine lv_ldcw (v := 1103515245) hx hb C.2.2.2.1 (C.2.2.1 _ cn_X10_400) dX10_draw_11 ?_
  refine lv_imul hx hb dX10_draw_14 ?_
  refine lv_topi (fun x_3 ex_3 => ?_)
  refine lv_sipush (v := 12345) hx hb dX10_draw_15 (by decide) ?_
  refine lv_iadd hx hb dX10_draw_18 ?_
  refine lv_topi (fun x_4 ex_4 => ?_)
  refine lv_ldcw (v := 2147483647) hx hb C.2.2.2.1 (C.2.2.1 _ cn_X10_403) dX10_draw_19 ?_
  refine lv_iand hx hb dX10_draw_22 ?_
  refine lv_topi (fun x_5 ex_5 => ?_)
  have EZ : x_5.toInt = bq_dr (rg 5) := by rw [show rg 5 = x_1.toInt by omega]; exact dr_i ex_3 ex_4 ex_5 (by omega)
  have E0 : 0 ≤ bq_dr (rg 5) := by unfold bq_dr; omega
  refine ti_iast (ci := 10) (k := 36) (n := 23) C hw ob_60 (by decide) (fun _ _ => rfl) (by unfold vp_in; decide) dX10_draw_23 (fun H locs hw => ?_)
  obtain ⟨M_6, hM_6⟩ : ∃ z : ti_M, z = uY M 60 36 (upd (tY M 60 36) (0 : Int32).toNatClampNeg x_5) := ⟨_, rfl⟩
  have hw := hw.to hM_6.symm
  have iM_6 : mI Tm M_6 := mI_up (i := 0) hI hM_6 trivial
  have hs_7 : qR (tx 4).toNat 0 (pp_su rg 5 x_5.toInt) M_6 := qR_36 (z := 0) hr (by decide) rfl hM_6
  obtain ⟨g_8, eg_8⟩ : ∃ z : Nat → Int, z = pp_su rg 5 x_5.toInt := ⟨_, rfl⟩
  rw [← eg_8] at hs_7
  have sg_8 : g_8 5 = x_5.toInt := by rw [eg_8, su_s]
  refine lv_aload_n hx hb dX10_draw_24 rfl (lv_at hl 0 rfl) ?_
  refine ti_get (ci := 10) (k := 36) (N := 67) (T := TX10) (v := .ref (A 60 37)) C hw iw_10 rfl ob_60 (by decide) (by decide) fl_X10_75 rfl rfl dX10_draw_25 ?_
  refine lv_iload_n hx hb dX10_draw_28 rfl (lv_at hl 1 rfl) ?_
  refine ti_iald (ci := 10) (k := 36) (n := 23) C hw ob_60 (by decide) (fun _ _ => rfl) (by unfold vp_in; decide) dX10_draw_29 ?_
  refine ti_top (y := x_5) ((congrArg _ (by decide)).trans ((cg (tY_uE hM_6) 0).trans (upl (by decide)))) ?_
  have L_9 : g_8 5 = x_5.toInt := (hs_7.1.2.2.2).trans (congrArg Int32.toInt ((cg (tY_uE hM_6) 0).trans (upl (by decide))))
  refine lv_bipush (v := 16) hx hb dX10_draw_30 (by decide) ?_
  refine lv_ishr hx hb dX10_draw_32 ?_
  refine lv_topi (fun x_10 ex_10 => ?_)
  refine lv_bipush (v := 100) hx hb dX10_draw_33 (by decide) ?_
  have ES : x_10.toInt = bq_dr (rg 5) / 65536 := by rw [← EZ]; exact i_shr16 ex_10 (by omega)
  have EB : 0 ≤ x_10.toInt := by omega
  refine lv_irem hx hb dX10_draw_35 (by decide) ?_
  refine lv_topi (fun x_11 ex_11 => ?_)
  have bx_11 := i_rem ex_11 rfl (by decide : (100 : Int32).toInt = 100) (by omega) (by decide)
  exact hQ _ _ _ _ _ _ hw rfl (⟨(eR_Y hM_6 (bk_q (z := 0) (by decide) (by decide))), ((tY_nE hM_6 (nk (by decide)))), (by rw [← EZ, ← eg_8]; exact hs_7), (by rw [← ES]; omega), iM_6, (qw_Y hM_6 (by decide)), ((tY_nE hM_6 (nk (by decide))))⟩) dX10_draw_36
set_option maxHeartbeats 4000000 in
set_option maxRecDepth 100000 in
theorem z_X10_draw_1 (l : Launch) (D : va_G) (A : Nat → Nat → Nat) (cy : Nat → ClassId) (hJ : ti_inj ti_LM A) (M : ti_M) (hI : mI Tm M)  (tx rg : Nat → Int) (htr : tR tx M) (ht4 : 0 ≤ tx 4 ∧ tx 4 ≤ 8) (hr : qR (tx 4).toNat 1 rg M) (h5 : 0 ≤ rg 5) : ti_Ki l yX10_draw cX10_draw 2 (some .int) 0 ti_LM D A cy M [.ref (A 60 0), .int 1] (fun r M2 => eR 1 M2 M ∧ tY M2 60 48 = tY M 60 48 ∧ qR (tx 4).toNat 1 (pp_su rg 5 (bq_dr (rg 5))) M2 ∧ r.toInt = bq_dr (rg 5) / 65536 % 100 ∧ mI Tm M2 ∧ qw M2 M ∧ tY M2 60 34 = tY M 60 34) := by
  refine ti_eI yp_X10_draw hJ ti_LM_nd (Nat.le_of_ble_eq_true rfl) ?_
  intro p e s m args below meth c Q H0 C hQ hw ls hl
  have hx := C.1
  have hb := C.2.1
  have hl : lv_has ls 2 [(0, .ref (A 60 0)), (1, .int 1)] := hl
  refine lv_aload_n hx hb dX10_draw_0 rfl (lv_at hl 0 rfl) ?_
  refine ti_get (ci := 10) (k := 36) (N := 67) (T := TX10) (v := .ref (A 60 37)) C hw iw_10 rfl ob_60 (by decide) (by decide) fl_X10_75 rfl rfl dX10_draw_1 ?_
  refine lv_iload_n hx hb dX10_draw_4 rfl (lv_at hl 1 rfl) ?_
  refine lv_aload_n hx hb dX10_draw_5 rfl (lv_at hl 0 rfl) ?_
  refine ti_get (ci := 10) (k := 36) (N := 67) (T := TX10) (v := .ref (A 60 37)) C hw iw_10 rfl ob_60 (by decide) (by decide) fl_X10_75 rfl rfl dX10_draw_6 ?_
  refine lv_iload_n hx hb dX10_draw_9 rfl (lv_at hl 1 rfl) ?_
  refine ti_iald (ci := 10) (k := 36) (n := 23) C hw ob_60 (by decide) (fun _ _ => rfl) (by unfold vp_in; decide) dX10_draw_10 ?_
  refine lv_topi (fun x_1 ex_1 => ?_)
  have yx_1 : tY M 60 36 1 = x_1 := ((congrArg _ (by decide)).symm.trans ex_1.symm)
  have L_2 : rg 5 = x_1.toInt := (hr.1.2.2.2).trans (congrArg Int32.toInt (yx_1))
  refine lv_ldcw (v := 1103515245) hx hb C.2.2.2.1 (C.2.2.1 _ cn_X10_400) dX10_draw_11 ?_
  refine lv_imul hx hb dX10_draw_14 ?_
  refine lv_topi (fun x_3 ex_3 => ?_)
  refine lv_sipush (v := 12345) hx hb dX10_draw_15 (by decide) ?_
  refine lv_iadd hx hb dX10_draw_18 ?_
  refine lv_topi (fun x_4 ex_4 => ?_)
  refine lv_ldcw (v := 2147483647) hx hb C.2.2.2.1 (C.2.2.1 _ cn_X10_403) dX10_draw_19 ?_
  refine lv_iand hx hb dX10_draw_22 ?_
  refine lv_topi (fun x_5 ex_5 => ?_)
  have EZ : x_5.toInt = bq_dr (rg 5) := by rw [show rg 5 = x_1.toInt by omega]; exact dr_i ex_3 ex_4 ex_5 (by omega)
  have E0 : 0 ≤ bq_dr (rg 5) := by unfold bq_dr; omega
  refine ti_iast (ci := 10) (k := 36) (n := 23) C hw ob_60 (by decide) (fun _ _ => rfl) (by unfold vp_in; decide) dX10_draw_23 (fun H locs hw => ?_)
  obtain ⟨M_6, hM_6⟩ : ∃ z : ti_M, z = uY M 60 36 (upd (tY M 60 36) (1 : Int32).toNatClampNeg x_5) := ⟨_, rfl⟩
  have hw := hw.to hM_6.symm
  have iM_6 : mI Tm M_6 := mI_up (i := 1) hI hM_6 trivial
  have hs_7 : qR (tx 4).toNat 1 (pp_su rg 5 x_5.toInt) M_6 := qR_36 (z := 1) hr (by decide) rfl hM_6
  obtain ⟨g_8, eg_8⟩ : ∃ z : Nat → Int, z = pp_su rg 5 x_5.toInt := ⟨_, rfl⟩
  rw [← eg_8] at hs_7
  have sg_8 : g_8 5 = x_5.toInt := by rw [eg_8, su_s]
  refine lv_aload_n hx hb dX10_draw_24 rfl (lv_at hl 0 rfl) ?_
  refine ti_get (ci := 10) (k := 36) (N := 67) (T := TX10) (v := .ref (A 60 37)) C hw iw_10 rfl ob_60 (by decide) (by decide) fl_X10_75 rfl rfl dX10_draw_25 ?_
  refine lv_iload_n hx hb dX10_draw_28 rfl (lv_at hl 1 rfl) ?_
  refine ti_iald (ci := 10) (k := 36) (n := 23) C hw ob_60 (by decide) (fun _ _ => rfl) (by unfold vp_in; decide) dX10_draw_29 ?_
  refine ti_top (y := x_5) ((congrArg _ (by decide)).trans ((cg (tY_uE hM_6) 1).trans (upl (by decide)))) ?_
  have L_9 : g_8 5 = x_5.toInt := (hs_7.1.2.2.2).trans (congrArg Int32.toInt ((cg (tY_uE hM_6) 1).trans (upl (by decide))))
  refine lv_bipush (v := 16) hx hb dX10_draw_30 (by decide) ?_
  refine lv_ishr hx hb dX10_draw_32 ?_
  refine lv_topi (fun x_10 ex_10 => ?_)
  refine lv_bipush (v := 100) hx hb dX10_draw_33 (by decide) ?_
  have ES : x_10.toInt = bq_dr (rg 5) / 65536 := by rw [← EZ]; exact i_shr16 ex_10 (by omega)
  have EB : 0 ≤ x_10.toInt := by omega
  refine lv_irem hx hb dX10_draw_35 (by decide) ?_
  refine lv_topi (fun x_11 ex_11 => ?_)
  have bx_11 := i_rem ex_11 rfl (by decide : (100 : Int32).toInt = 100) (by omega) (by decide)
  exact hQ _ _ _ _ _ _ hw rfl (⟨(eR_Y hM_6 (bk_q (z := 1) (by decide) (by decide))), ((tY_nE hM_6 (nk (by decide)))), (by rw [← EZ, ← eg_8]; exact hs_7), (by rw [← ES]; omega), iM_6, (qw_Y hM_6 (by decide)), ((tY_nE hM_6 (nk (by decide))))⟩) dX10_draw_36
set_option maxHeartbeats 4000000 in
set_option maxRecDepth 100000 in
theorem z_X10_arrive_0 (l : Launch) (D : va_G) (A : Nat → Nat → Nat) (cy : Nat → ClassId) (hJ : ti_inj ti_LM A) (M : ti_M) (hI : mI Tm M) (hC : mC M 0) (t : Int32) (tx rg : Nat → Int) (htr : tR tx M) (ht4 : 0 ≤ tx 4 ∧ tx 4 ≤ 8) (hr : qR (tx 4).toNat 0 rg M) (hV : qV (tx 4).toNat 0 rg M) (hwf : wF tx rg) (htW : tW tx) (htm : t.toInt = rg 2) : ti_Kv l yX10_arrive cX10_arrive 5 1 ti_LM D A cy M [.ref (A 60 0), .int 0, .int t] (fun M2 => eR 0 M2 M ∧ qR (tx 4).toNat 0 (bq_wl tx (tx 4).toNat rg) M2 ∧ qV (tx 4).toNat 0 (bq_wl tx (tx 4).toNat rg) M2 ∧ mI Tm M2 ∧ rq 0 M2 M ∧ mC M2 0 ∧ tY M2 60 34 = tY M 60 34) := by
  refine ti_eV yp_X10_arrive hJ ti_LM_nd (Nat.le_of_ble_eq_true rfl) ?_
  intro p e s m args below meth c Q H0 C hQ hw ls hl
  have hx := C.1
  have hb := C.2.1
  have hl : lv_has ls 5 [(0, .ref (A 60 0)), (1, .int 0), (2, .int t)] := hl
  have hl_0_11 : ∀ (n_12 : Nat) (M_1 : ti_M) (g_6 : Nat → Int) (H : Heap) (locs : List Loc) (ls : Array Slot), (((zc (tY M_1 60 40) 0 : Nat) : Int) : Int).toNat < n_12 → (mI Tm M_1) → (rq 0 M_1 M) → (mC M_1 0) → (tY M_1 60 34 = tY M 60 34) → (eR 0 M_1 M) → (qR (tx 4).toNat 0 g_6 M_1) → (∃ f : Nat, bc0 g_6 ≤ (f : Int) + (8 - tx 4) ∧ bq_wl tx f g_6 = bq_wl tx (tx 4).toNat rg) → (wF tx g_6) → (qV (tx 4).toNat 0 g_6 M_1) → (g_6 2 = rg 2) → ti_H ti_LM D A cy H0 M_1 H locs → lv_has ls 5 [(0, .ref (A 60 0)), (1, .int 0), (2, .int t)] → W p l e (ti_rm 1) s m args below meth c H locs 0 0 Q (F0 m 0 ls []) := by
    intro n_12
    induction n_12 with
    | zero => intro M_1 g_6 H locs ls hf_12; exact absurd hf_12 (Nat.not_lt_zero _)
    | succ n_12 ih_12 =>
      intro M_1 g_6 H locs ls hf_12 iM_1 f_2 f_3 f_4 f_5 hs_7 j_8 j_9 j_10 j_11 hw hl
      refine lv_iconst (v := (-1)) hx hb dX10_arrive_0 (by decide) ?_
      refine lv_istore_n (lv' := [(3, .int (-1)), (0, .ref (A 60 0)), (1, .int 0), (2, .int t)]) hx hb dX10_arrive_1 rfl hl (by decide) rfl (fun ls hl => ?_)
      refine lv_iconst (v := 0) hx hb dX10_arrive_2 (by decide) ?_
      refine lv_istore (lv' := [(4, .int 0), (3, .int (-1)), (0, .ref (A 60 0)), (1, .int 0), (2, .int t)]) hx hb dX10_arrive_3 hl (by decide) rfl (fun ls hl => ?_)
      have hl_5_20 : ∀ (n_21 : Nat) (x_13 : Int32) (x_16 : Int32) (H : Heap) (locs : List Loc) (ls : Array Slot), (8 - x_13.toInt : Int).toNat < n_21 → (0 ≤ x_13.toInt) → (x_13.toInt ≤ 8) → ((-1) ≤ x_16.toInt) → (x_16.toInt ≤ 7) → (bq_nf tx g_6 ((tx 4).toNat - (x_13.toInt).toNat) (x_13.toInt).toNat (x_16.toInt) = bq_nx tx g_6) → (x_16.toInt = -1 ∨ x_16.toInt < tx 4) → ti_H ti_LM D A cy H0 M_1 H locs → lv_has ls 5 [(4, .int x_13), (3, .int x_16), (0, .ref (A 60 0)), (1, .int 0), (2, .int t)] → W p l e (ti_rm 1) s m args below meth c H locs 0 0 Q (F0 m 5 ls []) := by
        intro n_21
        induction n_21 with
        | zero => intro x_13 x_16 H locs ls hf_21; exact absurd hf_21 (Nat.not_lt_zero _)
        | succ n_21 ih_21 =>
          intro x_13 x_16 H locs ls hf_21 b_14 b_15 b_17 b_18 j_19 j_20 hw hl
          refine lv_iload hx hb dX10_arrive_5 (lv_at hl 0 rfl) ?_
          refine lv_aload_n hx hb dX10_arrive_7 rfl (lv_at hl 2 rfl) ?_
          refine ti_get (ci := 10) (k := 3) (N := 67) (T := TX10) (v := .ref (A 60 4)) C hw iw_10 rfl ob_60 (by decide) (by decide) fl_X10_13 rfl rfl dX10_arrive_8 ?_
          refine lv_iconst (v := 0) hx hb dX10_arrive_11 (by decide) ?_
          refine ti_iald (ci := 10) (k := 3) (n := 22) C hw ob_60 (by decide) (fun _ _ => rfl) (by unfold vp_in; decide) dX10_arrive_12 ?_
          refine lv_topi (fun x_22 ex_22 => ?_)
          have yx_22 : tY M_1 60 3 0 = x_22 := ((congrArg _ (by decide)).symm.trans ex_22.symm)
          have bx_22 : 0 ≤ x_22.toInt ∧ x_22.toInt ≤ 8 := mI_rn (i := 0) iM_1 yx_22.symm (fun _ h => h)
          have zx_22 : (tY M_1 60 3 0).toInt = x_22.toInt := by rw [yx_22]
          have wx_22 : tY M 60 3 0 = x_22 := ((cg (f_2.1 3 (by decide) (by decide)) 0)).symm.trans yx_22
          have zwx_22 : (tY M 60 3 0).toInt = x_22.toInt := by rw [wx_22]
          have L_23 : tx 4 = x_22.toInt := (htr.1.1).trans ((congrArg Int32.toInt (cg ((f_2.1 3 (by decide) (by decide))) 0)).symm.trans (congrArg Int32.toInt ((cg (f_2.1 3 (by decide) (by decide)) 0).trans wx_22)))
          refine sb_icmp_ge (tgt := 112) hx hb rfl rfl dX10_arrive_13 (by decide) (fun c_13_23 => ?_) (fun c_13_23 => ?_)
          · have NX : bq_nx tx g_6 = x_16.toInt := by rw [← j_19, nf_end (by omega)]
            have NA := nx_at (s := g_6) htW
            rw [NX] at NA
            obtain ⟨f9, hf9, he9⟩ := j_8
            refine lv_iload_n hx hb dX10_arrive_112 rfl (lv_at hl 1 rfl) ?_
            refine lv_iconst (v := (-1)) hx hb dX10_arrive_113 (by decide) ?_
            refine sb_icmp_ne (tgt := 118) hx hb rfl (by decide : ((-1) : Int32).toInt = (-1)) dX10_arrive_114 (by decide) (fun c_114_53 => ?_) (fun c_114_53 => ?_)
            · have S0 : g_6 (128 + x_16.toInt.toNat) = 0 := by omega
              have S3 := wF_s3 htW j_9 (m := x_16.toInt.toNat) (by omega) S0
              have W8 := wF_8 j_9
              have BG := bc0_ge htW j_9 (m := x_16.toInt.toNat) (by omega) S0
              have WA := wF_ap htW j_9 (m := x_16.toInt) (by omega) (by omega) S0
              have g2 : g_6 2 = t.toInt := by rw [j_11]; omega
              refine lv_aload_n hx hb dX10_arrive_118 rfl (lv_at hl 2 rfl) ?_
              refine lv_iload_n hx hb dX10_arrive_119 rfl (lv_at hl 3 rfl) ?_
              refine lv_iload_n hx hb dX10_arrive_120 rfl (lv_at hl 1 rfl) ?_
              refine lv_iload_n hx hb dX10_arrive_121 rfl (lv_at hl 4 rfl) ?_
              refine ti_callVv (ci := 10) (av := [.int 0, .int x_16, .int t]) C hw (z_X10_joins_0 l D A cy hJ M_1 iM_1 f_3 x_16 t (by first | omega | decide | (have l0 : (0 : Int32).toInt = 0 := (by decide); have l2 : (2 : Int32).toInt = 2 := (by decide); have l3 : (3 : Int32).toInt = 3 := (by decide); omega)) (by first | omega | decide | (have l0 : (0 : Int32).toInt = 0 := (by decide); have l2 : (2 : Int32).toInt = 2 := (by decide); have l3 : (3 : Int32).toInt = 3 := (by decide); omega)) (fun i hi => by rw [show i = 8 * 0 + x_16.toInt.toNat by omega]; have z0 := (hs_7.2.2.2.1 x_16.toInt.toNat (by omega)).1; omega) tx g_6 (tR_lw htr (eR_lw (q := 0) f_5)) ht4 hs_7 j_10 (by omega) S0 (by omega) (by omega)) ⟨ml_X10_359, ym_X10_joins, yv_X10_joins, yi_X10_joins, yc_X10_joins⟩ yd_X10_joins ob_60 (by decide) rfl rfl hl.1 (Nat.le_of_ble_eq_true rfl) ⟨by decide, by decide⟩ ⟨Nat.zero_le _, Nat.zero_le _⟩ dX10_arrive_122 (fun M_56 H locs hp_56 hw => ?_)
              obtain ⟨erM_56, hrM_56, qvM_56, hqM_56⟩ := hp_56
              obtain ⟨iM_56, q_57, q_58, q_59, q_60⟩ := hqM_56
              obtain ⟨g_61, eg_61⟩ : ∃ z : Nat → Int, z = bq_ap g_6 x_16.toInt := ⟨_, rfl⟩
              rw [← eg_61] at hrM_56
              rw [← eg_61] at qvM_56
              have WP : wF tx g_61 := by rw [eg_61]; exact WA.1
              have WB := WA.2
              rw [← eg_61] at WB
              have WN : ∃ f : Nat, bc0 g_61 ≤ (f : Int) + (8 - tx 4) ∧ bq_wl tx f g_61 = bq_wl tx (tx 4).toNat rg := ⟨f9 - 1, by omega, by rw [← he9, wl_go (tx := tx) (s := g_6) (f := f9) (f' := f9 - 1) (by omega) (by omega), NX, ← eg_61]⟩
              refine lv_goto (tgt := 0) hx hb dX10_arrive_125 (by decide) ?_
              exact ih_12 M_56 g_61 _ _ _ (by omega) iM_56 (rq.trans q_57 f_2) q_58 (((q_59).trans f_4)) (eR.trans erM_56 f_5) hrM_56 WN WP qvM_56 (by rw [eg_61, ap_k (by decide)]; exact j_11) hw (lv_sub hl [2, 3, 4] rfl)
            · exact hQ _ _ _ _ _ hw (⟨f_5, (by rw [← he9, wl_end (Or.inr (by omega))]; exact hs_7), (by rw [← he9, wl_end (Or.inr (by omega))]; exact j_10), iM_1, f_2, f_3, ((f_4))⟩) dX10_arrive_117
          · have g2 : g_6 2 = t.toInt := by rw [j_11]; omega
            refine lv_aload_n hx hb dX10_arrive_16 rfl (lv_at hl 2 rfl) ?_
            refine ti_get (ci := 10) (k := 40) (N := 67) (T := TX10) (v := .ref (A 60 41)) C hw iw_10 rfl ob_60 (by decide) (by decide) fl_X10_87 rfl rfl dX10_arrive_17 ?_
            refine lv_bipush (v := 8) hx hb dX10_arrive_20 (by decide) ?_
            refine lv_iload_n hx hb dX10_arrive_22 rfl (lv_at hl 3 rfl) ?_
            refine lv_imul hx hb dX10_arrive_23 ?_
            refine ti_top (y := 0) (by decide) ?_
            refine lv_iload hx hb dX10_arrive_24 (lv_at hl 0 rfl) ?_
            refine lv_iadd hx hb dX10_arrive_26 ?_
            refine lv_topi (fun x_25 ex_25 => ?_)
            have tx_25 : x_25.toInt = 0 + x_13.toInt := i_add ex_25 (by decide : (0 : Int32).toInt = 0) rfl (by omega) (by omega)
            refine ti_iald (ci := 10) (k := 40) (n := 184) C hw ob_60 (by decide) (fun _ _ => rfl) (vp_in_iff.mpr (by omega)) dX10_arrive_27 ?_
            refine lv_topi (fun x_26 ex_26 => ?_)
            have yx_26 : tY M_1 60 40 x_25.toNatClampNeg = x_26 := (ex_26.symm)
            have zx_26 : (tY M_1 60 40 x_25.toNatClampNeg).toInt = x_26.toInt := by rw [yx_26]
            have L_27 : g_6 (128 + x_13.toInt.toNat) = x_26.toInt := ((hs_7.2.2.2.1 (x_13.toInt.toNat) (by omega)).1).trans (rd_k (n := 8 * 0 + x_13.toInt.toNat) (by omega) (yx_26))
            refine sb_if_ne (tgt := 106) hx hb rfl dX10_arrive_28 (by decide) (fun c_28_27 => ?_) (fun c_28_27 => ?_)
            · obtain ⟨x_47, ex_47⟩ : ∃ z : Int32, z = x_13 + 1 := ⟨_, rfl⟩
              have tx_47 : x_47.toInt = x_13.toInt + 1 := i_add ex_47 rfl (by decide) (by omega) (by omega)
              refine lv_iinc (v := x_47) (lv' := [(4, .int x_47), (3, .int x_16), (0, .ref (A 60 0)), (1, .int 0), (2, .int t)]) hx hb dX10_arrive_106 hl (k := 0) rfl (by rw [ex_47]; rfl) (by decide) rfl (fun ls hl => ?_)
              refine lv_goto (tgt := 5) hx hb dX10_arrive_109 (by decide) ?_
              exact ih_21 x_47 x_16 _ _ _ (by omega) (by first | omega | decide) (by first | omega | decide) (by first | omega | decide) (by first | omega | decide) (by rw [← j_19, nf_go (tx := tx) (s := g_6) (f := (tx 4).toNat - x_13.toInt.toNat) (f' := (tx 4).toNat - x_47.toInt.toNat) (m := x_13.toInt.toNat) (b := x_16.toInt) (by omega), if_neg (by omega), show x_47.toInt.toNat = x_13.toInt.toNat + 1 by omega]) (by first | omega | decide) hw (lv_sub hl [0, 1, 2, 3, 4] rfl)
            · refine lv_aload_n hx hb dX10_arrive_31 rfl (lv_at hl 2 rfl) ?_
              refine ti_get (ci := 10) (k := 44) (N := 67) (T := TX10) (v := .ref (A 60 45)) C hw iw_10 rfl ob_60 (by decide) (by decide) fl_X10_99 rfl rfl dX10_arrive_32 ?_
              refine lv_bipush (v := 8) hx hb dX10_arrive_35 (by decide) ?_
              refine lv_iload_n hx hb dX10_arrive_37 rfl (lv_at hl 3 rfl) ?_
              refine lv_imul hx hb dX10_arrive_38 ?_
              refine ti_top (y := 0) (by decide) ?_
              refine lv_iload hx hb dX10_arrive_39 (lv_at hl 0 rfl) ?_
              refine lv_iadd hx hb dX10_arrive_41 ?_
              refine lv_topi (fun x_29 ex_29 => ?_)
              have tx_29 : x_29.toInt = 0 + x_13.toInt := i_add ex_29 (by decide : (0 : Int32).toInt = 0) rfl (by omega) (by omega)
              refine ti_iald (ci := 10) (k := 44) (n := 184) C hw ob_60 (by decide) (fun _ _ => rfl) (vp_in_iff.mpr (by omega)) dX10_arrive_42 ?_
              refine lv_topi (fun x_30 ex_30 => ?_)
              have yx_30 : tY M_1 60 44 x_29.toNatClampNeg = x_30 := (ex_30.symm)
              have L_31 : g_6 (144 + x_13.toInt.toNat) = x_30.toInt := ((hs_7.2.2.2.1 (x_13.toInt.toNat) (by omega)).2.1).trans (rd_k (n := 8 * 0 + x_13.toInt.toNat) (by omega) (yx_30))
              refine lv_iload_n hx hb dX10_arrive_43 rfl (lv_at hl 4 rfl) ?_
              refine sb_icmp_eq (tgt := 50) hx hb rfl rfl dX10_arrive_44 (by decide) (fun c_44_31 => ?_) (fun c_44_31 => ?_)
              · refine lv_iload_n hx hb dX10_arrive_50 rfl (lv_at hl 1 rfl) ?_
                refine lv_iconst (v := (-1)) hx hb dX10_arrive_51 (by decide) ?_
                refine sb_icmp_eq (tgt := 103) hx hb rfl (by decide : ((-1) : Int32).toInt = (-1)) dX10_arrive_52 (by decide) (fun c_52_32 => ?_) (fun c_52_32 => ?_)
                · refine lv_iload hx hb dX10_arrive_103 (lv_at hl 0 rfl) ?_
                  refine lv_istore_n (lv' := [(3, .int x_13), (4, .int x_13), (0, .ref (A 60 0)), (1, .int 0), (2, .int t)]) hx hb dX10_arrive_105 rfl hl (by decide) rfl (fun ls hl => ?_)
                  obtain ⟨x_51, ex_51⟩ : ∃ z : Int32, z = x_13 + 1 := ⟨_, rfl⟩
                  have tx_51 : x_51.toInt = x_13.toInt + 1 := i_add ex_51 rfl (by decide) (by omega) (by omega)
                  refine lv_iinc (v := x_51) (lv' := [(4, .int x_51), (3, .int x_13), (0, .ref (A 60 0)), (1, .int 0), (2, .int t)]) hx hb dX10_arrive_106 hl (k := 1) rfl (by rw [ex_51]; rfl) (by decide) rfl (fun ls hl => ?_)
                  refine lv_goto (tgt := 5) hx hb dX10_arrive_109 (by decide) ?_
                  exact ih_21 x_51 x_13 _ _ _ (by omega) (by first | omega | decide) (by first | omega | decide) (by first | omega | decide) (by first | omega | decide) (by rw [← j_19, nf_go (tx := tx) (s := g_6) (f := (tx 4).toNat - x_13.toInt.toNat) (f' := (tx 4).toNat - x_51.toInt.toNat) (m := x_13.toInt.toNat) (b := x_16.toInt) (by omega), if_pos (by omega), show x_51.toInt.toNat = x_13.toInt.toNat + 1 by omega]; exact congrArg _ (by omega)) (by first | omega | decide) hw (lv_sub hl [0, 1, 2, 3, 4] rfl)
                · refine lv_aload_n hx hb dX10_arrive_55 rfl (lv_at hl 2 rfl) ?_
                  refine ti_get (ci := 10) (k := 6) (N := 67) (T := TX10) (v := .ref (A 60 7)) C hw iw_10 rfl ob_60 (by decide) (by decide) fl_X10_22 rfl rfl dX10_arrive_56 ?_
                  refine lv_iload hx hb dX10_arrive_59 (lv_at hl 0 rfl) ?_
                  refine ti_iald (ci := 10) (k := 6) (n := 16) C hw ob_60 (by decide) (fun _ _ => rfl) (vp_in_iff.mpr (by omega)) dX10_arrive_61 ?_
                  refine lv_topi (fun x_34 ex_34 => ?_)
                  have yx_34 : tY M_1 60 6 x_13.toNatClampNeg = x_34 := (ex_34.symm)
                  have wx_34 : tY M 60 6 x_13.toNatClampNeg = x_34 := ((cg (f_2.1 6 (by decide) (by decide)) x_13.toNatClampNeg)).symm.trans yx_34
                  have L_35 : tx (100 + 16 * x_13.toInt.toNat + 2) = x_34.toInt := (htr.2.2.1 (x_13.toInt.toNat) (by omega) (by omega)).2.1.trans ((congrArg Int32.toInt (cg ((f_2.1 6 (by decide) (by decide))) (x_13.toInt.toNat))).symm.trans (rd_k (n := x_13.toInt.toNat) (by omega) ((cg (f_2.1 6 (by decide) (by decide)) x_13.toNatClampNeg).trans wx_34)))
                  refine lv_aload_n hx hb dX10_arrive_62 rfl (lv_at hl 2 rfl) ?_
                  refine ti_get (ci := 10) (k := 6) (N := 67) (T := TX10) (v := .ref (A 60 7)) C hw iw_10 rfl ob_60 (by decide) (by decide) fl_X10_22 rfl rfl dX10_arrive_63 ?_
                  refine lv_iload_n hx hb dX10_arrive_66 rfl (lv_at hl 1 rfl) ?_
                  refine ti_iald (ci := 10) (k := 6) (n := 16) C hw ob_60 (by decide) (fun _ _ => rfl) (vp_in_iff.mpr (by omega)) dX10_arrive_67 ?_
                  refine lv_topi (fun x_36 ex_36 => ?_)
                  have yx_36 : tY M_1 60 6 x_16.toNatClampNeg = x_36 := (ex_36.symm)
                  have wx_36 : tY M 60 6 x_16.toNatClampNeg = x_36 := ((cg (f_2.1 6 (by decide) (by decide)) x_16.toNatClampNeg)).symm.trans yx_36
                  have L_37 : tx (100 + 16 * x_16.toInt.toNat + 2) = x_36.toInt := (htr.2.2.1 (x_16.toInt.toNat) (by omega) (by omega)).2.1.trans ((congrArg Int32.toInt (cg ((f_2.1 6 (by decide) (by decide))) (x_16.toInt.toNat))).symm.trans (rd_k (n := x_16.toInt.toNat) (by omega) ((cg (f_2.1 6 (by decide) (by decide)) x_16.toNatClampNeg).trans wx_36)))
                  refine sb_icmp_lt (tgt := 103) hx hb rfl rfl dX10_arrive_68 (by decide) (fun c_68_37 => ?_) (fun c_68_37 => ?_)
                  · refine lv_iload hx hb dX10_arrive_103 (lv_at hl 0 rfl) ?_
                    refine lv_istore_n (lv' := [(3, .int x_13), (4, .int x_13), (0, .ref (A 60 0)), (1, .int 0), (2, .int t)]) hx hb dX10_arrive_105 rfl hl (by decide) rfl (fun ls hl => ?_)
                    obtain ⟨x_52, ex_52⟩ : ∃ z : Int32, z = x_13 + 1 := ⟨_, rfl⟩
                    have tx_52 : x_52.toInt = x_13.toInt + 1 := i_add ex_52 rfl (by decide) (by omega) (by omega)
                    refine lv_iinc (v := x_52) (lv' := [(4, .int x_52), (3, .int x_13), (0, .ref (A 60 0)), (1, .int 0), (2, .int t)]) hx hb dX10_arrive_106 hl (k := 1) rfl (by rw [ex_52]; rfl) (by decide) rfl (fun ls hl => ?_)
                    refine lv_goto (tgt := 5) hx hb dX10_arrive_109 (by decide) ?_
                    exact ih_21 x_52 x_13 _ _ _ (by omega) (by first | omega | decide) (by first | omega | decide) (by first | omega | decide) (by first | omega | decide) (by rw [← j_19, nf_go (tx := tx) (s := g_6) (f := (tx 4).toNat - x_13.toInt.toNat) (f' := (tx 4).toNat - x_52.toInt.toNat) (m := x_13.toInt.toNat) (b := x_16.toInt) (by omega), if_pos (by omega), show x_52.toInt.toNat = x_13.toInt.toNat + 1 by omega]; exact congrArg _ (by omega)) (by first | omega | decide) hw (lv_sub hl [0, 1, 2, 3, 4] rfl)
                  · refine lv_aload_n hx hb dX10_arrive_71 rfl (lv_at hl 2 rfl) ?_
                    refine ti_get (ci := 10) (k := 6) (N := 67) (T := TX10) (v := .ref (A 60 7)) C hw iw_10 rfl ob_60 (by decide) (by decide) fl_X10_22 rfl rfl dX10_arrive_72 ?_
                    refine lv_iload hx hb dX10_arrive_75 (lv_at hl 0 rfl) ?_
                    refine ti_iald (ci := 10) (k := 6) (n := 16) C hw ob_60 (by decide) (fun _ _ => rfl) (vp_in_iff.mpr (by omega)) dX10_arrive_77 ?_
                    refine ti_top (y := x_34) (((cg (f_2.1 6 (by decide) (by decide)) x_13.toNatClampNeg).trans wx_34)) ?_
                    have L_39 : tx (100 + 16 * x_13.toInt.toNat + 2) = x_34.toInt := (htr.2.2.1 (x_13.toInt.toNat) (by omega) (by omega)).2.1.trans ((congrArg Int32.toInt (cg ((f_2.1 6 (by decide) (by decide))) (x_13.toInt.toNat))).symm.trans (rd_k (n := x_13.toInt.toNat) (by omega) ((cg (f_2.1 6 (by decide) (by decide)) x_13.toNatClampNeg).trans wx_34)))
                    refine lv_aload_n hx hb dX10_arrive_78 rfl (lv_at hl 2 rfl) ?_
                    refine ti_get (ci := 10) (k := 6) (N := 67) (T := TX10) (v := .ref (A 60 7)) C hw iw_10 rfl ob_60 (by decide) (by decide) fl_X10_22 rfl rfl dX10_arrive_79 ?_
                    refine lv_iload_n hx hb dX10_arrive_82 rfl (lv_at hl 1 rfl) ?_
                    refine ti_iald (ci := 10) (k := 6) (n := 16) C hw ob_60 (by decide) (fun _ _ => rfl) (vp_in_iff.mpr (by omega)) dX10_arrive_83 ?_
                    refine ti_top (y := x_36) (((cg (f_2.1 6 (by decide) (by decide)) x_16.toNatClampNeg).trans wx_36)) ?_
                    have L_40 : tx (100 + 16 * x_16.toInt.toNat + 2) = x_36.toInt := (htr.2.2.1 (x_16.toInt.toNat) (by omega) (by omega)).2.1.trans ((congrArg Int32.toInt (cg ((f_2.1 6 (by decide) (by decide))) (x_16.toInt.toNat))).symm.trans (rd_k (n := x_16.toInt.toNat) (by omega) ((cg (f_2.1 6 (by decide) (by decide)) x_16.toNatClampNeg).trans wx_36)))
                    refine sb_icmp_ne (tgt := 106) hx hb rfl rfl dX10_arrive_84 (by decide) (fun c_84_40 => ?_) (fun c_84_40 => ?_)
                    · obtain ⟨x_49, ex_49⟩ : ∃ z : Int32, z = x_13 + 1 := ⟨_, rfl⟩
                      have tx_49 : x_49.toInt = x_13.toInt + 1 := i_add ex_49 rfl (by decide) (by omega) (by omega)
                      refine lv_iinc (v := x_49) (lv' := [(4, .int x_49), (3, .int x_16), (0, .ref (A 60 0)), (1, .int 0), (2, .int t)]) hx hb dX10_arrive_106 hl (k := 0) rfl (by rw [ex_49]; rfl) (by decide) rfl (fun ls hl => ?_)
                      refine lv_goto (tgt := 5) hx hb dX10_arrive_109 (by decide) ?_
                      exact ih_21 x_49 x_16 _ _ _ (by omega) (by first | omega | decide) (by first | omega | decide) (by first | omega | decide) (by first | omega | decide) (by rw [← j_19, nf_go (tx := tx) (s := g_6) (f := (tx 4).toNat - x_13.toInt.toNat) (f' := (tx 4).toNat - x_49.toInt.toNat) (m := x_13.toInt.toNat) (b := x_16.toInt) (by omega), if_neg (by omega), show x_49.toInt.toNat = x_13.toInt.toNat + 1 by omega]) (by first | omega | decide) hw (lv_sub hl [0, 1, 2, 3, 4] rfl)
                    · refine lv_aload_n hx hb dX10_arrive_87 rfl (lv_at hl 2 rfl) ?_
                      refine ti_get (ci := 10) (k := 5) (N := 67) (T := TX10) (v := .ref (A 60 6)) C hw iw_10 rfl ob_60 (by decide) (by decide) fl_X10_19 rfl rfl dX10_arrive_88 ?_
                      refine lv_iload hx hb dX10_arrive_91 (lv_at hl 0 rfl) ?_
                      refine ti_iald (ci := 10) (k := 5) (n := 16) C hw ob_60 (by decide) (fun _ _ => rfl) (vp_in_iff.mpr (by omega)) dX10_arrive_93 ?_
                      refine lv_topi (fun x_42 ex_42 => ?_)
                      have yx_42 : tY M_1 60 5 x_13.toNatClampNeg = x_42 := (ex_42.symm)
                      have wx_42 : tY M 60 5 x_13.toNatClampNeg = x_42 := ((cg (f_2.1 5 (by decide) (by decide)) x_13.toNatClampNeg)).symm.trans yx_42
                      have L_43 : tx (100 + 16 * x_13.toInt.toNat + 1) = x_42.toInt := (htr.2.2.1 (x_13.toInt.toNat) (by omega) (by omega)).1.trans ((congrArg Int32.toInt (cg ((f_2.1 5 (by decide) (by decide))) (x_13.toInt.toNat))).symm.trans (rd_k (n := x_13.toInt.toNat) (by omega) ((cg (f_2.1 5 (by decide) (by decide)) x_13.toNatClampNeg).trans wx_42)))
                      refine lv_aload_n hx hb dX10_arrive_94 rfl (lv_at hl 2 rfl) ?_
                      refine ti_get (ci := 10) (k := 5) (N := 67) (T := TX10) (v := .ref (A 60 6)) C hw iw_10 rfl ob_60 (by decide) (by decide) fl_X10_19 rfl rfl dX10_arrive_95 ?_
                      refine lv_iload_n hx hb dX10_arrive_98 rfl (lv_at hl 1 rfl) ?_
                      refine ti_iald (ci := 10) (k := 5) (n := 16) C hw ob_60 (by decide) (fun _ _ => rfl) (vp_in_iff.mpr (by omega)) dX10_arrive_99 ?_
                      refine lv_topi (fun x_44 ex_44 => ?_)
                      have yx_44 : tY M_1 60 5 x_16.toNatClampNeg = x_44 := (ex_44.symm)
                      have wx_44 : tY M 60 5 x_16.toNatClampNeg = x_44 := ((cg (f_2.1 5 (by decide) (by decide)) x_16.toNatClampNeg)).symm.trans yx_44
                      have L_45 : tx (100 + 16 * x_16.toInt.toNat + 1) = x_44.toInt := (htr.2.2.1 (x_16.toInt.toNat) (by omega) (by omega)).1.trans ((congrArg Int32.toInt (cg ((f_2.1 5 (by decide) (by decide))) (x_16.toInt.toNat))).symm.trans (rd_k (n := x_16.toInt.toNat) (by omega) ((cg (f_2.1 5 (by decide) (by decide)) x_16.toNatClampNeg).trans wx_44)))
                      refine sb_icmp_le (tgt := 106) hx hb rfl rfl dX10_arrive_100 (by decide) (fun c_100_45 => ?_) (fun c_100_45 => ?_)
                      · obtain ⟨x_50, ex_50⟩ : ∃ z : Int32, z = x_13 + 1 := ⟨_, rfl⟩
                        have tx_50 : x_50.toInt = x_13.toInt + 1 := i_add ex_50 rfl (by decide) (by omega) (by omega)
                        refine lv_iinc (v := x_50) (lv' := [(4, .int x_50), (3, .int x_16), (0, .ref (A 60 0)), (1, .int 0), (2, .int t)]) hx hb dX10_arrive_106 hl (k := 0) rfl (by rw [ex_50]; rfl) (by decide) rfl (fun ls hl => ?_)
                        refine lv_goto (tgt := 5) hx hb dX10_arrive_109 (by decide) ?_
                        exact ih_21 x_50 x_16 _ _ _ (by omega) (by first | omega | decide) (by first | omega | decide) (by first | omega | decide) (by first | omega | decide) (by rw [← j_19, nf_go (tx := tx) (s := g_6) (f := (tx 4).toNat - x_13.toInt.toNat) (f' := (tx 4).toNat - x_50.toInt.toNat) (m := x_13.toInt.toNat) (b := x_16.toInt) (by omega), if_neg (by omega), show x_50.toInt.toNat = x_13.toInt.toNat + 1 by omega]) (by first | omega | decide) hw (lv_sub hl [0, 1, 2, 3, 4] rfl)
                      · refine lv_iload hx hb dX10_arrive_103 (lv_at hl 0 rfl) ?_
                        refine lv_istore_n (lv' := [(3, .int x_13), (4, .int x_13), (0, .ref (A 60 0)), (1, .int 0), (2, .int t)]) hx hb dX10_arrive_105 rfl hl (by decide) rfl (fun ls hl => ?_)
                        obtain ⟨x_53, ex_53⟩ : ∃ z : Int32, z = x_13 + 1 := ⟨_, rfl⟩
                        have tx_53 : x_53.toInt = x_13.toInt + 1 := i_add ex_53 rfl (by decide) (by omega) (by omega)
                        refine lv_iinc (v := x_53) (lv' := [(4, .int x_53), (3, .int x_13), (0, .ref (A 60 0)), (1, .int 0), (2, .int t)]) hx hb dX10_arrive_106 hl (k := 1) rfl (by rw [ex_53]; rfl) (by decide) rfl (fun ls hl => ?_)
                        refine lv_goto (tgt := 5) hx hb dX10_arrive_109 (by decide) ?_
                        exact ih_21 x_53 x_13 _ _ _ (by omega) (by first | omega | decide) (by first | omega | decide) (by first | omega | decide) (by first | omega | decide) (by rw [← j_19, nf_go (tx := tx) (s := g_6) (f := (tx 4).toNat - x_13.toInt.toNat) (f' := (tx 4).toNat - x_53.toInt.toNat) (m := x_13.toInt.toNat) (b := x_16.toInt) (by omega), if_pos (by omega), show x_53.toInt.toNat = x_13.toInt.toNat + 1 by omega]; exact congrArg _ (by omega)) (by first | omega | decide) hw (lv_sub hl [0, 1, 2, 3, 4] rfl)
              · refine lv_goto (tgt := 106) hx hb dX10_arrive_47 (by decide) ?_
                obtain ⟨x_48, ex_48⟩ : ∃ z : Int32, z = x_13 + 1 := ⟨_, rfl⟩
                have tx_48 : x_48.toInt = x_13.toInt + 1 := i_add ex_48 rfl (by decide) (by omega) (by omega)
                refine lv_iinc (v := x_48) (lv' := [(4, .int x_48), (3, .int x_16), (0, .ref (A 60 0)), (1, .int 0), (2, .int t)]) hx hb dX10_arrive_106 hl (k := 0) rfl (by rw [ex_48]; rfl) (by decide) rfl (fun ls hl => ?_)
                refine lv_goto (tgt := 5) hx hb dX10_arrive_109 (by decide) ?_
                exact ih_21 x_48 x_16 _ _ _ (by omega) (by first | omega | decide) (by first | omega | decide) (by first | omega | decide) (by first | omega | decide) (by rw [← j_19, nf_go (tx := tx) (s := g_6) (f := (tx 4).toNat - x_13.toInt.toNat) (f' := (tx 4).toNat - x_48.toInt.toNat) (m := x_13.toInt.toNat) (b := x_16.toInt) (by omega), if_neg (by omega), show x_48.toInt.toNat = x_13.toInt.toNat + 1 by omega]) (by first | omega | decide) hw (lv_sub hl [0, 1, 2, 3, 4] rfl)
      exact hl_5_20 ((8 - 0 : Int).toNat + 1) 0 (-1) _ _ _ (Nat.lt_succ_self _) (by have lt0 : ((-1) : Int32).toInt = (-1) := (by decide); have lt1 : (0 : Int32).toInt = 0 := (by decide); first | omega | decide) (by have lt0 : ((-1) : Int32).toInt = (-1) := (by decide); have lt1 : (0 : Int32).toInt = 0 := (by decide); first | omega | decide) (by have lt0 : ((-1) : Int32).toInt = (-1) := (by decide); have lt1 : (0 : Int32).toInt = 0 := (by decide); first | omega | decide) (by have lt0 : ((-1) : Int32).toInt = (-1) := (by decide); have lt1 : (0 : Int32).toInt = 0 := (by decide); first | omega | decide) (by show bq_nf tx g_6 ((tx 4).toNat - 0) 0 (-1) = _; rfl) (by have lt0 : ((-1) : Int32).toInt = (-1) := (by decide); have lt1 : (0 : Int32).toInt = 0 := (by decide); first | omega | decide) hw (lv_sub hl [0, 1, 2, 3, 4] rfl)
  exact hl_0_11 ((((zc (tY M 60 40) 0 : Nat) : Int) : Int).toNat + 1) M rg _ _ _ (Nat.lt_succ_self _) hI rq.refl hC rfl eR.refl hr ⟨(tx 4).toNat, by have := bc0_8 (s := rg); omega, rfl⟩ hwf hV rfl hw (lv_sub hl [0, 1, 2] rfl)
set_option maxHeartbeats 4000000 in
set_option maxRecDepth 100000 in
theorem z_X10_arrive_1 (l : Launch) (D : va_G) (A : Nat → Nat → Nat) (cy : Nat → ClassId) (hJ : ti_inj ti_LM A) (M : ti_M) (hI : mI Tm M) (hC : mC M 1) (t : Int32) (tx rg : Nat → Int) (htr : tR tx M) (ht4 : 0 ≤ tx 4 ∧ tx 4 ≤ 8) (hr : qR (tx 4).toNat 1 rg M) (hV : qV (tx 4).toNat 1 rg M) (hwf : wF tx rg) (htW : tW tx) (htm : t.toInt = rg 2) : ti_Kv l yX10_arrive cX10_arrive 5 1 ti_LM D A cy M [.ref (A 60 0), .int 1, .int t] (fun M2 => eR 1 M2 M ∧ qR (tx 4).toNat 1 (bq_wl tx (tx 4).toNat rg) M2 ∧ qV (tx 4).toNat 1 (bq_wl tx (tx 4).toNat rg) M2 ∧ mI Tm M2 ∧ rq 1 M2 M ∧ mC M2 1 ∧ tY M2 60 34 = tY M 60 34) := by
  refine ti_eV yp_X10_arrive hJ ti_LM_nd (Nat.le_of_ble_eq_true rfl) ?_
  intro p e s m args below meth c Q H0 C hQ hw ls hl
  have hx := C.1
  have hb := C.2.1
  have hl : lv_has ls 5 [(0, .ref (A 60 0)), (1, .int 1), (2, .int t)] := hl
  have hl_0_11 : ∀ (n_12 : Nat) (M_1 : ti_M) (g_6 : Nat → Int) (H : Heap) (locs : List Loc) (ls : Array Slot), (((zc (tY M_1 60 40) 8 : Nat) : Int) : Int).toNat < n_12 → (mI Tm M_1) → (rq 1 M_1 M) → (mC M_1 1) → (tY M_1 60 34 = tY M 60 34) → (eR 1 M_1 M) → (qR (tx 4).toNat 1 g_6 M_1) → (∃ f : Nat, bc0 g_6 ≤ (f : Int) + (8 - tx 4) ∧ bq_wl tx f g_6 = bq_wl tx (tx 4).toNat rg) → (wF tx g_6) → (qV (tx 4).toNat 1 g_6 M_1) → (g_6 2 = rg 2) → ti_H ti_LM D A cy H0 M_1 H locs → lv_has ls 5 [(0, .ref (A 60 0)), (1, .int 1), (2, .int t)] → W p l e (ti_rm 1) s m args below meth c H locs 0 0 Q (F0 m 0 ls []) := by
    intro n_12
    induction n_12 with
    | zero => intro M_1 g_6 H locs ls hf_12; exact absurd hf_12 (Nat.not_lt_zero _)
    | succ n_12 ih_12 =>
      intro M_1 g_6 H locs ls hf_12 iM_1 f_2 f_3 f_4 f_5 hs_7 j_8 j_9 j_10 j_11 hw hl
      refine lv_iconst (v := (-1)) hx hb dX10_arrive_0 (by decide) ?_
      refine lv_istore_n (lv' := [(3, .int (-1)), (0, .ref (A 60 0)), (1, .int 1), (2, .int t)]) hx hb dX10_arrive_1 rfl hl (by decide) rfl (fun ls hl => ?_)
      refine lv_iconst (v := 0) hx hb dX10_arrive_2 (by decide) ?_
      refine lv_istore (lv' := [(4, .int 0), (3, .int (-1)), (0, .ref (A 60 0)), (1, .int 1), (2, .int t)]) hx hb dX10_arrive_3 hl (by decide) rfl (fun ls hl => ?_)
      have hl_5_20 : ∀ (n_21 : Nat) (x_13 : Int32) (x_16 : Int32) (H : Heap) (locs : List Loc) (ls : Array Slot), (8 - x_13.toInt : Int).toNat < n_21 → (0 ≤ x_13.toInt) → (x_13.toInt ≤ 8) → ((-1) ≤ x_16.toInt) → (x_16.toInt ≤ 7) → (bq_nf tx g_6 ((tx 4).toNat - (x_13.toInt).toNat) (x_13.toInt).toNat (x_16.toInt) = bq_nx tx g_6) → (x_16.toInt = -1 ∨ x_16.toInt < tx 4) → ti_H ti_LM D A cy H0 M_1 H locs → lv_has ls 5 [(4, .int x_13), (3, .int x_16), (0, .ref (A 60 0)), (1, .int 1), (2, .int t)] → W p l e (ti_rm 1) s m args below meth c H locs 0 0 Q (F0 m 5 ls []) := by
        intro n_21
        induction n_21 with
        | zero => intro x_13 x_16 H locs ls hf_21; exact absurd hf_21 (Nat.not_lt_zero _)
        | succ n_21 ih_21 =>
          intro x_13 x_16 H locs ls hf_21 b_14 b_15 b_17 b_18 j_19 j_20 hw hl
          refine lv_iload hx hb dX10_arrive_5 (lv_at hl 0 rfl) ?_
          refine lv_aload_n hx hb dX10_arrive_7 rfl (lv_at hl 2 rfl) ?_
          refine ti_get (ci := 10) (k := 3) (N := 67) (T := TX10) (v := .ref (A 60 4)) C hw iw_10 rfl ob_60 (by decide) (by decide) fl_X10_13 rfl rfl dX10_arrive_8 ?_
          refine lv_iconst (v := 0) hx hb dX10_arrive_11 (by decide) ?_
          refine ti_iald (ci := 10) (k := 3) (n := 22) C hw ob_60 (by decide) (fun _ _ => rfl) (by unfold vp_in; decide) dX10_arrive_12 ?_
          refine lv_topi (fun x_22 ex_22 => ?_)
          have yx_22 : tY M_1 60 3 0 = x_22 := ((congrArg _ (by decide)).symm.trans ex_22.symm)
          have bx_22 : 0 ≤ x_22.toInt ∧ x_22.toInt ≤ 8 := mI_rn (i := 0) iM_1 yx_22.symm (fun _ h => h)
          have zx_22 : (tY M_1 60 3 0).toInt = x_22.toInt := by rw [yx_22]
          have wx_22 : tY M 60 3 0 = x_22 := ((cg (f_2.1 3 (by decide) (by decide)) 0)).symm.trans yx_22
          have zwx_22 : (tY M 60 3 0).toInt = x_22.toInt := by rw [wx_22]
          have L_23 : tx 4 = x_22.toInt := (htr.1.1).trans ((congrArg Int32.toInt (cg ((f_2.1 3 (by decide) (by decide))) 0)).symm.trans (congrArg Int32.toInt ((cg (f_2.1 3 (by decide) (by decide)) 0).trans wx_22)))
          refine sb_icmp_ge (tgt := 112) hx hb rfl rfl dX10_arrive_13 (by decide) (fun c_13_23 => ?_) (fun c_13_23 => ?_)
          · have NX : bq_nx tx g_6 = x_16.toInt := by rw [← j_19, nf_end (by omega)]
            have NA := nx_at (s := g_6) htW
            rw [NX] at NA
            obtain ⟨f9, hf9, he9⟩ := j_8
            refine lv_iload_n hx hb dX10_arrive_112 rfl (lv_at hl 1 rfl) ?_
            refine lv_iconst (v := (-1)) hx hb dX10_arrive_113 (by decide) ?_
            refine sb_icmp_ne (tgt := 118) hx hb rfl (by decide : ((-1) : Int32).toInt = (-1)) dX10_arrive_114 (by decide) (fun c_114_53 => ?_) (fun c_114_53 => ?_)
            · have S0 : g_6 (128 + x_16.toInt.toNat) = 0 := by omega
              have S3 := wF_s3 htW j_9 (m := x_16.toInt.toNat) (by omega) S0
              have W8 := wF_8 j_9
              have BG := bc0_ge htW j_9 (m := x_16.toInt.toNat) (by omega) S0
              have WA := wF_ap htW j_9 (m := x_16.toInt) (by omega) (by omega) S0
              have g2 : g_6 2 = t.toInt := by rw [j_11]; omega
              refine lv_aload_n hx hb dX10_arrive_118 rfl (lv_at hl 2 rfl) ?_
              refine lv_iload_n hx hb dX10_arrive_119 rfl (lv_at hl 3 rfl) ?_
              refine lv_iload_n hx hb dX10_arrive_120 rfl (lv_at hl 1 rfl) ?_
              refine lv_iload_n hx hb dX10_arrive_121 rfl (lv_at hl 4 rfl) ?_
              refine ti_callVv (ci := 10) (av := [.int 1, .int x_16, .int t]) C hw (z_X10_joins_1 l D A cy hJ M_1 iM_1 f_3 x_16 t (by first | omega | decide | (have l0 : (0 : Int32).toInt = 0 := (by decide); have l2 : (2 : Int32).toInt = 2 := (by decide); have l3 : (3 : Int32).toInt = 3 := (by decide); omega)) (by first | omega | decide | (have l0 : (0 : Int32).toInt = 0 := (by decide); have l2 : (2 : Int32).toInt = 2 := (by decide); have l3 : (3 : Int32).toInt = 3 := (by decide); omega)) (fun i hi => by rw [show i = 8 * 1 + x_16.toInt.toNat by omega]; have z0 := (hs_7.2.2.2.1 x_16.toInt.toNat (by omega)).1; omega) tx g_6 (tR_lw htr (eR_lw (q := 1) f_5)) ht4 hs_7 j_10 (by omega) S0 (by omega) (by omega)) ⟨ml_X10_359, ym_X10_joins, yv_X10_joins, yi_X10_joins, yc_X10_joins⟩ yd_X10_joins ob_60 (by decide) rfl rfl hl.1 (Nat.le_of_ble_eq_true rfl) ⟨by decide, by decide⟩ ⟨Nat.zero_le _, Nat.zero_le _⟩ dX10_arrive_122 (fun M_56 H locs hp_56 hw => ?_)
              obtain ⟨erM_56, hrM_56, qvM_56, hqM_56⟩ := hp_56
              obtain ⟨iM_56, q_57, q_58, q_59, q_60⟩ := hqM_56
              obtain ⟨g_61, eg_61⟩ : ∃ z : Nat → Int, z = bq_ap g_6 x_16.toInt := ⟨_, rfl⟩
              rw [← eg_61] at hrM_56
              rw [← eg_61] at qvM_56
              have WP : wF tx g_61 := by rw [eg_61]; exact WA.1
              have WB := WA.2
              rw [← eg_61] at WB
              have WN : ∃ f : Nat, bc0 g_61 ≤ (f : Int) + (8 - tx 4) ∧ bq_wl tx f g_61 = bq_wl tx (tx 4).toNat rg := ⟨f9 - 1, by omega, by rw [← he9, wl_go (tx := tx) (s := g_6) (f := f9) (f' := f9 - 1) (by omega) (by omega), NX, ← eg_61]⟩
              refine lv_goto (tgt := 0) hx hb dX10_arrive_125 (by decide) ?_
              exact ih_12 M_56 g_61 _ _ _ (by omega) iM_56 (rq.trans q_57 f_2) q_58 (((q_59).trans f_4)) (eR.trans erM_56 f_5) hrM_56 WN WP qvM_56 (by rw [eg_61, ap_k (by decide)]; exact j_11) hw (lv_sub hl [2, 3, 4] rfl)
            · exact hQ _ _ _ _ _ hw (⟨f_5, (by rw [← he9, wl_end (Or.inr (by omega))]; exact hs_7), (by rw [← he9, wl_end (Or.inr (by omega))]; exact j_10), iM_1, f_2, f_3, ((f_4))⟩) dX10_arrive_117
          · have g2 : g_6 2 = t.toInt := by rw [j_11]; omega
            refine lv_aload_n hx hb dX10_arrive_16 rfl (lv_at hl 2 rfl) ?_
            refine ti_get (ci := 10) (k := 40) (N := 67) (T := TX10) (v := .ref (A 60 41)) C hw iw_10 rfl ob_60 (by decide) (by decide) fl_X10_87 rfl rfl dX10_arrive_17 ?_
            refine lv_bipush (v := 8) hx hb dX10_arrive_20 (by decide) ?_
            refine lv_iload_n hx hb dX10_arrive_22 rfl (lv_at hl 3 rfl) ?_
            refine lv_imul hx hb dX10_arrive_23 ?_
            refine ti_top (y := 8) (by decide) ?_
            refine lv_iload hx hb dX10_arrive_24 (lv_at hl 0 rfl) ?_
            refine lv_iadd hx hb dX10_arrive_26 ?_
            refine lv_topi (fun x_25 ex_25 => ?_)
            have tx_25 : x_25.toInt = 8 + x_13.toInt := i_add ex_25 (by decide : (8 : Int32).toInt = 8) rfl (by omega) (by omega)
            refine ti_iald (ci := 10) (k := 40) (n := 184) C hw ob_60 (by decide) (fun _ _ => rfl) (vp_in_iff.mpr (by omega)) dX10_arrive_27 ?_
            refine lv_topi (fun x_26 ex_26 => ?_)
            have yx_26 : tY M_1 60 40 x_25.toNatClampNeg = x_26 := (ex_26.symm)
            have zx_26 : (tY M_1 60 40 x_25.toNatClampNeg).toInt = x_26.toInt := by rw [yx_26]
            have L_27 : g_6 (128 + x_13.toInt.toNat) = x_26.toInt := ((hs_7.2.2.2.1 (x_13.toInt.toNat) (by omega)).1).trans (rd_k (n := 8 * 1 + x_13.toInt.toNat) (by omega) (yx_26))
            refine sb_if_ne (tgt := 106) hx hb rfl dX10_arrive_28 (by decide) (fun c_28_27 => ?_) (fun c_28_27 => ?_)
            · obtain ⟨x_47, ex_47⟩ : ∃ z : Int32, z = x_13 + 1 := ⟨_, rfl⟩
              have tx_47 : x_47.toInt = x_13.toInt + 1 := i_add ex_47 rfl (by decide) (by omega) (by omega)
              refine lv_iinc (v := x_47) (lv' := [(4, .int x_47), (3, .int x_16), (0, .ref (A 60 0)), (1, .int 1), (2, .int t)]) hx hb dX10_arrive_106 hl (k := 0) rfl (by rw [ex_47]; rfl) (by decide) rfl (fun ls hl => ?_)
              refine lv_goto (tgt := 5) hx hb dX10_arrive_109 (by decide) ?_
              exact ih_21 x_47 x_16 _ _ _ (by omega) (by first | omega | decide) (by first | omega | decide) (by first | omega | decide) (by first | omega | decide) (by rw [← j_19, nf_go (tx := tx) (s := g_6) (f := (tx 4).toNat - x_13.toInt.toNat) (f' := (tx 4).toNat - x_47.toInt.toNat) (m := x_13.toInt.toNat) (b := x_16.toInt) (by omega), if_neg (by omega), show x_47.toInt.toNat = x_13.toInt.toNat + 1 by omega]) (by first | omega | decide) hw (lv_sub hl [0, 1, 2, 3, 4] rfl)
            · refine lv_aload_n hx hb dX10_arrive_31 rfl (lv_at hl 2 rfl) ?_
              refine ti_get (ci := 10) (k := 44) (N := 67) (T := TX10) (v := .ref (A 60 45)) C hw iw_10 rfl ob_60 (by decide) (by decide) fl_X10_99 rfl rfl dX10_arrive_32 ?_
              refine lv_bipush (v := 8) hx hb dX10_arrive_35 (by decide) ?_
              refine lv_iload_n hx hb dX10_arrive_37 rfl (lv_at hl 3 rfl) ?_
              refine lv_imul hx hb dX10_arrive_38 ?_
              refine ti_top (y := 8) (by decide) ?_
              refine lv_iload hx hb dX10_arrive_39 (lv_at hl 0 rfl) ?_
              refine lv_iadd hx hb dX10_arrive_41 ?_
              refine lv_topi (fun x_29 ex_29 => ?_)
              have tx_29 : x_29.toInt = 8 + x_13.toInt := i_add ex_29 (by decide : (8 : Int32).toInt = 8) rfl (by omega) (by omega)
              refine ti_iald (ci := 10) (k := 44) (n := 184) C hw ob_60 (by decide) (fun _ _ => rfl) (vp_in_iff.mpr (by omega)) dX10_arrive_42 ?_
              refine lv_topi (fun x_30 ex_30 => ?_)
              have yx_30 : tY M_1 60 44 x_29.toNatClampNeg = x_30 := (ex_30.symm)
              have L_31 : g_6 (144 + x_13.toInt.toNat) = x_30.toInt := ((hs_7.2.2.2.1 (x_13.toInt.toNat) (by omega)).2.1).trans (rd_k (n := 8 * 1 + x_13.toInt.toNat) (by omega) (yx_30))
              refine lv_iload_n hx hb dX10_arrive_43 rfl (lv_at hl 4 rfl) ?_
              refine sb_icmp_eq (tgt := 50) hx hb rfl rfl dX10_arrive_44 (by decide) (fun c_44_31 => ?_) (fun c_44_31 => ?_)
              · refine lv_iload_n hx hb dX10_arrive_50 rfl (lv_at hl 1 rfl) ?_
                refine lv_iconst (v := (-1)) hx hb dX10_arrive_51 (by decide) ?_
                refine sb_icmp_eq (tgt := 103) hx hb rfl (by decide : ((-1) : Int32).toInt = (-1)) dX10_arrive_52 (by decide) (fun c_52_32 => ?_) (fun c_52_32 => ?_)
                · refine lv_iload hx hb dX10_arrive_103 (lv_at hl 0 rfl) ?_
                  refine lv_istore_n (lv' := [(3, .int x_13), (4, .int x_13), (0, .ref (A 60 0)), (1, .int 1), (2, .int t)]) hx hb dX10_arrive_105 rfl hl (by decide) rfl (fun ls hl => ?_)
                  obtain ⟨x_51, ex_51⟩ : ∃ z : Int32, z = x_13 + 1 := ⟨_, rfl⟩
                  have tx_51 : x_51.toInt = x_13.toInt + 1 := i_add ex_51 rfl (by decide) (by omega) (by omega)
                  refine lv_iinc (v := x_51) (lv' := [(4, .int x_51), (3, .int x_13), (0, .ref (A 60 0)), (1, .int 1), (2, .int t)]) hx hb dX10_arrive_106 hl (k := 1) rfl (by rw [ex_51]; rfl) (by decide) rfl (fun ls hl => ?_)
                  refine lv_goto (tgt := 5) hx hb dX10_arrive_109 (by decide) ?_
                  exact ih_21 x_51 x_13 _ _ _ (by omega) (by first | omega | decide) (by first | omega | decide) (by first | omega | decide) (by first | omega | decide) (by rw [← j_19, nf_go (tx := tx) (s := g_6) (f := (tx 4).toNat - x_13.toInt.toNat) (f' := (tx 4).toNat - x_51.toInt.toNat) (m := x_13.toInt.toNat) (b := x_16.toInt) (by omega), if_pos (by omega), show x_51.toInt.toNat = x_13.toInt.toNat + 1 by omega]; exact congrArg _ (by omega)) (by first | omega | decide) hw (lv_sub hl [0, 1, 2, 3, 4] rfl)
                · refine lv_aload_n hx hb dX10_arrive_55 rfl (lv_at hl 2 rfl) ?_
                  refine ti_get (ci := 10) (k := 6) (N := 67) (T := TX10) (v := .ref (A 60 7)) C hw iw_10 rfl ob_60 (by decide) (by decide) fl_X10_22 rfl rfl dX10_arrive_56 ?_
                  refine lv_iload hx hb dX10_arrive_59 (lv_at hl 0 rfl) ?_
                  refine ti_iald (ci := 10) (k := 6) (n := 16) C hw ob_60 (by decide) (fun _ _ => rfl) (vp_in_iff.mpr (by omega)) dX10_arrive_61 ?_
                  refine lv_topi (fun x_34 ex_34 => ?_)
                  have yx_34 : tY M_1 60 6 x_13.toNatClampNeg = x_34 := (ex_34.symm)
                  have wx_34 : tY M 60 6 x_13.toNatClampNeg = x_34 := ((cg (f_2.1 6 (by decide) (by decide)) x_13.toNatClampNeg)).symm.trans yx_34
                  have L_35 : tx (100 + 16 * x_13.toInt.toNat + 2) = x_34.toInt := (htr.2.2.1 (x_13.toInt.toNat) (by omega) (by omega)).2.1.trans ((congrArg Int32.toInt (cg ((f_2.1 6 (by decide) (by decide))) (x_13.toInt.toNat))).symm.trans (rd_k (n := x_13.toInt.toNat) (by omega) ((cg (f_2.1 6 (by decide) (by decide)) x_13.toNatClampNeg).trans wx_34)))
                  refine lv_aload_n hx hb dX10_arrive_62 rfl (lv_at hl 2 rfl) ?_
                  refine ti_get (ci := 10) (k := 6) (N := 67) (T := TX10) (v := .ref (A 60 7)) C hw iw_10 rfl ob_60 (by decide) (by decide) fl_X10_22 rfl rfl dX10_arrive_63 ?_
                  refine lv_iload_n hx hb dX10_arrive_66 rfl (lv_at hl 1 rfl) ?_
                  refine ti_iald (ci := 10) (k := 6) (n := 16) C hw ob_60 (by decide) (fun _ _ => rfl) (vp_in_iff.mpr (by omega)) dX10_arrive_67 ?_
                  refine lv_topi (fun x_36 ex_36 => ?_)
                  have yx_36 : tY M_1 60 6 x_16.toNatClampNeg = x_36 := (ex_36.symm)
                  have wx_36 : tY M 60 6 x_16.toNatClampNeg = x_36 := ((cg (f_2.1 6 (by decide) (by decide)) x_16.toNatClampNeg)).symm.trans yx_36
                  have L_37 : tx (100 + 16 * x_16.toInt.toNat + 2) = x_36.toInt := (htr.2.2.1 (x_16.toInt.toNat) (by omega) (by omega)).2.1.trans ((congrArg Int32.toInt (cg ((f_2.1 6 (by decide) (by decide))) (x_16.toInt.toNat))).symm.trans (rd_k (n := x_16.toInt.toNat) (by omega) ((cg (f_2.1 6 (by decide) (by decide)) x_16.toNatClampNeg).trans wx_36)))
                  refine sb_icmp_lt (tgt := 103) hx hb rfl rfl dX10_arrive_68 (by decide) (fun c_68_37 => ?_) (fun c_68_37 => ?_)
                  · refine lv_iload hx hb dX10_arrive_103 (lv_at hl 0 rfl) ?_
                    refine lv_istore_n (lv' := [(3, .int x_13), (4, .int x_13), (0, .ref (A 60 0)), (1, .int 1), (2, .int t)]) hx hb dX10_arrive_105 rfl hl (by decide) rfl (fun ls hl => ?_)
                    obtain ⟨x_52, ex_52⟩ : ∃ z : Int32, z = x_13 + 1 := ⟨_, rfl⟩
                    have tx_52 : x_52.toInt = x_13.toInt + 1 := i_add ex_52 rfl (by decide) (by omega) (by omega)
                    refine lv_iinc (v := x_52) (lv' := [(4, .int x_52), (3, .int x_13), (0, .ref (A 60 0)), (1, .int 1), (2, .int t)]) hx hb dX10_arrive_106 hl (k := 1) rfl (by rw [ex_52]; rfl) (by decide) rfl (fun ls hl => ?_)
                    refine lv_goto (tgt := 5) hx hb dX10_arrive_109 (by decide) ?_
                    exact ih_21 x_52 x_13 _ _ _ (by omega) (by first | omega | decide) (by first | omega | decide) (by first | omega | decide) (by first | omega | decide) (by rw [← j_19, nf_go (tx := tx) (s := g_6) (f := (tx 4).toNat - x_13.toInt.toNat) (f' := (tx 4).toNat - x_52.toInt.toNat) (m := x_13.toInt.toNat) (b := x_16.toInt) (by omega), if_pos (by omega), show x_52.toInt.toNat = x_13.toInt.toNat + 1 by omega]; exact congrArg _ (by omega)) (by first | omega | decide) hw (lv_sub hl [0, 1, 2, 3, 4] rfl)
                  · refine lv_aload_n hx hb dX10_arrive_71 rfl (lv_at hl 2 rfl) ?_
                    refine ti_get (ci := 10) (k := 6) (N := 67) (T := TX10) (v := .ref (A 60 7)) C hw iw_10 rfl ob_60 (by decide) (by decide) fl_X10_22 rfl rfl dX10_arrive_72 ?_
                    refine lv_iload hx hb dX10_arrive_75 (lv_at hl 0 rfl) ?_
                    refine ti_iald (ci := 10) (k := 6) (n := 16) C hw ob_60 (by decide) (fun _ _ => rfl) (vp_in_iff.mpr (by omega)) dX10_arrive_77 ?_
                    refine ti_top (y := x_34) (((cg (f_2.1 6 (by decide) (by decide)) x_13.toNatClampNeg).trans wx_34)) ?_
                    have L_39 : tx (100 + 16 * x_13.toInt.toNat + 2) = x_34.toInt := (htr.2.2.1 (x_13.toInt.toNat) (by omega) (by omega)).2.1.trans ((congrArg Int32.toInt (cg ((f_2.1 6 (by decide) (by decide))) (x_13.toInt.toNat))).symm.trans (rd_k (n := x_13.toInt.toNat) (by omega) ((cg (f_2.1 6 (by decide) (by decide)) x_13.toNatClampNeg).trans wx_34)))
                    refine lv_aload_n hx hb dX10_arrive_78 rfl (lv_at hl 2 rfl) ?_
                    refine ti_get (ci := 10) (k := 6) (N := 67) (T := TX10) (v := .ref (A 60 7)) C hw iw_10 rfl ob_60 (by decide) (by decide) fl_X10_22 rfl rfl dX10_arrive_79 ?_
                    refine lv_iload_n hx hb dX10_arrive_82 rfl (lv_at hl 1 rfl) ?_
                    refine ti_iald (ci := 10) (k := 6) (n := 16) C hw ob_60 (by decide) (fun _ _ => rfl) (vp_in_iff.mpr (by omega)) dX10_arrive_83 ?_
                    refine ti_top (y := x_36) (((cg (f_2.1 6 (by decide) (by decide)) x_16.toNatClampNeg).trans wx_36)) ?_
                    have L_40 : tx (100 + 16 * x_16.toInt.toNat + 2) = x_36.toInt := (htr.2.2.1 (x_16.toInt.toNat) (by omega) (by omega)).2.1.trans ((congrArg Int32.toInt (cg ((f_2.1 6 (by decide) (by decide))) (x_16.toInt.toNat))).symm.trans (rd_k (n := x_16.toInt.toNat) (by omega) ((cg (f_2.1 6 (by decide) (by decide)) x_16.toNatClampNeg).trans wx_36)))
                    refine sb_icmp_ne (tgt := 106) hx hb rfl rfl dX10_arrive_84 (by decide) (fun c_84_40 => ?_) (fun c_84_40 => ?_)
                    · obtain ⟨x_49, ex_49⟩ : ∃ z : Int32, z = x_13 + 1 := ⟨_, rfl⟩
                      have tx_49 : x_49.toInt = x_13.toInt + 1 := i_add ex_49 rfl (by decide) (by omega) (by omega)
                      refine lv_iinc (v := x_49) (lv' := [(4, .int x_49), (3, .int x_16), (0, .ref (A 60 0)), (1, .int 1), (2, .int t)]) hx hb dX10_arrive_106 hl (k := 0) rfl (by rw [ex_49]; rfl) (by decide) rfl (fun ls hl => ?_)
                      refine lv_goto (tgt := 5) hx hb dX10_arrive_109 (by decide) ?_
                      exact ih_21 x_49 x_16 _ _ _ (by omega) (by first | omega | decide) (by first | omega | decide) (by first | omega | decide) (by first | omega | decide) (by rw [← j_19, nf_go (tx := tx) (s := g_6) (f := (tx 4).toNat - x_13.toInt.toNat) (f' := (tx 4).toNat - x_49.toInt.toNat) (m := x_13.toInt.toNat) (b := x_16.toInt) (by omega), if_neg (by omega), show x_49.toInt.toNat = x_13.toInt.toNat + 1 by omega]) (by first | omega | decide) hw (lv_sub hl [0, 1, 2, 3, 4] rfl)
                    · refine lv_aload_n hx hb dX10_arrive_87 rfl (lv_at hl 2 rfl) ?_
                      refine ti_get (ci := 10) (k := 5) (N := 67) (T := TX10) (v := .ref (A 60 6)) C hw iw_10 rfl ob_60 (by decide) (by decide) fl_X10_19 rfl rfl dX10_arrive_88 ?_
                      refine lv_iload hx hb dX10_arrive_91 (lv_at hl 0 rfl) ?_
                      refine ti_iald (ci := 10) (k := 5) (n := 16) C hw ob_60 (by decide) (fun _ _ => rfl) (vp_in_iff.mpr (by omega)) dX10_arrive_93 ?_
                      refine lv_topi (fun x_42 ex_42 => ?_)
                      have yx_42 : tY M_1 60 5 x_13.toNatClampNeg = x_42 := (ex_42.symm)
                      have wx_42 : tY M 60 5 x_13.toNatClampNeg = x_42 := ((cg (f_2.1 5 (by decide) (by decide)) x_13.toNatClampNeg)).symm.trans yx_42
                      have L_43 : tx (100 + 16 * x_13.toInt.toNat + 1) = x_42.toInt := (htr.2.2.1 (x_13.toInt.toNat) (by omega) (by omega)).1.trans ((congrArg Int32.toInt (cg ((f_2.1 5 (by decide) (by decide))) (x_13.toInt.toNat))).symm.trans (rd_k (n := x_13.toInt.toNat) (by omega) ((cg (f_2.1 5 (by decide) (by decide)) x_13.toNatClampNeg).trans wx_42)))
                      refine lv_aload_n hx hb dX10_arrive_94 rfl (lv_at hl 2 rfl) ?_
                      refine ti_get (ci := 10) (k := 5) (N := 67) (T := TX10) (v := .ref (A 60 6)) C hw iw_10 rfl ob_60 (by decide) (by decide) fl_X10_19 rfl rfl dX10_arrive_95 ?_
                      refine lv_iload_n hx hb dX10_arrive_98 rfl (lv_at hl 1 rfl) ?_
                      refine ti_iald (ci := 10) (k := 5) (n := 16) C hw ob_60 (by decide) (fun _ _ => rfl) (vp_in_iff.mpr (by omega)) dX10_arrive_99 ?_
                      refine lv_topi (fun x_44 ex_44 => ?_)
                      have yx_44 : tY M_1 60 5 x_16.toNatClampNeg = x_44 := (ex_44.symm)
                      have wx_44 : tY M 60 5 x_16.toNatClampNeg = x_44 := ((cg (f_2.1 5 (by decide) (by decide)) x_16.toNatClampNeg)).symm.trans yx_44
                      have L_45 : tx (100 + 16 * x_16.toInt.toNat + 1) = x_44.toInt := (htr.2.2.1 (x_16.toInt.toNat) (by omega) (by omega)).1.trans ((congrArg Int32.toInt (cg ((f_2.1 5 (by decide) (by decide))) (x_16.toInt.toNat))).symm.trans (rd_k (n := x_16.toInt.toNat) (by omega) ((cg (f_2.1 5 (by decide) (by decide)) x_16.toNatClampNeg).trans wx_44)))
                      refine sb_icmp_le (tgt := 106) hx hb rfl rfl dX10_arrive_100 (by decide) (fun c_100_45 => ?_) (fun c_100_45 => ?_)
                      · obtain ⟨x_50, ex_50⟩ : ∃ z : Int32, z = x_13 + 1 := ⟨_, rfl⟩
                        have tx_50 : x_50.toInt = x_13.toInt + 1 := i_add ex_50 rfl (by decide) (by omega) (by omega)
                        refine lv_iinc (v := x_50) (lv' := [(4, .int x_50), (3, .int x_16), (0, .ref (A 60 0)), (1, .int 1), (2, .int t)]) hx hb dX10_arrive_106 hl (k := 0) rfl (by rw [ex_50]; rfl) (by decide) rfl (fun ls hl => ?_)
                        refine lv_goto (tgt := 5) hx hb dX10_arrive_109 (by decide) ?_
                        exact ih_21 x_50 x_16 _ _ _ (by omega) (by first | omega | decide) (by first | omega | decide) (by first | omega | decide) (by first | omega | decide) (by rw [← j_19, nf_go (tx := tx) (s := g_6) (f := (tx 4).toNat - x_13.toInt.toNat) (f' := (tx 4).toNat - x_50.toInt.toNat) (m := x_13.toInt.toNat) (b := x_16.toInt) (by omega), if_neg (by omega), show x_50.toInt.toNat = x_13.toInt.toNat + 1 by omega]) (by first | omega | decide) hw (lv_sub hl [0, 1, 2, 3, 4] rfl)
                      · refine lv_iload hx hb dX10_arrive_103 (lv_at hl 0 rfl) ?_
                        refine lv_istore_n (lv' := [(3, .int x_13), (4, .int x_13), (0, .ref (A 60 0)), (1, .int 1), (2, .int t)]) hx hb dX10_arrive_105 rfl hl (by decide) rfl (fun ls hl => ?_)
                        obtain ⟨x_53, ex_53⟩ : ∃ z : Int32, z = x_13 + 1 := ⟨_, rfl⟩
                        have tx_53 : x_53.toInt = x_13.toInt + 1 := i_add ex_53 rfl (by decide) (by omega) (by omega)
                        refine lv_iinc (v := x_53) (lv' := [(4, .int x_53), (3, .int x_13), (0, .ref (A 60 0)), (1, .int 1), (2, .int t)]) hx hb dX10_arrive_106 hl (k := 1) rfl (by rw [ex_53]; rfl) (by decide) rfl (fun ls hl => ?_)
                        refine lv_goto (tgt := 5) hx hb dX10_arrive_109 (by decide) ?_
                        exact ih_21 x_53 x_13 _ _ _ (by omega) (by first | omega | decide) (by first | omega | decide) (by first | omega | decide) (by first | omega | decide) (by rw [← j_19, nf_go (tx := tx) (s := g_6) (f := (tx 4).toNat - x_13.toInt.toNat) (f' := (tx 4).toNat - x_53.toInt.toNat) (m := x_13.toInt.toNat) (b := x_16.toInt) (by omega), if_pos (by omega), show x_53.toInt.toNat = x_13.toInt.toNat + 1 by omega]; exact congrArg _ (by omega)) (by first | omega | decide) hw (lv_sub hl [0, 1, 2, 3, 4] rfl)
              · refine lv_goto (tgt := 106) hx hb dX10_arrive_47 (by decide) ?_
                obtain ⟨x_48, ex_48⟩ : ∃ z : Int32, z = x_13 + 1 := ⟨_, rfl⟩
                have tx_48 : x_48.toInt = x_13.toInt + 1 := i_add ex_48 rfl (by decide) (by omega) (by omega)
                refine lv_iinc (v := x_48) (lv' := [(4, .int x_48), (3, .int x_16), (0, .ref (A 60 0)), (1, .int 1), (2, .int t)]) hx hb dX10_arrive_106 hl (k := 0) rfl (by rw [ex_48]; rfl) (by decide) rfl (fun ls hl => ?_)
                refine lv_goto (tgt := 5) hx hb dX10_arrive_109 (by decide) ?_
                exact ih_21 x_48 x_16 _ _ _ (by omega) (by first | omega | decide) (by first | omega | decide) (by first | omega | decide) (by first | omega | decide) (by rw [← j_19, nf_go (tx := tx) (s := g_6) (f := (tx 4).toNat - x_13.toInt.toNat) (f' := (tx 4).toNat - x_48.toInt.toNat) (m := x_13.toInt.toNat) (b := x_16.toInt) (by omega), if_neg (by omega), show x_48.toInt.toNat = x_13.toInt.toNat + 1 by omega]) (by first | omega | decide) hw (lv_sub hl [0, 1, 2, 3, 4] rfl)
      exact hl_5_20 ((8 - 0 : Int).toNat + 1) 0 (-1) _ _ _ (Nat.lt_succ_self _) (by have lt0 : ((-1) : Int32).toInt = (-1) := (by decide); have lt1 : (0 : Int32).toInt = 0 := (by decide); first | omega | decide) (by have lt0 : ((-1) : Int32).toInt = (-1) := (by decide); have lt1 : (0 : Int32).toInt = 0 := (by decide); first | omega | decide) (by have lt0 : ((-1) : Int32).toInt = (-1) := (by decide); have lt1 : (0 : Int32).toInt = 0 := (by decide); first | omega | decide) (by have lt0 : ((-1) : Int32).toInt = (-1) := (by decide); have lt1 : (0 : Int32).toInt = 0 := (by decide); first | omega | decide) (by show bq_nf tx g_6 ((tx 4).toNat - 0) 0 (-1) = _; rfl) (by have lt0 : ((-1) : Int32).toInt = (-1) := (by decide); have lt1 : (0 : Int32).toInt = 0 := (by decide); first | omega | decide) hw (lv_sub hl [0, 1, 2, 3, 4] rfl)
  exact hl_0_11 ((((zc (tY M 60 40) 8 : Nat) : Int) : Int).toNat + 1) M rg _ _ _ (Nat.lt_succ_self _) hI rq.refl hC rfl eR.refl hr ⟨(tx 4).toNat, by have := bc0_8 (s := rg); omega, rfl⟩ hwf hV rfl hw (lv_sub hl [0, 1, 2] rfl)

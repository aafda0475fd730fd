variable {Tc : gC} {Tm : gM}
set_option maxHeartbeats 4000000 in
set_option maxRecDepth 100000 in
theorem s_X8_clear (l : Launch) (D : va_G) (A : Nat → Nat → Nat) (cy : Nat → ClassId) (hJ : ti_inj ti_LT A) (M : ti_M) (hI : cI Tc M) (t : Nat) (ht : t = 3 ∨ t = 4) : ti_Kv l yX8_clear cX8_clear 2 0 ti_LT D A cy M [.ref (A t 0)] (fun M2 => cI Tc M2 ∧ M2.2.2.2 = M.2.2.2 ∧ f0 M2 M ∧ tI M2 2 1 = tI M 2 1) := by
  refine ti_eV yp_X8_clear hJ ti_LT_nd (Nat.le_of_ble_eq_true rfl) ?_
  intro p e s m args below meth c Q H0 C hQ hw ls hl
  have hx := C.1
  have hb := C.2.1
  have hl : lv_has ls 2 [(0, .ref (A t 0))] := hl
  refine lv_aload_n hx hb dX8_clear_0 rfl (lv_at hl 0 rfl) ?_
  refine lv_iconst (v := 0) hx hb dX8_clear_1 (by decide) ?_
  refine ti_putI (ci := 8) (k := 3) (N := 12) (T := TX8) C hw iw_8 tyX8 tyX8_ok nmX8 rfl (ob_t ht) (by decide) (by decide) fl_X8_32 rfl rfl rfl rfl (fn_8 A _) fs_8_3 dX8_clear_2 (fun H locs hw => ?_)
  obtain ⟨M_1, hM_1⟩ : ∃ z : ti_M, z = uI M t 3 0 := ⟨_, rfl⟩
  have hw := hw.to hM_1.symm
  have iM_1 : cI Tc M_1 := cI_uI hI hM_1 (ob_t ht).1 trivial
  refine lv_aload_n hx hb dX8_clear_5 rfl (lv_at hl 0 rfl) ?_
  refine lv_iconst (v := 0) hx hb dX8_clear_6 (by decide) ?_
  refine ti_putI (ci := 8) (k := 4) (N := 12) (T := TX8) C hw iw_8 tyX8 tyX8_ok nmX8 rfl (ob_t ht) (by decide) (by decide) fl_X8_36 rfl rfl rfl rfl (fn_8 A _) fs_8_4 dX8_clear_7 (fun H locs hw => ?_)
  obtain ⟨M_2, hM_2⟩ : ∃ z : ti_M, z = uI M_1 t 4 0 := ⟨_, rfl⟩
  have hw := hw.to hM_2.symm
  have iM_2 : cI Tc M_2 := cI_uI iM_1 hM_2 (ob_t ht).1 (ib_mk (lo := 0) (hi := 8) (by decide) (by decide))
  have vM_2 : (tI M_2 t 4).toInt = 0 := by rw [tI_uE hM_2]; decide
  refine lv_aload_n hx hb dX8_clear_10 rfl (lv_at hl 0 rfl) ?_
  refine lv_iconst (v := 0) hx hb dX8_clear_11 (by decide) ?_
  refine ti_putI (ci := 8) (k := 5) (N := 12) (T := TX8) C hw iw_8 tyX8 tyX8_ok nmX8 rfl (ob_t ht) (by decide) (by decide) fl_X8_39 rfl rfl rfl rfl (fn_8 A _) fs_8_5 dX8_clear_12 (fun H locs hw => ?_)
  obtain ⟨M_3, hM_3⟩ : ∃ z : ti_M, z = uI M_2 t 5 0 := ⟨_, rfl⟩
  have hw := hw.to hM_3.symm
  have iM_3 : cI Tc M_3 := cI_uI iM_2 hM_3 (ob_t ht).1 trivial
  refine lv_aload_n hx hb dX8_clear_15 rfl (lv_at hl 0 rfl) ?_
  refine lv_sipush (v := 200) hx hb dX8_clear_16 (by decide) ?_
  refine ti_putI (ci := 8) (k := 6) (N := 12) (T := TX8) C hw iw_8 tyX8 tyX8_ok nmX8 rfl (ob_t ht) (by decide) (by decide) fl_X8_42 rfl rfl rfl rfl (fn_8 A _) fs_8_6 dX8_clear_19 (fun H locs hw => ?_)
  obtain ⟨M_4, hM_4⟩ : ∃ z : ti_M, z = uI M_3 t 6 200 := ⟨_, rfl⟩
  have hw := hw.to hM_4.symm
  have iM_4 : cI Tc M_4 := cI_uI iM_3 hM_4 (ob_t ht).1 trivial
  refine lv_aload_n hx hb dX8_clear_22 rfl (lv_at hl 0 rfl) ?_
  refine lv_iconst (v := 2) hx hb dX8_clear_23 (by decide) ?_
  refine ti_putI (ci := 8) (k := 7) (N := 12) (T := TX8) C hw iw_8 tyX8 tyX8_ok nmX8 rfl (ob_t ht) (by decide) (by decide) fl_X8_45 rfl rfl rfl rfl (fn_8 A _) fs_8_7 dX8_clear_24 (fun H locs hw => ?_)
  obtain ⟨M_5, hM_5⟩ : ∃ z : ti_M, z = uI M_4 t 7 2 := ⟨_, rfl⟩
  have hw := hw.to hM_5.symm
  have iM_5 : cI Tc M_5 := cI_uI iM_4 hM_5 (ob_t ht).1 trivial
  refine lv_aload_n hx hb dX8_clear_27 rfl (lv_at hl 0 rfl) ?_
  refine lv_bipush (v := 10) hx hb dX8_clear_28 (by decide) ?_
  refine ti_putI (ci := 8) (k := 8) (N := 12) (T := TX8) C hw iw_8 tyX8 tyX8_ok nmX8 rfl (ob_t ht) (by decide) (by decide) fl_X8_48 rfl rfl rfl rfl (fn_8 A _) fs_8_8 dX8_clear_30 (fun H locs hw => ?_)
  obtain ⟨M_6, hM_6⟩ : ∃ z : ti_M, z = uI M_5 t 8 10 := ⟨_, rfl⟩
  have hw := hw.to hM_6.symm
  have iM_6 : cI Tc M_6 := cI_uI iM_5 hM_6 (ob_t ht).1 trivial
  refine lv_aload_n hx hb dX8_clear_33 rfl (lv_at hl 0 rfl) ?_
  refine lv_iconst (v := 3) hx hb dX8_clear_34 (by decide) ?_
  refine ti_putI (ci := 8) (k := 9) (N := 12) (T := TX8) C hw iw_8 tyX8 tyX8_ok nmX8 rfl (ob_t ht) (by decide) (by decide) fl_X8_51 rfl rfl rfl rfl (fn_8 A _) fs_8_9 dX8_clear_35 (fun H locs hw => ?_)
  obtain ⟨M_7, hM_7⟩ : ∃ z : ti_M, z = uI M_6 t 9 3 := ⟨_, rfl⟩
  have hw := hw.to hM_7.symm
  have iM_7 : cI Tc M_7 := cI_uI iM_6 hM_7 (ob_t ht).1 trivial
  refine lv_aload_n hx hb dX8_clear_38 rfl (lv_at hl 0 rfl) ?_
  refine lv_iconst (v := 0) hx hb dX8_clear_39 (by decide) ?_
  refine ti_putI (ci := 8) (k := 10) (N := 12) (T := TX8) C hw iw_8 tyX8 tyX8_ok nmX8 rfl (ob_t ht) (by decide) (by decide) fl_X8_54 rfl rfl rfl rfl (fn_8 A _) fs_8_10 dX8_clear_40 (fun H locs hw => ?_)
  obtain ⟨M_8, hM_8⟩ : ∃ z : ti_M, z = uI M_7 t 10 0 := ⟨_, rfl⟩
  have hw := hw.to hM_8.symm
  have iM_8 : cI Tc M_8 := cI_uI iM_7 hM_8 (ob_t ht).1 trivial
  refine lv_aload_n hx hb dX8_clear_43 rfl (lv_at hl 0 rfl) ?_
  refine lv_iconst (v := 0) hx hb dX8_clear_44 (by decide) ?_
  refine ti_putI (ci := 8) (k := 11) (N := 12) (T := TX8) C hw iw_8 tyX8 tyX8_ok nmX8 rfl (ob_t ht) (by decide) (by decide) fl_X8_57 rfl rfl rfl rfl (fn_8 A _) fs_8_11 dX8_clear_45 (fun H locs hw => ?_)
  obtain ⟨M_9, hM_9⟩ : ∃ z : ti_M, z = uI M_8 t 11 0 := ⟨_, rfl⟩
  have hw := hw.to hM_9.symm
  have iM_9 : cI Tc M_9 := cI_uI iM_8 hM_9 (ob_t ht).1 trivial
  refine lv_iconst (v := 0) hx hb dX8_clear_48 (by decide) ?_
  refine lv_istore_n (lv' := [(1, .int 0), (0, .ref (A t 0))]) hx hb dX8_clear_49 rfl hl (by decide) rfl (fun ls hl => ?_)
  have hl_50_16 : ∀ (n_17 : Nat) (x_10 : Int32) (M_13 : ti_M) (H : Heap) (locs : List Loc) (ls : Array Slot), (3 - x_10.toInt : Int).toNat < n_17 → (0 ≤ x_10.toInt) → (x_10.toInt ≤ 3) → (cI Tc M_13) → (M_13.2.2.2 = M.2.2.2) → (f0 M_13 M) → (tI M_13 2 1 = tI M 2 1) → ti_H ti_LT D A cy H0 M_13 H locs → lv_has ls 2 [(1, .int x_10), (0, .ref (A t 0))] → W p l e (ti_rm 0) s m args below meth c H locs 0 0 Q (F0 m 50 ls []) := by
    intro n_17
    induction n_17 with
    | zero => intro x_10 M_13 H locs ls hf_17; exact absurd hf_17 (Nat.not_lt_zero _)
    | succ n_17 ih_17 =>
      intro x_10 M_13 H locs ls hf_17 b_11 b_12 iM_13 f_14 f_15 f_16 hw hl
      refine lv_iload_n hx hb dX8_clear_50 rfl (lv_at hl 0 rfl) ?_
      refine lv_iconst (v := 3) hx hb dX8_clear_51 (by decide) ?_
      refine sb_icmp_ge (tgt := 68) hx hb rfl (by decide : (3 : Int32).toInt = 3) dX8_clear_52 (by decide) (fun c_52_17 => ?_) (fun c_52_17 => ?_)
      · refine lv_iconst (v := 0) hx hb dX8_clear_68 (by decide) ?_
        refine lv_istore_n (lv' := [(1, .int 0), (0, .ref (A t 0))]) hx hb dX8_clear_69 rfl hl (by decide) rfl (fun ls hl => ?_)
        have hl_70_27 : ∀ (n_28 : Nat) (x_21 : Int32) (M_24 : ti_M) (H : Heap) (locs : List Loc) (ls : Array Slot), (3 - x_21.toInt : Int).toNat < n_28 → (0 ≤ x_21.toInt) → (x_21.toInt ≤ 3) → (cI Tc M_24) → (M_24.2.2.2 = M.2.2.2) → (f0 M_24 M) → (tI M_24 2 1 = tI M 2 1) → ti_H ti_LT D A cy H0 M_24 H locs → lv_has ls 2 [(1, .int x_21), (0, .ref (A t 0))] → W p l e (ti_rm 0) s m args below meth c H locs 0 0 Q (F0 m 70 ls []) := by
          intro n_28
          induction n_28 with
          | zero => intro x_21 M_24 H locs ls hf_28; exact absurd hf_28 (Nat.not_lt_zero _)
          | succ n_28 ih_28 =>
            intro x_21 M_24 H locs ls hf_28 b_22 b_23 iM_24 f_25 f_26 f_27 hw hl
            refine lv_iload_n hx hb dX8_clear_70 rfl (lv_at hl 0 rfl) ?_
            refine lv_iconst (v := 3) hx hb dX8_clear_71 (by decide) ?_
            refine sb_icmp_ge (tgt := 91) hx hb rfl (by decide : (3 : Int32).toInt = 3) dX8_clear_72 (by decide) (fun c_72_28 => ?_) (fun c_72_28 => ?_)
            · exact hQ _ _ _ _ _ hw (⟨iM_24, (f_25), f_26, (f_27)⟩) dX8_clear_91
            · refine lv_aload_n hx hb dX8_clear_75 rfl (lv_at hl 1 rfl) ?_
              refine ti_get (ci := 8) (k := 2) (N := 12) (T := TX8) (v := .ref (A t 3)) C hw iw_8 rfl (ob_t ht) (by decide) (by decide) fl_X8_23 rfl rfl dX8_clear_76 ?_
              refine lv_iload_n hx hb dX8_clear_79 rfl (lv_at hl 0 rfl) ?_
              refine ti_aald (ci := 8) (k := 2) (n := 3) (t0 := 4) (Cn := RX1) (gg := (ti_laws t)) (j := x_21.toNatClampNeg) C hw (ob_t ht) (by decide) (fun _ _ => rfl) rfl (vp_in_iff.mpr (by omega)) rfl dX8_clear_80 ?_
              have ob_30 : ti_ob ti_LT (ti_laws t x_21.toNatClampNeg) 1 := ob_l ht (i_nt rfl (by omega) (by omega))
              refine lv_iconst (v := 0) hx hb dX8_clear_81 (by decide) ?_
              refine ti_putI (ci := 1) (k := 3) (N := 4) (T := TX1) C hw iw_1 tyX1 tyX1_ok nmX1 rfl ob_30 (by decide) (by decide) fl_X8_60 rfl rfl rfl rfl (fn_1 A _) fs_1_3 dX8_clear_82 (fun H locs hw => ?_)
              obtain ⟨M_31, hM_31⟩ : ∃ z : ti_M, z = uI M_24 (ti_laws t x_21.toNatClampNeg) 3 0 := ⟨_, rfl⟩
              have hw := hw.to hM_31.symm
              have iM_31 : cI Tc M_31 := cI_uI iM_24 hM_31 ob_30.1 (ib_mk (lo := 0) (hi := 64) (by decide) (by decide))
              have vM_31 : (tI M_31 (ti_laws t x_21.toNatClampNeg) 3).toInt = 0 := by rw [tI_uE hM_31]; decide
              obtain ⟨x_32, ex_32⟩ : ∃ z : Int32, z = x_21 + 1 := ⟨_, rfl⟩
              have tx_32 : x_32.toInt = x_21.toInt + 1 := i_add ex_32 rfl (by decide) (by omega) (by omega)
              refine lv_iinc (v := x_32) (lv' := [(1, .int x_32), (0, .ref (A t 0))]) hx hb dX8_clear_85 hl (k := 0) rfl (by rw [ex_32]; rfl) (by decide) rfl (fun ls hl => ?_)
              refine lv_goto (tgt := 70) hx hb dX8_clear_88 (by decide) ?_
              exact ih_28 x_32 M_31 _ _ _ (by omega) (by first | omega | decide) (by first | omega | decide) iM_31 ((rf_I hM_31).trans f_25) (f0.trans (f0_I hM_31 (f0n ob_30.1 (by decide))) f_26) ((tI_nE hM_31 (nk (by decide))).trans f_27) hw (lv_sub hl [0, 1] rfl)
        exact hl_70_27 ((3 - 0 : Int).toNat + 1) 0 M_13 _ _ _ (Nat.lt_succ_self _) (by have lt0 : (0 : Int32).toInt = 0 := (by decide); first | omega | decide) (by have lt0 : (0 : Int32).toInt = 0 := (by decide); first | omega | decide) iM_13 (f_14) f_15 (f_16) hw (lv_sub hl [0, 1] rfl)
      · refine lv_aload_n hx hb dX8_clear_55 rfl (lv_at hl 1 rfl) ?_
        refine ti_get (ci := 8) (k := 1) (N := 12) (T := TX8) (v := .ref (A t 2)) C hw iw_8 rfl (ob_t ht) (by decide) (by decide) fl_X8_17 rfl rfl dX8_clear_56 ?_
        refine lv_iload_n hx hb dX8_clear_59 rfl (lv_at hl 0 rfl) ?_
        refine lv_iload_n hx hb dX8_clear_60 rfl (lv_at hl 0 rfl) ?_
        refine ti_iast (ci := 8) (k := 1) (n := 3) C hw (ob_t ht) (by decide) (fun _ _ => rfl) (vp_in_iff.mpr (by omega)) dX8_clear_61 (fun H locs hw => ?_)
        obtain ⟨M_19, hM_19⟩ : ∃ z : ti_M, z = uY M_13 t 1 (upd (tY M_13 t 1) (x_10 : Int32).toNatClampNeg x_10) := ⟨_, rfl⟩
        have hw := hw.to hM_19.symm
        have iM_19 : cI Tc M_19 := cI_up iM_13 hM_19 (ob_t ht).1 trivial
        obtain ⟨x_20, ex_20⟩ : ∃ z : Int32, z = x_10 + 1 := ⟨_, rfl⟩
        have tx_20 : x_20.toInt = x_10.toInt + 1 := i_add ex_20 rfl (by decide) (by omega) (by omega)
        refine lv_iinc (v := x_20) (lv' := [(1, .int x_20), (0, .ref (A t 0))]) hx hb dX8_clear_62 hl (k := 0) rfl (by rw [ex_20]; rfl) (by decide) rfl (fun ls hl => ?_)
        refine lv_goto (tgt := 50) hx hb dX8_clear_65 (by decide) ?_
        exact ih_17 x_20 M_19 _ _ _ (by omega) (by first | omega | decide) (by first | omega | decide) iM_19 ((rf_Y hM_19).trans f_14) (f0.trans (f0_of (ra_Y hM_19)) f_15) ((tI_uYE hM_19).trans f_16) hw (lv_sub hl [0, 1] rfl)
  exact hl_50_16 ((3 - 0 : Int).toNat + 1) 0 M_9 _ _ _ (Nat.lt_succ_self _) (by have lt0 : (0 : Int32).toInt = 0 := (by decide); first | omega | decide) (by have lt0 : (0 : Int32).toInt = 0 := (by decide); first | omega | decide) iM_9 ((rf_I hM_9).trans ((rf_I hM_8).trans ((rf_I hM_7).trans ((rf_I hM_6).trans ((rf_I hM_5).trans ((rf_I hM_4).trans ((rf_I hM_3).trans ((rf_I hM_2).trans (rf_I hM_1))))))))) (f0.trans (f0_I hM_9 (f0n (ob_t ht).1 (by decide))) (f0.trans (f0_I hM_8 (f0n (ob_t ht).1 (by decide))) (f0.trans (f0_I hM_7 (f0n (ob_t ht).1 (by decide))) (f0.trans (f0_I hM_6 (f0n (ob_t ht).1 (by decide))) (f0.trans (f0_I hM_5 (f0n (ob_t ht).1 (by decide))) (f0.trans (f0_I hM_4 (f0n (ob_t ht).1 (by decide))) (f0.trans (f0_I hM_3 (f0n (ob_t ht).1 (by decide))) (f0.trans (f0_I hM_2 (f0n (ob_t ht).1 (by decide))) (f0_I hM_1 (f0n (ob_t ht).1 (by decide))))))))))) ((tI_nE hM_9 (nk (by decide))).trans ((tI_nE hM_8 (nk (by decide))).trans ((tI_nE hM_7 (nk (by decide))).trans ((tI_nE hM_6 (nk (by decide))).trans ((tI_nE hM_5 (nk (by decide))).trans ((tI_nE hM_4 (nk (by decide))).trans ((tI_nE hM_3 (nk (by decide))).trans ((tI_nE hM_2 (nk (by decide))).trans (tI_nE hM_1 (nk (by decide))))))))))) hw (lv_sub hl [0, 1] rfl)
set_option maxHeartbeats 4000000 in
set_option maxRecDepth 100000 in
theorem s_X8_find (l : Launch) (D : va_G) (A : Nat → Nat → Nat) (cy : Nat → ClassId) (hJ : ti_inj ti_LT A) (M : ti_M) (hI : cI Tc M) (t : Nat) (ht : t = 3 ∨ t = 4) (nm : Int32) : ti_Ki l yX8_find cX8_find 3 (some .int) 0 ti_LT D A cy M [.ref (A t 0), .int nm] (fun r M2 => M2 = M ∧ (-1) ≤ r.toInt ∧ r.toInt ≤ 7) := by
  refine ti_eI yp_X8_find hJ ti_LT_nd (Nat.le_of_ble_eq_true rfl) ?_
  intro p e s m args below meth c Q H0 C hQ hw ls hl
  have hx := C.1
  have hb := C.2.1
  have hl : lv_has ls 3 [(0, .ref (A t 0)), (1, .int nm)] := hl
  refine lv_iconst (v := 0) hx hb dX8_find_0 (by decide) ?_
  refine lv_istore_n (lv' := [(2, .int 0), (0, .ref (A t 0)), (1, .int nm)]) hx hb dX8_find_1 rfl hl (by decide) rfl (fun ls hl => ?_)
  have hl_2_3 : ∀ (n_4 : Nat) (x_1 : Int32) (H : Heap) (locs : List Loc) (ls : Array Slot), (8 - x_1.toInt : Int).toNat < n_4 → (0 ≤ x_1.toInt) → (x_1.toInt ≤ 8) → ti_H ti_LT D A cy H0 M H locs → lv_has ls 3 [(2, .int x_1), (0, .ref (A t 0)), (1, .int nm)] → W p l e (ti_rm 0) s m args below meth c H locs 0 0 Q (F0 m 2 ls []) := by
    intro n_4
    induction n_4 with
    | zero => intro x_1 H locs ls hf_4; exact absurd hf_4 (Nat.not_lt_zero _)
    | succ n_4 ih_4 =>
      intro x_1 H locs ls hf_4 b_2 b_3 hw hl
      refine lv_iload_n hx hb dX8_find_2 rfl (lv_at hl 0 rfl) ?_
      refine lv_aload_n hx hb dX8_find_3 rfl (lv_at hl 1 rfl) ?_
      refine ti_get (ci := 8) (k := 4) (N := 12) (T := TX8) C hw iw_8 rfl (ob_t ht) (by decide) (by decide) fl_X8_36 rfl rfl dX8_find_4 ?_
      refine lv_topi (fun x_5 ex_5 => ?_)
      have bx_5 : 0 ≤ x_5.toInt ∧ x_5.toInt ≤ 8 := cI_rd hI (ob_t ht).1 ex_5
      have ux_5 : (tI M t 4).toInt = x_5.toInt := by rw [ex_5]
      refine sb_icmp_ge (tgt := 31) hx hb rfl rfl dX8_find_7 (by decide) (fun c_7_5 => ?_) (fun c_7_5 => ?_)
      · refine lv_iconst (v := (-1)) hx hb dX8_find_31 (by decide) ?_
        exact hQ _ _ _ _ _ _ hw rfl (⟨rfl, by first | omega | decide, by first | omega | decide⟩) dX8_find_32
      · refine lv_aload_n hx hb dX8_find_10 rfl (lv_at hl 1 rfl) ?_
        refine ti_get (ci := 8) (k := 0) (N := 12) (T := TX8) (v := .ref (A t 1)) C hw iw_8 rfl (ob_t ht) (by decide) (by decide) fl_X8_11 rfl rfl dX8_find_11 ?_
        refine lv_iload_n hx hb dX8_find_14 rfl (lv_at hl 0 rfl) ?_
        refine ti_aald (ci := 8) (k := 0) (n := 8) (t0 := 5) (Cn := RX2) (gg := (ti_men t)) (j := x_1.toNatClampNeg) C hw (ob_t ht) (by decide) (fun _ _ => rfl) rfl (vp_in_iff.mpr (by omega)) rfl dX8_find_15 ?_
        have ob_7 : ti_ob ti_LT (ti_men t x_1.toNatClampNeg) 2 := ob_m ht (i_nt rfl (by omega) (by omega))
        refine ti_get (ci := 2) (k := 0) (N := 10) (T := TX2) C hw iw_2 rfl ob_7 (by decide) (by decide) fl_X8_63 rfl rfl dX8_find_16 ?_
        refine lv_topi (fun x_8 ex_8 => ?_)
        refine lv_iload_n hx hb dX8_find_19 rfl (lv_at hl 2 rfl) ?_
        refine sb_icmp_ne (tgt := 25) hx hb rfl rfl dX8_find_20 (by decide) (fun c_20_8 => ?_) (fun c_20_8 => ?_)
        · obtain ⟨x_10, ex_10⟩ : ∃ z : Int32, z = x_1 + 1 := ⟨_, rfl⟩
          have tx_10 : x_10.toInt = x_1.toInt + 1 := i_add ex_10 rfl (by decide) (by omega) (by omega)
          refine lv_iinc (v := x_10) (lv' := [(2, .int x_10), (0, .ref (A t 0)), (1, .int nm)]) hx hb dX8_find_25 hl (k := 0) rfl (by rw [ex_10]; rfl) (by decide) rfl (fun ls hl => ?_)
          refine lv_goto (tgt := 2) hx hb dX8_find_28 (by decide) ?_
          exact ih_4 x_10 _ _ _ (by omega) (by first | omega | decide) (by first | omega | decide) hw (lv_sub hl [0, 1, 2] rfl)
        · refine lv_iload_n hx hb dX8_find_23 rfl (lv_at hl 0 rfl) ?_
          exact hQ _ _ _ _ _ _ hw rfl (⟨rfl, by first | omega | decide, by first | omega | decide⟩) dX8_find_24
  exact hl_2_3 ((8 - 0 : Int).toNat + 1) 0 _ _ _ (Nat.lt_succ_self _) (by have lt0 : (0 : Int32).toInt = 0 := (by decide); first | omega | decide) (by have lt0 : (0 : Int32).toInt = 0 := (by decide); first | omega | decide) hw (lv_sub hl [0, 1, 2] rfl)
set_option maxHeartbeats 4000000 in
set_option maxRecDepth 100000 in
theorem s_J6_bitCount_0f7a4 (l : Launch) (D : va_G) (A : Nat → Nat → Nat) (cy : Nat → ClassId) (hJ : ti_inj ti_LT A) (M : ti_M) (hI : cI Tc M) (z : Int32) : ti_Ki l yJ6_bitCount_0f7a4 cJ6_bitCount_0f7a4 1 (some .int) 0 ti_LT D A cy M [.int z] (fun r M2 => M2 = M) := by
  refine ti_eI yp_J6_bitCount_0f7a4 hJ ti_LT_nd (Nat.le_of_ble_eq_true rfl) ?_
  intro p e s m args below meth c Q H0 C hQ hw ls hl
  have hx := C.1
  have hb := C.2.1
  have hl : lv_has ls 1 [(0, .int z)] := hl
  refine lv_iload_n hx hb dJ6_bitCount_0f7a4_0 rfl (lv_at hl 0 rfl) ?_
  refine lv_iload_n hx hb dJ6_bitCount_0f7a4_1 rfl (lv_at hl 0 rfl) ?_
  refine lv_iconst (v := 1) hx hb dJ6_bitCount_0f7a4_2 (by decide) ?_
  refine lv_iushr hx hb dJ6_bitCount_0f7a4_3 rfl ?_
  refine lv_topi (fun x_1 ex_1 => ?_)
  refine lv_ldcw (v := 1431655765) hx hb C.2.2.2.1 (C.2.2.1 _ cn_J6_265) dJ6_bitCount_0f7a4_4 ?_
  refine lv_iand hx hb dJ6_bitCount_0f7a4_7 ?_
  refine lv_topi (fun x_2 ex_2 => ?_)
  refine lv_isub hx hb dJ6_bitCount_0f7a4_8 ?_
  refine lv_topi (fun x_3 ex_3 => ?_)
  refine lv_istore_n (lv' := [(0, .int x_3)]) hx hb dJ6_bitCount_0f7a4_9 rfl hl (by decide) rfl (fun ls hl => ?_)
  refine lv_iload_n hx hb dJ6_bitCount_0f7a4_10 rfl (lv_at hl 0 rfl) ?_
  refine lv_ldcw (v := 858993459) hx hb C.2.2.2.1 (C.2.2.1 _ cn_J6_266) dJ6_bitCount_0f7a4_11 ?_
  refine lv_iand hx hb dJ6_bitCount_0f7a4_14 ?_
  refine lv_topi (fun x_4 ex_4 => ?_)
  refine lv_iload_n hx hb dJ6_bitCount_0f7a4_15 rfl (lv_at hl 0 rfl) ?_
  refine lv_iconst (v := 2) hx hb dJ6_bitCount_0f7a4_16 (by decide) ?_
  refine lv_iushr hx hb dJ6_bitCount_0f7a4_17 rfl ?_
  refine lv_topi (fun x_5 ex_5 => ?_)
  refine lv_ldcw (v := 858993459) hx hb C.2.2.2.1 (C.2.2.1 _ cn_J6_266) dJ6_bitCount_0f7a4_18 ?_
  refine lv_iand hx hb dJ6_bitCount_0f7a4_21 ?_
  refine lv_topi (fun x_6 ex_6 => ?_)
  refine lv_iadd hx hb dJ6_bitCount_0f7a4_22 ?_
  refine lv_topi (fun x_7 ex_7 => ?_)
  refine lv_istore_n (lv' := [(0, .int x_7)]) hx hb dJ6_bitCount_0f7a4_23 rfl hl (by decide) rfl (fun ls hl => ?_)
  refine lv_iload_n hx hb dJ6_bitCount_0f7a4_24 rfl (lv_at hl 0 rfl) ?_
  refine lv_iload_n hx hb dJ6_bitCount_0f7a4_25 rfl (lv_at hl 0 rfl) ?_
  refine lv_iconst (v := 4) hx hb dJ6_bitCount_0f7a4_26 (by decide) ?_
  refine lv_iushr hx hb dJ6_bitCount_0f7a4_27 rfl ?_
  refine lv_topi (fun x_8 ex_8 => ?_)
  refine lv_iadd hx hb dJ6_bitCount_0f7a4_28 ?_
  refine lv_topi (fun x_9 ex_9 => ?_)
  refine lv_ldcw (v := 252645135) hx hb C.2.2.2.1 (C.2.2.1 _ cn_J6_267) dJ6_bitCount_0f7a4_29 ?_
  refine lv_iand hx hb dJ6_bitCount_0f7a4_32 ?_
  refine lv_topi (fun x_10 ex_10 => ?_)
  refine lv_istore_n (lv' := [(0, .int x_10)]) hx hb dJ6_bitCount_0f7a4_33 rfl hl (by decide) rfl (fun ls hl => ?_)
  refine lv_iload_n hx hb dJ6_bitCount_0f7a4_34 rfl (lv_at hl 0 rfl) ?_
  refine lv_iload_n hx hb dJ6_bitCount_0f7a4_35 rfl (lv_at hl 0 rfl) ?_
  refine lv_bipush (v := 8) hx hb dJ6_bitCount_0f7a4_36 (by decide) ?_
  refine lv_iushr hx hb dJ6_bitCount_0f7a4_38 rfl ?_
  refine lv_topi (fun x_11 ex_11 => ?_)
  refine lv_iadd hx hb dJ6_bitCount_0f7a4_39 ?_
  refine lv_topi (fun x_12 ex_12 => ?_)
  refine lv_istore_n (lv' := [(0, .int x_12)]) hx hb dJ6_bitCount_0f7a4_40 rfl hl (by decide) rfl (fun ls hl => ?_)
  refine lv_iload_n hx hb dJ6_bitCount_0f7a4_41 rfl (lv_at hl 0 rfl) ?_
  refine lv_iload_n hx hb dJ6_bitCount_0f7a4_42 rfl (lv_at hl 0 rfl) ?_
  refine lv_bipush (v := 16) hx hb dJ6_bitCount_0f7a4_43 (by decide) ?_
  refine lv_iushr hx hb dJ6_bitCount_0f7a4_45 rfl ?_
  refine lv_topi (fun x_13 ex_13 => ?_)
  refine lv_iadd hx hb dJ6_bitCount_0f7a4_46 ?_
  refine lv_topi (fun x_14 ex_14 => ?_)
  refine lv_istore_n (lv' := [(0, .int x_14)]) hx hb dJ6_bitCount_0f7a4_47 rfl hl (by decide) rfl (fun ls hl => ?_)
  refine lv_iload_n hx hb dJ6_bitCount_0f7a4_48 rfl (lv_at hl 0 rfl) ?_
  refine lv_bipush (v := 63) hx hb dJ6_bitCount_0f7a4_49 (by decide) ?_
  refine lv_iand hx hb dJ6_bitCount_0f7a4_51 ?_
  refine lv_topi (fun x_15 ex_15 => ?_)
  have bx_15 := i_and 6 ex_15 (by decide) (by decide)
  exact hQ _ _ _ _ _ _ hw rfl rfl dJ6_bitCount_0f7a4_52
set_option maxHeartbeats 4000000 in
set_option maxRecDepth 100000 in
theorem s_X6_clear (l : Launch) (D : va_G) (A : Nat → Nat → Nat) (cy : Nat → ClassId) (hJ : ti_inj ti_LT A) (M : ti_M) (hI : cI Tc M)  : ti_Kv l yX6_clear cX6_clear 1 0 ti_LT D A cy M [.ref (A 50 0)] (fun M2 => cI (cG M2) M2 ∧ M2.2.2.2 = M.2.2.2 ∧ fX M2 M ∧ tI M2 50 5 = 0 ∧ tI M2 50 6 = -1) := by
  refine ti_eV yp_X6_clear hJ ti_LT_nd (Nat.le_of_ble_eq_true rfl) ?_
  intro p e s m args below meth c Q H0 C hQ hw ls hl
  have hx := C.1
  have hb := C.2.1
  have hl : lv_has ls 1 [(0, .ref (A 50 0))] := hl
  refine lv_aload_n hx hb dX6_clear_0 rfl (lv_at hl 0 rfl) ?_
  refine lv_iconst (v := 0) hx hb dX6_clear_1 (by decide) ?_
  refine ti_putI (ci := 6) (k := 5) (N := 13) (T := TX6) C hw iw_6 tyX6 tyX6_ok nmX6 rfl ob_50 (by decide) (by decide) fl_X6_28 rfl rfl rfl rfl (fn_6 A _) fs_6_5 dX6_clear_2 (fun H locs hw => ?_)
  obtain ⟨M_1, hM_1⟩ : ∃ z : ti_M, z = uI M 50 5 0 := ⟨_, rfl⟩
  have hw := hw.to hM_1.symm
  have iM_1 : cI (cG M_1) M_1 := cI_gI hI hM_1 ob_50.1 (ib_mk (lo := 0) (hi := 24) (by decide) (by decide))
  have vM_1 : (tI M_1 50 5).toInt = 0 := by rw [tI_uE hM_1]; decide
  refine lv_aload_n hx hb dX6_clear_5 rfl (lv_at hl 0 rfl) ?_
  refine lv_iconst (v := (-1)) hx hb dX6_clear_6 (by decide) ?_
  refine ti_putI (ci := 6) (k := 6) (N := 13) (T := TX6) C hw iw_6 tyX6 tyX6_ok nmX6 rfl ob_50 (by decide) (by decide) fl_X6_31 rfl rfl rfl rfl (fn_6 A _) fs_6_6 dX6_clear_7 (fun H locs hw => ?_)
  obtain ⟨M_2, hM_2⟩ : ∃ z : ti_M, z = uI M_1 50 6 (-1) := ⟨_, rfl⟩
  have hw := hw.to hM_2.symm
  have iM_2 : cI (cG M_2) M_2 := cI_gI iM_1 hM_2 ob_50.1 (ib_mk (lo := (-1)) (hi := 24) (by decide) (by decide))
  have vM_2 : (tI M_2 50 6).toInt = (-1) := by rw [tI_uE hM_2]; decide
  refine lv_aload_n hx hb dX6_clear_10 rfl (lv_at hl 0 rfl) ?_
  refine lv_iconst (v := 0) hx hb dX6_clear_11 (by decide) ?_
  refine ti_putI (ci := 6) (k := 7) (N := 13) (T := TX6) C hw iw_6 tyX6 tyX6_ok nmX6 rfl ob_50 (by decide) (by decide) fl_X6_34 rfl rfl rfl rfl (fn_6 A _) fs_6_7 dX6_clear_12 (fun H locs hw => ?_)
  obtain ⟨M_3, hM_3⟩ : ∃ z : ti_M, z = uI M_2 50 7 0 := ⟨_, rfl⟩
  have hw := hw.to hM_3.symm
  have iM_3 : cI (cG M_2) M_3 := cI_uI iM_2 hM_3 ob_50.1 trivial
  exact hQ _ _ _ _ _ hw (⟨cI_self iM_3, ((rf_I hM_3).trans ((rf_I hM_2).trans (rf_I hM_1))), (fX.trans (fx_I hM_3 (by decide)) (fX.trans (fx_I hM_2 (by decide)) (fx_I hM_1 (by decide)))), (tI_nE hM_3 (nk (by decide))).trans ((tI_nE hM_2 (nk (by decide))).trans (tI_uE hM_1)), (tI_nE hM_3 (nk (by decide))).trans (tI_uE hM_2)⟩) dX6_clear_15
set_option maxHeartbeats 4000000 in
set_option maxRecDepth 100000 in
theorem s_X6_knownBy (l : Launch) (D : va_G) (A : Nat → Nat → Nat) (cy : Nat → ClassId) (hJ : ti_inj ti_LT A) (M : ti_M) (hI : cI Tc M)  : ti_Ki l yX6_knownBy cX6_knownBy 1 (some .int) 0 ti_LT D A cy M [.ref (A 50 0)] (fun r M2 => M2 = M ∧ 0 ≤ r.toInt ∧ r.toInt ≤ 24) := by
  refine ti_eI yp_X6_knownBy hJ ti_LT_nd (Nat.le_of_ble_eq_true rfl) ?_
  intro p e s m args below meth c Q H0 C hQ hw ls hl
  have hx := C.1
  have hb := C.2.1
  have hl : lv_has ls 1 [(0, .ref (A 50 0))] := hl
  refine lv_aload_n hx hb dX6_knownBy_0 rfl (lv_at hl 0 rfl) ?_
  refine ti_get (ci := 6) (k := 6) (N := 13) (T := TX6) C hw iw_6 rfl ob_50 (by decide) (by decide) fl_X6_31 rfl rfl dX6_knownBy_1 ?_
  refine lv_topi (fun x_1 ex_1 => ?_)
  have bx_1 : (-1) ≤ x_1.toInt ∧ x_1.toInt ≤ 24 := cI_rd hI ob_50.1 ex_1
  have ux_1 : (tI M 50 6).toInt = x_1.toInt := by rw [ex_1]
  refine lv_iconst (v := (-1)) hx hb dX6_knownBy_4 (by decide) ?_
  refine sb_icmp_ne (tgt := 15) hx hb rfl (by decide : ((-1) : Int32).toInt = (-1)) dX6_knownBy_5 (by decide) (fun c_5_1 => ?_) (fun c_5_1 => ?_)
  · refine lv_aload_n hx hb dX6_knownBy_15 rfl (lv_at hl 0 rfl) ?_
    refine ti_get (ci := 6) (k := 6) (N := 13) (T := TX6) C hw iw_6 rfl ob_50 (by decide) (by decide) fl_X6_31 rfl rfl dX6_knownBy_16 ?_
    refine ti_top (y := x_1) (ex_1.symm) ?_
    have u_4 : (tI M 50 6).toInt = (x_1 : Int32).toInt := by rw [(ex_1.symm)]
    exact hQ _ _ _ _ _ _ hw rfl (⟨rfl, by first | omega | decide, by first | omega | decide⟩) dX6_knownBy_19
  · refine lv_aload_n hx hb dX6_knownBy_8 rfl (lv_at hl 0 rfl) ?_
    refine ti_get (ci := 6) (k := 5) (N := 13) (T := TX6) C hw iw_6 rfl ob_50 (by decide) (by decide) fl_X6_28 rfl rfl dX6_knownBy_9 ?_
    refine lv_topi (fun x_3 ex_3 => ?_)
    have bx_3 : 0 ≤ x_3.toInt ∧ x_3.toInt ≤ 24 := cI_rd hI ob_50.1 ex_3
    have ux_3 : (tI M 50 5).toInt = x_3.toInt := by rw [ex_3]
    refine lv_goto (tgt := 19) hx hb dX6_knownBy_12 (by decide) ?_
    exact hQ _ _ _ _ _ _ hw rfl (⟨rfl, by first | omega | decide, by first | omega | decide⟩) dX6_knownBy_19
set_option maxHeartbeats 4000000 in
set_option maxRecDepth 100000 in
theorem s_X6_markStruck (l : Launch) (D : va_G) (A : Nat → Nat → Nat) (cy : Nat → ClassId) (hJ : ti_inj ti_LT A) (M : ti_M) (hI : cI Tc M)  : ti_Kv l yX6_markStruck cX6_markStruck 2 1 ti_LT D A cy M [.ref (A 50 0)] (fun M2 => cI Tc M2 ∧ M2.2.2.2 = M.2.2.2 ∧ fX M2 M) := by
  refine ti_eV yp_X6_markStruck hJ ti_LT_nd (Nat.le_of_ble_eq_true rfl) ?_
  intro p e s m args below meth c Q H0 C hQ hw ls hl
  have hx := C.1
  have hb := C.2.1
  have hl : lv_has ls 2 [(0, .ref (A 50 0))] := hl
  refine lv_aload_n hx hb dX6_markStruck_0 rfl (lv_at hl 0 rfl) ?_
  refine lv_iconst (v := 0) hx hb dX6_markStruck_1 (by decide) ?_
  refine ti_putI (ci := 6) (k := 4) (N := 13) (T := TX6) C hw iw_6 tyX6 tyX6_ok nmX6 rfl ob_50 (by decide) (by decide) fl_X6_24 rfl rfl rfl rfl (fn_6 A _) fs_6_4 dX6_markStruck_2 (fun H locs hw => ?_)
  obtain ⟨M_1, hM_1⟩ : ∃ z : ti_M, z = uI M 50 4 0 := ⟨_, rfl⟩
  have hw := hw.to hM_1.symm
  have iM_1 : cI Tc M_1 := cI_uI hI hM_1 ob_50.1 trivial
  refine lv_aload_n hx hb dX6_markStruck_5 rfl (lv_at hl 0 rfl) ?_
  refine ti_callVi (ci := 6) (av := []) C hw (s_X6_knownBy l D A cy hJ M_1 iM_1 ) ⟨ml_X6_98, ym_X6_knownBy, yv_X6_knownBy, yi_X6_knownBy, yc_X6_knownBy⟩ yd_X6_knownBy ob_50 (by decide) rfl rfl hl.1 (Nat.le_of_ble_eq_true rfl) ⟨by decide, by decide⟩ ⟨Nat.zero_le _, Nat.zero_le _⟩ dX6_markStruck_6 (fun r_2 M_3 H locs hp_3 hw => ?_)
  obtain ⟨hm, b0r_2, b1r_2⟩ := hp_3
  have hw := hw.to hm
  refine lv_iconst (v := 1) hx hb dX6_markStruck_9 (by decide) ?_
  refine lv_isub hx hb dX6_markStruck_10 ?_
  refine lv_topi (fun x_4 ex_4 => ?_)
  have tx_4 : x_4.toInt = r_2.toInt - 1 := i_sub ex_4 rfl (by decide : (1 : Int32).toInt = 1) (by omega) (by omega)
  refine lv_istore_n (lv' := [(1, .int x_4), (0, .ref (A 50 0))]) hx hb dX6_markStruck_11 rfl hl (by decide) rfl (fun ls hl => ?_)
  have hl_12_10 : ∀ (n_11 : Nat) (x_5 : Int32) (M_8 : ti_M) (H : Heap) (locs : List Loc) (ls : Array Slot), (x_5.toInt + 1 : Int).toNat < n_11 → ((-1) ≤ x_5.toInt) → (x_5.toInt ≤ 23) → (cI Tc M_8) → (M_8.2.2.2 = M.2.2.2) → (fX M_8 M) → ti_H ti_LT D A cy H0 M_8 H locs → lv_has ls 2 [(1, .int x_5), (0, .ref (A 50 0))] → W p l e (ti_rm 1) s m args below meth c H locs 0 0 Q (F0 m 12 ls []) := by
    intro n_11
    induction n_11 with
    | zero => intro x_5 M_8 H locs ls hf_11; exact absurd hf_11 (Nat.not_lt_zero _)
    | succ n_11 ih_11 =>
      intro x_5 M_8 H locs ls hf_11 b_6 b_7 iM_8 f_9 f_10 hw hl
      refine lv_iload_n hx hb dX6_markStruck_12 rfl (lv_at hl 0 rfl) ?_
      refine sb_if_lt (tgt := 60) hx hb rfl dX6_markStruck_13 (by decide) (fun c_13_11 => ?_) (fun c_13_11 => ?_)
      · exact hQ _ _ _ _ _ hw (⟨iM_8, (f_9), f_10⟩) dX6_markStruck_60
      · refine lv_aload_n hx hb dX6_markStruck_16 rfl (lv_at hl 1 rfl) ?_
        refine ti_get (ci := 6) (k := 4) (N := 13) (T := TX6) C hw iw_6 rfl ob_50 (by decide) (by decide) fl_X6_24 rfl rfl dX6_markStruck_17 ?_
        refine lv_topi (fun x_13 ex_13 => ?_)
        refine lv_iload_n hx hb dX6_markStruck_20 rfl (lv_at hl 0 rfl) ?_
        refine lv_ishr hx hb dX6_markStruck_21 ?_
        refine lv_topi (fun x_14 ex_14 => ?_)
        refine lv_iconst (v := 1) hx hb dX6_markStruck_22 (by decide) ?_
        refine lv_iand hx hb dX6_markStruck_23 ?_
        refine lv_topi (fun x_15 ex_15 => ?_)
        have bx_15 := i_and 1 ex_15 (by decide) (by decide)
        have hj_54_25 : ∀ (M_23 : ti_M) (H : Heap) (locs : List Loc) (ls : Array Slot), (cI Tc M_23) → (M_23.2.2.2 = M.2.2.2) → (fX M_23 M) → ti_H ti_LT D A cy H0 M_23 H locs → lv_has ls 2 [(1, .int x_5), (0, .ref (A 50 0))] → W p l e (ti_rm 1) s m args below meth c H locs 0 0 Q (F0 m 54 ls []) := by
          intro M_23 H locs ls iM_23 f_24 f_25 hw hl
          obtain ⟨x_26, ex_26⟩ : ∃ z : Int32, z = x_5 + (-1) := ⟨_, rfl⟩
          have tx_26 : x_26.toInt = x_5.toInt + (-1) := i_add ex_26 rfl (by decide) (by omega) (by omega)
          refine lv_iinc (v := x_26) (lv' := [(1, .int x_26), (0, .ref (A 50 0))]) hx hb dX6_markStruck_54 hl (k := 0) rfl (by rw [ex_26]; rfl) (by decide) rfl (fun ls hl => ?_)
          refine lv_goto (tgt := 12) hx hb dX6_markStruck_57 (by decide) ?_
          exact ih_11 x_26 M_23 _ _ _ (by omega) (by first | omega | decide) (by first | omega | decide) iM_23 (f_24) f_25 hw (lv_sub hl [0, 1] rfl)
        refine sb_if_ne (tgt := 54) hx hb rfl dX6_markStruck_24 (by decide) (fun c_24_15 => ?_) (fun c_24_15 => ?_)
        · exact hj_54_25 M_8 _ _ _ iM_8 (f_9) f_10 hw (lv_sub hl [0, 1] rfl)
        · refine lv_aload_n hx hb dX6_markStruck_27 rfl (lv_at hl 1 rfl) ?_
          refine ti_get (ci := 6) (k := 3) (N := 13) (T := TX6) (v := .ref (A 50 4)) C hw iw_6 rfl ob_50 (by decide) (by decide) fl_X6_21 rfl rfl dX6_markStruck_28 ?_
          refine lv_iload_n hx hb dX6_markStruck_31 rfl (lv_at hl 0 rfl) ?_
          refine ti_iald (ci := 6) (k := 3) (n := 24) C hw ob_50 (by decide) (fun _ _ => rfl) (vp_in_iff.mpr (by omega)) dX6_markStruck_32 ?_
          refine lv_topi (fun x_17 ex_17 => ?_)
          refine lv_iconst (v := (-1)) hx hb dX6_markStruck_33 (by decide) ?_
          refine sb_icmp_eq (tgt := 54) hx hb rfl (by decide : ((-1) : Int32).toInt = (-1)) dX6_markStruck_34 (by decide) (fun c_34_17 => ?_) (fun c_34_17 => ?_)
          · exact hj_54_25 M_8 _ _ _ iM_8 (f_9) f_10 hw (lv_sub hl [0, 1] rfl)
          · refine lv_aload_n hx hb dX6_markStruck_37 rfl (lv_at hl 1 rfl) ?_
            refine lv_dup hx hb dX6_markStruck_38 rfl ?_
            refine ti_get (ci := 6) (k := 4) (N := 13) (T := TX6) C hw iw_6 rfl ob_50 (by decide) (by decide) fl_X6_24 rfl rfl dX6_markStruck_39 ?_
            refine ti_top (y := x_13) (ex_13.symm) ?_
            refine lv_iconst (v := 1) hx hb dX6_markStruck_42 (by decide) ?_
            refine lv_aload_n hx hb dX6_markStruck_43 rfl (lv_at hl 1 rfl) ?_
            refine ti_get (ci := 6) (k := 3) (N := 13) (T := TX6) (v := .ref (A 50 4)) C hw iw_6 rfl ob_50 (by decide) (by decide) fl_X6_21 rfl rfl dX6_markStruck_44 ?_
            refine lv_iload_n hx hb dX6_markStruck_47 rfl (lv_at hl 0 rfl) ?_
            refine ti_iald (ci := 6) (k := 3) (n := 24) C hw ob_50 (by decide) (fun _ _ => rfl) (vp_in_iff.mpr (by omega)) dX6_markStruck_48 ?_
            refine lv_topi (fun x_19 ex_19 => ?_)
            refine lv_ishl hx hb dX6_markStruck_49 ?_
            refine lv_topi (fun x_20 ex_20 => ?_)
            refine lv_ior hx hb dX6_markStruck_50 ?_
            refine lv_topi (fun x_21 ex_21 => ?_)
            refine ti_putI (ci := 6) (k := 4) (N := 13) (T := TX6) C hw iw_6 tyX6 tyX6_ok nmX6 rfl ob_50 (by decide) (by decide) fl_X6_24 rfl rfl rfl rfl (fn_6 A _) fs_6_4 dX6_markStruck_51 (fun H locs hw => ?_)
            obtain ⟨M_22, hM_22⟩ : ∃ z : ti_M, z = uI M_8 50 4 x_21 := ⟨_, rfl⟩
            have hw := hw.to hM_22.symm
            have iM_22 : cI Tc M_22 := cI_uI iM_8 hM_22 ob_50.1 trivial
            exact hj_54_25 M_22 _ _ _ iM_22 ((rf_I hM_22).trans f_9) (fX.trans (fx_I hM_22 (by decide)) f_10) hw (lv_sub hl [0, 1] rfl)
  exact hl_12_10 ((x_4.toInt + 1 : Int).toNat + 1) x_4 M_1 _ _ _ (Nat.lt_succ_self _) (by first | omega | decide) (by first | omega | decide) iM_1 (rf_I hM_1) (fx_I hM_1 (by decide)) hw (lv_sub hl [0, 1] rfl)
set_option maxHeartbeats 4000000 in
set_option maxRecDepth 100000 in
theorem s_X6_tells (l : Launch) (D : va_G) (A : Nat → Nat → Nat) (cy : Nat → ClassId) (hJ : ti_inj ti_LT A) (M : ti_M) (hI : cI Tc M) (sn : Int32) (h1 : 0 ≤ sn.toInt) (h2 : sn.toInt ≤ 23) : ti_Ki l yX6_tells cX6_tells 2 (some .boolean) 0 ti_LT D A cy M [.ref (A 50 0), .int sn] (fun r M2 => M2 = M) := by
  refine ti_eI yp_X6_tells hJ ti_LT_nd (Nat.le_of_ble_eq_true rfl) ?_
  intro p e s m args below meth c Q H0 C hQ hw ls hl
  have hx := C.1
  have hb := C.2.1
  have hl : lv_has ls 2 [(0, .ref (A 50 0)), (1, .int sn)] := hl
  refine lv_aload_n hx hb dX6_tells_0 rfl (lv_at hl 0 rfl) ?_
  refine ti_get (ci := 6) (k := 4) (N := 13) (T := TX6) C hw iw_6 rfl ob_50 (by decide) (by decide) fl_X6_24 rfl rfl dX6_tells_1 ?_
  refine lv_topi (fun x_1 ex_1 => ?_)
  refine lv_iload_n hx hb dX6_tells_4 rfl (lv_at hl 1 rfl) ?_
  refine lv_ishr hx hb dX6_tells_5 ?_
  refine lv_topi (fun x_2 ex_2 => ?_)
  refine lv_iconst (v := 1) hx hb dX6_tells_6 (by decide) ?_
  refine lv_iand hx hb dX6_tells_7 ?_
  refine lv_topi (fun x_3 ex_3 => ?_)
  have bx_3 := i_and 1 ex_3 (by decide) (by decide)
  have hj_25_6 : ∀  (H : Heap) (locs : List Loc) (ls : Array Slot), ti_H ti_LT D A cy H0 M H locs → lv_has ls 2 [(0, .ref (A 50 0)), (1, .int sn)] → W p l e (ti_rm 0) s m args below meth c H locs 0 0 Q (F0 m 25 ls []) := by
    intro  H locs ls  hw hl
    refine lv_iconst (v := 0) hx hb dX6_tells_25 (by decide) ?_
    exact hQ _ _ _ _ _ _ hw rfl rfl dX6_tells_26
  refine sb_if_ne (tgt := 25) hx hb rfl dX6_tells_8 (by decide) (fun c_8_3 => ?_) (fun c_8_3 => ?_)
  · exact hj_25_6  _ _ _  hw (lv_sub hl [0, 1] rfl)
  · refine lv_aload_n hx hb dX6_tells_11 rfl (lv_at hl 0 rfl) ?_
    refine ti_get (ci := 6) (k := 3) (N := 13) (T := TX6) (v := .ref (A 50 4)) C hw iw_6 rfl ob_50 (by decide) (by decide) fl_X6_21 rfl rfl dX6_tells_12 ?_
    refine lv_iload_n hx hb dX6_tells_15 rfl (lv_at hl 1 rfl) ?_
    refine ti_iald (ci := 6) (k := 3) (n := 24) C hw ob_50 (by decide) (fun _ _ => rfl) (vp_in_iff.mpr (by omega)) dX6_tells_16 ?_
    refine lv_topi (fun x_5 ex_5 => ?_)
    refine lv_iconst (v := (-1)) hx hb dX6_tells_17 (by decide) ?_
    refine sb_icmp_ne (tgt := 25) hx hb rfl (by decide : ((-1) : Int32).toInt = (-1)) dX6_tells_18 (by decide) (fun c_18_5 => ?_) (fun c_18_5 => ?_)
    · exact hj_25_6  _ _ _  hw (lv_sub hl [0, 1] rfl)
    · refine lv_iconst (v := 1) hx hb dX6_tells_21 (by decide) ?_
      refine lv_goto (tgt := 26) hx hb dX6_tells_22 (by decide) ?_
      exact hQ _ _ _ _ _ _ hw rfl rfl dX6_tells_26
set_option maxHeartbeats 4000000 in
set_option maxRecDepth 100000 in
theorem s_X6_lastMinute (l : Launch) (D : va_G) (A : Nat → Nat → Nat) (cy : Nat → ClassId) (hJ : ti_inj ti_LT A) (M : ti_M) (hI : cI Tc M)  : ti_Ki l yX6_lastMinute cX6_lastMinute 4 (some .int) 1 ti_LT D A cy M [.ref (A 50 0)] (fun r M2 => M2 = M ∧ (-1) ≤ r.toInt ∧ r.toInt ≤ 59) := by
  refine ti_eI yp_X6_lastMinute hJ ti_LT_nd (Nat.le_of_ble_eq_true rfl) ?_
  intro p e s m args below meth c Q H0 C hQ hw ls hl
  have hx := C.1
  have hb := C.2.1
  have hl : lv_has ls 4 [(0, .ref (A 50 0))] := hl
  refine lv_iconst (v := (-1)) hx hb dX6_lastMinute_0 (by decide) ?_
  refine lv_istore_n (lv' := [(1, .int (-1)), (0, .ref (A 50 0))]) hx hb dX6_lastMinute_1 rfl hl (by decide) rfl (fun ls hl => ?_)
  refine lv_aload_n hx hb dX6_lastMinute_2 rfl (lv_at hl 1 rfl) ?_
  refine ti_callVi (ci := 6) (av := []) C hw (s_X6_knownBy l D A cy hJ M hI ) ⟨ml_X6_98, ym_X6_knownBy, yv_X6_knownBy, yi_X6_knownBy, yc_X6_knownBy⟩ yd_X6_knownBy ob_50 (by decide) rfl rfl hl.1 (Nat.le_of_ble_eq_true rfl) ⟨by decide, by decide⟩ ⟨Nat.zero_le _, Nat.zero_le _⟩ dX6_lastMinute_3 (fun r_1 M_2 H locs hp_2 hw => ?_)
  obtain ⟨hm, b0r_1, b1r_1⟩ := hp_2
  have hw := hw.to hm
  refine lv_istore_n (lv' := [(2, .int r_1), (1, .int (-1)), (0, .ref (A 50 0))]) hx hb dX6_lastMinute_6 rfl hl (by decide) rfl (fun ls hl => ?_)
  refine lv_iconst (v := 0) hx hb dX6_lastMinute_7 (by decide) ?_
  refine lv_istore_n (lv' := [(3, .int 0), (2, .int r_1), (1, .int (-1)), (0, .ref (A 50 0))]) hx hb dX6_lastMinute_8 rfl hl (by decide) rfl (fun ls hl => ?_)
  have hl_9_8 : ∀ (n_9 : Nat) (x_3 : Int32) (x_6 : Int32) (H : Heap) (locs : List Loc) (ls : Array Slot), (24 - x_3.toInt : Int).toNat < n_9 → (0 ≤ x_3.toInt) → (x_3.toInt ≤ 24) → ((-1) ≤ x_6.toInt) → (x_6.toInt ≤ 59) → ti_H ti_LT D A cy H0 M H locs → lv_has ls 4 [(3, .int x_3), (2, .int r_1), (1, .int x_6), (0, .ref (A 50 0))] → W p l e (ti_rm 1) s m args below meth c H locs 0 0 Q (F0 m 9 ls []) := by
    intro n_9
    induction n_9 with
    | zero => intro x_3 x_6 H locs ls hf_9; exact absurd hf_9 (Nat.not_lt_zero _)
    | succ n_9 ih_9 =>
      intro x_3 x_6 H locs ls hf_9 b_4 b_5 b_7 b_8 hw hl
      refine lv_iload_n hx hb dX6_lastMinute_9 rfl (lv_at hl 0 rfl) ?_
      refine lv_iload_n hx hb dX6_lastMinute_10 rfl (lv_at hl 1 rfl) ?_
      refine sb_icmp_ge (tgt := 39) hx hb rfl rfl dX6_lastMinute_11 (by decide) (fun c_11_9 => ?_) (fun c_11_9 => ?_)
      · refine lv_iload_n hx hb dX6_lastMinute_39 rfl (lv_at hl 2 rfl) ?_
        exact hQ _ _ _ _ _ _ hw rfl (⟨rfl, by first | omega | decide, by first | omega | decide⟩) dX6_lastMinute_40
      · refine lv_aload_n hx hb dX6_lastMinute_14 rfl (lv_at hl 3 rfl) ?_
        refine lv_iload_n hx hb dX6_lastMinute_15 rfl (lv_at hl 0 rfl) ?_
        refine ti_callVi (ci := 6) (av := [.int x_3]) C hw (s_X6_tells l D A cy hJ M hI x_3 (by first | omega | decide) (by first | omega | decide)) ⟨ml_X6_101, ym_X6_tells, yv_X6_tells, yi_X6_tells, yc_X6_tells⟩ yd_X6_tells ob_50 (by decide) rfl rfl hl.1 (Nat.le_of_ble_eq_true rfl) ⟨by decide, by decide⟩ ⟨Nat.zero_le _, Nat.zero_le _⟩ dX6_lastMinute_16 (fun r_11 M_12 H locs hp_12 hw => ?_)
        have hm := hp_12
        have hw := hw.to hm
        have hj_33_18 : ∀ (x_16 : Int32) (H : Heap) (locs : List Loc) (ls : Array Slot), ((-1) ≤ x_16.toInt) → (x_16.toInt ≤ 59) → ti_H ti_LT D A cy H0 M H locs → lv_has ls 4 [(3, .int x_3), (2, .int r_1), (1, .int x_16), (0, .ref (A 50 0))] → W p l e (ti_rm 1) s m args below meth c H locs 0 0 Q (F0 m 33 ls []) := by
          intro x_16 H locs ls b_17 b_18 hw hl
          obtain ⟨x_19, ex_19⟩ : ∃ z : Int32, z = x_3 + 1 := ⟨_, rfl⟩
          have tx_19 : x_19.toInt = x_3.toInt + 1 := i_add ex_19 rfl (by decide) (by omega) (by omega)
          refine lv_iinc (v := x_19) (lv' := [(3, .int x_19), (2, .int r_1), (1, .int x_16), (0, .ref (A 50 0))]) hx hb dX6_lastMinute_33 hl (k := 0) rfl (by rw [ex_19]; rfl) (by decide) rfl (fun ls hl => ?_)
          refine lv_goto (tgt := 9) hx hb dX6_lastMinute_36 (by decide) ?_
          exact ih_9 x_19 x_16 _ _ _ (by omega) (by first | omega | decide) (by first | omega | decide) (by first | omega | decide) (by first | omega | decide) hw (lv_sub hl [0, 1, 2, 3] rfl)
        refine sb_if_eq (tgt := 33) hx hb rfl dX6_lastMinute_19 (by decide) (fun c_19_12 => ?_) (fun c_19_12 => ?_)
        · exact hj_33_18 x_6 _ _ _ (by first | omega | decide) (by first | omega | decide) hw (lv_sub hl [0, 1, 2, 3] rfl)
        · refine lv_iload_n hx hb dX6_lastMinute_22 rfl (lv_at hl 2 rfl) ?_
          refine lv_aload_n hx hb dX6_lastMinute_23 rfl (lv_at hl 3 rfl) ?_
          refine ti_get (ci := 6) (k := 0) (N := 13) (T := TX6) (v := .ref (A 50 1)) C hw iw_6 rfl ob_50 (by decide) (by decide) fl_X6_9 rfl rfl dX6_lastMinute_24 ?_
          refine lv_iload_n hx hb dX6_lastMinute_27 rfl (lv_at hl 0 rfl) ?_
          refine ti_iald (ci := 6) (k := 0) (n := 24) C hw ob_50 (by decide) (fun _ _ => rfl) (vp_in_iff.mpr (by omega)) dX6_lastMinute_28 ?_
          refine lv_topi (fun x_14 ex_14 => ?_)
          have bx_14 : 0 ≤ x_14.toInt ∧ x_14.toInt ≤ 59 := cI_ry hI ob_50.1 ex_14
          refine ti_max C ml_X6_104 hl.1 (by decide) (Nat.le_of_ble_eq_true rfl) ⟨Nat.zero_le _, Nat.zero_le _⟩ dX6_lastMinute_29 ?_
          refine lv_topi (fun x_15 ex_15 => ?_)
          have bx_15 := i_max ex_15 rfl rfl
          refine lv_istore_n (lv' := [(1, .int x_15), (3, .int x_3), (2, .int r_1), (0, .ref (A 50 0))]) hx hb dX6_lastMinute_32 rfl hl (by decide) rfl (fun ls hl => ?_)
          exact hj_33_18 x_15 _ _ _ (by first | omega | decide) (by first | omega | decide) hw (lv_sub hl [1, 2, 0, 3] rfl)
  exact hl_9_8 ((24 - 0 : Int).toNat + 1) 0 (-1) _ _ _ (Nat.lt_succ_self _) (by have lt0 : ((-1) : Int32).toInt = (-1) := (by decide); have lt1 : (0 : Int32).toInt = 0 := (by decide); first | omega | decide) (by have lt0 : ((-1) : Int32).toInt = (-1) := (by decide); have lt1 : (0 : Int32).toInt = 0 := (by decide); first | omega | decide) (by have lt0 : ((-1) : Int32).toInt = (-1) := (by decide); have lt1 : (0 : Int32).toInt = 0 := (by decide); first | omega | decide) (by have lt0 : ((-1) : Int32).toInt = (-1) := (by decide); have lt1 : (0 : Int32).toInt = 0 := (by decide); first | omega | decide) hw (lv_sub hl [0, 1, 2, 3] rfl)
set_option maxHeartbeats 4000000 in
set_option maxRecDepth 100000 in
theorem s_X6_fitsBehindLast (l : Launch) (D : va_G) (A : Nat → Nat → Nat) (cy : Nat → ClassId) (hJ : ti_inj ti_LT A) (M : ti_M) (hI : cI Tc M) (q : Nat) (hq : ti_ob ti_LT q 3) : ti_Ki l yX6_fitsBehindLast cX6_fitsBehindLast 4 (some .boolean) 1 ti_LT D A cy M [.ref (A 50 0), .ref (A q 0)] (fun r M2 => M2 = M) := by
  refine ti_eI yp_X6_fitsBehindLast hJ ti_LT_nd (Nat.le_of_ble_eq_true rfl) ?_
  intro p e s m args below meth c Q H0 C hQ hw ls hl
  have hx := C.1
  have hb := C.2.1
  have hl : lv_has ls 4 [(0, .ref (A 50 0)), (1, .ref (A q 0))] := hl
  refine lv_aload_n hx hb dX6_fitsBehindLast_0 rfl (lv_at hl 0 rfl) ?_
  refine ti_callVi (ci := 6) (av := []) C hw (s_X6_knownBy l D A cy hJ M hI ) ⟨ml_X6_98, ym_X6_knownBy, yv_X6_knownBy, yi_X6_knownBy, yc_X6_knownBy⟩ yd_X6_knownBy ob_50 (by decide) rfl rfl hl.1 (Nat.le_of_ble_eq_true rfl) ⟨by decide, by decide⟩ ⟨Nat.zero_le _, Nat.zero_le _⟩ dX6_fitsBehindLast_1 (fun r_1 M_2 H locs hp_2 hw => ?_)
  obtain ⟨hm, b0r_1, b1r_1⟩ := hp_2
  have hw := hw.to hm
  refine lv_istore_n (lv' := [(2, .int r_1), (0, .ref (A 50 0)), (1, .ref (A q 0))]) hx hb dX6_fitsBehindLast_4 rfl hl (by decide) rfl (fun ls hl => ?_)
  refine lv_iconst (v := 0) hx hb dX6_fitsBehindLast_5 (by decide) ?_
  refine lv_istore_n (lv' := [(3, .int 0), (2, .int r_1), (0, .ref (A 50 0)), (1, .ref (A q 0))]) hx hb dX6_fitsBehindLast_6 rfl hl (by decide) rfl (fun ls hl => ?_)
  have hl_7_5 : ∀ (n_6 : Nat) (x_3 : Int32) (H : Heap) (locs : List Loc) (ls : Array Slot), (24 - x_3.toInt : Int).toNat < n_6 → (0 ≤ x_3.toInt) → (x_3.toInt ≤ 24) → ti_H ti_LT D A cy H0 M H locs → lv_has ls 4 [(3, .int x_3), (2, .int r_1), (0, .ref (A 50 0)), (1, .ref (A q 0))] → W p l e (ti_rm 1) s m args below meth c H locs 0 0 Q (F0 m 7 ls []) := by
    intro n_6
    induction n_6 with
    | zero => intro x_3 H locs ls hf_6; exact absurd hf_6 (Nat.not_lt_zero _)
    | succ n_6 ih_6 =>
      intro x_3 H locs ls hf_6 b_4 b_5 hw hl
      refine lv_iload_n hx hb dX6_fitsBehindLast_7 rfl (lv_at hl 0 rfl) ?_
      refine lv_iload_n hx hb dX6_fitsBehindLast_8 rfl (lv_at hl 1 rfl) ?_
      refine sb_icmp_ge (tgt := 62) hx hb rfl rfl dX6_fitsBehindLast_9 (by decide) (fun c_9_6 => ?_) (fun c_9_6 => ?_)
      · refine lv_iconst (v := 1) hx hb dX6_fitsBehindLast_62 (by decide) ?_
        exact hQ _ _ _ _ _ _ hw rfl rfl dX6_fitsBehindLast_63
      · refine lv_aload_n hx hb dX6_fitsBehindLast_12 rfl (lv_at hl 2 rfl) ?_
        refine lv_iload_n hx hb dX6_fitsBehindLast_13 rfl (lv_at hl 0 rfl) ?_
        refine ti_callVi (ci := 6) (av := [.int x_3]) C hw (s_X6_tells l D A cy hJ M hI x_3 (by first | omega | decide) (by first | omega | decide)) ⟨ml_X6_101, ym_X6_tells, yv_X6_tells, yi_X6_tells, yc_X6_tells⟩ yd_X6_tells ob_50 (by decide) rfl rfl hl.1 (Nat.le_of_ble_eq_true rfl) ⟨by decide, by decide⟩ ⟨Nat.zero_le _, Nat.zero_le _⟩ dX6_fitsBehindLast_14 (fun r_8 M_9 H locs hp_9 hw => ?_)
        have hm := hp_9
        have hw := hw.to hm
        have hj_56_19 : ∀  (H : Heap) (locs : List Loc) (ls : Array Slot), ti_H ti_LT D A cy H0 M H locs → lv_has ls 4 [(3, .int x_3), (2, .int r_1), (0, .ref (A 50 0)), (1, .ref (A q 0))] → W p l e (ti_rm 1) s m args below meth c H locs 0 0 Q (F0 m 56 ls []) := by
          intro  H locs ls  hw hl
          obtain ⟨x_20, ex_20⟩ : ∃ z : Int32, z = x_3 + 1 := ⟨_, rfl⟩
          have tx_20 : x_20.toInt = x_3.toInt + 1 := i_add ex_20 rfl (by decide) (by omega) (by omega)
          refine lv_iinc (v := x_20) (lv' := [(3, .int x_20), (2, .int r_1), (0, .ref (A 50 0)), (1, .ref (A q 0))]) hx hb dX6_fitsBehindLast_56 hl (k := 0) rfl (by rw [ex_20]; rfl) (by decide) rfl (fun ls hl => ?_)
          refine lv_goto (tgt := 7) hx hb dX6_fitsBehindLast_59 (by decide) ?_
          exact ih_6 x_20 _ _ _ (by omega) (by first | omega | decide) (by first | omega | decide) hw (lv_sub hl [0, 1, 2, 3] rfl)
        refine sb_if_eq (tgt := 56) hx hb rfl dX6_fitsBehindLast_17 (by decide) (fun c_17_9 => ?_) (fun c_17_9 => ?_)
        · exact hj_56_19  _ _ _  hw (lv_sub hl [0, 1, 2, 3] rfl)
        · refine lv_aload_n hx hb dX6_fitsBehindLast_20 rfl (lv_at hl 2 rfl) ?_
          refine ti_get (ci := 6) (k := 0) (N := 13) (T := TX6) (v := .ref (A 50 1)) C hw iw_6 rfl ob_50 (by decide) (by decide) fl_X6_9 rfl rfl dX6_fitsBehindLast_21 ?_
          refine lv_iload_n hx hb dX6_fitsBehindLast_24 rfl (lv_at hl 0 rfl) ?_
          refine ti_iald (ci := 6) (k := 0) (n := 24) C hw ob_50 (by decide) (fun _ _ => rfl) (vp_in_iff.mpr (by omega)) dX6_fitsBehindLast_25 ?_
          refine lv_topi (fun x_11 ex_11 => ?_)
          have bx_11 : 0 ≤ x_11.toInt ∧ x_11.toInt ≤ 59 := cI_ry hI ob_50.1 ex_11
          refine lv_aload_n hx hb dX6_fitsBehindLast_26 rfl (lv_at hl 3 rfl) ?_
          refine ti_get (ci := 3) (k := 2) (N := 17) (T := TX3) C hw iw_3 rfl hq (by decide) (by decide) fl_X6_110 rfl rfl dX6_fitsBehindLast_27 ?_
          refine lv_topi (fun x_12 ex_12 => ?_)
          refine lv_iconst (v := 1) hx hb dX6_fitsBehindLast_30 (by decide) ?_
          refine lv_isub hx hb dX6_fitsBehindLast_31 ?_
          refine lv_topi (fun x_13 ex_13 => ?_)
          refine sb_icmp_ne (tgt := 56) hx hb rfl rfl dX6_fitsBehindLast_32 (by decide) (fun c_32_13 => ?_) (fun c_32_13 => ?_)
          · exact hj_56_19  _ _ _  hw (lv_sub hl [0, 1, 2, 3] rfl)
          · refine lv_aload_n hx hb dX6_fitsBehindLast_35 rfl (lv_at hl 3 rfl) ?_
            refine lv_aload_n hx hb dX6_fitsBehindLast_36 rfl (lv_at hl 2 rfl) ?_
            refine ti_get (ci := 6) (k := 1) (N := 13) (T := TX6) (v := .ref (A 50 2)) C hw iw_6 rfl ob_50 (by decide) (by decide) fl_X6_15 rfl rfl dX6_fitsBehindLast_37 ?_
            refine lv_iload_n hx hb dX6_fitsBehindLast_40 rfl (lv_at hl 0 rfl) ?_
            refine ti_iald (ci := 6) (k := 1) (n := 24) C hw ob_50 (by decide) (fun _ _ => rfl) (vp_in_iff.mpr (by omega)) dX6_fitsBehindLast_41 ?_
            refine lv_topi (fun x_15 ex_15 => ?_)
            refine ti_callVi (ci := 3) (av := [.int x_15]) C hw (s_X3_manAt l D A cy hJ M hI q hq x_15) ⟨ml_X6_113, ym_X3_manAt, yv_X3_manAt, yi_X3_manAt, yc_X3_manAt⟩ yd_X3_manAt hq (by decide) rfl rfl hl.1 (Nat.le_of_ble_eq_true rfl) ⟨by decide, by decide⟩ ⟨Nat.zero_le _, Nat.zero_le _⟩ dX6_fitsBehindLast_42 (fun r_16 M_17 H locs hp_17 hw => ?_)
            obtain ⟨hm, b0r_16, b1r_16, p0r_16⟩ := hp_17
            have hw := hw.to hm
            refine lv_aload_n hx hb dX6_fitsBehindLast_45 rfl (lv_at hl 2 rfl) ?_
            refine ti_get (ci := 6) (k := 2) (N := 13) (T := TX6) (v := .ref (A 50 3)) C hw iw_6 rfl ob_50 (by decide) (by decide) fl_X6_18 rfl rfl dX6_fitsBehindLast_46 ?_
            refine lv_iload_n hx hb dX6_fitsBehindLast_49 rfl (lv_at hl 0 rfl) ?_
            refine ti_iald (ci := 6) (k := 2) (n := 24) C hw ob_50 (by decide) (fun _ _ => rfl) (vp_in_iff.mpr (by omega)) dX6_fitsBehindLast_50 ?_
            refine lv_topi (fun x_18 ex_18 => ?_)
            refine sb_icmp_eq (tgt := 56) hx hb rfl rfl dX6_fitsBehindLast_51 (by decide) (fun c_51_18 => ?_) (fun c_51_18 => ?_)
            · exact hj_56_19  _ _ _  hw (lv_sub hl [0, 1, 2, 3] rfl)
            · refine lv_iconst (v := 0) hx hb dX6_fitsBehindLast_54 (by decide) ?_
              exact hQ _ _ _ _ _ _ hw rfl rfl dX6_fitsBehindLast_55
  exact hl_7_5 ((24 - 0 : Int).toNat + 1) 0 _ _ _ (Nat.lt_succ_self _) (by have lt0 : (0 : Int32).toInt = 0 := (by decide); first | omega | decide) (by have lt0 : (0 : Int32).toInt = 0 := (by decide); first | omega | decide) hw (lv_sub hl [0, 1, 2, 3] rfl)
set_option maxHeartbeats 4000000 in
set_option maxRecDepth 100000 in
theorem s_X6_fitsThrough (l : Launch) (D : va_G) (A : Nat → Nat → Nat) (cy : Nat → ClassId) (hJ : ti_inj ti_LT A) (M : ti_M) (hI : cI Tc M) (t : Nat) (ht : t = 3 ∨ t = 4) (hT : tT M 52 0 = some t) (la : Int32) (h1 : la.toInt ≤ 59) : ti_Ki l yX6_fitsThrough cX6_fitsThrough 3 (some .boolean) 5 ti_LT D A cy M [.ref (A 50 0), .int la] (fun r M2 => cI Tc M2 ∧ M2.2.2.2 = M.2.2.2 ∧ fX M2 M ∧ 0 ≤ r.toInt ∧ r.toInt ≤ 1) := by
  refine ti_eI yp_X6_fitsThrough hJ ti_LT_nd (Nat.le_of_ble_eq_true rfl) ?_
  intro p e s m args below meth c Q H0 C hQ hw ls hl
  have hx := C.1
  have hb := C.2.1
  have hl : lv_has ls 3 [(0, .ref (A 50 0)), (1, .int la)] := hl
  refine lv_aload_n hx hb dX6_fitsThrough_0 rfl (lv_at hl 0 rfl) ?_
  refine ti_get (ci := 6) (k := 12) (N := 13) (T := TX6) (v := .ref (A 52 0)) C hw iw_6 rfl ob_50 (by decide) (by decide) fl_X6_54 rfl rfl dX6_fitsThrough_1 ?_
  refine ti_get (ci := 3) (k := 2) (N := 17) (T := TX3) C hw iw_3 rfl ob_52 (by decide) (by decide) fl_X6_110 rfl rfl dX6_fitsThrough_4 ?_
  refine lv_topi (fun x_1 ex_1 => ?_)
  refine lv_istore_n (lv' := [(2, .int x_1), (0, .ref (A 50 0)), (1, .int la)]) hx hb dX6_fitsThrough_7 rfl hl (by decide) rfl (fun ls hl => ?_)
  have hl_8_5 : ∀ (n_6 : Nat) (x_2 : Int32) (M_3 : ti_M) (H : Heap) (locs : List Loc) (ls : Array Slot), (la.toInt - x_2.toInt + 1 : Int).toNat < n_6 → (cI Tc M_3) → (M_3.2.2.2 = M.2.2.2) → (fX M_3 M) → ti_H ti_LT D A cy H0 M_3 H locs → lv_has ls 3 [(2, .int x_2), (0, .ref (A 50 0)), (1, .int la)] → W p l e (ti_rm 5) s m args below meth c H locs 0 0 Q (F0 m 8 ls []) := by
    intro n_6
    induction n_6 with
    | zero => intro x_2 M_3 H locs ls hf_6; exact absurd hf_6 (Nat.not_lt_zero _)
    | succ n_6 ih_6 =>
      intro x_2 M_3 H locs ls hf_6 iM_3 f_4 f_5 hw hl
      refine lv_iload_n hx hb dX6_fitsThrough_8 rfl (lv_at hl 0 rfl) ?_
      refine lv_iload_n hx hb dX6_fitsThrough_9 rfl (lv_at hl 2 rfl) ?_
      refine sb_icmp_gt (tgt := 39) hx hb rfl rfl dX6_fitsThrough_10 (by decide) (fun c_10_6 => ?_) (fun c_10_6 => ?_)
      · refine lv_iconst (v := 1) hx hb dX6_fitsThrough_39 (by decide) ?_
        exact hQ _ _ _ _ _ _ hw rfl (⟨iM_3, (f_4), f_5, (by first | omega | decide), (by first | omega | decide)⟩) dX6_fitsThrough_40
      · refine lv_aload_n hx hb dX6_fitsThrough_13 rfl (lv_at hl 1 rfl) ?_
        refine ti_get (ci := 6) (k := 12) (N := 13) (T := TX6) (v := .ref (A 52 0)) C hw iw_6 rfl ob_50 (by decide) (by decide) fl_X6_54 rfl rfl dX6_fitsThrough_14 ?_
        refine ti_callVv (ci := 3) (av := []) C hw (s_X3_pass l D A cy hJ M_3 iM_3 52 t ob_52 ht ((tT_fr f_4).trans hT) (fun h => absurd h np_52)) ⟨ml_X6_91, ym_X3_pass, yv_X3_pass, yi_X3_pass, yc_X3_pass⟩ yd_X3_pass ob_52 (by decide) rfl rfl hl.1 (Nat.le_of_ble_eq_true rfl) ⟨by decide, by decide⟩ ⟨Nat.zero_le _, Nat.zero_le _⟩ dX6_fitsThrough_17 (fun M_9 H locs hp_9 hw => ?_)
        obtain ⟨iM_9, q_10, q_11, q_12⟩ := hp_9
        refine lv_aload_n hx hb dX6_fitsThrough_20 rfl (lv_at hl 1 rfl) ?_
        refine lv_aload_n hx hb dX6_fitsThrough_21 rfl (lv_at hl 1 rfl) ?_
        refine ti_get (ci := 6) (k := 12) (N := 13) (T := TX6) (v := .ref (A 52 0)) C hw iw_6 rfl ob_50 (by decide) (by decide) fl_X6_54 rfl rfl dX6_fitsThrough_22 ?_
        refine ti_callVi (ci := 6) (av := [.ref (A 52 0)]) C hw (s_X6_fitsBehindLast l D A cy hJ M_9 iM_9 52 ob_52) ⟨ml_X6_94, ym_X6_fitsBehindLast, yv_X6_fitsBehindLast, yi_X6_fitsBehindLast, yc_X6_fitsBehindLast⟩ yd_X6_fitsBehindLast ob_50 (by decide) rfl rfl hl.1 (Nat.le_of_ble_eq_true rfl) ⟨by decide, by decide⟩ ⟨Nat.zero_le _, Nat.zero_le _⟩ dX6_fitsThrough_25 (fun r_13 M_14 H locs hp_14 hw => ?_)
        have hm := hp_14
        have hw := hw.to hm
        refine sb_if_ne (tgt := 33) hx hb rfl dX6_fitsThrough_28 (by decide) (fun c_28_14 => ?_) (fun c_28_14 => ?_)
        · obtain ⟨x_16, ex_16⟩ : ∃ z : Int32, z = x_2 + 1 := ⟨_, rfl⟩
          have lox_16 := x_2.le_toInt
          have hix_16 := x_2.toInt_lt
          have tx_16 : x_16.toInt = x_2.toInt + 1 := i_add ex_16 rfl (by decide) (by omega) (by omega)
          refine lv_iinc (v := x_16) (lv' := [(2, .int x_16), (0, .ref (A 50 0)), (1, .int la)]) hx hb dX6_fitsThrough_33 hl (k := 0) rfl (by rw [ex_16]; rfl) (by decide) rfl (fun ls hl => ?_)
          refine lv_goto (tgt := 8) hx hb dX6_fitsThrough_36 (by decide) ?_
          exact ih_6 x_16 M_9 _ _ _ (by omega) iM_9 ((q_10).trans f_4) (fX.trans q_12 f_5) hw (lv_sub hl [0, 1, 2] rfl)
        · refine lv_iconst (v := 0) hx hb dX6_fitsThrough_31 (by decide) ?_
          exact hQ _ _ _ _ _ _ hw rfl (⟨iM_9, ((q_10).trans f_4), (fX.trans q_12 f_5), (by first | omega | decide), (by first | omega | decide)⟩) dX6_fitsThrough_32
  exact hl_8_5 ((la.toInt - x_1.toInt + 1 : Int).toNat + 1) x_1 M _ _ _ (Nat.lt_succ_self _) hI rfl fX.refl hw (lv_sub hl [0, 1, 2] rfl)
set_option maxHeartbeats 4000000 in
set_option maxRecDepth 100000 in
theorem s_X6_addWay (l : Launch) (D : va_G) (A : Nat → Nat → Nat) (cy : Nat → ClassId) (hJ : ti_inj ti_LT A) (M : ti_M) (hI : cI Tc M) (mn mi : Int32) : ti_Kv l yX6_addWay cX6_addWay 3 0 ti_LT D A cy M [.ref (A 50 0), .int mn, .int mi] (fun M2 => cI Tc M2 ∧ M2.2.2.2 = M.2.2.2 ∧ fX M2 M) := by
  refine ti_eV yp_X6_addWay hJ ti_LT_nd (Nat.le_of_ble_eq_true rfl) ?_
  intro p e s m args below meth c Q H0 C hQ hw ls hl
  have hx := C.1
  have hb := C.2.1
  have hl : lv_has ls 3 [(0, .ref (A 50 0)), (1, .int mn), (2, .int mi)] := hl
  refine lv_aload_n hx hb dX6_addWay_0 rfl (lv_at hl 0 rfl) ?_
  refine ti_get (ci := 6) (k := 10) (N := 13) (T := TX6) C hw iw_6 rfl ob_50 (by decide) (by decide) fl_X6_44 rfl rfl dX6_addWay_1 ?_
  refine lv_topi (fun x_1 ex_1 => ?_)
  have bx_1 : 0 ≤ x_1.toInt ∧ x_1.toInt ≤ 480 := cI_rd hI ob_50.1 ex_1
  have ux_1 : (tI M 50 10).toInt = x_1.toInt := by rw [ex_1]
  refine lv_sipush (v := 480) hx hb dX6_addWay_4 (by decide) ?_
  refine sb_icmp_ge (tgt := 40) hx hb rfl (by decide : (480 : Int32).toInt = 480) dX6_addWay_7 (by decide) (fun c_7_1 => ?_) (fun c_7_1 => ?_)
  · exact hQ _ _ _ _ _ hw (⟨hI, rfl, fX.refl⟩) dX6_addWay_40
  · refine lv_aload_n hx hb dX6_addWay_10 rfl (lv_at hl 0 rfl) ?_
    refine ti_get (ci := 6) (k := 8) (N := 13) (T := TX6) (v := .ref (A 50 9)) C hw iw_6 rfl ob_50 (by decide) (by decide) fl_X6_38 rfl rfl dX6_addWay_11 ?_
    refine lv_aload_n hx hb dX6_addWay_14 rfl (lv_at hl 0 rfl) ?_
    refine ti_get (ci := 6) (k := 10) (N := 13) (T := TX6) C hw iw_6 rfl ob_50 (by decide) (by decide) fl_X6_44 rfl rfl dX6_addWay_15 ?_
    refine ti_top (y := x_1) (ex_1.symm) ?_
    have u_3 : (tI M 50 10).toInt = (x_1 : Int32).toInt := by rw [(ex_1.symm)]
    refine lv_iload_n hx hb dX6_addWay_18 rfl (lv_at hl 1 rfl) ?_
    refine ti_iast (ci := 6) (k := 8) (n := 480) C hw ob_50 (by decide) (fun _ _ => rfl) (vp_in_iff.mpr (by omega)) dX6_addWay_19 (fun H locs hw => ?_)
    obtain ⟨M_4, hM_4⟩ : ∃ z : ti_M, z = uY M 50 8 (upd (tY M 50 8) (x_1 : Int32).toNatClampNeg mn) := ⟨_, rfl⟩
    have hw := hw.to hM_4.symm
    have iM_4 : cI Tc M_4 := cI_up hI hM_4 ob_50.1 trivial
    refine lv_aload_n hx hb dX6_addWay_20 rfl (lv_at hl 0 rfl) ?_
    refine ti_get (ci := 6) (k := 9) (N := 13) (T := TX6) (v := .ref (A 50 10)) C hw iw_6 rfl ob_50 (by decide) (by decide) fl_X6_41 rfl rfl dX6_addWay_21 ?_
    refine lv_aload_n hx hb dX6_addWay_24 rfl (lv_at hl 0 rfl) ?_
    refine ti_get (ci := 6) (k := 10) (N := 13) (T := TX6) C hw iw_6 rfl ob_50 (by decide) (by decide) fl_X6_44 rfl rfl dX6_addWay_25 ?_
    refine ti_top (y := x_1) ((tI_uYE hM_4).trans ex_1.symm) ?_
    have u_5 : (tI M_4 50 10).toInt = (x_1 : Int32).toInt := by rw [((tI_uYE hM_4).trans ex_1.symm)]
    refine lv_iload_n hx hb dX6_addWay_28 rfl (lv_at hl 2 rfl) ?_
    refine ti_iast (ci := 6) (k := 9) (n := 480) C hw ob_50 (by decide) (fun _ _ => rfl) (vp_in_iff.mpr (by omega)) dX6_addWay_29 (fun H locs hw => ?_)
    obtain ⟨M_6, hM_6⟩ : ∃ z : ti_M, z = uY M_4 50 9 (upd (tY M_4 50 9) (x_1 : Int32).toNatClampNeg mi) := ⟨_, rfl⟩
    have hw := hw.to hM_6.symm
    have iM_6 : cI Tc M_6 := cI_up iM_4 hM_6 ob_50.1 trivial
    refine lv_aload_n hx hb dX6_addWay_30 rfl (lv_at hl 0 rfl) ?_
    refine lv_dup hx hb dX6_addWay_31 rfl ?_
    refine ti_get (ci := 6) (k := 10) (N := 13) (T := TX6) C hw iw_6 rfl ob_50 (by decide) (by decide) fl_X6_44 rfl rfl dX6_addWay_32 ?_
    refine ti_top (y := x_1) ((tI_uYE hM_6).trans ((tI_uYE hM_4).trans ex_1.symm)) ?_
    have u_7 : (tI M_6 50 10).toInt = (x_1 : Int32).toInt := by rw [((tI_uYE hM_6).trans ((tI_uYE hM_4).trans ex_1.symm))]
    refine lv_iconst (v := 1) hx hb dX6_addWay_35 (by decide) ?_
    refine lv_iadd hx hb dX6_addWay_36 ?_
    refine lv_topi (fun x_8 ex_8 => ?_)
    have tx_8 : x_8.toInt = x_1.toInt + 1 := i_add ex_8 rfl (by decide : (1 : Int32).toInt = 1) (by omega) (by omega)
    refine ti_putI (ci := 6) (k := 10) (N := 13) (T := TX6) C hw iw_6 tyX6 tyX6_ok nmX6 rfl ob_50 (by decide) (by decide) fl_X6_44 rfl rfl rfl rfl (fn_6 A _) fs_6_10 dX6_addWay_37 (fun H locs hw => ?_)
    obtain ⟨M_9, hM_9⟩ : ∃ z : ti_M, z = uI M_6 50 10 x_8 := ⟨_, rfl⟩
    have hw := hw.to hM_9.symm
    have iM_9 : cI Tc M_9 := cI_uI iM_6 hM_9 ob_50.1 (ib_mk (lo := 0) (hi := 480) (by omega) (by omega))
    have vM_9 : (tI M_9 50 10).toInt = (x_8 : Int32).toInt := by rw [tI_uE hM_9]
    exact hQ _ _ _ _ _ hw (⟨iM_9, ((rf_I hM_9).trans ((rf_Y hM_6).trans (rf_Y hM_4))), (fX.trans (fx_I hM_9 (by decide)) (fX.trans (fx_of (ra_Y hM_6)) (fx_of (ra_Y hM_4))))⟩) dX6_addWay_40
set_option maxHeartbeats 4000000 in
set_option maxRecDepth 100000 in
theorem s_X6_search (l : Launch) (D : va_G) (A : Nat → Nat → Nat) (cy : Nat → ClassId) (hJ : ti_inj ti_LT A) (M : ti_M) (hI : cI Tc M) (t : Nat) (ht : t = 3 ∨ t = 4) : ti_Kv l yX6_search cX6_search 6 6 ti_LT D A cy M [.ref (A 50 0), .ref (A t 0)] (fun M2 => cI Tc M2 ∧ rT M2 M ∧ fX M2 M) := by
  refine ti_eV yp_X6_search hJ ti_LT_nd (Nat.le_of_ble_eq_true rfl) ?_
  intro p e s m args below meth c Q H0 C hQ hw ls hl
  have hx := C.1
  have hb := C.2.1
  have hl : lv_has ls 6 [(0, .ref (A 50 0)), (1, .ref (A t 0))] := hl
  refine lv_aload_n hx hb dX6_search_0 rfl (lv_at hl 0 rfl) ?_
  refine ti_get (ci := 6) (k := 7) (N := 13) (T := TX6) C hw iw_6 rfl ob_50 (by decide) (by decide) fl_X6_34 rfl rfl dX6_search_1 ?_
  refine lv_topi (fun x_1 ex_1 => ?_)
  refine sb_if_eq (tgt := 8) hx hb rfl dX6_search_4 (by decide) (fun c_4_1 => ?_) (fun c_4_1 => ?_)
  · refine lv_aload_n hx hb dX6_search_8 rfl (lv_at hl 0 rfl) ?_
    refine lv_iconst (v := 1) hx hb dX6_search_9 (by decide) ?_
    refine ti_putI (ci := 6) (k := 7) (N := 13) (T := TX6) C hw iw_6 tyX6 tyX6_ok nmX6 rfl ob_50 (by decide) (by decide) fl_X6_34 rfl rfl rfl rfl (fn_6 A _) fs_6_7 dX6_search_10 (fun H locs hw => ?_)
    obtain ⟨M_3, hM_3⟩ : ∃ z : ti_M, z = uI M 50 7 1 := ⟨_, rfl⟩
    have hw := hw.to hM_3.symm
    have iM_3 : cI Tc M_3 := cI_uI hI hM_3 ob_50.1 trivial
    refine lv_aload_n hx hb dX6_search_13 rfl (lv_at hl 0 rfl) ?_
    refine lv_iconst (v := 0) hx hb dX6_search_14 (by decide) ?_
    refine ti_putI (ci := 6) (k := 10) (N := 13) (T := TX6) C hw iw_6 tyX6 tyX6_ok nmX6 rfl ob_50 (by decide) (by decide) fl_X6_44 rfl rfl rfl rfl (fn_6 A _) fs_6_10 dX6_search_15 (fun H locs hw => ?_)
    obtain ⟨M_4, hM_4⟩ : ∃ z : ti_M, z = uI M_3 50 10 0 := ⟨_, rfl⟩
    have hw := hw.to hM_4.symm
    have iM_4 : cI Tc M_4 := cI_uI iM_3 hM_4 ob_50.1 (ib_mk (lo := 0) (hi := 480) (by decide) (by decide))
    have vM_4 : (tI M_4 50 10).toInt = 0 := by rw [tI_uE hM_4]; decide
    refine lv_aload_n hx hb dX6_search_18 rfl (lv_at hl 0 rfl) ?_
    refine ti_callVv (ci := 6) (av := []) C hw (s_X6_markStruck l D A cy hJ M_4 iM_4 ) ⟨ml_X6_57, ym_X6_markStruck, yv_X6_markStruck, yi_X6_markStruck, yc_X6_markStruck⟩ yd_X6_markStruck ob_50 (by decide) rfl rfl hl.1 (Nat.le_of_ble_eq_true rfl) ⟨by decide, by decide⟩ ⟨Nat.zero_le _, Nat.zero_le _⟩ dX6_search_19 (fun M_6 H locs hp_6 hw => ?_)
    obtain ⟨iM_6, q_7, q_8⟩ := hp_6
    refine lv_aload_n hx hb dX6_search_22 rfl (lv_at hl 0 rfl) ?_
    refine ti_callVi (ci := 6) (av := []) C hw (s_X6_lastMinute l D A cy hJ M_6 iM_6 ) ⟨ml_X6_60, ym_X6_lastMinute, yv_X6_lastMinute, yi_X6_lastMinute, yc_X6_lastMinute⟩ yd_X6_lastMinute ob_50 (by decide) rfl rfl hl.1 (Nat.le_of_ble_eq_true rfl) ⟨by decide, by decide⟩ ⟨Nat.zero_le _, Nat.zero_le _⟩ dX6_search_23 (fun r_9 M_10 H locs hp_10 hw => ?_)
    obtain ⟨hm, b0r_9, b1r_9⟩ := hp_10
    have hw := hw.to hm
    refine lv_istore_n (lv' := [(2, .int r_9), (0, .ref (A 50 0)), (1, .ref (A t 0))]) hx hb dX6_search_26 rfl hl (by decide) rfl (fun ls hl => ?_)
    refine lv_iconst (v := 0) hx hb dX6_search_27 (by decide) ?_
    refine lv_istore_n (lv' := [(3, .int 0), (2, .int r_9), (0, .ref (A 50 0)), (1, .ref (A t 0))]) hx hb dX6_search_28 rfl hl (by decide) rfl (fun ls hl => ?_)
    have hl_29_16 : ∀ (n_17 : Nat) (x_11 : Int32) (M_14 : ti_M) (H : Heap) (locs : List Loc) (ls : Array Slot), (8 - x_11.toInt : Int).toNat < n_17 → (0 ≤ x_11.toInt) → (x_11.toInt ≤ 8) → (cI Tc M_14) → (rT M_14 M) → (fX M_14 M) → ti_H ti_LT D A cy H0 M_14 H locs → lv_has ls 6 [(3, .int x_11), (2, .int r_9), (0, .ref (A 50 0)), (1, .ref (A t 0))] → W p l e (ti_rm 6) s m args below meth c H locs 0 0 Q (F0 m 29 ls []) := by
      intro n_17
      induction n_17 with
      | zero => intro x_11 M_14 H locs ls hf_17; exact absurd hf_17 (Nat.not_lt_zero _)
      | succ n_17 ih_17 =>
        intro x_11 M_14 H locs ls hf_17 b_12 b_13 iM_14 f_15 f_16 hw hl
        refine lv_iload_n hx hb dX6_search_29 rfl (lv_at hl 0 rfl) ?_
        refine lv_aload_n hx hb dX6_search_30 rfl (lv_at hl 3 rfl) ?_
        refine ti_get (ci := 8) (k := 4) (N := 12) (T := TX8) C hw iw_8 rfl (ob_t ht) (by decide) (by decide) fl_X6_64 rfl rfl dX6_search_31 ?_
        refine lv_topi (fun x_18 ex_18 => ?_)
        have bx_18 : 0 ≤ x_18.toInt ∧ x_18.toInt ≤ 8 := cI_rd iM_14 (ob_t ht).1 ex_18
        have ux_18 : (tI M_14 t 4).toInt = x_18.toInt := by rw [ex_18]
        refine sb_icmp_ge (tgt := 153) hx hb rfl rfl dX6_search_34 (by decide) (fun c_34_18 => ?_) (fun c_34_18 => ?_)
        · exact hQ _ _ _ _ _ hw (⟨iM_14, f_15, f_16⟩) dX6_search_153
        · refine lv_aload_n hx hb dX6_search_37 rfl (lv_at hl 2 rfl) ?_
          refine ti_get (ci := 6) (k := 11) (N := 13) (T := TX6) (v := .ref (A 51 0)) C hw iw_6 rfl ob_50 (by decide) (by decide) fl_X6_50 rfl rfl dX6_search_38 ?_
          refine lv_aload_n hx hb dX6_search_41 rfl (lv_at hl 3 rfl) ?_
          refine ti_callVv (ci := 3) (av := [.ref (A t 0)]) C hw (s_X3_start l D A cy hJ M_14 iM_14 51 t ob_51 ht) ⟨ml_X6_69, ym_X3_start, yv_X3_start, yi_X3_start, yc_X3_start⟩ yd_X3_start ob_51 (by decide) rfl rfl hl.1 (Nat.le_of_ble_eq_true rfl) ⟨by decide, by decide⟩ ⟨Nat.zero_le _, Nat.zero_le _⟩ dX6_search_42 (fun M_21 H locs hp_21 hw => ?_)
          obtain ⟨iM_21, q_22, q_23⟩ := hp_21
          refine lv_aload_n hx hb dX6_search_45 rfl (lv_at hl 2 rfl) ?_
          refine ti_get (ci := 6) (k := 11) (N := 13) (T := TX6) (v := .ref (A 51 0)) C hw iw_6 rfl ob_50 (by decide) (by decide) fl_X6_50 rfl rfl dX6_search_46 ?_
          refine lv_iconst (v := 3) hx hb dX6_search_49 (by decide) ?_
          refine ti_putI (ci := 3) (k := 1) (N := 17) (T := TX3) C hw iw_3 tyX3 tyX3_ok nmX3 rfl ob_51 (by decide) (by decide) fl_X6_73 rfl rfl rfl rfl (fn_3 A _) fs_3_1 dX6_search_50 (fun H locs hw => ?_)
          obtain ⟨M_24, hM_24⟩ : ∃ z : ti_M, z = uI M_21 51 1 3 := ⟨_, rfl⟩
          have hw := hw.to hM_24.symm
          have iM_24 : cI Tc M_24 := cI_uI iM_21 hM_24 ob_51.1 trivial
          refine lv_aload_n hx hb dX6_search_53 rfl (lv_at hl 2 rfl) ?_
          refine ti_get (ci := 6) (k := 11) (N := 13) (T := TX6) (v := .ref (A 51 0)) C hw iw_6 rfl ob_50 (by decide) (by decide) fl_X6_50 rfl rfl dX6_search_54 ?_
          refine ti_get (ci := 3) (k := 9) (N := 17) (T := TX3) (v := .ref (A 51 10)) C hw iw_3 rfl ob_51 (by decide) (by decide) fl_X6_76 rfl rfl dX6_search_57 ?_
          refine lv_iload_n hx hb dX6_search_60 rfl (lv_at hl 0 rfl) ?_
          refine lv_iconst (v := (-1)) hx hb dX6_search_61 (by decide) ?_
          refine ti_iast (ci := 3) (k := 9) (n := 8) C hw ob_51 (by decide) (fun _ _ => rfl) (vp_in_iff.mpr (by omega)) dX6_search_62 (fun H locs hw => ?_)
          obtain ⟨M_25, hM_25⟩ : ∃ z : ti_M, z = uY M_24 51 9 (upd (tY M_24 51 9) (x_11 : Int32).toNatClampNeg (-1)) := ⟨_, rfl⟩
          have hw := hw.to hM_25.symm
          have iM_25 : cI Tc M_25 := cI_up iM_24 hM_25 ob_51.1 trivial
          refine lv_iconst (v := 1) hx hb dX6_search_63 (by decide) ?_
          refine lv_istore (lv' := [(4, .int 1), (3, .int x_11), (2, .int r_9), (0, .ref (A 50 0)), (1, .ref (A t 0))]) hx hb dX6_search_64 hl (by decide) rfl (fun ls hl => ?_)
          refine lv_iconst (v := 0) hx hb dX6_search_66 (by decide) ?_
          refine lv_istore (lv' := [(5, .int 0), (4, .int 1), (3, .int x_11), (2, .int r_9), (0, .ref (A 50 0)), (1, .ref (A t 0))]) hx hb dX6_search_67 hl (by decide) rfl (fun ls hl => ?_)
          have hl_69_33 : ∀ (n_34 : Nat) (x_26 : Int32) (x_29 : Int32) (M_30 : ti_M) (H : Heap) (locs : List Loc) (ls : Array Slot), (60 - x_26.toInt : Int).toNat < n_34 → (0 ≤ x_26.toInt) → (x_26.toInt ≤ 60) → (cI Tc M_30) → (rT M_30 M) → (fX M_30 M) → (tT M_30 51 0 = (some t)) → ti_H ti_LT D A cy H0 M_30 H locs → lv_has ls 6 [(5, .int x_26), (4, .int x_29), (3, .int x_11), (2, .int r_9), (0, .ref (A 50 0)), (1, .ref (A t 0))] → W p l e (ti_rm 6) s m args below meth c H locs 0 0 Q (F0 m 69 ls []) := by
            intro n_34
            induction n_34 with
            | zero => intro x_26 x_29 M_30 H locs ls hf_34; exact absurd hf_34 (Nat.not_lt_zero _)
            | succ n_34 ih_34 =>
              intro x_26 x_29 M_30 H locs ls hf_34 b_27 b_28 iM_30 f_31 f_32 f_33 hw hl
              refine lv_iload hx hb dX6_search_69 (lv_at hl 0 rfl) ?_
              refine lv_bipush (v := 59) hx hb dX6_search_71 (by decide) ?_
              have hj_147_68 : ∀  (H : Heap) (locs : List Loc) (ls : Array Slot), ti_H ti_LT D A cy H0 M_30 H locs → lv_has ls 6 [(5, .int x_26), (4, .int x_29), (3, .int x_11), (2, .int r_9), (0, .ref (A 50 0)), (1, .ref (A t 0))] → W p l e (ti_rm 6) s m args below meth c H locs 0 0 Q (F0 m 147 ls []) := by
                intro  H locs ls  hw hl
                obtain ⟨x_69, ex_69⟩ : ∃ z : Int32, z = x_11 + 1 := ⟨_, rfl⟩
                have tx_69 : x_69.toInt = x_11.toInt + 1 := i_add ex_69 rfl (by decide) (by omega) (by omega)
                refine lv_iinc (v := x_69) (lv' := [(3, .int x_69), (5, .int x_26), (4, .int x_29), (2, .int r_9), (0, .ref (A 50 0)), (1, .ref (A t 0))]) hx hb dX6_search_147 hl (k := 2) rfl (by rw [ex_69]; rfl) (by decide) rfl (fun ls hl => ?_)
                refine lv_goto (tgt := 29) hx hb dX6_search_150 (by decide) ?_
                exact ih_17 x_69 M_30 _ _ _ (by omega) (by first | omega | decide) (by first | omega | decide) iM_30 f_31 f_32 hw (lv_sub hl [0, 3, 4, 5] rfl)
              refine sb_icmp_gt (tgt := 147) hx hb rfl (by decide : (59 : Int32).toInt = 59) dX6_search_73 (by decide) (fun c_73_34 => ?_) (fun c_73_34 => ?_)
              · exact hj_147_68  _ _ _  hw (lv_sub hl [0, 1, 2, 3, 4, 5] rfl)
              · refine lv_iload hx hb dX6_search_76 (lv_at hl 1 rfl) ?_
                refine sb_if_eq (tgt := 147) hx hb rfl dX6_search_78 (by decide) (fun c_78_35 => ?_) (fun c_78_35 => ?_)
                · exact hj_147_68  _ _ _  hw (lv_sub hl [0, 1, 2, 3, 4, 5] rfl)
                · refine lv_aload_n hx hb dX6_search_81 rfl (lv_at hl 4 rfl) ?_
                  refine ti_get (ci := 6) (k := 12) (N := 13) (T := TX6) (v := .ref (A 52 0)) C hw iw_6 rfl ob_50 (by decide) (by decide) fl_X6_54 rfl rfl dX6_search_82 ?_
                  refine lv_aload_n hx hb dX6_search_85 rfl (lv_at hl 4 rfl) ?_
                  refine ti_get (ci := 6) (k := 11) (N := 13) (T := TX6) (v := .ref (A 51 0)) C hw iw_6 rfl ob_50 (by decide) (by decide) fl_X6_50 rfl rfl dX6_search_86 ?_
                  refine ti_callVv (ci := 3) (av := [.ref (A 51 0)]) C hw (s_X3_copy l D A cy hJ M_30 iM_30 52 51 t ob_52 ob_51 ht (f_33) (fun h => absurd h np_52)) ⟨ml_X6_79, ym_X3_copy, yv_X3_copy, yi_X3_copy, yc_X3_copy⟩ yd_X3_copy ob_52 (by decide) rfl rfl hl.1 (Nat.le_of_ble_eq_true rfl) ⟨by decide, by decide⟩ ⟨Nat.zero_le _, Nat.zero_le _⟩ dX6_search_89 (fun M_38 H locs hp_38 hw => ?_)
                  obtain ⟨iM_38, q_39, q_40⟩ := hp_38
                  refine lv_aload_n hx hb dX6_search_92 rfl (lv_at hl 4 rfl) ?_
                  refine ti_get (ci := 6) (k := 12) (N := 13) (T := TX6) (v := .ref (A 52 0)) C hw iw_6 rfl ob_50 (by decide) (by decide) fl_X6_54 rfl rfl dX6_search_93 ?_
                  refine ti_get (ci := 3) (k := 9) (N := 17) (T := TX3) (v := .ref (A 52 10)) C hw iw_3 rfl ob_52 (by decide) (by decide) fl_X6_76 rfl rfl dX6_search_96 ?_
                  refine lv_iload_n hx hb dX6_search_99 rfl (lv_at hl 2 rfl) ?_
                  refine lv_iload hx hb dX6_search_100 (lv_at hl 0 rfl) ?_
                  refine ti_iast (ci := 3) (k := 9) (n := 8) C hw ob_52 (by decide) (fun _ _ => rfl) (vp_in_iff.mpr (by omega)) dX6_search_102 (fun H locs hw => ?_)
                  obtain ⟨M_41, hM_41⟩ : ∃ z : ti_M, z = uY M_38 52 9 (upd (tY M_38 52 9) (x_11 : Int32).toNatClampNeg x_26) := ⟨_, rfl⟩
                  have hw := hw.to hM_41.symm
                  have iM_41 : cI Tc M_41 := cI_up iM_38 hM_41 ob_52.1 trivial
                  refine lv_aload_n hx hb dX6_search_103 rfl (lv_at hl 4 rfl) ?_
                  refine lv_iload_n hx hb dX6_search_104 rfl (lv_at hl 3 rfl) ?_
                  refine ti_callVi (ci := 6) (av := [.int r_9]) C hw (s_X6_fitsThrough l D A cy hJ M_41 iM_41 t ht ((tT_uYE hM_41).trans ((tT_fr q_39).trans (tT_u _ _ _ _))) r_9 (by omega)) ⟨ml_X6_83, ym_X6_fitsThrough, yv_X6_fitsThrough, yi_X6_fitsThrough, yc_X6_fitsThrough⟩ yd_X6_fitsThrough ob_50 (by decide) rfl rfl hl.1 (Nat.le_of_ble_eq_true rfl) ⟨by decide, by decide⟩ ⟨Nat.zero_le _, Nat.zero_le _⟩ dX6_search_105 (fun r_42 M_43 H locs hp_43 hw => ?_)
                  obtain ⟨iM_43, q_44, q_45, b0r_42, b1r_42⟩ := hp_43
                  have hj_118_54 : ∀ (M_51 : ti_M) (H : Heap) (locs : List Loc) (ls : Array Slot), (cI Tc M_51) → (rT M_51 M) → (fX M_51 M) → (tT M_51 51 0 = (some t)) → ti_H ti_LT D A cy H0 M_51 H locs → lv_has ls 6 [(5, .int x_26), (4, .int x_29), (3, .int x_11), (2, .int r_9), (0, .ref (A 50 0)), (1, .ref (A t 0))] → W p l e (ti_rm 6) s m args below meth c H locs 0 0 Q (F0 m 118 ls []) := by
                    intro M_51 H locs ls iM_51 f_52 f_53 f_54 hw hl
                    refine lv_iload hx hb dX6_search_118 (lv_at hl 0 rfl) ?_
                    refine lv_iload_n hx hb dX6_search_120 rfl (lv_at hl 3 rfl) ?_
                    have hj_141_67 : ∀ (x_63 : Int32) (M_64 : ti_M) (H : Heap) (locs : List Loc) (ls : Array Slot), (cI Tc M_64) → (rT M_64 M) → (fX M_64 M) → (tT M_64 51 0 = (some t)) → ti_H ti_LT D A cy H0 M_64 H locs → lv_has ls 6 [(5, .int x_26), (4, .int x_63), (3, .int x_11), (2, .int r_9), (0, .ref (A 50 0)), (1, .ref (A t 0))] → W p l e (ti_rm 6) s m args below meth c H locs 0 0 Q (F0 m 141 ls []) := by
                      intro x_63 M_64 H locs ls iM_64 f_65 f_66 f_67 hw hl
                      obtain ⟨x_68, ex_68⟩ : ∃ z : Int32, z = x_26 + 1 := ⟨_, rfl⟩
                      have tx_68 : x_68.toInt = x_26.toInt + 1 := i_add ex_68 rfl (by decide) (by omega) (by omega)
                      refine lv_iinc (v := x_68) (lv' := [(5, .int x_68), (4, .int x_63), (3, .int x_11), (2, .int r_9), (0, .ref (A 50 0)), (1, .ref (A t 0))]) hx hb dX6_search_141 hl (k := 0) rfl (by rw [ex_68]; rfl) (by decide) rfl (fun ls hl => ?_)
                      refine lv_goto (tgt := 69) hx hb dX6_search_144 (by decide) ?_
                      exact ih_34 x_68 x_63 M_64 _ _ _ (by omega) (by first | omega | decide) (by first | omega | decide) iM_64 f_65 f_66 (f_67) hw (lv_sub hl [0, 1, 2, 3, 4, 5] rfl)
                    refine sb_icmp_gt (tgt := 141) hx hb rfl rfl dX6_search_121 (by decide) (fun c_121_54 => ?_) (fun c_121_54 => ?_)
                    · exact hj_141_67 x_29 M_51 _ _ _ iM_51 f_52 f_53 (f_54) hw (lv_sub hl [0, 1, 2, 3, 4, 5] rfl)
                    · refine lv_aload_n hx hb dX6_search_124 rfl (lv_at hl 4 rfl) ?_
                      refine ti_get (ci := 6) (k := 11) (N := 13) (T := TX6) (v := .ref (A 51 0)) C hw iw_6 rfl ob_50 (by decide) (by decide) fl_X6_50 rfl rfl dX6_search_125 ?_
                      refine ti_callVv (ci := 3) (av := []) C hw (s_X3_pass l D A cy hJ M_51 iM_51 51 t ob_51 ht (f_54) (fun h => absurd h np_51)) ⟨ml_X6_91, ym_X3_pass, yv_X3_pass, yi_X3_pass, yc_X3_pass⟩ yd_X3_pass ob_51 (by decide) rfl rfl hl.1 (Nat.le_of_ble_eq_true rfl) ⟨by decide, by decide⟩ ⟨Nat.zero_le _, Nat.zero_le _⟩ dX6_search_128 (fun M_57 H locs hp_57 hw => ?_)
                      obtain ⟨iM_57, q_58, q_59, q_60⟩ := hp_57
                      refine lv_aload_n hx hb dX6_search_131 rfl (lv_at hl 4 rfl) ?_
                      refine lv_aload_n hx hb dX6_search_132 rfl (lv_at hl 4 rfl) ?_
                      refine ti_get (ci := 6) (k := 11) (N := 13) (T := TX6) (v := .ref (A 51 0)) C hw iw_6 rfl ob_50 (by decide) (by decide) fl_X6_50 rfl rfl dX6_search_133 ?_
                      refine ti_callVi (ci := 6) (av := [.ref (A 51 0)]) C hw (s_X6_fitsBehindLast l D A cy hJ M_57 iM_57 51 ob_51) ⟨ml_X6_94, ym_X6_fitsBehindLast, yv_X6_fitsBehindLast, yi_X6_fitsBehindLast, yc_X6_fitsBehindLast⟩ yd_X6_fitsBehindLast ob_50 (by decide) rfl rfl hl.1 (Nat.le_of_ble_eq_true rfl) ⟨by decide, by decide⟩ ⟨Nat.zero_le _, Nat.zero_le _⟩ dX6_search_136 (fun r_61 M_62 H locs hp_62 hw => ?_)
                      have hm := hp_62
                      have hw := hw.to hm
                      refine lv_istore (lv' := [(4, .int r_61), (5, .int x_26), (3, .int x_11), (2, .int r_9), (0, .ref (A 50 0)), (1, .ref (A t 0))]) hx hb dX6_search_139 hl (by decide) rfl (fun ls hl => ?_)
                      exact hj_141_67 r_61 M_57 _ _ _ iM_57 (rT.trans (rs_of q_58) f_52) (fX.trans q_60 f_53) ((tT_fr q_58).trans f_54) hw (lv_sub hl [1, 0, 2, 3, 4, 5] rfl)
                  refine sb_if_eq (tgt := 118) hx hb rfl dX6_search_108 (by decide) (fun c_108_45 => ?_) (fun c_108_45 => ?_)
                  · exact hj_118_54 M_43 _ _ _ iM_43 (rT.trans (rs_of q_44) (rT.trans (rs_of (rf_Y hM_41)) (rT.trans (rs_TT q_39 (by decide)) f_31))) (fX.trans q_45 (fX.trans (fx_of (ra_Y hM_41)) (fX.trans q_40 f_32))) ((tT_fr q_44).trans ((tT_uYE hM_41).trans ((tT_fr q_39).trans ((tT_n _ _ _ _ (no (by decide))).trans f_33)))) hw (lv_sub hl [0, 1, 2, 3, 4, 5] rfl)
                  · refine lv_aload_n hx hb dX6_search_111 rfl (lv_at hl 4 rfl) ?_
                    refine lv_iload_n hx hb dX6_search_112 rfl (lv_at hl 2 rfl) ?_
                    refine lv_iload hx hb dX6_search_113 (lv_at hl 0 rfl) ?_
                    refine ti_callVv (ci := 6) (av := [.int x_11, .int x_26]) C hw (s_X6_addWay l D A cy hJ M_43 iM_43 x_11 x_26) ⟨ml_X6_87, ym_X6_addWay, yv_X6_addWay, yi_X6_addWay, yc_X6_addWay⟩ yd_X6_addWay ob_50 (by decide) rfl rfl hl.1 (Nat.le_of_ble_eq_true rfl) ⟨by decide, by decide⟩ ⟨Nat.zero_le _, Nat.zero_le _⟩ dX6_search_115 (fun M_48 H locs hp_48 hw => ?_)
                    obtain ⟨iM_48, q_49, q_50⟩ := hp_48
                    exact hj_118_54 M_48 _ _ _ iM_48 (rT.trans (rs_of q_49) (rT.trans (rs_of q_44) (rT.trans (rs_of (rf_Y hM_41)) (rT.trans (rs_TT q_39 (by decide)) f_31)))) (fX.trans q_50 (fX.trans q_45 (fX.trans (fx_of (ra_Y hM_41)) (fX.trans q_40 f_32)))) ((tT_fr q_49).trans ((tT_fr q_44).trans ((tT_uYE hM_41).trans ((tT_fr q_39).trans ((tT_n _ _ _ _ (no (by decide))).trans f_33))))) hw (lv_sub hl [0, 1, 2, 3, 4, 5] rfl)
          exact hl_69_33 ((60 - 0 : Int).toNat + 1) 0 1 M_25 _ _ _ (Nat.lt_succ_self _) (by have lt0 : (0 : Int32).toInt = 0 := (by decide); have lt1 : (1 : Int32).toInt = 1 := (by decide); first | omega | decide) (by have lt0 : (0 : Int32).toInt = 0 := (by decide); have lt1 : (1 : Int32).toInt = 1 := (by decide); first | omega | decide) iM_25 (rT.trans (rs_of (rf_Y hM_25)) (rT.trans (rs_of (rf_I hM_24)) (rT.trans (rs_TT q_22 (by decide)) f_15))) (fX.trans (fx_of (ra_Y hM_25)) (fX.trans (fx_I hM_24 (by decide)) (fX.trans q_23 f_16))) ((tT_uYE hM_25).trans ((tT_uIE hM_24).trans ((tT_fr q_22).trans (tT_u _ _ _ _)))) hw (lv_sub hl [0, 1, 2, 3, 4, 5] rfl)
    exact hl_29_16 ((8 - 0 : Int).toNat + 1) 0 M_6 _ _ _ (Nat.lt_succ_self _) (by have lt0 : (0 : Int32).toInt = 0 := (by decide); first | omega | decide) (by have lt0 : (0 : Int32).toInt = 0 := (by decide); first | omega | decide) iM_6 (rT.trans (rs_of q_7) (rT.trans (rs_of (rf_I hM_4)) (rs_of (rf_I hM_3)))) (fX.trans q_8 (fX.trans (fx_I hM_4 (by decide)) (fx_I hM_3 (by decide)))) hw (lv_sub hl [0, 1, 2, 3] rfl)
  · exact hQ _ _ _ _ _ hw (⟨hI, rT.refl, fX.refl⟩) dX6_search_7
set_option maxHeartbeats 4000000 in
set_option maxRecDepth 100000 in
theorem s_X0_prepare (l : Launch) (D : va_G) (A : Nat → Nat → Nat) (cy : Nat → ClassId) (hJ : ti_inj ti_LT A) (M : ti_M) (hI : cI Tc M) (t : Nat) (ht : t = 3 ∨ t = 4) (hT : tT M 27 0 = some t) : ti_Kv l yX0_prepare cX0_prepare 2 2 ti_LT D A cy M [.ref (A 53 0), .ref (A 27 0)] (fun M2 => cI Tc M2 ∧ M2.2.2.2 = (uT M 54 0 (some t)).2.2.2 ∧ fX M2 M) := by
  refine ti_eV yp_X0_prepare hJ ti_LT_nd (Nat.le_of_ble_eq_true rfl) ?_
  intro p e s m args below meth c Q H0 C hQ hw ls hl
  have hx := C.1
  have hb := C.2.1
  have hl : lv_has ls 2 [(0, .ref (A 53 0)), (1, .ref (A 27 0))] := hl
  refine lv_aload_n hx hb dX0_prepare_0 rfl (lv_at hl 0 rfl) ?_
  refine ti_get (ci := 0) (k := 0) (N := 6) (T := TX0) (v := .ref (A 54 0)) C hw iw_0 rfl ob_53 (by decide) (by decide) fl_X0_12 rfl rfl dX0_prepare_1 ?_
  refine lv_aload_n hx hb dX0_prepare_4 rfl (lv_at hl 1 rfl) ?_
  refine ti_callVv (ci := 3) (av := [.ref (A 27 0)]) C hw (s_X3_copy l D A cy hJ M hI 54 27 t ob_54 ob_27 ht (hT) (fun h => absurd h np_54)) ⟨ml_X0_35, ym_X3_copy, yv_X3_copy, yi_X3_copy, yc_X3_copy⟩ yd_X3_copy ob_54 (by decide) rfl rfl hl.1 (Nat.le_of_ble_eq_true rfl) ⟨by decide, by decide⟩ ⟨Nat.zero_le _, Nat.zero_le _⟩ dX0_prepare_5 (fun M_2 H locs hp_2 hw => ?_)
  obtain ⟨iM_2, q_3, q_4⟩ := hp_2
  refine lv_aload_n hx hb dX0_prepare_8 rfl (lv_at hl 0 rfl) ?_
  refine ti_get (ci := 0) (k := 0) (N := 6) (T := TX0) (v := .ref (A 54 0)) C hw iw_0 rfl ob_53 (by decide) (by decide) fl_X0_12 rfl rfl dX0_prepare_9 ?_
  refine lv_iconst (v := 3) hx hb dX0_prepare_12 (by decide) ?_
  refine ti_putI (ci := 3) (k := 1) (N := 17) (T := TX3) C hw iw_3 tyX3 tyX3_ok nmX3 rfl ob_54 (by decide) (by decide) fl_X0_39 rfl rfl rfl rfl (fn_3 A _) fs_3_1 dX0_prepare_13 (fun H locs hw => ?_)
  obtain ⟨M_5, hM_5⟩ : ∃ z : ti_M, z = uI M_2 54 1 3 := ⟨_, rfl⟩
  have hw := hw.to hM_5.symm
  have iM_5 : cI Tc M_5 := cI_uI iM_2 hM_5 ob_54.1 trivial
  exact hQ _ _ _ _ _ hw (⟨iM_5, ((rf_I hM_5).trans q_3), (fX.trans (fx_I hM_5 (by decide)) q_4)⟩) dX0_prepare_16
set_option maxHeartbeats 4000000 in
set_option maxRecDepth 100000 in
theorem s_X0_servedIn (l : Launch) (D : va_G) (A : Nat → Nat → Nat) (cy : Nat → ClassId) (hJ : ti_inj ti_LT A) (M : ti_M) (hI : cI Tc M) (t : Nat) (ht : t = 3 ∨ t = 4) (hT : tT M 27 0 = some t) (mn : Int32) (h1 : 0 ≤ mn.toInt) (h2 : mn.toInt ≤ 7) : ti_Ki l yX0_servedIn cX0_servedIn 4 (some .int) 5 ti_LT D A cy M [.ref (A 53 0), .ref (A 27 0), .int mn] (fun r M2 => cI Tc M2 ∧ rT M2 M ∧ fX M2 M) := by
  refine ti_eI yp_X0_servedIn hJ ti_LT_nd (Nat.le_of_ble_eq_true rfl) ?_
  intro p e s m args below meth c Q H0 C hQ hw ls hl
  have hx := C.1
  have hb := C.2.1
  have hl : lv_has ls 4 [(0, .ref (A 53 0)), (1, .ref (A 27 0)), (2, .int mn)] := hl
  refine lv_aload_n hx hb dX0_servedIn_0 rfl (lv_at hl 0 rfl) ?_
  refine lv_aload_n hx hb dX0_servedIn_1 rfl (lv_at hl 1 rfl) ?_
  refine ti_callVv (ci := 0) (av := [.ref (A 27 0)]) C hw (s_X0_prepare l D A cy hJ M hI t ht (hT)) ⟨ml_X0_42, ym_X0_prepare, yv_X0_prepare, yi_X0_prepare, yc_X0_prepare⟩ yd_X0_prepare ob_53 (by decide) rfl rfl hl.1 (Nat.le_of_ble_eq_true rfl) ⟨by decide, by decide⟩ ⟨Nat.zero_le _, Nat.zero_le _⟩ dX0_servedIn_2 (fun M_2 H locs hp_2 hw => ?_)
  obtain ⟨iM_2, q_3, q_4⟩ := hp_2
  refine lv_aload_n hx hb dX0_servedIn_5 rfl (lv_at hl 1 rfl) ?_
  refine ti_get (ci := 3) (k := 2) (N := 17) (T := TX3) C hw iw_3 rfl ob_27 (by decide) (by decide) fl_X0_45 rfl rfl dX0_servedIn_6 ?_
  refine lv_topi (fun x_5 ex_5 => ?_)
  have bx_5 : 0 ≤ x_5.toInt ∧ x_5.toInt ≤ 120 := cI_rd iM_2 ob_27.1 ex_5 (Or.inl rfl)
  have ux_5 : (tI M_2 27 2).toInt = x_5.toInt := by rw [ex_5]
  refine lv_istore_n (lv' := [(3, .int x_5), (0, .ref (A 53 0)), (1, .ref (A 27 0)), (2, .int mn)]) hx hb dX0_servedIn_9 rfl hl (by decide) rfl (fun ls hl => ?_)
  have hl_10_12 : ∀ (n_13 : Nat) (x_6 : Int32) (M_9 : ti_M) (H : Heap) (locs : List Loc) (ls : Array Slot), (120 - x_6.toInt : Int).toNat < n_13 → (0 ≤ x_6.toInt) → (x_6.toInt ≤ 120) → (cI Tc M_9) → (rT M_9 M) → (fX M_9 M) → (tT M_9 54 0 = (some t)) → ti_H ti_LT D A cy H0 M_9 H locs → lv_has ls 4 [(3, .int x_6), (0, .ref (A 53 0)), (1, .ref (A 27 0)), (2, .int mn)] → W p l e (ti_rm 5) s m args below meth c H locs 0 0 Q (F0 m 10 ls []) := by
    intro n_13
    induction n_13 with
    | zero => intro x_6 M_9 H locs ls hf_13; exact absurd hf_13 (Nat.not_lt_zero _)
    | succ n_13 ih_13 =>
      intro x_6 M_9 H locs ls hf_13 b_7 b_8 iM_9 f_10 f_11 f_12 hw hl
      refine lv_iload_n hx hb dX0_servedIn_10 rfl (lv_at hl 0 rfl) ?_
      refine lv_bipush (v := 120) hx hb dX0_servedIn_11 (by decide) ?_
      have hj_42_22 : ∀  (H : Heap) (locs : List Loc) (ls : Array Slot), ti_H ti_LT D A cy H0 M_9 H locs → lv_has ls 4 [(3, .int x_6), (0, .ref (A 53 0)), (1, .ref (A 27 0)), (2, .int mn)] → W p l e (ti_rm 5) s m args below meth c H locs 0 0 Q (F0 m 42 ls []) := by
        intro  H locs ls  hw hl
        refine lv_aload_n hx hb dX0_servedIn_42 rfl (lv_at hl 1 rfl) ?_
        refine ti_get (ci := 0) (k := 0) (N := 6) (T := TX0) (v := .ref (A 54 0)) C hw iw_0 rfl ob_53 (by decide) (by decide) fl_X0_12 rfl rfl dX0_servedIn_43 ?_
        refine ti_get (ci := 3) (k := 8) (N := 17) (T := TX3) (v := .ref (A 54 9)) C hw iw_3 rfl ob_54 (by decide) (by decide) fl_X0_48 rfl rfl dX0_servedIn_46 ?_
        refine lv_iload_n hx hb dX0_servedIn_49 rfl (lv_at hl 3 rfl) ?_
        refine ti_iald (ci := 3) (k := 8) (n := 8) C hw ob_54 (by decide) (fun _ _ => rfl) (vp_in_iff.mpr (by omega)) dX0_servedIn_50 ?_
        refine lv_topi (fun x_23 ex_23 => ?_)
        refine lv_iconst (v := 2) hx hb dX0_servedIn_51 (by decide) ?_
        refine sb_icmp_ne (tgt := 67) hx hb rfl (by decide : (2 : Int32).toInt = 2) dX0_servedIn_52 (by decide) (fun c_52_23 => ?_) (fun c_52_23 => ?_)
        · refine lv_bipush (v := (-2)) hx hb dX0_servedIn_67 (by decide) ?_
          exact hQ _ _ _ _ _ _ hw rfl (⟨iM_9, f_10, f_11⟩) dX0_servedIn_69
        · refine lv_aload_n hx hb dX0_servedIn_55 rfl (lv_at hl 1 rfl) ?_
          refine ti_get (ci := 0) (k := 0) (N := 6) (T := TX0) (v := .ref (A 54 0)) C hw iw_0 rfl ob_53 (by decide) (by decide) fl_X0_12 rfl rfl dX0_servedIn_56 ?_
          refine ti_get (ci := 3) (k := 14) (N := 17) (T := TX3) (v := .ref (A 54 15)) C hw iw_3 rfl ob_54 (by decide) (by decide) fl_X0_54 rfl rfl dX0_servedIn_59 ?_
          refine lv_iload_n hx hb dX0_servedIn_62 rfl (lv_at hl 3 rfl) ?_
          refine ti_iald (ci := 3) (k := 14) (n := 8) C hw ob_54 (by decide) (fun _ _ => rfl) (vp_in_iff.mpr (by omega)) dX0_servedIn_63 ?_
          refine lv_topi (fun x_25 ex_25 => ?_)
          refine lv_goto (tgt := 69) hx hb dX0_servedIn_64 (by decide) ?_
          exact hQ _ _ _ _ _ _ hw rfl (⟨iM_9, f_10, f_11⟩) dX0_servedIn_69
      refine sb_icmp_ge (tgt := 42) hx hb rfl (by decide : (120 : Int32).toInt = 120) dX0_servedIn_13 (by decide) (fun c_13_13 => ?_) (fun c_13_13 => ?_)
      · exact hj_42_22  _ _ _  hw (lv_sub hl [0, 1, 2, 3] rfl)
      · refine lv_aload_n hx hb dX0_servedIn_16 rfl (lv_at hl 1 rfl) ?_
        refine ti_get (ci := 0) (k := 0) (N := 6) (T := TX0) (v := .ref (A 54 0)) C hw iw_0 rfl ob_53 (by decide) (by decide) fl_X0_12 rfl rfl dX0_servedIn_17 ?_
        refine ti_get (ci := 3) (k := 8) (N := 17) (T := TX3) (v := .ref (A 54 9)) C hw iw_3 rfl ob_54 (by decide) (by decide) fl_X0_48 rfl rfl dX0_servedIn_20 ?_
        refine lv_iload_n hx hb dX0_servedIn_23 rfl (lv_at hl 3 rfl) ?_
        refine ti_iald (ci := 3) (k := 8) (n := 8) C hw ob_54 (by decide) (fun _ _ => rfl) (vp_in_iff.mpr (by omega)) dX0_servedIn_24 ?_
        refine lv_topi (fun x_15 ex_15 => ?_)
        refine lv_iconst (v := 2) hx hb dX0_servedIn_25 (by decide) ?_
        refine sb_icmp_ge (tgt := 42) hx hb rfl (by decide : (2 : Int32).toInt = 2) dX0_servedIn_26 (by decide) (fun c_26_15 => ?_) (fun c_26_15 => ?_)
        · exact hj_42_22  _ _ _  hw (lv_sub hl [0, 1, 2, 3] rfl)
        · refine lv_aload_n hx hb dX0_servedIn_29 rfl (lv_at hl 1 rfl) ?_
          refine ti_get (ci := 0) (k := 0) (N := 6) (T := TX0) (v := .ref (A 54 0)) C hw iw_0 rfl ob_53 (by decide) (by decide) fl_X0_12 rfl rfl dX0_servedIn_30 ?_
          refine ti_callVv (ci := 3) (av := []) C hw (s_X3_pass l D A cy hJ M_9 iM_9 54 t ob_54 ht (f_12) (fun h => absurd h np_54)) ⟨ml_X0_51, ym_X3_pass, yv_X3_pass, yi_X3_pass, yc_X3_pass⟩ yd_X3_pass ob_54 (by decide) rfl rfl hl.1 (Nat.le_of_ble_eq_true rfl) ⟨by decide, by decide⟩ ⟨Nat.zero_le _, Nat.zero_le _⟩ dX0_servedIn_33 (fun M_18 H locs hp_18 hw => ?_)
          obtain ⟨iM_18, q_19, q_20, q_21⟩ := hp_18
          obtain ⟨x_22, ex_22⟩ : ∃ z : Int32, z = x_6 + 1 := ⟨_, rfl⟩
          have tx_22 : x_22.toInt = x_6.toInt + 1 := i_add ex_22 rfl (by decide) (by omega) (by omega)
          refine lv_iinc (v := x_22) (lv' := [(3, .int x_22), (0, .ref (A 53 0)), (1, .ref (A 27 0)), (2, .int mn)]) hx hb dX0_servedIn_36 hl (k := 0) rfl (by rw [ex_22]; rfl) (by decide) rfl (fun ls hl => ?_)
          refine lv_goto (tgt := 10) hx hb dX0_servedIn_39 (by decide) ?_
          exact ih_13 x_22 M_18 _ _ _ (by omega) (by first | omega | decide) (by first | omega | decide) iM_18 (rT.trans (rs_of q_19) f_10) (fX.trans q_21 f_11) ((tT_fr q_19).trans f_12) hw (lv_sub hl [0, 1, 2, 3] rfl)
  exact hl_10_12 ((120 - x_5.toInt : Int).toNat + 1) x_5 M_2 _ _ _ (Nat.lt_succ_self _) (by first | omega | decide) (by first | omega | decide) iM_2 (rs_TT q_3 (by decide)) q_4 ((tT_fr q_3).trans (tT_u _ _ _ _)) hw (lv_sub hl [0, 1, 2, 3] rfl)
set_option maxHeartbeats 4000000 in
set_option maxRecDepth 100000 in
theorem s_X0_firstToCome (l : Launch) (D : va_G) (A : Nat → Nat → Nat) (cy : Nat → ClassId) (hJ : ti_inj ti_LT A) (M : ti_M) (hI : cI Tc M) (t : Nat) (ht : t = 3 ∨ t = 4) (hT : tT M 27 0 = some t) (mn : Int32) (h1 : 0 ≤ mn.toInt) (h2 : mn.toInt ≤ 7) (pl la : Int32) (h3 : 0 ≤ la.toInt) (h4 : la.toInt ≤ 119) : ti_Ki l yX0_firstToCome cX0_firstToCome 6 (some .int) 6 ti_LT D A cy M [.ref (A 53 0), .ref (A 27 0), .int mn, .int pl, .int la] (fun r M2 => cI Tc M2 ∧ rT M2 M ∧ fX M2 M) := by
  refine ti_eI yp_X0_firstToCome hJ ti_LT_nd (Nat.le_of_ble_eq_true rfl) ?_
  intro p e s m args below meth c Q H0 C hQ hw ls hl
  have hx := C.1
  have hb := C.2.1
  have hl : lv_has ls 6 [(0, .ref (A 53 0)), (1, .ref (A 27 0)), (2, .int mn), (3, .int pl), (4, .int la)] := hl
  refine lv_aload_n hx hb dX0_firstToCome_0 rfl (lv_at hl 0 rfl) ?_
  refine lv_aload_n hx hb dX0_firstToCome_1 rfl (lv_at hl 1 rfl) ?_
  refine ti_callVv (ci := 0) (av := [.ref (A 27 0)]) C hw (s_X0_prepare l D A cy hJ M hI t ht (hT)) ⟨ml_X0_42, ym_X0_prepare, yv_X0_prepare, yi_X0_prepare, yc_X0_prepare⟩ yd_X0_prepare ob_53 (by decide) rfl rfl hl.1 (Nat.le_of_ble_eq_true rfl) ⟨by decide, by decide⟩ ⟨Nat.zero_le _, Nat.zero_le _⟩ dX0_firstToCome_2 (fun M_2 H locs hp_2 hw => ?_)
  obtain ⟨iM_2, q_3, q_4⟩ := hp_2
  refine lv_aload_n hx hb dX0_firstToCome_5 rfl (lv_at hl 0 rfl) ?_
  refine ti_get (ci := 0) (k := 0) (N := 6) (T := TX0) (v := .ref (A 54 0)) C hw iw_0 rfl ob_53 (by decide) (by decide) fl_X0_12 rfl rfl dX0_firstToCome_6 ?_
  refine ti_get (ci := 3) (k := 9) (N := 17) (T := TX3) (v := .ref (A 54 10)) C hw iw_3 rfl ob_54 (by decide) (by decide) fl_X0_57 rfl rfl dX0_firstToCome_9 ?_
  refine lv_iload_n hx hb dX0_firstToCome_12 rfl (lv_at hl 2 rfl) ?_
  refine lv_iconst (v := (-1)) hx hb dX0_firstToCome_13 (by decide) ?_
  refine ti_iast (ci := 3) (k := 9) (n := 8) C hw ob_54 (by decide) (fun _ _ => rfl) (vp_in_iff.mpr (by omega)) dX0_firstToCome_14 (fun H locs hw => ?_)
  obtain ⟨M_5, hM_5⟩ : ∃ z : ti_M, z = uY M_2 54 9 (upd (tY M_2 54 9) (mn : Int32).toNatClampNeg (-1)) := ⟨_, rfl⟩
  have hw := hw.to hM_5.symm
  have iM_5 : cI Tc M_5 := cI_up iM_2 hM_5 ob_54.1 trivial
  refine lv_aload_n hx hb dX0_firstToCome_15 rfl (lv_at hl 1 rfl) ?_
  refine ti_get (ci := 3) (k := 2) (N := 17) (T := TX3) C hw iw_3 rfl ob_27 (by decide) (by decide) fl_X0_45 rfl rfl dX0_firstToCome_16 ?_
  refine lv_topi (fun x_6 ex_6 => ?_)
  have bx_6 : 0 ≤ x_6.toInt ∧ x_6.toInt ≤ 120 := cI_rd iM_5 ob_27.1 ex_6 (Or.inl rfl)
  have ux_6 : (tI M_5 27 2).toInt = x_6.toInt := by rw [ex_6]
  refine lv_istore (lv' := [(5, .int x_6), (0, .ref (A 53 0)), (1, .ref (A 27 0)), (2, .int mn), (3, .int pl), (4, .int la)]) hx hb dX0_firstToCome_19 hl (by decide) rfl (fun ls hl => ?_)
  have hl_21_13 : ∀ (n_14 : Nat) (x_7 : Int32) (M_10 : ti_M) (H : Heap) (locs : List Loc) (ls : Array Slot), (120 - x_7.toInt : Int).toNat < n_14 → (0 ≤ x_7.toInt) → (x_7.toInt ≤ 120) → (cI Tc M_10) → (rT M_10 M) → (fX M_10 M) → (tT M_10 54 0 = (some t)) → ti_H ti_LT D A cy H0 M_10 H locs → lv_has ls 6 [(5, .int x_7), (0, .ref (A 53 0)), (1, .ref (A 27 0)), (2, .int mn), (3, .int pl), (4, .int la)] → W p l e (ti_rm 6) s m args below meth c H locs 0 0 Q (F0 m 21 ls []) := by
    intro n_14
    induction n_14 with
    | zero => intro x_7 M_10 H locs ls hf_14; exact absurd hf_14 (Nat.not_lt_zero _)
    | succ n_14 ih_14 =>
      intro x_7 M_10 H locs ls hf_14 b_8 b_9 iM_10 f_11 f_12 f_13 hw hl
      refine lv_iload hx hb dX0_firstToCome_21 (lv_at hl 0 rfl) ?_
      refine lv_iload hx hb dX0_firstToCome_23 (lv_at hl 5 rfl) ?_
      refine sb_icmp_gt (tgt := 89) hx hb rfl rfl dX0_firstToCome_25 (by decide) (fun c_25_14 => ?_) (fun c_25_14 => ?_)
      · refine lv_bipush (v := (-2)) hx hb dX0_firstToCome_89 (by decide) ?_
        exact hQ _ _ _ _ _ _ hw rfl (⟨iM_10, f_11, f_12⟩) dX0_firstToCome_91
      · refine lv_aload_n hx hb dX0_firstToCome_28 rfl (lv_at hl 1 rfl) ?_
        refine ti_get (ci := 0) (k := 1) (N := 6) (T := TX0) (v := .ref (A 55 0)) C hw iw_0 rfl ob_53 (by decide) (by decide) fl_X0_18 rfl rfl dX0_firstToCome_29 ?_
        refine lv_aload_n hx hb dX0_firstToCome_32 rfl (lv_at hl 1 rfl) ?_
        refine ti_get (ci := 0) (k := 0) (N := 6) (T := TX0) (v := .ref (A 54 0)) C hw iw_0 rfl ob_53 (by decide) (by decide) fl_X0_12 rfl rfl dX0_firstToCome_33 ?_
        refine ti_callVv (ci := 3) (av := [.ref (A 54 0)]) C hw (s_X3_copy l D A cy hJ M_10 iM_10 55 54 t ob_55 ob_54 ht (f_13) (fun h => absurd h np_55)) ⟨ml_X0_35, ym_X3_copy, yv_X3_copy, yi_X3_copy, yc_X3_copy⟩ yd_X3_copy ob_55 (by decide) rfl rfl hl.1 (Nat.le_of_ble_eq_true rfl) ⟨by decide, by decide⟩ ⟨Nat.zero_le _, Nat.zero_le _⟩ dX0_firstToCome_36 (fun M_17 H locs hp_17 hw => ?_)
        obtain ⟨iM_17, q_18, q_19⟩ := hp_17
        refine lv_aload_n hx hb dX0_firstToCome_39 rfl (lv_at hl 1 rfl) ?_
        refine ti_get (ci := 0) (k := 1) (N := 6) (T := TX0) (v := .ref (A 55 0)) C hw iw_0 rfl ob_53 (by decide) (by decide) fl_X0_18 rfl rfl dX0_firstToCome_40 ?_
        refine ti_get (ci := 3) (k := 9) (N := 17) (T := TX3) (v := .ref (A 55 10)) C hw iw_3 rfl ob_55 (by decide) (by decide) fl_X0_57 rfl rfl dX0_firstToCome_43 ?_
        refine lv_iload_n hx hb dX0_firstToCome_46 rfl (lv_at hl 3 rfl) ?_
        refine lv_iload hx hb dX0_firstToCome_47 (lv_at hl 0 rfl) ?_
        refine ti_iast (ci := 3) (k := 9) (n := 8) C hw ob_55 (by decide) (fun _ _ => rfl) (vp_in_iff.mpr (by omega)) dX0_firstToCome_49 (fun H locs hw => ?_)
        obtain ⟨M_20, hM_20⟩ : ∃ z : ti_M, z = uY M_17 55 9 (upd (tY M_17 55 9) (mn : Int32).toNatClampNeg x_7) := ⟨_, rfl⟩
        have hw := hw.to hM_20.symm
        have iM_20 : cI Tc M_20 := cI_up iM_17 hM_20 ob_55.1 trivial
        refine lv_aload_n hx hb dX0_firstToCome_50 rfl (lv_at hl 1 rfl) ?_
        refine ti_get (ci := 0) (k := 1) (N := 6) (T := TX0) (v := .ref (A 55 0)) C hw iw_0 rfl ob_53 (by decide) (by decide) fl_X0_18 rfl rfl dX0_firstToCome_51 ?_
        refine lv_iload hx hb dX0_firstToCome_54 (lv_at hl 5 rfl) ?_
        refine lv_iconst (v := 1) hx hb dX0_firstToCome_56 (by decide) ?_
        refine lv_iadd hx hb dX0_firstToCome_57 ?_
        refine lv_topi (fun x_21 ex_21 => ?_)
        have tx_21 : x_21.toInt = la.toInt + 1 := i_add ex_21 rfl (by decide : (1 : Int32).toInt = 1) (by omega) (by omega)
        refine ti_callVv (ci := 3) (av := [.int x_21]) C hw (s_X3_passTo l D A cy hJ M_20 iM_20 55 t ob_55 ht ((tT_uYE hM_20).trans ((tT_fr q_18).trans (tT_u _ _ _ _))) x_21 np_55) ⟨ml_X0_60, ym_X3_passTo, yv_X3_passTo, yi_X3_passTo, yc_X3_passTo⟩ yd_X3_passTo ob_55 (by decide) rfl rfl hl.1 (Nat.le_of_ble_eq_true rfl) ⟨by decide, by decide⟩ ⟨Nat.zero_le _, Nat.zero_le _⟩ dX0_firstToCome_58 (fun M_23 H locs hp_23 hw => ?_)
        obtain ⟨iM_23, q_24, q_25⟩ := hp_23
        refine lv_aload_n hx hb dX0_firstToCome_61 rfl (lv_at hl 1 rfl) ?_
        refine ti_get (ci := 0) (k := 1) (N := 6) (T := TX0) (v := .ref (A 55 0)) C hw iw_0 rfl ob_53 (by decide) (by decide) fl_X0_18 rfl rfl dX0_firstToCome_62 ?_
        refine lv_iload_n hx hb dX0_firstToCome_65 rfl (lv_at hl 4 rfl) ?_
        refine ti_callVi (ci := 3) (av := [.int pl]) C hw (s_X3_manAt l D A cy hJ M_23 iM_23 55 ob_55 pl) ⟨ml_X0_64, ym_X3_manAt, yv_X3_manAt, yi_X3_manAt, yc_X3_manAt⟩ yd_X3_manAt ob_55 (by decide) rfl rfl hl.1 (Nat.le_of_ble_eq_true rfl) ⟨by decide, by decide⟩ ⟨Nat.zero_le _, Nat.zero_le _⟩ dX0_firstToCome_66 (fun r_26 M_27 H locs hp_27 hw => ?_)
        obtain ⟨hm, b0r_26, b1r_26, p0r_26⟩ := hp_27
        have hw := hw.to hm
        refine lv_iload_n hx hb dX0_firstToCome_69 rfl (lv_at hl 3 rfl) ?_
        refine sb_icmp_ne (tgt := 76) hx hb rfl rfl dX0_firstToCome_70 (by decide) (fun c_70_27 => ?_) (fun c_70_27 => ?_)
        · refine lv_aload_n hx hb dX0_firstToCome_76 rfl (lv_at hl 1 rfl) ?_
          refine ti_get (ci := 0) (k := 0) (N := 6) (T := TX0) (v := .ref (A 54 0)) C hw iw_0 rfl ob_53 (by decide) (by decide) fl_X0_12 rfl rfl dX0_firstToCome_77 ?_
          refine ti_callVv (ci := 3) (av := []) C hw (s_X3_pass l D A cy hJ M_23 iM_23 54 t ob_54 ht ((tT_fr q_24).trans ((tT_uYE hM_20).trans ((tT_fr q_18).trans ((tT_n _ _ _ _ (no (by decide))).trans f_13)))) (fun h => absurd h np_54)) ⟨ml_X0_51, ym_X3_pass, yv_X3_pass, yi_X3_pass, yc_X3_pass⟩ yd_X3_pass ob_54 (by decide) rfl rfl hl.1 (Nat.le_of_ble_eq_true rfl) ⟨by decide, by decide⟩ ⟨Nat.zero_le _, Nat.zero_le _⟩ dX0_firstToCome_80 (fun M_30 H locs hp_30 hw => ?_)
          obtain ⟨iM_30, q_31, q_32, q_33⟩ := hp_30
          obtain ⟨x_34, ex_34⟩ : ∃ z : Int32, z = x_7 + 1 := ⟨_, rfl⟩
          have tx_34 : x_34.toInt = x_7.toInt + 1 := i_add ex_34 rfl (by decide) (by omega) (by omega)
          refine lv_iinc (v := x_34) (lv' := [(5, .int x_34), (0, .ref (A 53 0)), (1, .ref (A 27 0)), (2, .int mn), (3, .int pl), (4, .int la)]) hx hb dX0_firstToCome_83 hl (k := 0) rfl (by rw [ex_34]; rfl) (by decide) rfl (fun ls hl => ?_)
          refine lv_goto (tgt := 21) hx hb dX0_firstToCome_86 (by decide) ?_
          exact ih_14 x_34 M_30 _ _ _ (by omega) (by first | omega | decide) (by first | omega | decide) iM_30 (rT.trans (rs_of q_31) (rT.trans (rs_of q_24) (rT.trans (rs_of (rf_Y hM_20)) (rT.trans (rs_TT q_18 (by decide)) f_11)))) (fX.trans q_33 (fX.trans q_25 (fX.trans (fx_of (ra_Y hM_20)) (fX.trans q_19 f_12)))) ((tT_fr q_31).trans ((tT_fr q_24).trans ((tT_uYE hM_20).trans ((tT_fr q_18).trans ((tT_n _ _ _ _ (no (by decide))).trans f_13))))) hw (lv_sub hl [0, 1, 2, 3, 4, 5] rfl)
        · refine lv_iload hx hb dX0_firstToCome_73 (lv_at hl 0 rfl) ?_
          exact hQ _ _ _ _ _ _ hw rfl (⟨iM_23, (rT.trans (rs_of q_24) (rT.trans (rs_of (rf_Y hM_20)) (rT.trans (rs_TT q_18 (by decide)) f_11))), (fX.trans q_25 (fX.trans (fx_of (ra_Y hM_20)) (fX.trans q_19 f_12)))⟩) dX0_firstToCome_75
  exact hl_21_13 ((120 - x_6.toInt : Int).toNat + 1) x_6 M_5 _ _ _ (Nat.lt_succ_self _) (by first | omega | decide) (by first | omega | decide) iM_5 (rT.trans (rs_of (rf_Y hM_5)) (rs_TT q_3 (by decide))) (fX.trans (fx_of (ra_Y hM_5)) q_4) ((tT_uYE hM_5).trans ((tT_fr q_3).trans (tT_u _ _ _ _))) hw (lv_sub hl [0, 1, 2, 3, 4, 5] rfl)
set_option maxHeartbeats 4000000 in
set_option maxRecDepth 100000 in
theorem s_X0_price (l : Launch) (D : va_G) (A : Nat → Nat → Nat) (cy : Nat → ClassId) (hJ : ti_inj ti_LT A) (M : ti_M) (hI : cI Tc M) (t : Nat) (ht : t = 3 ∨ t = 4) (mn : Int32) : ti_Ki l yX0_price cX0_price 4 (some .int) 0 ti_LT D A cy M [.ref (A t 0), .int mn] (fun r M2 => M2 = M) := by
  refine ti_eI yp_X0_price hJ ti_LT_nd (Nat.le_of_ble_eq_true rfl) ?_
  intro p e s m args below meth c Q H0 C hQ hw ls hl
  have hx := C.1
  have hb := C.2.1
  have hl : lv_has ls 4 [(0, .ref (A t 0)), (1, .int mn)] := hl
  refine lv_iconst (v := 0) hx hb dX0_price_0 (by decide) ?_
  refine lv_istore_n (lv' := [(2, .int 0), (0, .ref (A t 0)), (1, .int mn)]) hx hb dX0_price_1 rfl hl (by decide) rfl (fun ls hl => ?_)
  refine lv_iconst (v := 0) hx hb dX0_price_2 (by decide) ?_
  refine lv_istore_n (lv' := [(3, .int 0), (2, .int 0), (0, .ref (A t 0)), (1, .int mn)]) hx hb dX0_price_3 rfl hl (by decide) rfl (fun ls hl => ?_)
  have hl_4_4 : ∀ (n_5 : Nat) (x_1 : Int32) (x_4 : Int32) (H : Heap) (locs : List Loc) (ls : Array Slot), (8 - x_1.toInt : Int).toNat < n_5 → (0 ≤ x_1.toInt) → (x_1.toInt ≤ 8) → ti_H ti_LT D A cy H0 M H locs → lv_has ls 4 [(3, .int x_1), (2, .int x_4), (0, .ref (A t 0)), (1, .int mn)] → W p l e (ti_rm 0) s m args below meth c H locs 0 0 Q (F0 m 4 ls []) := by
    intro n_5
    induction n_5 with
    | zero => intro x_1 x_4 H locs ls hf_5; exact absurd hf_5 (Nat.not_lt_zero _)
    | succ n_5 ih_5 =>
      intro x_1 x_4 H locs ls hf_5 b_2 b_3 hw hl
      refine lv_iload_n hx hb dX0_price_4 rfl (lv_at hl 0 rfl) ?_
      refine lv_aload_n hx hb dX0_price_5 rfl (lv_at hl 2 rfl) ?_
      refine ti_get (ci := 8) (k := 4) (N := 12) (T := TX8) C hw iw_8 rfl (ob_t ht) (by decide) (by decide) fl_X0_106 rfl rfl dX0_price_6 ?_
      refine lv_topi (fun x_6 ex_6 => ?_)
      have bx_6 : 0 ≤ x_6.toInt ∧ x_6.toInt ≤ 8 := cI_rd hI (ob_t ht).1 ex_6
      have ux_6 : (tI M t 4).toInt = x_6.toInt := by rw [ex_6]
      refine sb_icmp_ge (tgt := 38) hx hb rfl rfl dX0_price_9 (by decide) (fun c_9_6 => ?_) (fun c_9_6 => ?_)
      · refine lv_iload_n hx hb dX0_price_38 rfl (lv_at hl 1 rfl) ?_
        exact hQ _ _ _ _ _ _ hw rfl rfl dX0_price_39
      · refine lv_iload_n hx hb dX0_price_12 rfl (lv_at hl 3 rfl) ?_
        refine lv_iload_n hx hb dX0_price_13 rfl (lv_at hl 0 rfl) ?_
        refine lv_ishr hx hb dX0_price_14 ?_
        refine lv_topi (fun x_8 ex_8 => ?_)
        refine lv_iconst (v := 1) hx hb dX0_price_15 (by decide) ?_
        refine lv_iand hx hb dX0_price_16 ?_
        refine lv_topi (fun x_9 ex_9 => ?_)
        have bx_9 := i_and 1 ex_9 (by decide) (by decide)
        have hj_32_14 : ∀ (x_14 : Int32) (H : Heap) (locs : List Loc) (ls : Array Slot), ti_H ti_LT D A cy H0 M H locs → lv_has ls 4 [(3, .int x_1), (2, .int x_14), (0, .ref (A t 0)), (1, .int mn)] → W p l e (ti_rm 0) s m args below meth c H locs 0 0 Q (F0 m 32 ls []) := by
          intro x_14 H locs ls  hw hl
          obtain ⟨x_15, ex_15⟩ : ∃ z : Int32, z = x_1 + 1 := ⟨_, rfl⟩
          have tx_15 : x_15.toInt = x_1.toInt + 1 := i_add ex_15 rfl (by decide) (by omega) (by omega)
          refine lv_iinc (v := x_15) (lv' := [(3, .int x_15), (2, .int x_14), (0, .ref (A t 0)), (1, .int mn)]) hx hb dX0_price_32 hl (k := 0) rfl (by rw [ex_15]; rfl) (by decide) rfl (fun ls hl => ?_)
          refine lv_goto (tgt := 4) hx hb dX0_price_35 (by decide) ?_
          exact ih_5 x_15 x_14 _ _ _ (by omega) (by first | omega | decide) (by first | omega | decide) hw (lv_sub hl [0, 1, 2, 3] rfl)
        refine sb_if_eq (tgt := 32) hx hb rfl dX0_price_17 (by decide) (fun c_17_9 => ?_) (fun c_17_9 => ?_)
        · exact hj_32_14 x_4 _ _ _  hw (lv_sub hl [0, 1, 2, 3] rfl)
        · refine lv_iload_n hx hb dX0_price_20 rfl (lv_at hl 1 rfl) ?_
          refine lv_aload_n hx hb dX0_price_21 rfl (lv_at hl 2 rfl) ?_
          refine ti_get (ci := 8) (k := 0) (N := 12) (T := TX8) (v := .ref (A t 1)) C hw iw_8 rfl (ob_t ht) (by decide) (by decide) fl_X0_84 rfl rfl dX0_price_22 ?_
          refine lv_iload_n hx hb dX0_price_25 rfl (lv_at hl 0 rfl) ?_
          refine ti_aald (ci := 8) (k := 0) (n := 8) (t0 := 5) (Cn := RX2) (gg := (ti_men t)) (j := x_1.toNatClampNeg) C hw (ob_t ht) (by decide) (fun _ _ => rfl) rfl (vp_in_iff.mpr (by omega)) rfl dX0_price_26 ?_
          have ob_11 : ti_ob ti_LT (ti_men t x_1.toNatClampNeg) 2 := ob_m ht (i_nt rfl (by omega) (by omega))
          refine ti_get (ci := 2) (k := 6) (N := 10) (T := TX2) C hw iw_2 rfl ob_11 (by decide) (by decide) fl_X0_109 rfl rfl dX0_price_27 ?_
          refine lv_topi (fun x_12 ex_12 => ?_)
          refine lv_iadd hx hb dX0_price_30 ?_
          refine lv_topi (fun x_13 ex_13 => ?_)
          refine lv_istore_n (lv' := [(2, .int x_13), (3, .int x_1), (0, .ref (A t 0)), (1, .int mn)]) hx hb dX0_price_31 rfl hl (by decide) rfl (fun ls hl => ?_)
          exact hj_32_14 x_13 _ _ _  hw (lv_sub hl [1, 0, 2, 3] rfl)
  exact hl_4_4 ((8 - 0 : Int).toNat + 1) 0 0 _ _ _ (Nat.lt_succ_self _) (by have lt0 : (0 : Int32).toInt = 0 := (by decide); first | omega | decide) (by have lt0 : (0 : Int32).toInt = 0 := (by decide); first | omega | decide) hw (lv_sub hl [0, 1, 2, 3] rfl)
set_option maxHeartbeats 4000000 in
set_option maxRecDepth 100000 in
theorem s_X0_bribes (l : Launch) (D : va_G) (A : Nat → Nat → Nat) (cy : Nat → ClassId) (hJ : ti_inj ti_LT A) (M : ti_M) (hI : cI Tc M) (t : Nat) (ht : t = 3 ∨ t = 4) (hT : tT M 27 0 = some t) (kk mm wh : Int32) : ti_Ki l yX0_bribes cX0_bribes 12 (some .int) 2 ti_LT D A cy M [.ref (A 53 0), .ref (A 27 0), .int kk, .int mm, .int wh] (fun r M2 => M2 = M) := by
  refine ti_eI yp_X0_bribes hJ ti_LT_nd (Nat.le_of_ble_eq_true rfl) ?_
  intro p e s m args below meth c Q H0 C hQ hw ls hl
  have hx := C.1
  have hb := C.2.1
  have hl : lv_has ls 12 [(0, .ref (A 53 0)), (1, .ref (A 27 0)), (2, .int kk), (3, .int mm), (4, .int wh)] := hl
  refine lv_iload_n hx hb dX0_bribes_0 rfl (lv_at hl 2 rfl) ?_
  refine lv_aload_n hx hb dX0_bribes_1 rfl (lv_at hl 1 rfl) ?_
  refine ti_get (ci := 3) (k := 3) (N := 17) (T := TX3) C hw iw_3 rfl ob_27 (by decide) (by decide) fl_X0_68 rfl rfl dX0_bribes_2 ?_
  refine lv_topi (fun x_1 ex_1 => ?_)
  have bx_1 : 0 ≤ x_1.toInt ∧ x_1.toInt ≤ 8 := cI_rd hI ob_27.1 ex_1
  have ux_1 : (tI M 27 3).toInt = x_1.toInt := by rw [ex_1]
  refine ti_min C ml_X0_71 hl.1 (by decide) (Nat.le_of_ble_eq_true rfl) ⟨Nat.zero_le _, Nat.zero_le _⟩ dX0_bribes_5 ?_
  refine lv_topi (fun x_2 ex_2 => ?_)
  have bx_2 := i_min ex_2 rfl rfl
  refine lv_istore (lv' := [(5, .int x_2), (0, .ref (A 53 0)), (1, .ref (A 27 0)), (2, .int kk), (3, .int mm), (4, .int wh)]) hx hb dX0_bribes_8 hl (by decide) rfl (fun ls hl => ?_)
  refine lv_iload hx hb dX0_bribes_10 (lv_at hl 0 rfl) ?_
  refine lv_iload_n hx hb dX0_bribes_12 rfl (lv_at hl 4 rfl) ?_
  refine sb_icmp_ge (tgt := 19) hx hb rfl rfl dX0_bribes_13 (by decide) (fun c_13_2 => ?_) (fun c_13_2 => ?_)
  · refine lv_iconst (v := 0) hx hb dX0_bribes_19 (by decide) ?_
    refine lv_istore (lv' := [(6, .int 0), (5, .int x_2), (0, .ref (A 53 0)), (1, .ref (A 27 0)), (2, .int kk), (3, .int mm), (4, .int wh)]) hx hb dX0_bribes_20 hl (by decide) rfl (fun ls hl => ?_)
    refine lv_iconst (v := 0) hx hb dX0_bribes_22 (by decide) ?_
    refine lv_istore (lv' := [(7, .int 0), (6, .int 0), (5, .int x_2), (0, .ref (A 53 0)), (1, .ref (A 27 0)), (2, .int kk), (3, .int mm), (4, .int wh)]) hx hb dX0_bribes_23 hl (by decide) rfl (fun ls hl => ?_)
    have hl_25_7 : ∀ (n_8 : Nat) (x_4 : Int32) (x_7 : Int32) (H : Heap) (locs : List Loc) (ls : Array Slot), (8 - x_4.toInt : Int).toNat < n_8 → (0 ≤ x_4.toInt) → (x_4.toInt ≤ 8) → ti_H ti_LT D A cy H0 M H locs → lv_has ls 12 [(7, .int x_4), (6, .int x_7), (5, .int x_2), (0, .ref (A 53 0)), (1, .ref (A 27 0)), (2, .int kk), (3, .int mm), (4, .int wh)] → W p l e (ti_rm 2) s m args below meth c H locs 0 0 Q (F0 m 25 ls []) := by
      intro n_8
      induction n_8 with
      | zero => intro x_4 x_7 H locs ls hf_8; exact absurd hf_8 (Nat.not_lt_zero _)
      | succ n_8 ih_8 =>
        intro x_4 x_7 H locs ls hf_8 b_5 b_6 hw hl
        refine lv_iload hx hb dX0_bribes_25 (lv_at hl 0 rfl) ?_
        refine lv_iload hx hb dX0_bribes_27 (lv_at hl 2 rfl) ?_
        refine sb_icmp_ge (tgt := 76) hx hb rfl rfl dX0_bribes_29 (by decide) (fun c_29_8 => ?_) (fun c_29_8 => ?_)
        · refine lv_iload_n hx hb dX0_bribes_76 rfl (lv_at hl 6 rfl) ?_
          refine lv_iload hx hb dX0_bribes_77 (lv_at hl 2 rfl) ?_
          refine lv_iload hx hb dX0_bribes_79 (lv_at hl 1 rfl) ?_
          refine ti_callSi (av := [.int x_7]) C hw (s_J6_bitCount_0f7a4 l D A cy hJ M hI x_7) ⟨ml_X0_96, ys_J6_bitCount_0f7a4, yi_J6_bitCount_0f7a4, yc_J6_bitCount_0f7a4⟩ yd_J6_bitCount_0f7a4 rfl hl.1 (Nat.le_of_ble_eq_true rfl) ⟨by decide, by decide⟩ ⟨Nat.zero_le _, Nat.zero_le _⟩ dX0_bribes_81 (fun r_18 M_19 H locs hp_19 hw => ?_)
          have hm := hp_19
          have hw := hw.to hm
          refine lv_isub hx hb dX0_bribes_84 ?_
          refine lv_topi (fun x_20 ex_20 => ?_)
          refine lv_isub hx hb dX0_bribes_85 ?_
          refine lv_topi (fun x_21 ex_21 => ?_)
          refine lv_istore (lv' := [(7, .int x_21), (6, .int x_7), (5, .int x_2), (0, .ref (A 53 0)), (1, .ref (A 27 0)), (2, .int kk), (3, .int mm), (4, .int wh)]) hx hb dX0_bribes_86 hl (by decide) rfl (fun ls hl => ?_)
          refine lv_ldc (v := 2147483647) hx hb C.2.2.2.1 (C.2.2.1 _ cn_X0_101) dX0_bribes_88 ?_
          refine lv_istore (lv' := [(8, .int 2147483647), (7, .int x_21), (6, .int x_7), (5, .int x_2), (0, .ref (A 53 0)), (1, .ref (A 27 0)), (2, .int kk), (3, .int mm), (4, .int wh)]) hx hb dX0_bribes_90 hl (by decide) rfl (fun ls hl => ?_)
          refine lv_iconst (v := 0) hx hb dX0_bribes_92 (by decide) ?_
          refine lv_istore (lv' := [(9, .int 0), (8, .int 2147483647), (7, .int x_21), (6, .int x_7), (5, .int x_2), (0, .ref (A 53 0)), (1, .ref (A 27 0)), (2, .int kk), (3, .int mm), (4, .int wh)]) hx hb dX0_bribes_93 hl (by decide) rfl (fun ls hl => ?_)
          refine lv_iconst (v := 0) hx hb dX0_bribes_95 (by decide) ?_
          refine lv_istore (lv' := [(10, .int 0), (9, .int 0), (8, .int 2147483647), (7, .int x_21), (6, .int x_7), (5, .int x_2), (0, .ref (A 53 0)), (1, .ref (A 27 0)), (2, .int kk), (3, .int mm), (4, .int wh)]) hx hb dX0_bribes_96 hl (by decide) rfl (fun ls hl => ?_)
          have hl_98_26 : ∀ (n_27 : Nat) (x_22 : Int32) (x_25 : Int32) (x_26 : Int32) (H : Heap) (locs : List Loc) (ls : Array Slot), (256 - x_22.toInt : Int).toNat < n_27 → (0 ≤ x_22.toInt) → (x_22.toInt ≤ 256) → ti_H ti_LT D A cy H0 M H locs → lv_has ls 12 [(10, .int x_22), (9, .int x_25), (8, .int x_26), (7, .int x_21), (6, .int x_7), (5, .int x_2), (0, .ref (A 53 0)), (1, .ref (A 27 0)), (2, .int kk), (3, .int mm), (4, .int wh)] → W p l e (ti_rm 2) s m args below meth c H locs 0 0 Q (F0 m 98 ls []) := by
            intro n_27
            induction n_27 with
            | zero => intro x_22 x_25 x_26 H locs ls hf_27; exact absurd hf_27 (Nat.not_lt_zero _)
            | succ n_27 ih_27 =>
              intro x_22 x_25 x_26 H locs ls hf_27 b_23 b_24 hw hl
              refine lv_iload hx hb dX0_bribes_98 (lv_at hl 0 rfl) ?_
              refine lv_sipush (v := 256) hx hb dX0_bribes_100 (by decide) ?_
              refine sb_icmp_ge (tgt := 158) hx hb rfl (by decide : (256 : Int32).toInt = 256) dX0_bribes_103 (by decide) (fun c_103_27 => ?_) (fun c_103_27 => ?_)
              · refine lv_iload hx hb dX0_bribes_158 (lv_at hl 10 rfl) ?_
                refine sb_if_ne (tgt := 168) hx hb rfl dX0_bribes_160 (by decide) (fun c_160_40 => ?_) (fun c_160_40 => ?_)
                · refine lv_iload hx hb dX0_bribes_168 (lv_at hl 1 rfl) ?_
                  exact hQ _ _ _ _ _ _ hw rfl rfl dX0_bribes_170
                · refine lv_iload hx hb dX0_bribes_163 (lv_at hl 2 rfl) ?_
                  refine lv_goto (tgt := 170) hx hb dX0_bribes_165 (by decide) ?_
                  exact hQ _ _ _ _ _ _ hw rfl rfl dX0_bribes_170
              · refine lv_iload hx hb dX0_bribes_106 (lv_at hl 0 rfl) ?_
                refine lv_iload hx hb dX0_bribes_108 (lv_at hl 4 rfl) ?_
                refine lv_iconst (v := (-1)) hx hb dX0_bribes_110 (by decide) ?_
                refine lv_ixor hx hb dX0_bribes_111 ?_
                refine lv_topi (fun x_29 ex_29 => ?_)
                refine lv_iand hx hb dX0_bribes_112 ?_
                refine lv_topi (fun x_30 ex_30 => ?_)
                have hj_152_39 : ∀ (x_38 : Int32) (x_39 : Int32) (H : Heap) (locs : List Loc) (ls : Array Slot), ti_H ti_LT D A cy H0 M H locs → lv_has ls 12 [(10, .int x_22), (9, .int x_38), (8, .int x_39), (7, .int x_21), (6, .int x_7), (5, .int x_2), (0, .ref (A 53 0)), (1, .ref (A 27 0)), (2, .int kk), (3, .int mm), (4, .int wh)] → W p l e (ti_rm 2) s m args below meth c H locs 0 0 Q (F0 m 152 ls []) := by
                  intro x_38 x_39 H locs ls  hw hl
                  obtain ⟨x_40, ex_40⟩ : ∃ z : Int32, z = x_22 + 1 := ⟨_, rfl⟩
                  have tx_40 : x_40.toInt = x_22.toInt + 1 := i_add ex_40 rfl (by decide) (by omega) (by omega)
                  refine lv_iinc (v := x_40) (lv' := [(10, .int x_40), (9, .int x_38), (8, .int x_39), (7, .int x_21), (6, .int x_7), (5, .int x_2), (0, .ref (A 53 0)), (1, .ref (A 27 0)), (2, .int kk), (3, .int mm), (4, .int wh)]) hx hb dX0_bribes_152 hl (k := 0) rfl (by rw [ex_40]; rfl) (by decide) rfl (fun ls hl => ?_)
                  refine lv_goto (tgt := 98) hx hb dX0_bribes_155 (by decide) ?_
                  exact ih_27 x_40 x_38 x_39 _ _ _ (by omega) (by first | omega | decide) (by first | omega | decide) hw (lv_sub hl [0, 1, 2, 3, 4, 5, 6, 7, 8, 9, 10] rfl)
                refine sb_if_ne (tgt := 152) hx hb rfl dX0_bribes_113 (by decide) (fun c_113_30 => ?_) (fun c_113_30 => ?_)
                · exact hj_152_39 x_25 x_26 _ _ _  hw (lv_sub hl [0, 1, 2, 3, 4, 5, 6, 7, 8, 9, 10] rfl)
                · refine lv_iload hx hb dX0_bribes_116 (lv_at hl 0 rfl) ?_
                  refine ti_callSi (av := [.int x_22]) C hw (s_J6_bitCount_0f7a4 l D A cy hJ M hI x_22) ⟨ml_X0_96, ys_J6_bitCount_0f7a4, yi_J6_bitCount_0f7a4, yc_J6_bitCount_0f7a4⟩ yd_J6_bitCount_0f7a4 rfl hl.1 (Nat.le_of_ble_eq_true rfl) ⟨by decide, by decide⟩ ⟨Nat.zero_le _, Nat.zero_le _⟩ dX0_bribes_118 (fun r_32 M_33 H locs hp_33 hw => ?_)
                  have hm := hp_33
                  have hw := hw.to hm
                  refine lv_iload hx hb dX0_bribes_121 (lv_at hl 3 rfl) ?_
                  refine sb_icmp_lt (tgt := 152) hx hb rfl rfl dX0_bribes_123 (by decide) (fun c_123_33 => ?_) (fun c_123_33 => ?_)
                  · exact hj_152_39 x_25 x_26 _ _ _  hw (lv_sub hl [0, 1, 2, 3, 4, 5, 6, 7, 8, 9, 10] rfl)
                  · refine lv_aload_n hx hb dX0_bribes_126 rfl (lv_at hl 7 rfl) ?_
                    refine ti_get (ci := 3) (k := 0) (N := 17) (T := TX3) (v := .ref (A t 0)) C hw iw_3 rfl ob_27 (by decide) (by decide) fl_X0_80 rfl (ti_Tv (hT)) dX0_bribes_127 ?_
                    refine lv_iload hx hb dX0_bribes_130 (lv_at hl 0 rfl) ?_
                    refine ti_callSi (av := [.ref (A t 0), .int x_22]) C hw (s_X0_price l D A cy hJ M hI t ht x_22) ⟨ml_X0_102, ys_X0_price, yi_X0_price, yc_X0_price⟩ yd_X0_price rfl hl.1 (Nat.le_of_ble_eq_true rfl) ⟨by decide, by decide⟩ ⟨Nat.zero_le _, Nat.zero_le _⟩ dX0_bribes_132 (fun r_35 M_36 H locs hp_36 hw => ?_)
                    have hm := hp_36
                    have hw := hw.to hm
                    refine lv_istore (lv' := [(11, .int r_35), (10, .int x_22), (9, .int x_25), (8, .int x_26), (7, .int x_21), (6, .int x_7), (5, .int x_2), (0, .ref (A 53 0)), (1, .ref (A 27 0)), (2, .int kk), (3, .int mm), (4, .int wh)]) hx hb dX0_bribes_135 hl (by decide) rfl (fun ls hl => ?_)
                    refine lv_iload hx hb dX0_bribes_137 (lv_at hl 0 rfl) ?_
                    refine lv_iload hx hb dX0_bribes_139 (lv_at hl 3 rfl) ?_
                    refine sb_icmp_ge (tgt := 152) hx hb rfl rfl dX0_bribes_141 (by decide) (fun c_141_36 => ?_) (fun c_141_36 => ?_)
                    · exact hj_152_39 x_25 x_26 _ _ _  hw (lv_sub hl [1, 2, 3, 4, 5, 6, 7, 8, 9, 10, 11] rfl)
                    · refine lv_iload hx hb dX0_bribes_144 (lv_at hl 0 rfl) ?_
                      refine lv_istore (lv' := [(8, .int r_35), (11, .int r_35), (10, .int x_22), (9, .int x_25), (7, .int x_21), (6, .int x_7), (5, .int x_2), (0, .ref (A 53 0)), (1, .ref (A 27 0)), (2, .int kk), (3, .int mm), (4, .int wh)]) hx hb dX0_bribes_146 hl (by decide) rfl (fun ls hl => ?_)
                      refine lv_iload hx hb dX0_bribes_148 (lv_at hl 2 rfl) ?_
                      refine lv_istore (lv' := [(9, .int x_22), (8, .int r_35), (11, .int r_35), (10, .int x_22), (7, .int x_21), (6, .int x_7), (5, .int x_2), (0, .ref (A 53 0)), (1, .ref (A 27 0)), (2, .int kk), (3, .int mm), (4, .int wh)]) hx hb dX0_bribes_150 hl (by decide) rfl (fun ls hl => ?_)
                      exact hj_152_39 x_22 r_35 _ _ _  hw (lv_sub hl [3, 0, 1, 4, 5, 6, 7, 8, 9, 10, 11] rfl)
          exact hl_98_26 ((256 - 0 : Int).toNat + 1) 0 0 2147483647 _ _ _ (Nat.lt_succ_self _) (by have lt0 : (0 : Int32).toInt = 0 := (by decide); have lt1 : (2147483647 : Int32).toInt = 2147483647 := (by decide); first | omega | decide) (by have lt0 : (0 : Int32).toInt = 0 := (by decide); have lt1 : (2147483647 : Int32).toInt = 2147483647 := (by decide); first | omega | decide) hw (lv_sub hl [0, 1, 2, 3, 4, 5, 6, 7, 8, 9, 10] rfl)
        · refine lv_aload_n hx hb dX0_bribes_32 rfl (lv_at hl 4 rfl) ?_
          refine ti_get (ci := 3) (k := 6) (N := 17) (T := TX3) (v := .ref (A 27 7)) C hw iw_3 rfl ob_27 (by decide) (by decide) fl_X0_77 rfl rfl dX0_bribes_33 ?_
          refine lv_iload hx hb dX0_bribes_36 (lv_at hl 0 rfl) ?_
          refine ti_iald (ci := 3) (k := 6) (n := 8) C hw ob_27 (by decide) (fun _ _ => rfl) (vp_in_iff.mpr (by omega)) dX0_bribes_38 ?_
          refine lv_topi (fun x_10 ex_10 => ?_)
          have bx_10 : 0 ≤ x_10.toInt ∧ x_10.toInt ≤ 7 := cI_ry hI ob_27.1 ex_10
          refine lv_istore (lv' := [(8, .int x_10), (7, .int x_4), (6, .int x_7), (5, .int x_2), (0, .ref (A 53 0)), (1, .ref (A 27 0)), (2, .int kk), (3, .int mm), (4, .int wh)]) hx hb dX0_bribes_39 hl (by decide) rfl (fun ls hl => ?_)
          refine lv_iload hx hb dX0_bribes_41 (lv_at hl 2 rfl) ?_
          refine lv_aload_n hx hb dX0_bribes_43 rfl (lv_at hl 5 rfl) ?_
          refine ti_get (ci := 3) (k := 0) (N := 17) (T := TX3) (v := .ref (A t 0)) C hw iw_3 rfl ob_27 (by decide) (by decide) fl_X0_80 rfl (ti_Tv (hT)) dX0_bribes_44 ?_
          refine ti_get (ci := 8) (k := 0) (N := 12) (T := TX8) (v := .ref (A t 1)) C hw iw_8 rfl (ob_t ht) (by decide) (by decide) fl_X0_84 rfl rfl dX0_bribes_47 ?_
          refine lv_iload hx hb dX0_bribes_50 (lv_at hl 0 rfl) ?_
          refine ti_aald (ci := 8) (k := 0) (n := 8) (t0 := 5) (Cn := RX2) (gg := (ti_men t)) (j := x_10.toNatClampNeg) C hw (ob_t ht) (by decide) (fun _ _ => rfl) rfl (vp_in_iff.mpr (by omega)) rfl dX0_bribes_52 ?_
          have ob_11 : ti_ob ti_LT (ti_men t x_10.toNatClampNeg) 2 := ob_m ht (i_nt rfl (by omega) (by omega))
          refine ti_get (ci := 2) (k := 8) (N := 10) (T := TX2) C hw iw_2 rfl ob_11 (by decide) (by decide) fl_X0_90 rfl rfl dX0_bribes_53 ?_
          refine lv_topi (fun x_12 ex_12 => ?_)
          have hj_67_15 : ∀ (x_15 : Int32) (H : Heap) (locs : List Loc) (ls : Array Slot), ti_H ti_LT D A cy H0 M H locs → lv_has ls 12 [(8, .int x_10), (7, .int x_4), (6, .int x_7), (5, .int x_2), (0, .ref (A 53 0)), (1, .ref (A 27 0)), (2, .int kk), (3, .int mm), (4, .int wh)] → W p l e (ti_rm 2) s m args below meth c H locs 0 0 Q (F0 m 67 ls [.int x_15, .int x_7]) := by
            intro x_15 H locs ls  hw hl
            refine lv_ior hx hb dX0_bribes_67 ?_
            refine lv_topi (fun x_16 ex_16 => ?_)
            refine lv_istore (lv' := [(6, .int x_16), (8, .int x_10), (7, .int x_4), (5, .int x_2), (0, .ref (A 53 0)), (1, .ref (A 27 0)), (2, .int kk), (3, .int mm), (4, .int wh)]) hx hb dX0_bribes_68 hl (by decide) rfl (fun ls hl => ?_)
            obtain ⟨x_17, ex_17⟩ : ∃ z : Int32, z = x_4 + 1 := ⟨_, rfl⟩
            have tx_17 : x_17.toInt = x_4.toInt + 1 := i_add ex_17 rfl (by decide) (by omega) (by omega)
            refine lv_iinc (v := x_17) (lv' := [(7, .int x_17), (6, .int x_16), (8, .int x_10), (5, .int x_2), (0, .ref (A 53 0)), (1, .ref (A 27 0)), (2, .int kk), (3, .int mm), (4, .int wh)]) hx hb dX0_bribes_70 hl (k := 2) rfl (by rw [ex_17]; rfl) (by decide) rfl (fun ls hl => ?_)
            refine lv_goto (tgt := 25) hx hb dX0_bribes_73 (by decide) ?_
            exact ih_8 x_17 x_16 _ _ _ (by omega) (by first | omega | decide) (by first | omega | decide) hw (lv_sub hl [0, 1, 3, 4, 5, 6, 7, 8] rfl)
          refine sb_if_eq (tgt := 63) hx hb rfl dX0_bribes_56 (by decide) (fun c_56_12 => ?_) (fun c_56_12 => ?_)
          · refine lv_iconst (v := 1) hx hb dX0_bribes_63 (by decide) ?_
            refine lv_iload hx hb dX0_bribes_64 (lv_at hl 0 rfl) ?_
            refine lv_ishl hx hb dX0_bribes_66 ?_
            refine lv_topi (fun x_14 ex_14 => ?_)
            exact hj_67_15 x_14 _ _ _  hw (lv_sub hl [0, 1, 2, 3, 4, 5, 6, 7, 8] rfl)
          · refine lv_iconst (v := 0) hx hb dX0_bribes_59 (by decide) ?_
            refine lv_goto (tgt := 67) hx hb dX0_bribes_60 (by decide) ?_
            exact hj_67_15 0 _ _ _  hw (lv_sub hl [0, 1, 2, 3, 4, 5, 6, 7, 8] rfl)
    exact hl_25_7 ((8 - 0 : Int).toNat + 1) 0 0 _ _ _ (Nat.lt_succ_self _) (by have lt0 : (0 : Int32).toInt = 0 := (by decide); first | omega | decide) (by have lt0 : (0 : Int32).toInt = 0 := (by decide); first | omega | decide) hw (lv_sub hl [0, 1, 2, 3, 4, 5, 6, 7] rfl)
  · refine lv_bipush (v := (-2)) hx hb dX0_bribes_16 (by decide) ?_
    exact hQ _ _ _ _ _ _ hw rfl rfl dX0_bribes_18
set_option maxHeartbeats 4000000 in
set_option maxRecDepth 100000 in
theorem s_X0_plotters (l : Launch) (D : va_G) (A : Nat → Nat → Nat) (cy : Nat → ClassId) (hJ : ti_inj ti_LT A) (M : ti_M) (hI : cI Tc M) (t : Nat) (ht : t = 3 ∨ t = 4) (hT : tT M 27 0 = some t) : ti_Ki l yX0_plotters cX0_plotters 5 (some .int) 3 ti_LT D A cy M [.ref (A 53 0), .ref (A 27 0)] (fun r M2 => cI Tc M2 ∧ rT M2 M ∧ fX M2 M) := by
  refine ti_eI yp_X0_plotters hJ ti_LT_nd (Nat.le_of_ble_eq_true rfl) ?_
  intro p e s m args below meth c Q H0 C hQ hw ls hl
  have hx := C.1
  have hb := C.2.1
  have hl : lv_has ls 5 [(0, .ref (A 53 0)), (1, .ref (A 27 0))] := hl
  refine lv_aload_n hx hb dX0_plotters_0 rfl (lv_at hl 1 rfl) ?_
  refine ti_callVi (ci := 3) (av := []) C hw (s_X3_need l D A cy hJ M hI 27 t ob_27 ht (hT)) ⟨ml_X0_112, ym_X3_need, yv_X3_need, yi_X3_need, yc_X3_need⟩ yd_X3_need ob_27 (by decide) rfl rfl hl.1 (Nat.le_of_ble_eq_true rfl) ⟨by decide, by decide⟩ ⟨Nat.zero_le _, Nat.zero_le _⟩ dX0_plotters_1 (fun r_1 M_2 H locs hp_2 hw => ?_)
  obtain ⟨iM_2, q_3, q_4⟩ := hp_2
  refine lv_istore_n (lv' := [(2, .int r_1), (0, .ref (A 53 0)), (1, .ref (A 27 0))]) hx hb dX0_plotters_4 rfl hl (by decide) rfl (fun ls hl => ?_)
  refine lv_aload_n hx hb dX0_plotters_5 rfl (lv_at hl 2 rfl) ?_
  refine ti_callVi (ci := 3) (av := []) C hw (s_X3_isGuarded l D A cy hJ M_2 iM_2 27 t ob_27 ht ((tT_fr q_3).trans hT)) ⟨ml_X0_116, ym_X3_isGuarded, yv_X3_isGuarded, yi_X3_isGuarded, yc_X3_isGuarded⟩ yd_X3_isGuarded ob_27 (by decide) rfl rfl hl.1 (Nat.le_of_ble_eq_true rfl) ⟨by decide, by decide⟩ ⟨Nat.zero_le _, Nat.zero_le _⟩ dX0_plotters_6 (fun r_5 M_6 H locs hp_6 hw => ?_)
  have hm := hp_6
  have hw := hw.to hm
  have hj_20_10 : ∀  (H : Heap) (locs : List Loc) (ls : Array Slot), ti_H ti_LT D A cy H0 M_2 H locs → lv_has ls 5 [(2, .int r_1), (0, .ref (A 53 0)), (1, .ref (A 27 0))] → W p l e (ti_rm 3) s m args below meth c H locs 0 0 Q (F0 m 20 ls []) := by
    intro  H locs ls  hw hl
    refine lv_bipush (v := (-2)) hx hb dX0_plotters_20 (by decide) ?_
    exact hQ _ _ _ _ _ _ hw rfl (⟨iM_2, (rs_of q_3), (fx_of q_4)⟩) dX0_plotters_22
  refine sb_if_ne (tgt := 20) hx hb rfl dX0_plotters_9 (by decide) (fun c_9_6 => ?_) (fun c_9_6 => ?_)
  · exact hj_20_10  _ _ _  hw (lv_sub hl [0, 1, 2] rfl)
  · refine lv_iload_n hx hb dX0_plotters_12 rfl (lv_at hl 0 rfl) ?_
    refine lv_aload_n hx hb dX0_plotters_13 rfl (lv_at hl 2 rfl) ?_
    refine ti_callVi (ci := 3) (av := []) C hw (s_X3_lastHeard l D A cy hJ M_2 iM_2 27 t ob_27 ht ((tT_fr q_3).trans hT)) ⟨ml_X0_120, ym_X3_lastHeard, yv_X3_lastHeard, yi_X3_lastHeard, yc_X3_lastHeard⟩ yd_X3_lastHeard ob_27 (by decide) rfl rfl hl.1 (Nat.le_of_ble_eq_true rfl) ⟨by decide, by decide⟩ ⟨Nat.zero_le _, Nat.zero_le _⟩ dX0_plotters_14 (fun r_8 M_9 H locs hp_9 hw => ?_)
    obtain ⟨hm, b1r_8⟩ := hp_9
    have hw := hw.to hm
    refine sb_icmp_le (tgt := 23) hx hb rfl rfl dX0_plotters_17 (by decide) (fun c_17_9 => ?_) (fun c_17_9 => ?_)
    · refine lv_iconst (v := 0) hx hb dX0_plotters_23 (by decide) ?_
      refine lv_istore_n (lv' := [(3, .int 0), (2, .int r_1), (0, .ref (A 53 0)), (1, .ref (A 27 0))]) hx hb dX0_plotters_24 rfl hl (by decide) rfl (fun ls hl => ?_)
      refine lv_iconst (v := 1) hx hb dX0_plotters_25 (by decide) ?_
      refine lv_istore (lv' := [(4, .int 1), (3, .int 0), (2, .int r_1), (0, .ref (A 53 0)), (1, .ref (A 27 0))]) hx hb dX0_plotters_26 hl (by decide) rfl (fun ls hl => ?_)
      have hl_28_14 : ∀ (n_15 : Nat) (x_11 : Int32) (x_14 : Int32) (H : Heap) (locs : List Loc) (ls : Array Slot), (8 - x_11.toInt : Int).toNat < n_15 → (1 ≤ x_11.toInt) → (x_11.toInt ≤ 8) → ti_H ti_LT D A cy H0 M_2 H locs → lv_has ls 5 [(4, .int x_11), (3, .int x_14), (2, .int r_1), (0, .ref (A 53 0)), (1, .ref (A 27 0))] → W p l e (ti_rm 3) s m args below meth c H locs 0 0 Q (F0 m 28 ls []) := by
        intro n_15
        induction n_15 with
        | zero => intro x_11 x_14 H locs ls hf_15; exact absurd hf_15 (Nat.not_lt_zero _)
        | succ n_15 ih_15 =>
          intro x_11 x_14 H locs ls hf_15 b_12 b_13 hw hl
          refine lv_iload hx hb dX0_plotters_28 (lv_at hl 0 rfl) ?_
          refine lv_iload_n hx hb dX0_plotters_30 rfl (lv_at hl 2 rfl) ?_
          refine sb_icmp_gt (tgt := 52) hx hb rfl rfl dX0_plotters_31 (by decide) (fun c_31_15 => ?_) (fun c_31_15 => ?_)
          · refine lv_iload_n hx hb dX0_plotters_52 rfl (lv_at hl 1 rfl) ?_
            exact hQ _ _ _ _ _ _ hw rfl (⟨iM_2, (rs_of q_3), (fx_of q_4)⟩) dX0_plotters_53
          · refine lv_iload_n hx hb dX0_plotters_34 rfl (lv_at hl 1 rfl) ?_
            refine lv_iconst (v := 1) hx hb dX0_plotters_35 (by decide) ?_
            refine lv_aload_n hx hb dX0_plotters_36 rfl (lv_at hl 4 rfl) ?_
            refine ti_get (ci := 3) (k := 6) (N := 17) (T := TX3) (v := .ref (A 27 7)) C hw iw_3 rfl ob_27 (by decide) (by decide) fl_X0_77 rfl rfl dX0_plotters_37 ?_
            refine lv_iload hx hb dX0_plotters_40 (lv_at hl 0 rfl) ?_
            refine ti_iald (ci := 3) (k := 6) (n := 8) C hw ob_27 (by decide) (fun _ _ => rfl) (vp_in_iff.mpr (by omega)) dX0_plotters_42 ?_
            refine lv_topi (fun x_17 ex_17 => ?_)
            have bx_17 : 0 ≤ x_17.toInt ∧ x_17.toInt ≤ 7 := cI_ry iM_2 ob_27.1 ex_17
            refine lv_ishl hx hb dX0_plotters_43 ?_
            refine lv_topi (fun x_18 ex_18 => ?_)
            refine lv_ior hx hb dX0_plotters_44 ?_
            refine lv_topi (fun x_19 ex_19 => ?_)
            refine lv_istore_n (lv' := [(3, .int x_19), (4, .int x_11), (2, .int r_1), (0, .ref (A 53 0)), (1, .ref (A 27 0))]) hx hb dX0_plotters_45 rfl hl (by decide) rfl (fun ls hl => ?_)
            obtain ⟨x_20, ex_20⟩ : ∃ z : Int32, z = x_11 + 1 := ⟨_, rfl⟩
            have tx_20 : x_20.toInt = x_11.toInt + 1 := i_add ex_20 rfl (by decide) (by omega) (by omega)
            refine lv_iinc (v := x_20) (lv' := [(4, .int x_20), (3, .int x_19), (2, .int r_1), (0, .ref (A 53 0)), (1, .ref (A 27 0))]) hx hb dX0_plotters_46 hl (k := 1) rfl (by rw [ex_20]; rfl) (by decide) rfl (fun ls hl => ?_)
            refine lv_goto (tgt := 28) hx hb dX0_plotters_49 (by decide) ?_
            exact ih_15 x_20 x_19 _ _ _ (by omega) (by first | omega | decide) (by first | omega | decide) hw (lv_sub hl [0, 1, 2, 3, 4] rfl)
      exact hl_28_14 ((8 - 1 : Int).toNat + 1) 1 0 _ _ _ (Nat.lt_succ_self _) (by have lt0 : (0 : Int32).toInt = 0 := (by decide); have lt1 : (1 : Int32).toInt = 1 := (by decide); first | omega | decide) (by have lt0 : (0 : Int32).toInt = 0 := (by decide); have lt1 : (1 : Int32).toInt = 1 := (by decide); first | omega | decide) hw (lv_sub hl [0, 1, 2, 3, 4] rfl)
    · exact hj_20_10  _ _ _  hw (lv_sub hl [0, 1, 2] rfl)
set_option maxHeartbeats 4000000 in
set_option maxRecDepth 100000 in
theorem s_X0_worth (l : Launch) (D : va_G) (A : Nat → Nat → Nat) (cy : Nat → ClassId) (hJ : ti_inj ti_LT A) (M : ti_M) (hI : cI Tc M)  (mn : Int32) (h1 : 0 ≤ mn.toInt) (h2 : mn.toInt ≤ 7) : ti_Ki l yX0_worth cX0_worth 2 (some .int) 1 ti_LT D A cy M [.ref (A 53 0), .int mn] (fun r M2 => M2 = M) := by
  refine ti_eI yp_X0_worth hJ ti_LT_nd (Nat.le_of_ble_eq_true rfl) ?_
  intro p e s m args below meth c Q H0 C hQ hw ls hl
  have hx := C.1
  have hb := C.2.1
  have hl : lv_has ls 2 [(0, .ref (A 53 0)), (1, .int mn)] := hl
  refine lv_aload_n hx hb dX0_worth_0 rfl (lv_at hl 0 rfl) ?_
  refine ti_get (ci := 0) (k := 0) (N := 6) (T := TX0) (v := .ref (A 54 0)) C hw iw_0 rfl ob_53 (by decide) (by decide) fl_X0_12 rfl rfl dX0_worth_1 ?_
  refine ti_get (ci := 3) (k := 8) (N := 17) (T := TX3) (v := .ref (A 54 9)) C hw iw_3 rfl ob_54 (by decide) (by decide) fl_X0_48 rfl rfl dX0_worth_4 ?_
  refine lv_iload_n hx hb dX0_worth_7 rfl (lv_at hl 1 rfl) ?_
  refine ti_iald (ci := 3) (k := 8) (n := 8) C hw ob_54 (by decide) (fun _ _ => rfl) (vp_in_iff.mpr (by omega)) dX0_worth_8 ?_
  refine lv_topi (fun x_1 ex_1 => ?_)
  by_cases s_2_1 : x_1 = 1
  · refine lv_lookup (tgt := 50) hx hb dX0_worth_9 (by decide) (off := 41) (by rw [s_2_1]; decide) (by decide) ?_
    refine lv_bipush (v := 100) hx hb dX0_worth_50 (by decide) ?_
    refine lv_aload_n hx hb dX0_worth_52 rfl (lv_at hl 0 rfl) ?_
    refine ti_get (ci := 0) (k := 0) (N := 6) (T := TX0) (v := .ref (A 54 0)) C hw iw_0 rfl ob_53 (by decide) (by decide) fl_X0_12 rfl rfl dX0_worth_53 ?_
    refine lv_iload_n hx hb dX0_worth_56 rfl (lv_at hl 1 rfl) ?_
    refine ti_callVi (ci := 3) (av := [.int mn]) C hw (s_X3_placeOf l D A cy hJ M hI 54 ob_54 mn) ⟨ml_X0_130, ym_X3_placeOf, yv_X3_placeOf, yi_X3_placeOf, yc_X3_placeOf⟩ yd_X3_placeOf ob_54 (by decide) rfl rfl hl.1 (Nat.le_of_ble_eq_true rfl) ⟨by decide, by decide⟩ ⟨Nat.zero_le _, Nat.zero_le _⟩ dX0_worth_57 (fun r_5 M_6 H locs hp_6 hw => ?_)
    obtain ⟨hm, b0r_5, b1r_5⟩ := hp_6
    have hw := hw.to hm
    refine lv_isub hx hb dX0_worth_60 ?_
    refine lv_topi (fun x_7 ex_7 => ?_)
    have tx_7 : x_7.toInt = 100 - r_5.toInt := i_sub ex_7 (by decide : (100 : Int32).toInt = 100) rfl (by omega) (by omega)
    exact hQ _ _ _ _ _ _ hw rfl rfl dX0_worth_61
  · by_cases s_2_2 : x_1 = 2
    · refine lv_lookup (tgt := 36) hx hb dX0_worth_9 (by decide) (off := 27) (by rw [s_2_2]; decide) (by decide) ?_
      refine lv_sipush (v := 1000) hx hb dX0_worth_36 (by decide) ?_
      refine lv_aload_n hx hb dX0_worth_39 rfl (lv_at hl 0 rfl) ?_
      refine ti_get (ci := 0) (k := 0) (N := 6) (T := TX0) (v := .ref (A 54 0)) C hw iw_0 rfl ob_53 (by decide) (by decide) fl_X0_12 rfl rfl dX0_worth_40 ?_
      refine ti_get (ci := 3) (k := 14) (N := 17) (T := TX3) (v := .ref (A 54 15)) C hw iw_3 rfl ob_54 (by decide) (by decide) fl_X0_54 rfl rfl dX0_worth_43 ?_
      refine lv_iload_n hx hb dX0_worth_46 rfl (lv_at hl 1 rfl) ?_
      refine ti_iald (ci := 3) (k := 14) (n := 8) C hw ob_54 (by decide) (fun _ _ => rfl) (vp_in_iff.mpr (by omega)) dX0_worth_47 ?_
      refine lv_topi (fun x_3 ex_3 => ?_)
      refine lv_isub hx hb dX0_worth_48 ?_
      refine lv_topi (fun x_4 ex_4 => ?_)
      exact hQ _ _ _ _ _ _ hw rfl rfl dX0_worth_49
    · refine lv_lookup (tgt := 62) hx hb dX0_worth_9 (by decide) (off := 53) (ti_lk _ x_1.toInt _ (by intro q hq; simp only [List.mem_cons, List.not_mem_nil, or_false] at hq; rcases hq with rfl | rfl <;> first | exact ti_nev 1 s_2_1 (by decide) | exact ti_nev 2 s_2_2 (by decide))) (by decide) ?_
      refine lv_iconst (v := 0) hx hb dX0_worth_62 (by decide) ?_
      exact hQ _ _ _ _ _ _ hw rfl rfl dX0_worth_63
set_option maxHeartbeats 4000000 in
set_option maxRecDepth 100000 in
theorem s_X0_isRest (l : Launch) (D : va_G) (A : Nat → Nat → Nat) (cy : Nat → ClassId) (hJ : ti_inj ti_LT A) (M : ti_M) (hI : cI Tc M) (aa bb ch : Int32) (h1 : 0 ≤ aa.toInt) (h2 : aa.toInt ≤ 3) (h3 : 0 ≤ bb.toInt) (h4 : bb.toInt ≤ 3) (h5 : ch.toInt ≤ 4) : ti_Ki l yX0_isRest cX0_isRest 6 (some .boolean) 0 ti_LT D A cy M [.ref (A 53 0), .int aa, .int bb, .int ch] (fun r M2 => M2 = M) := by
  refine ti_eI yp_X0_isRest hJ ti_LT_nd (Nat.le_of_ble_eq_true rfl) ?_
  intro p e s m args below meth c Q H0 C hQ hw ls hl
  have hx := C.1
  have hb := C.2.1
  have hl : lv_has ls 6 [(0, .ref (A 53 0)), (1, .int aa), (2, .int bb), (3, .int ch)] := hl
  refine lv_iload_n hx hb dX0_isRest_0 rfl (lv_at hl 1 rfl) ?_
  refine lv_iconst (v := 4) hx hb dX0_isRest_1 (by decide) ?_
  refine lv_imul hx hb dX0_isRest_2 ?_
  refine lv_topi (fun x_1 ex_1 => ?_)
  have tx_1 : x_1.toInt = aa.toInt * 4 := i_mul ex_1 rfl (by decide : (4 : Int32).toInt = 4) (by omega) (by omega)
  refine lv_iload_n hx hb dX0_isRest_3 rfl (lv_at hl 2 rfl) ?_
  refine lv_iadd hx hb dX0_isRest_4 ?_
  refine lv_topi (fun x_2 ex_2 => ?_)
  have tx_2 : x_2.toInt = x_1.toInt + bb.toInt := i_add ex_2 rfl rfl (by omega) (by omega)
  refine lv_istore (lv' := [(4, .int x_2), (0, .ref (A 53 0)), (1, .int aa), (2, .int bb), (3, .int ch)]) hx hb dX0_isRest_5 hl (by decide) rfl (fun ls hl => ?_)
  refine lv_iconst (v := 0) hx hb dX0_isRest_7 (by decide) ?_
  refine lv_istore (lv' := [(5, .int 0), (4, .int x_2), (0, .ref (A 53 0)), (1, .int aa), (2, .int bb), (3, .int ch)]) hx hb dX0_isRest_8 hl (by decide) rfl (fun ls hl => ?_)
  have hl_10_5 : ∀ (n_6 : Nat) (x_3 : Int32) (H : Heap) (locs : List Loc) (ls : Array Slot), (4 - x_3.toInt : Int).toNat < n_6 → (0 ≤ x_3.toInt) → (x_3.toInt ≤ 4) → ti_H ti_LT D A cy H0 M H locs → lv_has ls 6 [(5, .int x_3), (4, .int x_2), (0, .ref (A 53 0)), (1, .int aa), (2, .int bb), (3, .int ch)] → W p l e (ti_rm 0) s m args below meth c H locs 0 0 Q (F0 m 10 ls []) := by
    intro n_6
    induction n_6 with
    | zero => intro x_3 H locs ls hf_6; exact absurd hf_6 (Nat.not_lt_zero _)
    | succ n_6 ih_6 =>
      intro x_3 H locs ls hf_6 b_4 b_5 hw hl
      refine lv_iload hx hb dX0_isRest_10 (lv_at hl 0 rfl) ?_
      refine lv_iload_n hx hb dX0_isRest_12 rfl (lv_at hl 5 rfl) ?_
      refine sb_icmp_ge (tgt := 66) hx hb rfl rfl dX0_isRest_13 (by decide) (fun c_13_6 => ?_) (fun c_13_6 => ?_)
      · refine lv_iconst (v := 1) hx hb dX0_isRest_66 (by decide) ?_
        exact hQ _ _ _ _ _ _ hw rfl rfl dX0_isRest_67
      · refine lv_aload_n hx hb dX0_isRest_16 rfl (lv_at hl 2 rfl) ?_
        refine ti_get (ci := 0) (k := 2) (N := 6) (T := TX0) (v := .ref (A 53 3)) C hw iw_0 rfl ob_53 (by decide) (by decide) fl_X0_21 rfl rfl dX0_isRest_17 ?_
        refine lv_iload hx hb dX0_isRest_20 (lv_at hl 0 rfl) ?_
        refine lv_iconst (v := 4) hx hb dX0_isRest_22 (by decide) ?_
        refine lv_imul hx hb dX0_isRest_23 ?_
        refine lv_topi (fun x_8 ex_8 => ?_)
        have tx_8 : x_8.toInt = x_3.toInt * 4 := i_mul ex_8 rfl (by decide : (4 : Int32).toInt = 4) (by omega) (by omega)
        refine lv_iload_n hx hb dX0_isRest_24 rfl (lv_at hl 4 rfl) ?_
        refine lv_iadd hx hb dX0_isRest_25 ?_
        refine lv_topi (fun x_9 ex_9 => ?_)
        have tx_9 : x_9.toInt = x_8.toInt + bb.toInt := i_add ex_9 rfl rfl (by omega) (by omega)
        refine ti_iald (ci := 0) (k := 2) (n := 16) C hw ob_53 (by decide) (fun _ _ => rfl) (vp_in_iff.mpr (by omega)) dX0_isRest_26 ?_
        refine lv_topi (fun x_10 ex_10 => ?_)
        refine lv_aload_n hx hb dX0_isRest_27 rfl (lv_at hl 2 rfl) ?_
        refine ti_get (ci := 0) (k := 2) (N := 6) (T := TX0) (v := .ref (A 53 3)) C hw iw_0 rfl ob_53 (by decide) (by decide) fl_X0_21 rfl rfl dX0_isRest_28 ?_
        refine lv_iload hx hb dX0_isRest_31 (lv_at hl 1 rfl) ?_
        refine ti_iald (ci := 0) (k := 2) (n := 16) C hw ob_53 (by decide) (fun _ _ => rfl) (vp_in_iff.mpr (by omega)) dX0_isRest_33 ?_
        refine lv_topi (fun x_11 ex_11 => ?_)
        have hj_58_17 : ∀  (H : Heap) (locs : List Loc) (ls : Array Slot), ti_H ti_LT D A cy H0 M H locs → lv_has ls 6 [(5, .int x_3), (4, .int x_2), (0, .ref (A 53 0)), (1, .int aa), (2, .int bb), (3, .int ch)] → W p l e (ti_rm 0) s m args below meth c H locs 0 0 Q (F0 m 58 ls []) := by
          intro  H locs ls  hw hl
          refine lv_iconst (v := 0) hx hb dX0_isRest_58 (by decide) ?_
          exact hQ _ _ _ _ _ _ hw rfl rfl dX0_isRest_59
        refine sb_icmp_gt (tgt := 58) hx hb rfl rfl dX0_isRest_34 (by decide) (fun c_34_11 => ?_) (fun c_34_11 => ?_)
        · exact hj_58_17  _ _ _  hw (lv_sub hl [0, 1, 2, 3, 4, 5] rfl)
        · refine lv_aload_n hx hb dX0_isRest_37 rfl (lv_at hl 2 rfl) ?_
          refine ti_get (ci := 0) (k := 3) (N := 6) (T := TX0) (v := .ref (A 53 4)) C hw iw_0 rfl ob_53 (by decide) (by decide) fl_X0_25 rfl rfl dX0_isRest_38 ?_
          refine lv_iload_n hx hb dX0_isRest_41 rfl (lv_at hl 3 rfl) ?_
          refine lv_iconst (v := 4) hx hb dX0_isRest_42 (by decide) ?_
          refine lv_imul hx hb dX0_isRest_43 ?_
          refine lv_topi (fun x_13 ex_13 => ?_)
          have tx_13 : x_13.toInt = aa.toInt * 4 := i_mul ex_13 rfl (by decide : (4 : Int32).toInt = 4) (by omega) (by omega)
          refine lv_iload hx hb dX0_isRest_44 (lv_at hl 0 rfl) ?_
          refine lv_iadd hx hb dX0_isRest_46 ?_
          refine lv_topi (fun x_14 ex_14 => ?_)
          have tx_14 : x_14.toInt = x_13.toInt + x_3.toInt := i_add ex_14 rfl rfl (by omega) (by omega)
          refine ti_iald (ci := 0) (k := 3) (n := 16) C hw ob_53 (by decide) (fun _ _ => rfl) (vp_in_iff.mpr (by omega)) dX0_isRest_47 ?_
          refine lv_topi (fun x_15 ex_15 => ?_)
          refine lv_aload_n hx hb dX0_isRest_48 rfl (lv_at hl 2 rfl) ?_
          refine ti_get (ci := 0) (k := 3) (N := 6) (T := TX0) (v := .ref (A 53 4)) C hw iw_0 rfl ob_53 (by decide) (by decide) fl_X0_25 rfl rfl dX0_isRest_49 ?_
          refine lv_iload hx hb dX0_isRest_52 (lv_at hl 1 rfl) ?_
          refine ti_iald (ci := 0) (k := 3) (n := 16) C hw ob_53 (by decide) (fun _ _ => rfl) (vp_in_iff.mpr (by omega)) dX0_isRest_54 ?_
          refine lv_topi (fun x_16 ex_16 => ?_)
          refine sb_icmp_le (tgt := 60) hx hb rfl rfl dX0_isRest_55 (by decide) (fun c_55_16 => ?_) (fun c_55_16 => ?_)
          · obtain ⟨x_18, ex_18⟩ : ∃ z : Int32, z = x_3 + 1 := ⟨_, rfl⟩
            have tx_18 : x_18.toInt = x_3.toInt + 1 := i_add ex_18 rfl (by decide) (by omega) (by omega)
            refine lv_iinc (v := x_18) (lv' := [(5, .int x_18), (4, .int x_2), (0, .ref (A 53 0)), (1, .int aa), (2, .int bb), (3, .int ch)]) hx hb dX0_isRest_60 hl (k := 0) rfl (by rw [ex_18]; rfl) (by decide) rfl (fun ls hl => ?_)
            refine lv_goto (tgt := 10) hx hb dX0_isRest_63 (by decide) ?_
            exact ih_6 x_18 _ _ _ (by omega) (by first | omega | decide) (by first | omega | decide) hw (lv_sub hl [0, 1, 2, 3, 4, 5] rfl)
          · exact hj_58_17  _ _ _  hw (lv_sub hl [0, 1, 2, 3, 4, 5] rfl)
  exact hl_10_5 ((4 - 0 : Int).toNat + 1) 0 _ _ _ (Nat.lt_succ_self _) (by have lt0 : (0 : Int32).toInt = 0 := (by decide); first | omega | decide) (by have lt0 : (0 : Int32).toInt = 0 := (by decide); first | omega | decide) hw (lv_sub hl [0, 1, 2, 3, 4, 5] rfl)
set_option maxHeartbeats 4000000 in
set_option maxRecDepth 100000 in
theorem s_X0_play (l : Launch) (D : va_G) (A : Nat → Nat → Nat) (cy : Nat → ClassId) (hJ : ti_inj ti_LT A) (M : ti_M) (hI : cI Tc M) (t : Nat) (ht : t = 3 ∨ t = 4) (hT : tT M 27 0 = some t) (m1 m2 nn : Int32) (h1 : 0 ≤ m1.toInt) (h2 : m1.toInt ≤ 7) (h3 : 0 ≤ m2.toInt) (h4 : m2.toInt ≤ 7) : ti_Kv l yX0_play cX0_play 8 6 ti_LT D A cy M [.ref (A 53 0), .ref (A 27 0), .int m1, .int m2, .int nn] (fun M2 => cI Tc M2 ∧ rT M2 M ∧ fX M2 M) := by
  refine ti_eV yp_X0_play hJ ti_LT_nd (Nat.le_of_ble_eq_true rfl) ?_
  intro p e s m args below meth c Q H0 C hQ hw ls hl
  have hx := C.1
  have hb := C.2.1
  have hl : lv_has ls 8 [(0, .ref (A 53 0)), (1, .ref (A 27 0)), (2, .int m1), (3, .int m2), (4, .int nn)] := hl
  refine lv_iconst (v := 4) hx hb dX0_play_0 (by decide) ?_
  refine lv_bipush (v := 59) hx hb dX0_play_1 (by decide) ?_
  refine lv_aload_n hx hb dX0_play_3 rfl (lv_at hl 1 rfl) ?_
  refine ti_get (ci := 3) (k := 2) (N := 17) (T := TX3) C hw iw_3 rfl ob_27 (by decide) (by decide) fl_X0_45 rfl rfl dX0_play_4 ?_
  refine lv_topi (fun x_1 ex_1 => ?_)
  have bx_1 : 0 ≤ x_1.toInt ∧ x_1.toInt ≤ 120 := cI_rd hI ob_27.1 ex_1 (Or.inl rfl)
  have ux_1 : (tI M 27 2).toInt = x_1.toInt := by rw [ex_1]
  refine lv_isub hx hb dX0_play_7 ?_
  refine lv_topi (fun x_2 ex_2 => ?_)
  have tx_2 : x_2.toInt = 59 - x_1.toInt := i_sub ex_2 (by decide : (59 : Int32).toInt = 59) rfl (by omega) (by omega)
  refine lv_iconst (v := 1) hx hb dX0_play_8 (by decide) ?_
  refine lv_iadd hx hb dX0_play_9 ?_
  refine lv_topi (fun x_3 ex_3 => ?_)
  have tx_3 : x_3.toInt = x_2.toInt + 1 := i_add ex_3 rfl (by decide : (1 : Int32).toInt = 1) (by omega) (by omega)
  refine ti_min C ml_X0_71 hl.1 (by decide) (Nat.le_of_ble_eq_true rfl) ⟨Nat.zero_le _, Nat.zero_le _⟩ dX0_play_10 ?_
  refine lv_topi (fun x_4 ex_4 => ?_)
  have bx_4 := i_min ex_4 (by decide : (4 : Int32).toInt = 4) rfl
  refine lv_istore (lv' := [(5, .int x_4), (0, .ref (A 53 0)), (1, .ref (A 27 0)), (2, .int m1), (3, .int m2), (4, .int nn)]) hx hb dX0_play_13 hl (by decide) rfl (fun ls hl => ?_)
  refine lv_iconst (v := 0) hx hb dX0_play_15 (by decide) ?_
  refine lv_istore (lv' := [(6, .int 0), (5, .int x_4), (0, .ref (A 53 0)), (1, .ref (A 27 0)), (2, .int m1), (3, .int m2), (4, .int nn)]) hx hb dX0_play_16 hl (by decide) rfl (fun ls hl => ?_)
  have hl_18_10 : ∀ (n_11 : Nat) (x_5 : Int32) (M_8 : ti_M) (H : Heap) (locs : List Loc) (ls : Array Slot), (4 - x_5.toInt : Int).toNat < n_11 → (0 ≤ x_5.toInt) → (x_5.toInt ≤ 4) → (cI Tc M_8) → (rT M_8 M) → (fX M_8 M) → ti_H ti_LT D A cy H0 M_8 H locs → lv_has ls 8 [(6, .int x_5), (5, .int x_4), (0, .ref (A 53 0)), (1, .ref (A 27 0)), (2, .int m1), (3, .int m2), (4, .int nn)] → W p l e (ti_rm 6) s m args below meth c H locs 0 0 Q (F0 m 18 ls []) := by
    intro n_11
    induction n_11 with
    | zero => intro x_5 M_8 H locs ls hf_11; exact absurd hf_11 (Nat.not_lt_zero _)
    | succ n_11 ih_11 =>
      intro x_5 M_8 H locs ls hf_11 b_6 b_7 iM_8 f_9 f_10 hw hl
      refine lv_iload hx hb dX0_play_18 (lv_at hl 0 rfl) ?_
      refine lv_iload hx hb dX0_play_20 (lv_at hl 1 rfl) ?_
      refine sb_icmp_ge (tgt := 132) hx hb rfl rfl dX0_play_22 (by decide) (fun c_22_11 => ?_) (fun c_22_11 => ?_)
      · refine lv_aload_n hx hb dX0_play_132 rfl (lv_at hl 2 rfl) ?_
        refine lv_iconst (v := 0) hx hb dX0_play_133 (by decide) ?_
        refine ti_putI (ci := 0) (k := 5) (N := 6) (T := TX0) C hw iw_0 tyX0 tyX0_ok nmX0 rfl ob_53 (by decide) (by decide) fl_X0_31 rfl rfl rfl rfl (fn_0 A _) fs_0_5 dX0_play_134 (fun H locs hw => ?_)
        obtain ⟨M_47, hM_47⟩ : ∃ z : ti_M, z = uI M_8 53 5 0 := ⟨_, rfl⟩
        have hw := hw.to hM_47.symm
        have iM_47 : cI Tc M_47 := cI_uI iM_8 hM_47 ob_53.1 (ib_mk (lo := 0) (hi := 16) (by decide) (by decide))
        have vM_47 : (tI M_47 53 5).toInt = 0 := by rw [tI_uE hM_47]; decide
        refine lv_iconst (v := 0) hx hb dX0_play_137 (by decide) ?_
        refine lv_istore (lv' := [(6, .int 0), (5, .int x_4), (0, .ref (A 53 0)), (1, .ref (A 27 0)), (2, .int m1), (3, .int m2), (4, .int nn)]) hx hb dX0_play_138 hl (by decide) rfl (fun ls hl => ?_)
        have hl_140_58 : ∀ (n_59 : Nat) (x_48 : Int32) (M_51 : ti_M) (x_54 : Int32) (H : Heap) (locs : List Loc) (ls : Array Slot), (4 - x_48.toInt : Int).toNat < n_59 → (0 ≤ x_48.toInt) → (x_48.toInt ≤ 4) → (cI Tc M_51) → (rT M_51 M) → (fX M_51 M) → (0 ≤ x_54.toInt) → (x_54.toInt ≤ 16) → (tI M_51 53 5 = x_54) → (x_54.toInt ≤ 4 * x_48.toInt) → ti_H ti_LT D A cy H0 M_51 H locs → lv_has ls 8 [(6, .int x_48), (5, .int x_4), (0, .ref (A 53 0)), (1, .ref (A 27 0)), (2, .int m1), (3, .int m2), (4, .int nn)] → W p l e (ti_rm 6) s m args below meth c H locs 0 0 Q (F0 m 140 ls []) := by
          intro n_59
          induction n_59 with
          | zero => intro x_48 M_51 x_54 H locs ls hf_59; exact absurd hf_59 (Nat.not_lt_zero _)
          | succ n_59 ih_59 =>
            intro x_48 M_51 x_54 H locs ls hf_59 b_49 b_50 iM_51 f_52 f_53 b_55 b_56 f_57 j_58 hw hl
            refine lv_iload hx hb dX0_play_140 (lv_at hl 0 rfl) ?_
            refine lv_iload hx hb dX0_play_142 (lv_at hl 1 rfl) ?_
            refine sb_icmp_ge (tgt := 219) hx hb rfl rfl dX0_play_144 (by decide) (fun c_144_59 => ?_) (fun c_144_59 => ?_)
            · exact hQ _ _ _ _ _ hw (⟨iM_51, f_52, f_53⟩) dX0_play_219
            · refine lv_iconst (v := 0) hx hb dX0_play_147 (by decide) ?_
              refine lv_istore (lv' := [(7, .int 0), (6, .int x_48), (5, .int x_4), (0, .ref (A 53 0)), (1, .ref (A 27 0)), (2, .int m1), (3, .int m2), (4, .int nn)]) hx hb dX0_play_148 hl (by decide) rfl (fun ls hl => ?_)
              have hl_150_71 : ∀ (n_72 : Nat) (x_61 : Int32) (M_64 : ti_M) (x_67 : Int32) (H : Heap) (locs : List Loc) (ls : Array Slot), (4 - x_61.toInt : Int).toNat < n_72 → (0 ≤ x_61.toInt) → (x_61.toInt ≤ 4) → (cI Tc M_64) → (rT M_64 M) → (fX M_64 M) → (0 ≤ x_67.toInt) → (x_67.toInt ≤ 16) → (tI M_64 53 5 = x_67) → (x_67.toInt ≤ 4 * x_48.toInt + x_61.toInt) → ti_H ti_LT D A cy H0 M_64 H locs → lv_has ls 8 [(7, .int x_61), (6, .int x_48), (5, .int x_4), (0, .ref (A 53 0)), (1, .ref (A 27 0)), (2, .int m1), (3, .int m2), (4, .int nn)] → W p l e (ti_rm 6) s m args below meth c H locs 0 0 Q (F0 m 150 ls []) := by
                intro n_72
                induction n_72 with
                | zero => intro x_61 M_64 x_67 H locs ls hf_72; exact absurd hf_72 (Nat.not_lt_zero _)
                | succ n_72 ih_72 =>
                  intro x_61 M_64 x_67 H locs ls hf_72 b_62 b_63 iM_64 f_65 f_66 b_68 b_69 f_70 j_71 hw hl
                  refine lv_iload hx hb dX0_play_150 (lv_at hl 0 rfl) ?_
                  refine lv_iload hx hb dX0_play_152 (lv_at hl 2 rfl) ?_
                  refine sb_icmp_ge (tgt := 213) hx hb rfl rfl dX0_play_154 (by decide) (fun c_154_72 => ?_) (fun c_154_72 => ?_)
                  · obtain ⟨x_96, ex_96⟩ : ∃ z : Int32, z = x_48 + 1 := ⟨_, rfl⟩
                    have tx_96 : x_96.toInt = x_48.toInt + 1 := i_add ex_96 rfl (by decide) (by omega) (by omega)
                    refine lv_iinc (v := x_96) (lv' := [(6, .int x_96), (7, .int x_61), (5, .int x_4), (0, .ref (A 53 0)), (1, .ref (A 27 0)), (2, .int m1), (3, .int m2), (4, .int nn)]) hx hb dX0_play_213 hl (k := 1) rfl (by rw [ex_96]; rfl) (by decide) rfl (fun ls hl => ?_)
                    refine lv_goto (tgt := 140) hx hb dX0_play_216 (by decide) ?_
                    exact ih_59 x_96 M_64 x_67 _ _ _ (by omega) (by first | omega | decide) (by first | omega | decide) iM_64 f_65 f_66 (by first | omega | decide) (by first | omega | decide) (f_70) (by first | omega | decide) hw (lv_sub hl [0, 2, 3, 4, 5, 6, 7] rfl)
                  · refine lv_aload_n hx hb dX0_play_157 rfl (lv_at hl 3 rfl) ?_
                    refine lv_iload hx hb dX0_play_158 (lv_at hl 1 rfl) ?_
                    refine lv_iload hx hb dX0_play_160 (lv_at hl 0 rfl) ?_
                    refine lv_iload hx hb dX0_play_162 (lv_at hl 2 rfl) ?_
                    refine ti_callVi (ci := 0) (av := [.int x_48, .int x_61, .int x_4]) C hw (s_X0_isRest l D A cy hJ M_64 iM_64 x_48 x_61 x_4 (by first | omega | decide) (by first | omega | decide) (by first | omega | decide) (by first | omega | decide) (by first | omega | decide)) ⟨ml_X0_126, ym_X0_isRest, yv_X0_isRest, yi_X0_isRest, yc_X0_isRest⟩ yd_X0_isRest ob_53 (by decide) rfl rfl hl.1 (Nat.le_of_ble_eq_true rfl) ⟨by decide, by decide⟩ ⟨Nat.zero_le _, Nat.zero_le _⟩ dX0_play_164 (fun r_74 M_75 H locs hp_75 hw => ?_)
                    have hm := hp_75
                    have hw := hw.to hm
                    have hj_207_94 : ∀ (M_87 : ti_M) (x_90 : Int32) (H : Heap) (locs : List Loc) (ls : Array Slot), (cI Tc M_87) → (rT M_87 M) → (fX M_87 M) → (0 ≤ x_90.toInt) → (x_90.toInt ≤ 16) → (tI M_87 53 5 = x_90) → (x_90.toInt ≤ 4 * x_48.toInt + x_61.toInt + 1) → ti_H ti_LT D A cy H0 M_87 H locs → lv_has ls 8 [(7, .int x_61), (6, .int x_48), (5, .int x_4), (0, .ref (A 53 0)), (1, .ref (A 27 0)), (2, .int m1), (3, .int m2), (4, .int nn)] → W p l e (ti_rm 6) s m args below meth c H locs 0 0 Q (F0 m 207 ls []) := by
                      intro M_87 x_90 H locs ls iM_87 f_88 f_89 b_91 b_92 f_93 j_94 hw hl
                      obtain ⟨x_95, ex_95⟩ : ∃ z : Int32, z = x_61 + 1 := ⟨_, rfl⟩
                      have tx_95 : x_95.toInt = x_61.toInt + 1 := i_add ex_95 rfl (by decide) (by omega) (by omega)
                      refine lv_iinc (v := x_95) (lv' := [(7, .int x_95), (6, .int x_48), (5, .int x_4), (0, .ref (A 53 0)), (1, .ref (A 27 0)), (2, .int m1), (3, .int m2), (4, .int nn)]) hx hb dX0_play_207 hl (k := 0) rfl (by rw [ex_95]; rfl) (by decide) rfl (fun ls hl => ?_)
                      refine lv_goto (tgt := 150) hx hb dX0_play_210 (by decide) ?_
                      exact ih_72 x_95 M_87 x_90 _ _ _ (by omega) (by first | omega | decide) (by first | omega | decide) iM_87 f_88 f_89 (by first | omega | decide) (by first | omega | decide) (f_93) (by first | omega | decide) hw (lv_sub hl [0, 1, 2, 3, 4, 5, 6, 7] rfl)
                    refine sb_if_eq (tgt := 207) hx hb rfl dX0_play_167 (by decide) (fun c_167_75 => ?_) (fun c_167_75 => ?_)
                    · exact hj_207_94 M_64 x_67 _ _ _ iM_64 f_65 f_66 (by first | omega | decide) (by first | omega | decide) (f_70) (by first | omega | decide) hw (lv_sub hl [0, 1, 2, 3, 4, 5, 6, 7] rfl)
                    · refine lv_aload_n hx hb dX0_play_170 rfl (lv_at hl 3 rfl) ?_
                      refine ti_get (ci := 0) (k := 4) (N := 6) (T := TX0) (v := .ref (A 53 5)) C hw iw_0 rfl ob_53 (by decide) (by decide) fl_X0_28 rfl rfl dX0_play_171 ?_
                      refine lv_aload_n hx hb dX0_play_174 rfl (lv_at hl 3 rfl) ?_
                      refine ti_get (ci := 0) (k := 5) (N := 6) (T := TX0) C hw iw_0 rfl ob_53 (by decide) (by decide) fl_X0_31 rfl rfl dX0_play_175 ?_
                      refine ti_top (y := x_67) (f_70) ?_
                      have u_77 : (tI M_64 53 5).toInt = (x_67 : Int32).toInt := by rw [(f_70)]
                      refine lv_bipush (v := 100) hx hb dX0_play_178 (by decide) ?_
                      refine lv_aload_n hx hb dX0_play_180 rfl (lv_at hl 4 rfl) ?_
                      refine ti_get (ci := 3) (k := 2) (N := 17) (T := TX3) C hw iw_3 rfl ob_27 (by decide) (by decide) fl_X0_45 rfl rfl dX0_play_181 ?_
                      refine lv_topi (fun x_78 ex_78 => ?_)
                      have bx_78 : 0 ≤ x_78.toInt ∧ x_78.toInt ≤ 120 := cI_rd iM_64 ob_27.1 ex_78 (Or.inl rfl)
                      have ux_78 : (tI M_64 27 2).toInt = x_78.toInt := by rw [ex_78]
                      refine lv_iload hx hb dX0_play_184 (lv_at hl 1 rfl) ?_
                      refine lv_iadd hx hb dX0_play_186 ?_
                      refine lv_topi (fun x_79 ex_79 => ?_)
                      have tx_79 : x_79.toInt = x_78.toInt + x_48.toInt := i_add ex_79 rfl rfl (by omega) (by omega)
                      refine lv_imul hx hb dX0_play_187 ?_
                      refine lv_topi (fun x_80 ex_80 => ?_)
                      have tx_80 : x_80.toInt = 100 * x_79.toInt := i_mul ex_80 (by decide : (100 : Int32).toInt = 100) rfl (by omega) (by omega)
                      refine lv_aload_n hx hb dX0_play_188 rfl (lv_at hl 4 rfl) ?_
                      refine ti_get (ci := 3) (k := 2) (N := 17) (T := TX3) C hw iw_3 rfl ob_27 (by decide) (by decide) fl_X0_45 rfl rfl dX0_play_189 ?_
                      refine ti_top (y := x_78) (ex_78.symm) ?_
                      refine lv_iadd hx hb dX0_play_192 ?_
                      refine lv_topi (fun x_81 ex_81 => ?_)
                      have tx_81 : x_81.toInt = x_80.toInt + x_78.toInt := i_add ex_81 rfl rfl (by omega) (by omega)
                      refine lv_iload hx hb dX0_play_193 (lv_at hl 0 rfl) ?_
                      refine lv_iadd hx hb dX0_play_195 ?_
                      refine lv_topi (fun x_82 ex_82 => ?_)
                      have tx_82 : x_82.toInt = x_81.toInt + x_61.toInt := i_add ex_82 rfl rfl (by omega) (by omega)
                      refine ti_iast (ci := 0) (k := 4) (n := 16) C hw ob_53 (by decide) (fun _ _ => rfl) (vp_in_iff.mpr (by omega)) dX0_play_196 (fun H locs hw => ?_)
                      obtain ⟨M_83, hM_83⟩ : ∃ z : ti_M, z = uY M_64 53 4 (upd (tY M_64 53 4) (x_67 : Int32).toNatClampNeg x_82) := ⟨_, rfl⟩
                      have hw := hw.to hM_83.symm
                      have iM_83 : cI Tc M_83 := cI_up iM_64 hM_83 ob_53.1 trivial
                      refine lv_aload_n hx hb dX0_play_197 rfl (lv_at hl 3 rfl) ?_
                      refine lv_dup hx hb dX0_play_198 rfl ?_
                      refine ti_get (ci := 0) (k := 5) (N := 6) (T := TX0) C hw iw_0 rfl ob_53 (by decide) (by decide) fl_X0_31 rfl rfl dX0_play_199 ?_
                      refine ti_top (y := x_67) ((tI_uYE hM_83).trans f_70) ?_
                      have u_84 : (tI M_83 53 5).toInt = (x_67 : Int32).toInt := by rw [((tI_uYE hM_83).trans f_70)]
                      refine lv_iconst (v := 1) hx hb dX0_play_202 (by decide) ?_
                      refine lv_iadd hx hb dX0_play_203 ?_
                      refine lv_topi (fun x_85 ex_85 => ?_)
                      have tx_85 : x_85.toInt = x_67.toInt + 1 := i_add ex_85 rfl (by decide : (1 : Int32).toInt = 1) (by omega) (by omega)
                      refine ti_putI (ci := 0) (k := 5) (N := 6) (T := TX0) C hw iw_0 tyX0 tyX0_ok nmX0 rfl ob_53 (by decide) (by decide) fl_X0_31 rfl rfl rfl rfl (fn_0 A _) fs_0_5 dX0_play_204 (fun H locs hw => ?_)
                      obtain ⟨M_86, hM_86⟩ : ∃ z : ti_M, z = uI M_83 53 5 x_85 := ⟨_, rfl⟩
                      have hw := hw.to hM_86.symm
                      have iM_86 : cI Tc M_86 := cI_uI iM_83 hM_86 ob_53.1 (ib_mk (lo := 0) (hi := 16) (by omega) (by omega))
                      have vM_86 : (tI M_86 53 5).toInt = (x_85 : Int32).toInt := by rw [tI_uE hM_86]
                      exact hj_207_94 M_86 x_85 _ _ _ iM_86 (rT.trans (rs_of (rf_I hM_86)) (rT.trans (rs_of (rf_Y hM_83)) f_65)) (fX.trans (fx_I hM_86 (by decide)) (fX.trans (fx_of (ra_Y hM_83)) f_66)) (by first | omega | decide) (by first | omega | decide) (tI_uE hM_86) (by first | omega | decide) hw (lv_sub hl [0, 1, 2, 3, 4, 5, 6, 7] rfl)
              exact hl_150_71 ((4 - 0 : Int).toNat + 1) 0 M_51 x_54 _ _ _ (Nat.lt_succ_self _) (by have lt0 : (0 : Int32).toInt = 0 := (by decide); first | omega | decide) (by have lt0 : (0 : Int32).toInt = 0 := (by decide); first | omega | decide) iM_51 f_52 f_53 (by have lt0 : (0 : Int32).toInt = 0 := (by decide); first | omega | decide) (by have lt0 : (0 : Int32).toInt = 0 := (by decide); first | omega | decide) (f_57) (by have lt0 : (0 : Int32).toInt = 0 := (by decide); first | omega | decide) hw (lv_sub hl [0, 1, 2, 3, 4, 5, 6, 7] rfl)
        exact hl_140_58 ((4 - 0 : Int).toNat + 1) 0 M_47 0 _ _ _ (Nat.lt_succ_self _) (by have lt0 : (0 : Int32).toInt = 0 := (by decide); first | omega | decide) (by have lt0 : (0 : Int32).toInt = 0 := (by decide); first | omega | decide) iM_47 (rT.trans (rs_of (rf_I hM_47)) f_9) (fX.trans (fx_I hM_47 (by decide)) f_10) (by have lt0 : (0 : Int32).toInt = 0 := (by decide); first | omega | decide) (by have lt0 : (0 : Int32).toInt = 0 := (by decide); first | omega | decide) (tI_uE hM_47) (by have lt0 : (0 : Int32).toInt = 0 := (by decide); first | omega | decide) hw (lv_sub hl [0, 1, 2, 3, 4, 5, 6] rfl)
      · refine lv_iconst (v := 0) hx hb dX0_play_25 (by decide) ?_
        refine lv_istore (lv' := [(7, .int 0), (6, .int x_5), (5, .int x_4), (0, .ref (A 53 0)), (1, .ref (A 27 0)), (2, .int m1), (3, .int m2), (4, .int nn)]) hx hb dX0_play_26 hl (by decide) rfl (fun ls hl => ?_)
        have hl_28_18 : ∀ (n_19 : Nat) (x_13 : Int32) (M_16 : ti_M) (H : Heap) (locs : List Loc) (ls : Array Slot), (4 - x_13.toInt : Int).toNat < n_19 → (0 ≤ x_13.toInt) → (x_13.toInt ≤ 4) → (cI Tc M_16) → (rT M_16 M) → (fX M_16 M) → ti_H ti_LT D A cy H0 M_16 H locs → lv_has ls 8 [(7, .int x_13), (6, .int x_5), (5, .int x_4), (0, .ref (A 53 0)), (1, .ref (A 27 0)), (2, .int m1), (3, .int m2), (4, .int nn)] → W p l e (ti_rm 6) s m args below meth c H locs 0 0 Q (F0 m 28 ls []) := by
          intro n_19
          induction n_19 with
          | zero => intro x_13 M_16 H locs ls hf_19; exact absurd hf_19 (Nat.not_lt_zero _)
          | succ n_19 ih_19 =>
            intro x_13 M_16 H locs ls hf_19 b_14 b_15 iM_16 f_17 f_18 hw hl
            refine lv_iload hx hb dX0_play_28 (lv_at hl 0 rfl) ?_
            refine lv_iload hx hb dX0_play_30 (lv_at hl 2 rfl) ?_
            refine sb_icmp_ge (tgt := 126) hx hb rfl rfl dX0_play_32 (by decide) (fun c_32_19 => ?_) (fun c_32_19 => ?_)
            · obtain ⟨x_46, ex_46⟩ : ∃ z : Int32, z = x_5 + 1 := ⟨_, rfl⟩
              have tx_46 : x_46.toInt = x_5.toInt + 1 := i_add ex_46 rfl (by decide) (by omega) (by omega)
              refine lv_iinc (v := x_46) (lv' := [(6, .int x_46), (7, .int x_13), (5, .int x_4), (0, .ref (A 53 0)), (1, .ref (A 27 0)), (2, .int m1), (3, .int m2), (4, .int nn)]) hx hb dX0_play_126 hl (k := 1) rfl (by rw [ex_46]; rfl) (by decide) rfl (fun ls hl => ?_)
              refine lv_goto (tgt := 18) hx hb dX0_play_129 (by decide) ?_
              exact ih_11 x_46 M_16 _ _ _ (by omega) (by first | omega | decide) (by first | omega | decide) iM_16 f_17 f_18 hw (lv_sub hl [0, 2, 3, 4, 5, 6, 7] rfl)
            · refine lv_aload_n hx hb dX0_play_35 rfl (lv_at hl 3 rfl) ?_
              refine lv_aload_n hx hb dX0_play_36 rfl (lv_at hl 4 rfl) ?_
              refine ti_callVv (ci := 0) (av := [.ref (A 27 0)]) C hw (s_X0_prepare l D A cy hJ M_16 iM_16 t ht ((f_17 27 0 (by decide)).trans hT)) ⟨ml_X0_42, ym_X0_prepare, yv_X0_prepare, yi_X0_prepare, yc_X0_prepare⟩ yd_X0_prepare ob_53 (by decide) rfl rfl hl.1 (Nat.le_of_ble_eq_true rfl) ⟨by decide, by decide⟩ ⟨Nat.zero_le _, Nat.zero_le _⟩ dX0_play_37 (fun M_22 H locs hp_22 hw => ?_)
              obtain ⟨iM_22, q_23, q_24⟩ := hp_22
              refine lv_aload_n hx hb dX0_play_40 rfl (lv_at hl 3 rfl) ?_
              refine ti_get (ci := 0) (k := 0) (N := 6) (T := TX0) (v := .ref (A 54 0)) C hw iw_0 rfl ob_53 (by decide) (by decide) fl_X0_12 rfl rfl dX0_play_41 ?_
              refine ti_get (ci := 3) (k := 9) (N := 17) (T := TX3) (v := .ref (A 54 10)) C hw iw_3 rfl ob_54 (by decide) (by decide) fl_X0_57 rfl rfl dX0_play_44 ?_
              refine lv_iload_n hx hb dX0_play_47 rfl (lv_at hl 5 rfl) ?_
              refine lv_aload_n hx hb dX0_play_48 rfl (lv_at hl 4 rfl) ?_
              refine ti_get (ci := 3) (k := 2) (N := 17) (T := TX3) C hw iw_3 rfl ob_27 (by decide) (by decide) fl_X0_45 rfl rfl dX0_play_49 ?_
              refine lv_topi (fun x_25 ex_25 => ?_)
              have bx_25 : 0 ≤ x_25.toInt ∧ x_25.toInt ≤ 120 := cI_rd iM_22 ob_27.1 ex_25 (Or.inl rfl)
              have ux_25 : (tI M_22 27 2).toInt = x_25.toInt := by rw [ex_25]
              refine lv_iload hx hb dX0_play_52 (lv_at hl 1 rfl) ?_
              refine lv_iadd hx hb dX0_play_54 ?_
              refine lv_topi (fun x_26 ex_26 => ?_)
              have tx_26 : x_26.toInt = x_25.toInt + x_5.toInt := i_add ex_26 rfl rfl (by omega) (by omega)
              refine ti_iast (ci := 3) (k := 9) (n := 8) C hw ob_54 (by decide) (fun _ _ => rfl) (vp_in_iff.mpr (by omega)) dX0_play_55 (fun H locs hw => ?_)
              obtain ⟨M_27, hM_27⟩ : ∃ z : ti_M, z = uY M_22 54 9 (upd (tY M_22 54 9) (m1 : Int32).toNatClampNeg x_26) := ⟨_, rfl⟩
              have hw := hw.to hM_27.symm
              have iM_27 : cI Tc M_27 := cI_up iM_22 hM_27 ob_54.1 trivial
              refine lv_aload_n hx hb dX0_play_56 rfl (lv_at hl 3 rfl) ?_
              refine ti_get (ci := 0) (k := 0) (N := 6) (T := TX0) (v := .ref (A 54 0)) C hw iw_0 rfl ob_53 (by decide) (by decide) fl_X0_12 rfl rfl dX0_play_57 ?_
              refine ti_get (ci := 3) (k := 9) (N := 17) (T := TX3) (v := .ref (A 54 10)) C hw iw_3 rfl ob_54 (by decide) (by decide) fl_X0_57 rfl rfl dX0_play_60 ?_
              refine lv_iload_n hx hb dX0_play_63 rfl (lv_at hl 6 rfl) ?_
              refine lv_aload_n hx hb dX0_play_64 rfl (lv_at hl 4 rfl) ?_
              refine ti_get (ci := 3) (k := 2) (N := 17) (T := TX3) C hw iw_3 rfl ob_27 (by decide) (by decide) fl_X0_45 rfl rfl dX0_play_65 ?_
              refine ti_top (y := x_25) ((tI_uYE hM_27).trans ex_25.symm) ?_
              refine lv_iload hx hb dX0_play_68 (lv_at hl 0 rfl) ?_
              refine lv_iadd hx hb dX0_play_70 ?_
              refine lv_topi (fun x_28 ex_28 => ?_)
              have tx_28 : x_28.toInt = x_25.toInt + x_13.toInt := i_add ex_28 rfl rfl (by omega) (by omega)
              refine ti_iast (ci := 3) (k := 9) (n := 8) C hw ob_54 (by decide) (fun _ _ => rfl) (vp_in_iff.mpr (by omega)) dX0_play_71 (fun H locs hw => ?_)
              obtain ⟨M_29, hM_29⟩ : ∃ z : ti_M, z = uY M_27 54 9 (upd (tY M_27 54 9) (m2 : Int32).toNatClampNeg x_28) := ⟨_, rfl⟩
              have hw := hw.to hM_29.symm
              have iM_29 : cI Tc M_29 := cI_up iM_27 hM_29 ob_54.1 trivial
              refine lv_aload_n hx hb dX0_play_72 rfl (lv_at hl 3 rfl) ?_
              refine ti_get (ci := 0) (k := 0) (N := 6) (T := TX0) (v := .ref (A 54 0)) C hw iw_0 rfl ob_53 (by decide) (by decide) fl_X0_12 rfl rfl dX0_play_73 ?_
              refine lv_aload_n hx hb dX0_play_76 rfl (lv_at hl 4 rfl) ?_
              refine ti_get (ci := 3) (k := 2) (N := 17) (T := TX3) C hw iw_3 rfl ob_27 (by decide) (by decide) fl_X0_45 rfl rfl dX0_play_77 ?_
              refine ti_top (y := x_25) ((tI_uYE hM_29).trans ((tI_uYE hM_27).trans ex_25.symm)) ?_
              refine lv_iload hx hb dX0_play_80 (lv_at hl 7 rfl) ?_
              refine lv_iadd hx hb dX0_play_82 ?_
              refine lv_topi (fun x_30 ex_30 => ?_)
              refine ti_callVv (ci := 3) (av := [.int x_30]) C hw (s_X3_passTo l D A cy hJ M_29 iM_29 54 t ob_54 ht ((tT_uYE hM_29).trans ((tT_uYE hM_27).trans ((tT_fr q_23).trans (tT_u _ _ _ _)))) x_30 np_54) ⟨ml_X0_60, ym_X3_passTo, yv_X3_passTo, yi_X3_passTo, yc_X3_passTo⟩ yd_X3_passTo ob_54 (by decide) rfl rfl hl.1 (Nat.le_of_ble_eq_true rfl) ⟨by decide, by decide⟩ ⟨Nat.zero_le _, Nat.zero_le _⟩ dX0_play_83 (fun M_32 H locs hp_32 hw => ?_)
              obtain ⟨iM_32, q_33, q_34⟩ := hp_32
              refine lv_aload_n hx hb dX0_play_86 rfl (lv_at hl 3 rfl) ?_
              refine ti_get (ci := 0) (k := 2) (N := 6) (T := TX0) (v := .ref (A 53 3)) C hw iw_0 rfl ob_53 (by decide) (by decide) fl_X0_21 rfl rfl dX0_play_87 ?_
              refine lv_iload hx hb dX0_play_90 (lv_at hl 1 rfl) ?_
              refine lv_iconst (v := 4) hx hb dX0_play_92 (by decide) ?_
              refine lv_imul hx hb dX0_play_93 ?_
              refine lv_topi (fun x_35 ex_35 => ?_)
              have tx_35 : x_35.toInt = x_5.toInt * 4 := i_mul ex_35 rfl (by decide : (4 : Int32).toInt = 4) (by omega) (by omega)
              refine lv_iload hx hb dX0_play_94 (lv_at hl 0 rfl) ?_
              refine lv_iadd hx hb dX0_play_96 ?_
              refine lv_topi (fun x_36 ex_36 => ?_)
              have tx_36 : x_36.toInt = x_35.toInt + x_13.toInt := i_add ex_36 rfl rfl (by omega) (by omega)
              refine lv_aload_n hx hb dX0_play_97 rfl (lv_at hl 3 rfl) ?_
              refine lv_iload_n hx hb dX0_play_98 rfl (lv_at hl 5 rfl) ?_
              refine ti_callVi (ci := 0) (av := [.int m1]) C hw (s_X0_worth l D A cy hJ M_32 iM_32 m1 (by first | omega | decide) (by first | omega | decide)) ⟨ml_X0_123, ym_X0_worth, yv_X0_worth, yi_X0_worth, yc_X0_worth⟩ yd_X0_worth ob_53 (by decide) rfl rfl hl.1 (Nat.le_of_ble_eq_true rfl) ⟨by decide, by decide⟩ ⟨Nat.zero_le _, Nat.zero_le _⟩ dX0_play_99 (fun r_37 M_38 H locs hp_38 hw => ?_)
              have hm := hp_38
              have hw := hw.to hm
              refine ti_iast (ci := 0) (k := 2) (n := 16) C hw ob_53 (by decide) (fun _ _ => rfl) (vp_in_iff.mpr (by omega)) dX0_play_102 (fun H locs hw => ?_)
              obtain ⟨M_39, hM_39⟩ : ∃ z : ti_M, z = uY M_32 53 2 (upd (tY M_32 53 2) (x_36 : Int32).toNatClampNeg r_37) := ⟨_, rfl⟩
              have hw := hw.to hM_39.symm
              have iM_39 : cI Tc M_39 := cI_up iM_32 hM_39 ob_53.1 trivial
              refine lv_aload_n hx hb dX0_play_103 rfl (lv_at hl 3 rfl) ?_
              refine ti_get (ci := 0) (k := 3) (N := 6) (T := TX0) (v := .ref (A 53 4)) C hw iw_0 rfl ob_53 (by decide) (by decide) fl_X0_25 rfl rfl dX0_play_104 ?_
              refine lv_iload hx hb dX0_play_107 (lv_at hl 1 rfl) ?_
              refine lv_iconst (v := 4) hx hb dX0_play_109 (by decide) ?_
              refine lv_imul hx hb dX0_play_110 ?_
              refine lv_topi (fun x_40 ex_40 => ?_)
              have tx_40 : x_40.toInt = x_5.toInt * 4 := i_mul ex_40 rfl (by decide : (4 : Int32).toInt = 4) (by omega) (by omega)
              refine lv_iload hx hb dX0_play_111 (lv_at hl 0 rfl) ?_
              refine lv_iadd hx hb dX0_play_113 ?_
              refine lv_topi (fun x_41 ex_41 => ?_)
              have tx_41 : x_41.toInt = x_40.toInt + x_13.toInt := i_add ex_41 rfl rfl (by omega) (by omega)
              refine lv_aload_n hx hb dX0_play_114 rfl (lv_at hl 3 rfl) ?_
              refine lv_iload_n hx hb dX0_play_115 rfl (lv_at hl 6 rfl) ?_
              refine ti_callVi (ci := 0) (av := [.int m2]) C hw (s_X0_worth l D A cy hJ M_39 iM_39 m2 (by first | omega | decide) (by first | omega | decide)) ⟨ml_X0_123, ym_X0_worth, yv_X0_worth, yi_X0_worth, yc_X0_worth⟩ yd_X0_worth ob_53 (by decide) rfl rfl hl.1 (Nat.le_of_ble_eq_true rfl) ⟨by decide, by decide⟩ ⟨Nat.zero_le _, Nat.zero_le _⟩ dX0_play_116 (fun r_42 M_43 H locs hp_43 hw => ?_)
              have hm := hp_43
              have hw := hw.to hm
              refine ti_iast (ci := 0) (k := 3) (n := 16) C hw ob_53 (by decide) (fun _ _ => rfl) (vp_in_iff.mpr (by omega)) dX0_play_119 (fun H locs hw => ?_)
              obtain ⟨M_44, hM_44⟩ : ∃ z : ti_M, z = uY M_39 53 3 (upd (tY M_39 53 3) (x_41 : Int32).toNatClampNeg r_42) := ⟨_, rfl⟩
              have hw := hw.to hM_44.symm
              have iM_44 : cI Tc M_44 := cI_up iM_39 hM_44 ob_53.1 trivial
              obtain ⟨x_45, ex_45⟩ : ∃ z : Int32, z = x_13 + 1 := ⟨_, rfl⟩
              have tx_45 : x_45.toInt = x_13.toInt + 1 := i_add ex_45 rfl (by decide) (by omega) (by omega)
              refine lv_iinc (v := x_45) (lv' := [(7, .int x_45), (6, .int x_5), (5, .int x_4), (0, .ref (A 53 0)), (1, .ref (A 27 0)), (2, .int m1), (3, .int m2), (4, .int nn)]) hx hb dX0_play_120 hl (k := 0) rfl (by rw [ex_45]; rfl) (by decide) rfl (fun ls hl => ?_)
              refine lv_goto (tgt := 28) hx hb dX0_play_123 (by decide) ?_
              exact ih_19 x_45 M_44 _ _ _ (by omega) (by first | omega | decide) (by first | omega | decide) iM_44 (rT.trans (rs_of (rf_Y hM_44)) (rT.trans (rs_of (rf_Y hM_39)) (rT.trans (rs_of q_33) (rT.trans (rs_of (rf_Y hM_29)) (rT.trans (rs_of (rf_Y hM_27)) (rT.trans (rs_TT q_23 (by decide)) f_17)))))) (fX.trans (fx_of (ra_Y hM_44)) (fX.trans (fx_of (ra_Y hM_39)) (fX.trans q_34 (fX.trans (fx_of (ra_Y hM_29)) (fX.trans (fx_of (ra_Y hM_27)) (fX.trans q_24 f_18)))))) hw (lv_sub hl [0, 1, 2, 3, 4, 5, 6, 7] rfl)
        exact hl_28_18 ((4 - 0 : Int).toNat + 1) 0 M_8 _ _ _ (Nat.lt_succ_self _) (by have lt0 : (0 : Int32).toInt = 0 := (by decide); first | omega | decide) (by have lt0 : (0 : Int32).toInt = 0 := (by decide); first | omega | decide) iM_8 f_9 f_10 hw (lv_sub hl [0, 1, 2, 3, 4, 5, 6, 7] rfl)
  exact hl_18_10 ((4 - 0 : Int).toNat + 1) 0 M _ _ _ (Nat.lt_succ_self _) (by have lt0 : (0 : Int32).toInt = 0 := (by decide); first | omega | decide) (by have lt0 : (0 : Int32).toInt = 0 := (by decide); first | omega | decide) hI rT.refl fX.refl hw (lv_sub hl [0, 1, 2, 3, 4, 5, 6] rfl)
set_option maxHeartbeats 4000000 in
set_option maxRecDepth 100000 in
theorem s_X0_minutesHeld (l : Launch) (D : va_G) (A : Nat → Nat → Nat) (cy : Nat → ClassId) (hJ : ti_inj ti_LT A) (M : ti_M) (hI : cI Tc M) (t : Nat) (ht : t = 3 ∨ t = 4) (hT : tT M 27 0 = some t) (kd pl mn nn : Int32) (h1 : 0 ≤ kd.toInt) (h2 : kd.toInt ≤ 2) : ti_Ki l yX0_minutesHeld cX0_minutesHeld 8 (some .int) 5 ti_LT D A cy M [.ref (A 53 0), .ref (A 27 0), .int kd, .int pl, .int mn, .int nn] (fun r M2 => cI Tc M2 ∧ rT M2 M ∧ fX M2 M) := by
  refine ti_eI yp_X0_minutesHeld hJ ti_LT_nd (Nat.le_of_ble_eq_true rfl) ?_
  intro p e s m args below meth c Q H0 C hQ hw ls hl
  have hx := C.1
  have hb := C.2.1
  have hl : lv_has ls 8 [(0, .ref (A 53 0)), (1, .ref (A 27 0)), (2, .int kd), (3, .int pl), (4, .int mn), (5, .int nn)] := hl
  have hnn := nn.toInt_lt
  refine lv_aload_n hx hb dX0_minutesHeld_0 rfl (lv_at hl 0 rfl) ?_
  refine lv_aload_n hx hb dX0_minutesHeld_1 rfl (lv_at hl 1 rfl) ?_
  refine ti_callVv (ci := 0) (av := [.ref (A 27 0)]) C hw (s_X0_prepare l D A cy hJ M hI t ht (hT)) ⟨ml_X0_42, ym_X0_prepare, yv_X0_prepare, yi_X0_prepare, yc_X0_prepare⟩ yd_X0_prepare ob_53 (by decide) rfl rfl hl.1 (Nat.le_of_ble_eq_true rfl) ⟨by decide, by decide⟩ ⟨Nat.zero_le _, Nat.zero_le _⟩ dX0_minutesHeld_2 (fun M_2 H locs hp_2 hw => ?_)
  obtain ⟨iM_2, q_3, q_4⟩ := hp_2
  refine lv_aload_n hx hb dX0_minutesHeld_5 rfl (lv_at hl 0 rfl) ?_
  refine ti_get (ci := 0) (k := 0) (N := 6) (T := TX0) (v := .ref (A 54 0)) C hw iw_0 rfl ob_53 (by decide) (by decide) fl_X0_12 rfl rfl dX0_minutesHeld_6 ?_
  refine ti_get (ci := 3) (k := 7) (N := 17) (T := TX3) (v := .ref (A 54 8)) C hw iw_3 rfl ob_54 (by decide) (by decide) fl_X0_137 rfl rfl dX0_minutesHeld_9 ?_
  refine lv_iload_n hx hb dX0_minutesHeld_12 rfl (lv_at hl 2 rfl) ?_
  refine lv_iload_n hx hb dX0_minutesHeld_13 rfl (lv_at hl 3 rfl) ?_
  refine ti_iast (ci := 3) (k := 7) (n := 3) C hw ob_54 (by decide) (fun _ _ => rfl) (vp_in_iff.mpr (by omega)) dX0_minutesHeld_14 (fun H locs hw => ?_)
  obtain ⟨M_5, hM_5⟩ : ∃ z : ti_M, z = uY M_2 54 7 (upd (tY M_2 54 7) (kd : Int32).toNatClampNeg pl) := ⟨_, rfl⟩
  have hw := hw.to hM_5.symm
  have iM_5 : cI Tc M_5 := cI_up iM_2 hM_5 ob_54.1 trivial
  refine lv_iconst (v := 0) hx hb dX0_minutesHeld_15 (by decide) ?_
  refine lv_istore (lv' := [(6, .int 0), (0, .ref (A 53 0)), (1, .ref (A 27 0)), (2, .int kd), (3, .int pl), (4, .int mn), (5, .int nn)]) hx hb dX0_minutesHeld_16 hl (by decide) rfl (fun ls hl => ?_)
  refine lv_iconst (v := 0) hx hb dX0_minutesHeld_18 (by decide) ?_
  refine lv_istore (lv' := [(7, .int 0), (6, .int 0), (0, .ref (A 53 0)), (1, .ref (A 27 0)), (2, .int kd), (3, .int pl), (4, .int mn), (5, .int nn)]) hx hb dX0_minutesHeld_19 hl (by decide) rfl (fun ls hl => ?_)
  have hl_21_12 : ∀ (n_13 : Nat) (x_6 : Int32) (x_8 : Int32) (M_9 : ti_M) (H : Heap) (locs : List Loc) (ls : Array Slot), (nn.toInt - x_6.toInt : Int).toNat < n_13 → (0 ≤ x_6.toInt) → (cI Tc M_9) → (rT M_9 M) → (fX M_9 M) → (tT M_9 54 0 = (some t)) → ti_H ti_LT D A cy H0 M_9 H locs → lv_has ls 8 [(7, .int x_6), (6, .int x_8), (0, .ref (A 53 0)), (1, .ref (A 27 0)), (2, .int kd), (3, .int pl), (4, .int mn), (5, .int nn)] → W p l e (ti_rm 5) s m args below meth c H locs 0 0 Q (F0 m 21 ls []) := by
    intro n_13
    induction n_13 with
    | zero => intro x_6 x_8 M_9 H locs ls hf_13; exact absurd hf_13 (Nat.not_lt_zero _)
    | succ n_13 ih_13 =>
      intro x_6 x_8 M_9 H locs ls hf_13 b_7 iM_9 f_10 f_11 f_12 hw hl
      refine lv_iload hx hb dX0_minutesHeld_21 (lv_at hl 0 rfl) ?_
      refine lv_iload hx hb dX0_minutesHeld_23 (lv_at hl 7 rfl) ?_
      refine sb_icmp_ge (tgt := 57) hx hb rfl rfl dX0_minutesHeld_25 (by decide) (fun c_25_13 => ?_) (fun c_25_13 => ?_)
      · refine lv_iload hx hb dX0_minutesHeld_57 (lv_at hl 1 rfl) ?_
        exact hQ _ _ _ _ _ _ hw rfl (⟨iM_9, f_10, f_11⟩) dX0_minutesHeld_59
      · refine lv_aload_n hx hb dX0_minutesHeld_28 rfl (lv_at hl 2 rfl) ?_
        refine ti_get (ci := 0) (k := 0) (N := 6) (T := TX0) (v := .ref (A 54 0)) C hw iw_0 rfl ob_53 (by decide) (by decide) fl_X0_12 rfl rfl dX0_minutesHeld_29 ?_
        refine ti_callVv (ci := 3) (av := []) C hw (s_X3_pass l D A cy hJ M_9 iM_9 54 t ob_54 ht (f_12) (fun h => absurd h np_54)) ⟨ml_X0_51, ym_X3_pass, yv_X3_pass, yi_X3_pass, yc_X3_pass⟩ yd_X3_pass ob_54 (by decide) rfl rfl hl.1 (Nat.le_of_ble_eq_true rfl) ⟨by decide, by decide⟩ ⟨Nat.zero_le _, Nat.zero_le _⟩ dX0_minutesHeld_32 (fun M_16 H locs hp_16 hw => ?_)
        obtain ⟨iM_16, q_17, q_18, q_19⟩ := hp_16
        refine lv_aload_n hx hb dX0_minutesHeld_35 rfl (lv_at hl 2 rfl) ?_
        refine ti_get (ci := 0) (k := 0) (N := 6) (T := TX0) (v := .ref (A 54 0)) C hw iw_0 rfl ob_53 (by decide) (by decide) fl_X0_12 rfl rfl dX0_minutesHeld_36 ?_
        refine lv_iload_n hx hb dX0_minutesHeld_39 rfl (lv_at hl 5 rfl) ?_
        refine ti_callVi (ci := 3) (av := [.int pl]) C hw (s_X3_manAt l D A cy hJ M_16 iM_16 54 ob_54 pl) ⟨ml_X0_64, ym_X3_manAt, yv_X3_manAt, yi_X3_manAt, yc_X3_manAt⟩ yd_X3_manAt ob_54 (by decide) rfl rfl hl.1 (Nat.le_of_ble_eq_true rfl) ⟨by decide, by decide⟩ ⟨Nat.zero_le _, Nat.zero_le _⟩ dX0_minutesHeld_40 (fun r_20 M_21 H locs hp_21 hw => ?_)
        obtain ⟨hm, b0r_20, b1r_20, p0r_20⟩ := hp_21
        have hw := hw.to hm
        refine lv_iload hx hb dX0_minutesHeld_43 (lv_at hl 6 rfl) ?_
        have hj_51_24 : ∀ (x_24 : Int32) (H : Heap) (locs : List Loc) (ls : Array Slot), ti_H ti_LT D A cy H0 M_16 H locs → lv_has ls 8 [(7, .int x_6), (6, .int x_24), (0, .ref (A 53 0)), (1, .ref (A 27 0)), (2, .int kd), (3, .int pl), (4, .int mn), (5, .int nn)] → W p l e (ti_rm 5) s m args below meth c H locs 0 0 Q (F0 m 51 ls []) := by
          intro x_24 H locs ls  hw hl
          obtain ⟨x_25, ex_25⟩ : ∃ z : Int32, z = x_6 + 1 := ⟨_, rfl⟩
          have lox_25 := x_6.le_toInt
          have hix_25 := x_6.toInt_lt
          have tx_25 : x_25.toInt = x_6.toInt + 1 := i_add ex_25 rfl (by decide) (by omega) (by omega)
          refine lv_iinc (v := x_25) (lv' := [(7, .int x_25), (6, .int x_24), (0, .ref (A 53 0)), (1, .ref (A 27 0)), (2, .int kd), (3, .int pl), (4, .int mn), (5, .int nn)]) hx hb dX0_minutesHeld_51 hl (k := 0) rfl (by rw [ex_25]; rfl) (by decide) rfl (fun ls hl => ?_)
          refine lv_goto (tgt := 21) hx hb dX0_minutesHeld_54 (by decide) ?_
          exact ih_13 x_25 x_24 M_16 _ _ _ (by omega) (by first | omega | decide) iM_16 (rT.trans (rs_of q_17) f_10) (fX.trans q_19 f_11) ((tT_fr q_17).trans f_12) hw (lv_sub hl [0, 1, 2, 3, 4, 5, 6, 7] rfl)
        refine sb_icmp_ne (tgt := 51) hx hb rfl rfl dX0_minutesHeld_45 (by decide) (fun c_45_21 => ?_) (fun c_45_21 => ?_)
        · exact hj_51_24 x_8 _ _ _  hw (lv_sub hl [0, 1, 2, 3, 4, 5, 6, 7] rfl)
        · obtain ⟨x_23, ex_23⟩ : ∃ z : Int32, z = x_8 + 1 := ⟨_, rfl⟩
          refine lv_iinc (v := x_23) (lv' := [(6, .int x_23), (7, .int x_6), (0, .ref (A 53 0)), (1, .ref (A 27 0)), (2, .int kd), (3, .int pl), (4, .int mn), (5, .int nn)]) hx hb dX0_minutesHeld_48 hl (k := 1) rfl (by rw [ex_23]; rfl) (by decide) rfl (fun ls hl => ?_)
          exact hj_51_24 x_23 _ _ _  hw (lv_sub hl [1, 0, 2, 3, 4, 5, 6, 7] rfl)
  exact hl_21_12 ((nn.toInt - 0 : Int).toNat + 1) 0 0 M_5 _ _ _ (Nat.lt_succ_self _) (by have lt0 : (0 : Int32).toInt = 0 := (by decide); first | omega | decide) iM_5 (rT.trans (rs_of (rf_Y hM_5)) (rs_TT q_3 (by decide))) (fX.trans (fx_of (ra_Y hM_5)) q_4) ((tT_uYE hM_5).trans ((tT_fr q_3).trans (tT_u _ _ _ _))) hw (lv_sub hl [0, 1, 2, 3, 4, 5, 6, 7] rfl)
set_option maxHeartbeats 4000000 in
set_option maxRecDepth 100000 in
theorem s_X0_bestPlace (l : Launch) (D : va_G) (A : Nat → Nat → Nat) (cy : Nat → ClassId) (hJ : ti_inj ti_LT A) (M : ti_M) (hI : cI Tc M) (t : Nat) (ht : t = 3 ∨ t = 4) (hT : tT M 27 0 = some t) (kd mn nn wh : Int32) (h1 : 0 ≤ kd.toInt) (h2 : kd.toInt ≤ 2) : ti_Ki l yX0_bestPlace cX0_bestPlace 10 (some .int) 6 ti_LT D A cy M [.ref (A 53 0), .ref (A 27 0), .int kd, .int mn, .int nn, .int wh] (fun r M2 => cI Tc M2 ∧ rT M2 M ∧ fX M2 M) := by
  refine ti_eI yp_X0_bestPlace hJ ti_LT_nd (Nat.le_of_ble_eq_true rfl) ?_
  intro p e s m args below meth c Q H0 C hQ hw ls hl
  have hx := C.1
  have hb := C.2.1
  have hl : lv_has ls 10 [(0, .ref (A 53 0)), (1, .ref (A 27 0)), (2, .int kd), (3, .int mn), (4, .int nn), (5, .int wh)] := hl
  refine lv_iconst (v := 0) hx hb dX0_bestPlace_0 (by decide) ?_
  refine lv_istore (lv' := [(6, .int 0), (0, .ref (A 53 0)), (1, .ref (A 27 0)), (2, .int kd), (3, .int mn), (4, .int nn), (5, .int wh)]) hx hb dX0_bestPlace_1 hl (by decide) rfl (fun ls hl => ?_)
  refine lv_iconst (v := (-1)) hx hb dX0_bestPlace_3 (by decide) ?_
  refine lv_istore (lv' := [(7, .int (-1)), (6, .int 0), (0, .ref (A 53 0)), (1, .ref (A 27 0)), (2, .int kd), (3, .int mn), (4, .int nn), (5, .int wh)]) hx hb dX0_bestPlace_4 hl (by decide) rfl (fun ls hl => ?_)
  refine lv_iconst (v := 0) hx hb dX0_bestPlace_6 (by decide) ?_
  refine lv_istore (lv' := [(8, .int 0), (7, .int (-1)), (6, .int 0), (0, .ref (A 53 0)), (1, .ref (A 27 0)), (2, .int kd), (3, .int mn), (4, .int nn), (5, .int wh)]) hx hb dX0_bestPlace_7 hl (by decide) rfl (fun ls hl => ?_)
  have hl_9_8 : ∀ (n_9 : Nat) (x_1 : Int32) (x_4 : Int32) (x_5 : Int32) (M_6 : ti_M) (H : Heap) (locs : List Loc) (ls : Array Slot), (8 - x_1.toInt : Int).toNat < n_9 → (0 ≤ x_1.toInt) → (x_1.toInt ≤ 8) → (cI Tc M_6) → (rT M_6 M) → (fX M_6 M) → ti_H ti_LT D A cy H0 M_6 H locs → lv_has ls 10 [(8, .int x_1), (7, .int x_4), (6, .int x_5), (0, .ref (A 53 0)), (1, .ref (A 27 0)), (2, .int kd), (3, .int mn), (4, .int nn), (5, .int wh)] → W p l e (ti_rm 6) s m args below meth c H locs 0 0 Q (F0 m 9 ls []) := by
    intro n_9
    induction n_9 with
    | zero => intro x_1 x_4 x_5 M_6 H locs ls hf_9; exact absurd hf_9 (Nat.not_lt_zero _)
    | succ n_9 ih_9 =>
      intro x_1 x_4 x_5 M_6 H locs ls hf_9 b_2 b_3 iM_6 f_7 f_8 hw hl
      refine lv_iload hx hb dX0_bestPlace_9 (lv_at hl 0 rfl) ?_
      refine lv_bipush (v := 8) hx hb dX0_bestPlace_11 (by decide) ?_
      refine sb_icmp_ge (tgt := 50) hx hb rfl (by decide : (8 : Int32).toInt = 8) dX0_bestPlace_13 (by decide) (fun c_13_9 => ?_) (fun c_13_9 => ?_)
      · refine lv_iload hx hb dX0_bestPlace_50 (lv_at hl 8 rfl) ?_
        refine sb_if_ne (tgt := 60) hx hb rfl dX0_bestPlace_52 (by decide) (fun c_52_18 => ?_) (fun c_52_18 => ?_)
        · refine lv_iload hx hb dX0_bestPlace_60 (lv_at hl 1 rfl) ?_
          exact hQ _ _ _ _ _ _ hw rfl (⟨iM_6, f_7, f_8⟩) dX0_bestPlace_62
        · refine lv_iload hx hb dX0_bestPlace_55 (lv_at hl 2 rfl) ?_
          refine lv_goto (tgt := 62) hx hb dX0_bestPlace_57 (by decide) ?_
          exact hQ _ _ _ _ _ _ hw rfl (⟨iM_6, f_7, f_8⟩) dX0_bestPlace_62
      · refine lv_aload_n hx hb dX0_bestPlace_16 rfl (lv_at hl 3 rfl) ?_
        refine lv_aload_n hx hb dX0_bestPlace_17 rfl (lv_at hl 4 rfl) ?_
        refine lv_iload_n hx hb dX0_bestPlace_18 rfl (lv_at hl 5 rfl) ?_
        refine lv_iload hx hb dX0_bestPlace_19 (lv_at hl 0 rfl) ?_
        refine lv_iload_n hx hb dX0_bestPlace_21 rfl (lv_at hl 6 rfl) ?_
        refine lv_iload hx hb dX0_bestPlace_22 (lv_at hl 7 rfl) ?_
        refine ti_callVi (ci := 0) (av := [.ref (A 27 0), .int kd, .int x_1, .int mn, .int nn]) C hw (s_X0_minutesHeld l D A cy hJ M_6 iM_6 t ht ((f_7 27 0 (by decide)).trans hT) kd x_1 mn nn (by first | omega | decide) (by first | omega | decide)) ⟨ml_X0_133, ym_X0_minutesHeld, yv_X0_minutesHeld, yi_X0_minutesHeld, yc_X0_minutesHeld⟩ yd_X0_minutesHeld ob_53 (by decide) rfl rfl hl.1 (Nat.le_of_ble_eq_true rfl) ⟨by decide, by decide⟩ ⟨Nat.zero_le _, Nat.zero_le _⟩ dX0_bestPlace_24 (fun r_11 M_12 H locs hp_12 hw => ?_)
        obtain ⟨iM_12, q_13, q_14⟩ := hp_12
        refine lv_istore (lv' := [(9, .int r_11), (8, .int x_1), (7, .int x_4), (6, .int x_5), (0, .ref (A 53 0)), (1, .ref (A 27 0)), (2, .int kd), (3, .int mn), (4, .int nn), (5, .int wh)]) hx hb dX0_bestPlace_27 hl (by decide) rfl (fun ls hl => ?_)
        refine lv_iload hx hb dX0_bestPlace_29 (lv_at hl 0 rfl) ?_
        refine lv_iload hx hb dX0_bestPlace_31 (lv_at hl 2 rfl) ?_
        have hj_44_17 : ∀ (x_16 : Int32) (x_17 : Int32) (H : Heap) (locs : List Loc) (ls : Array Slot), ti_H ti_LT D A cy H0 M_12 H locs → lv_has ls 10 [(9, .int r_11), (8, .int x_1), (7, .int x_16), (6, .int x_17), (0, .ref (A 53 0)), (1, .ref (A 27 0)), (2, .int kd), (3, .int mn), (4, .int nn), (5, .int wh)] → W p l e (ti_rm 6) s m args below meth c H locs 0 0 Q (F0 m 44 ls []) := by
          intro x_16 x_17 H locs ls  hw hl
          obtain ⟨x_18, ex_18⟩ : ∃ z : Int32, z = x_1 + 1 := ⟨_, rfl⟩
          have tx_18 : x_18.toInt = x_1.toInt + 1 := i_add ex_18 rfl (by decide) (by omega) (by omega)
          refine lv_iinc (v := x_18) (lv' := [(8, .int x_18), (9, .int r_11), (7, .int x_16), (6, .int x_17), (0, .ref (A 53 0)), (1, .ref (A 27 0)), (2, .int kd), (3, .int mn), (4, .int nn), (5, .int wh)]) hx hb dX0_bestPlace_44 hl (k := 1) rfl (by rw [ex_18]; rfl) (by decide) rfl (fun ls hl => ?_)
          refine lv_goto (tgt := 9) hx hb dX0_bestPlace_47 (by decide) ?_
          exact ih_9 x_18 x_16 x_17 M_12 _ _ _ (by omega) (by first | omega | decide) (by first | omega | decide) iM_12 (rT.trans q_13 f_7) (fX.trans q_14 f_8) hw (lv_sub hl [0, 2, 3, 4, 5, 6, 7, 8, 9] rfl)
        refine sb_icmp_le (tgt := 44) hx hb rfl rfl dX0_bestPlace_33 (by decide) (fun c_33_14 => ?_) (fun c_33_14 => ?_)
        · exact hj_44_17 x_4 x_5 _ _ _  hw (lv_sub hl [0, 1, 2, 3, 4, 5, 6, 7, 8, 9] rfl)
        · refine lv_iload hx hb dX0_bestPlace_36 (lv_at hl 0 rfl) ?_
          refine lv_istore (lv' := [(7, .int r_11), (9, .int r_11), (8, .int x_1), (6, .int x_5), (0, .ref (A 53 0)), (1, .ref (A 27 0)), (2, .int kd), (3, .int mn), (4, .int nn), (5, .int wh)]) hx hb dX0_bestPlace_38 hl (by decide) rfl (fun ls hl => ?_)
          refine lv_iload hx hb dX0_bestPlace_40 (lv_at hl 2 rfl) ?_
          refine lv_istore (lv' := [(6, .int x_1), (7, .int r_11), (9, .int r_11), (8, .int x_1), (0, .ref (A 53 0)), (1, .ref (A 27 0)), (2, .int kd), (3, .int mn), (4, .int nn), (5, .int wh)]) hx hb dX0_bestPlace_42 hl (by decide) rfl (fun ls hl => ?_)
          exact hj_44_17 r_11 x_1 _ _ _  hw (lv_sub hl [2, 3, 1, 0, 4, 5, 6, 7, 8, 9] rfl)
  exact hl_9_8 ((8 - 0 : Int).toNat + 1) 0 (-1) 0 M _ _ _ (Nat.lt_succ_self _) (by have lt0 : ((-1) : Int32).toInt = (-1) := (by decide); have lt1 : (0 : Int32).toInt = 0 := (by decide); first | omega | decide) (by have lt0 : ((-1) : Int32).toInt = (-1) := (by decide); have lt1 : (0 : Int32).toInt = 0 := (by decide); first | omega | decide) hI rT.refl fX.refl hw (lv_sub hl [0, 1, 2, 3, 4, 5, 6, 7, 8] rfl)
set_option maxHeartbeats 4000000 in
set_option maxRecDepth 100000 in
theorem s_X0_holders (l : Launch) (D : va_G) (A : Nat → Nat → Nat) (cy : Nat → ClassId) (hJ : ti_inj ti_LT A) (M : ti_M) (hI : cI Tc M) (t : Nat) (ht : t = 3 ∨ t = 4) (hT : tT M 27 0 = some t) (kd pl nn : Int32) (h1 : 0 ≤ kd.toInt) (h2 : kd.toInt ≤ 2) : ti_Ki l yX0_holders cX0_holders 8 (some .int) 5 ti_LT D A cy M [.ref (A 53 0), .ref (A 27 0), .int kd, .int pl, .int nn] (fun r M2 => cI Tc M2 ∧ rT M2 M ∧ fX M2 M) := by
  refine ti_eI yp_X0_holders hJ ti_LT_nd (Nat.le_of_ble_eq_true rfl) ?_
  intro p e s m args below meth c Q H0 C hQ hw ls hl
  have hx := C.1
  have hb := C.2.1
  have hl : lv_has ls 8 [(0, .ref (A 53 0)), (1, .ref (A 27 0)), (2, .int kd), (3, .int pl), (4, .int nn)] := hl
  have hnn := nn.toInt_lt
  refine lv_aload_n hx hb dX0_holders_0 rfl (lv_at hl 0 rfl) ?_
  refine lv_aload_n hx hb dX0_holders_1 rfl (lv_at hl 1 rfl) ?_
  refine ti_callVv (ci := 0) (av := [.ref (A 27 0)]) C hw (s_X0_prepare l D A cy hJ M hI t ht (hT)) ⟨ml_X0_42, ym_X0_prepare, yv_X0_prepare, yi_X0_prepare, yc_X0_prepare⟩ yd_X0_prepare ob_53 (by decide) rfl rfl hl.1 (Nat.le_of_ble_eq_true rfl) ⟨by decide, by decide⟩ ⟨Nat.zero_le _, Nat.zero_le _⟩ dX0_holders_2 (fun M_2 H locs hp_2 hw => ?_)
  obtain ⟨iM_2, q_3, q_4⟩ := hp_2
  refine lv_aload_n hx hb dX0_holders_5 rfl (lv_at hl 0 rfl) ?_
  refine ti_get (ci := 0) (k := 0) (N := 6) (T := TX0) (v := .ref (A 54 0)) C hw iw_0 rfl ob_53 (by decide) (by decide) fl_X0_12 rfl rfl dX0_holders_6 ?_
  refine ti_get (ci := 3) (k := 7) (N := 17) (T := TX3) (v := .ref (A 54 8)) C hw iw_3 rfl ob_54 (by decide) (by decide) fl_X0_137 rfl rfl dX0_holders_9 ?_
  refine lv_iload_n hx hb dX0_holders_12 rfl (lv_at hl 2 rfl) ?_
  refine lv_iload_n hx hb dX0_holders_13 rfl (lv_at hl 3 rfl) ?_
  refine ti_iast (ci := 3) (k := 7) (n := 3) C hw ob_54 (by decide) (fun _ _ => rfl) (vp_in_iff.mpr (by omega)) dX0_holders_14 (fun H locs hw => ?_)
  obtain ⟨M_5, hM_5⟩ : ∃ z : ti_M, z = uY M_2 54 7 (upd (tY M_2 54 7) (kd : Int32).toNatClampNeg pl) := ⟨_, rfl⟩
  have hw := hw.to hM_5.symm
  have iM_5 : cI Tc M_5 := cI_up iM_2 hM_5 ob_54.1 trivial
  refine lv_iconst (v := 0) hx hb dX0_holders_15 (by decide) ?_
  refine lv_istore (lv' := [(5, .int 0), (0, .ref (A 53 0)), (1, .ref (A 27 0)), (2, .int kd), (3, .int pl), (4, .int nn)]) hx hb dX0_holders_16 hl (by decide) rfl (fun ls hl => ?_)
  refine lv_iconst (v := 0) hx hb dX0_holders_18 (by decide) ?_
  refine lv_istore (lv' := [(6, .int 0), (5, .int 0), (0, .ref (A 53 0)), (1, .ref (A 27 0)), (2, .int kd), (3, .int pl), (4, .int nn)]) hx hb dX0_holders_19 hl (by decide) rfl (fun ls hl => ?_)
  have hl_21_12 : ∀ (n_13 : Nat) (x_6 : Int32) (x_8 : Int32) (M_9 : ti_M) (H : Heap) (locs : List Loc) (ls : Array Slot), (nn.toInt - x_6.toInt : Int).toNat < n_13 → (0 ≤ x_6.toInt) → (cI Tc M_9) → (rT M_9 M) → (fX M_9 M) → (tT M_9 54 0 = (some t)) → ti_H ti_LT D A cy H0 M_9 H locs → lv_has ls 8 [(6, .int x_6), (5, .int x_8), (0, .ref (A 53 0)), (1, .ref (A 27 0)), (2, .int kd), (3, .int pl), (4, .int nn)] → W p l e (ti_rm 5) s m args below meth c H locs 0 0 Q (F0 m 21 ls []) := by
    intro n_13
    induction n_13 with
    | zero => intro x_6 x_8 M_9 H locs ls hf_13; exact absurd hf_13 (Nat.not_lt_zero _)
    | succ n_13 ih_13 =>
      intro x_6 x_8 M_9 H locs ls hf_13 b_7 iM_9 f_10 f_11 f_12 hw hl
      refine lv_iload hx hb dX0_holders_21 (lv_at hl 0 rfl) ?_
      refine lv_iload hx hb dX0_holders_23 (lv_at hl 6 rfl) ?_
      refine sb_icmp_ge (tgt := 69) hx hb rfl rfl dX0_holders_25 (by decide) (fun c_25_13 => ?_) (fun c_25_13 => ?_)
      · refine lv_iload hx hb dX0_holders_69 (lv_at hl 1 rfl) ?_
        exact hQ _ _ _ _ _ _ hw rfl (⟨iM_9, f_10, f_11⟩) dX0_holders_71
      · refine lv_aload_n hx hb dX0_holders_28 rfl (lv_at hl 2 rfl) ?_
        refine ti_get (ci := 0) (k := 0) (N := 6) (T := TX0) (v := .ref (A 54 0)) C hw iw_0 rfl ob_53 (by decide) (by decide) fl_X0_12 rfl rfl dX0_holders_29 ?_
        refine ti_callVv (ci := 3) (av := []) C hw (s_X3_pass l D A cy hJ M_9 iM_9 54 t ob_54 ht (f_12) (fun h => absurd h np_54)) ⟨ml_X0_51, ym_X3_pass, yv_X3_pass, yi_X3_pass, yc_X3_pass⟩ yd_X3_pass ob_54 (by decide) rfl rfl hl.1 (Nat.le_of_ble_eq_true rfl) ⟨by decide, by decide⟩ ⟨Nat.zero_le _, Nat.zero_le _⟩ dX0_holders_32 (fun M_16 H locs hp_16 hw => ?_)
        obtain ⟨iM_16, q_17, q_18, q_19⟩ := hp_16
        refine lv_aload_n hx hb dX0_holders_35 rfl (lv_at hl 2 rfl) ?_
        refine ti_get (ci := 0) (k := 0) (N := 6) (T := TX0) (v := .ref (A 54 0)) C hw iw_0 rfl ob_53 (by decide) (by decide) fl_X0_12 rfl rfl dX0_holders_36 ?_
        refine lv_iload_n hx hb dX0_holders_39 rfl (lv_at hl 5 rfl) ?_
        refine ti_callVi (ci := 3) (av := [.int pl]) C hw (s_X3_manAt l D A cy hJ M_16 iM_16 54 ob_54 pl) ⟨ml_X0_64, ym_X3_manAt, yv_X3_manAt, yi_X3_manAt, yc_X3_manAt⟩ yd_X3_manAt ob_54 (by decide) rfl rfl hl.1 (Nat.le_of_ble_eq_true rfl) ⟨by decide, by decide⟩ ⟨Nat.zero_le _, Nat.zero_le _⟩ dX0_holders_40 (fun r_20 M_21 H locs hp_21 hw => ?_)
        obtain ⟨hm, b0r_20, b1r_20, p0r_20⟩ := hp_21
        have hw := hw.to hm
        refine lv_istore (lv' := [(7, .int r_20), (6, .int x_6), (5, .int x_8), (0, .ref (A 53 0)), (1, .ref (A 27 0)), (2, .int kd), (3, .int pl), (4, .int nn)]) hx hb dX0_holders_43 hl (by decide) rfl (fun ls hl => ?_)
        refine lv_iload hx hb dX0_holders_45 (lv_at hl 2 rfl) ?_
        refine lv_iload hx hb dX0_holders_47 (lv_at hl 0 rfl) ?_
        have hj_60_24 : ∀ (x_24 : Int32) (H : Heap) (locs : List Loc) (ls : Array Slot), ti_H ti_LT D A cy H0 M_16 H locs → lv_has ls 8 [(7, .int r_20), (6, .int x_6), (5, .int x_8), (0, .ref (A 53 0)), (1, .ref (A 27 0)), (2, .int kd), (3, .int pl), (4, .int nn)] → W p l e (ti_rm 5) s m args below meth c H locs 0 0 Q (F0 m 60 ls [.int x_24, .int x_8]) := by
          intro x_24 H locs ls  hw hl
          refine lv_ior hx hb dX0_holders_60 ?_
          refine lv_topi (fun x_25 ex_25 => ?_)
          refine lv_istore (lv' := [(5, .int x_25), (7, .int r_20), (6, .int x_6), (0, .ref (A 53 0)), (1, .ref (A 27 0)), (2, .int kd), (3, .int pl), (4, .int nn)]) hx hb dX0_holders_61 hl (by decide) rfl (fun ls hl => ?_)
          obtain ⟨x_26, ex_26⟩ : ∃ z : Int32, z = x_6 + 1 := ⟨_, rfl⟩
          have lox_26 := x_6.le_toInt
          have hix_26 := x_6.toInt_lt
          have tx_26 : x_26.toInt = x_6.toInt + 1 := i_add ex_26 rfl (by decide) (by omega) (by omega)
          refine lv_iinc (v := x_26) (lv' := [(6, .int x_26), (5, .int x_25), (7, .int r_20), (0, .ref (A 53 0)), (1, .ref (A 27 0)), (2, .int kd), (3, .int pl), (4, .int nn)]) hx hb dX0_holders_63 hl (k := 2) rfl (by rw [ex_26]; rfl) (by decide) rfl (fun ls hl => ?_)
          refine lv_goto (tgt := 21) hx hb dX0_holders_66 (by decide) ?_
          exact ih_13 x_26 x_25 M_16 _ _ _ (by omega) (by first | omega | decide) iM_16 (rT.trans (rs_of q_17) f_10) (fX.trans q_19 f_11) ((tT_fr q_17).trans f_12) hw (lv_sub hl [0, 1, 3, 4, 5, 6, 7] rfl)
        refine sb_if_ge (tgt := 56) hx hb rfl dX0_holders_49 (by decide) (fun c_49_21 => ?_) (fun c_49_21 => ?_)
        · refine lv_iconst (v := 1) hx hb dX0_holders_56 (by decide) ?_
          refine lv_iload hx hb dX0_holders_57 (lv_at hl 0 rfl) ?_
          refine lv_ishl hx hb dX0_holders_59 ?_
          refine lv_topi (fun x_23 ex_23 => ?_)
          exact hj_60_24 x_23 _ _ _  hw (lv_sub hl [0, 1, 2, 3, 4, 5, 6, 7] rfl)
        · refine lv_iconst (v := 0) hx hb dX0_holders_52 (by decide) ?_
          refine lv_goto (tgt := 60) hx hb dX0_holders_53 (by decide) ?_
          exact hj_60_24 0 _ _ _  hw (lv_sub hl [0, 1, 2, 3, 4, 5, 6, 7] rfl)
  exact hl_21_12 ((nn.toInt - 0 : Int).toNat + 1) 0 0 M_5 _ _ _ (Nat.lt_succ_self _) (by have lt0 : (0 : Int32).toInt = 0 := (by decide); first | omega | decide) iM_5 (rT.trans (rs_of (rf_Y hM_5)) (rs_TT q_3 (by decide))) (fX.trans (fx_of (ra_Y hM_5)) q_4) ((tT_uYE hM_5).trans ((tT_fr q_3).trans (tT_u _ _ _ _))) hw (lv_sub hl [0, 1, 2, 3, 4, 5, 6] rfl)
set_option maxHeartbeats 4000000 in
set_option maxRecDepth 100000 in
theorem s_X0_fairestPlace (l : Launch) (D : va_G) (A : Nat → Nat → Nat) (cy : Nat → ClassId) (hJ : ti_inj ti_LT A) (M : ti_M) (hI : cI Tc M) (t : Nat) (ht : t = 3 ∨ t = 4) (hT : tT M 27 0 = some t) (kd nn wh : Int32) (h1 : 0 ≤ kd.toInt) (h2 : kd.toInt ≤ 2) : ti_Ki l yX0_fairestPlace cX0_fairestPlace 9 (some .int) 6 ti_LT D A cy M [.ref (A 53 0), .ref (A 27 0), .int kd, .int nn, .int wh] (fun r M2 => cI Tc M2 ∧ rT M2 M ∧ fX M2 M) := by
  refine ti_eI yp_X0_fairestPlace hJ ti_LT_nd (Nat.le_of_ble_eq_true rfl) ?_
  intro p e s m args below meth c Q H0 C hQ hw ls hl
  have hx := C.1
  have hb := C.2.1
  have hl : lv_has ls 9 [(0, .ref (A 53 0)), (1, .ref (A 27 0)), (2, .int kd), (3, .int nn), (4, .int wh)] := hl
  refine lv_iconst (v := 0) hx hb dX0_fairestPlace_0 (by decide) ?_
  refine lv_istore (lv' := [(5, .int 0), (0, .ref (A 53 0)), (1, .ref (A 27 0)), (2, .int kd), (3, .int nn), (4, .int wh)]) hx hb dX0_fairestPlace_1 hl (by decide) rfl (fun ls hl => ?_)
  refine lv_iconst (v := (-1)) hx hb dX0_fairestPlace_3 (by decide) ?_
  refine lv_istore (lv' := [(6, .int (-1)), (5, .int 0), (0, .ref (A 53 0)), (1, .ref (A 27 0)), (2, .int kd), (3, .int nn), (4, .int wh)]) hx hb dX0_fairestPlace_4 hl (by decide) rfl (fun ls hl => ?_)
  refine lv_iconst (v := 0) hx hb dX0_fairestPlace_6 (by decide) ?_
  refine lv_istore (lv' := [(7, .int 0), (6, .int (-1)), (5, .int 0), (0, .ref (A 53 0)), (1, .ref (A 27 0)), (2, .int kd), (3, .int nn), (4, .int wh)]) hx hb dX0_fairestPlace_7 hl (by decide) rfl (fun ls hl => ?_)
  have hl_9_8 : ∀ (n_9 : Nat) (x_1 : Int32) (x_4 : Int32) (x_5 : Int32) (M_6 : ti_M) (H : Heap) (locs : List Loc) (ls : Array Slot), (8 - x_1.toInt : Int).toNat < n_9 → (0 ≤ x_1.toInt) → (x_1.toInt ≤ 8) → (cI Tc M_6) → (rT M_6 M) → (fX M_6 M) → ti_H ti_LT D A cy H0 M_6 H locs → lv_has ls 9 [(7, .int x_1), (6, .int x_4), (5, .int x_5), (0, .ref (A 53 0)), (1, .ref (A 27 0)), (2, .int kd), (3, .int nn), (4, .int wh)] → W p l e (ti_rm 6) s m args below meth c H locs 0 0 Q (F0 m 9 ls []) := by
    intro n_9
    induction n_9 with
    | zero => intro x_1 x_4 x_5 M_6 H locs ls hf_9; exact absurd hf_9 (Nat.not_lt_zero _)
    | succ n_9 ih_9 =>
      intro x_1 x_4 x_5 M_6 H locs ls hf_9 b_2 b_3 iM_6 f_7 f_8 hw hl
      refine lv_iload hx hb dX0_fairestPlace_9 (lv_at hl 0 rfl) ?_
      refine lv_bipush (v := 8) hx hb dX0_fairestPlace_11 (by decide) ?_
      refine sb_icmp_ge (tgt := 51) hx hb rfl (by decide : (8 : Int32).toInt = 8) dX0_fairestPlace_13 (by decide) (fun c_13_9 => ?_) (fun c_13_9 => ?_)
      · refine lv_iload hx hb dX0_fairestPlace_51 (lv_at hl 7 rfl) ?_
        refine sb_if_ne (tgt := 61) hx hb rfl dX0_fairestPlace_53 (by decide) (fun c_53_20 => ?_) (fun c_53_20 => ?_)
        · refine lv_iload hx hb dX0_fairestPlace_61 (lv_at hl 1 rfl) ?_
          exact hQ _ _ _ _ _ _ hw rfl (⟨iM_6, f_7, f_8⟩) dX0_fairestPlace_63
        · refine lv_iload hx hb dX0_fairestPlace_56 (lv_at hl 2 rfl) ?_
          refine lv_goto (tgt := 63) hx hb dX0_fairestPlace_58 (by decide) ?_
          exact hQ _ _ _ _ _ _ hw rfl (⟨iM_6, f_7, f_8⟩) dX0_fairestPlace_63
      · refine lv_aload_n hx hb dX0_fairestPlace_16 rfl (lv_at hl 3 rfl) ?_
        refine lv_aload_n hx hb dX0_fairestPlace_17 rfl (lv_at hl 4 rfl) ?_
        refine lv_iload_n hx hb dX0_fairestPlace_18 rfl (lv_at hl 5 rfl) ?_
        refine lv_iload hx hb dX0_fairestPlace_19 (lv_at hl 0 rfl) ?_
        refine lv_iload_n hx hb dX0_fairestPlace_21 rfl (lv_at hl 6 rfl) ?_
        refine ti_callVi (ci := 0) (av := [.ref (A 27 0), .int kd, .int x_1, .int nn]) C hw (s_X0_holders l D A cy hJ M_6 iM_6 t ht ((f_7 27 0 (by decide)).trans hT) kd x_1 nn (by first | omega | decide) (by first | omega | decide)) ⟨ml_X0_140, ym_X0_holders, yv_X0_holders, yi_X0_holders, yc_X0_holders⟩ yd_X0_holders ob_53 (by decide) rfl rfl hl.1 (Nat.le_of_ble_eq_true rfl) ⟨by decide, by decide⟩ ⟨Nat.zero_le _, Nat.zero_le _⟩ dX0_fairestPlace_22 (fun r_11 M_12 H locs hp_12 hw => ?_)
        obtain ⟨iM_12, q_13, q_14⟩ := hp_12
        refine ti_callSi (av := [.int r_11]) C hw (s_J6_bitCount_0f7a4 l D A cy hJ M_12 iM_12 r_11) ⟨ml_X0_96, ys_J6_bitCount_0f7a4, yi_J6_bitCount_0f7a4, yc_J6_bitCount_0f7a4⟩ yd_J6_bitCount_0f7a4 rfl hl.1 (Nat.le_of_ble_eq_true rfl) ⟨by decide, by decide⟩ ⟨Nat.zero_le _, Nat.zero_le _⟩ dX0_fairestPlace_25 (fun r_15 M_16 H locs hp_16 hw => ?_)
        have hm := hp_16
        have hw := hw.to hm
        refine lv_istore (lv' := [(8, .int r_15), (7, .int x_1), (6, .int x_4), (5, .int x_5), (0, .ref (A 53 0)), (1, .ref (A 27 0)), (2, .int kd), (3, .int nn), (4, .int wh)]) hx hb dX0_fairestPlace_28 hl (by decide) rfl (fun ls hl => ?_)
        refine lv_iload hx hb dX0_fairestPlace_30 (lv_at hl 0 rfl) ?_
        refine lv_iload hx hb dX0_fairestPlace_32 (lv_at hl 2 rfl) ?_
        have hj_45_19 : ∀ (x_18 : Int32) (x_19 : Int32) (H : Heap) (locs : List Loc) (ls : Array Slot), ti_H ti_LT D A cy H0 M_12 H locs → lv_has ls 9 [(8, .int r_15), (7, .int x_1), (6, .int x_18), (5, .int x_19), (0, .ref (A 53 0)), (1, .ref (A 27 0)), (2, .int kd), (3, .int nn), (4, .int wh)] → W p l e (ti_rm 6) s m args below meth c H locs 0 0 Q (F0 m 45 ls []) := by
          intro x_18 x_19 H locs ls  hw hl
          obtain ⟨x_20, ex_20⟩ : ∃ z : Int32, z = x_1 + 1 := ⟨_, rfl⟩
          have tx_20 : x_20.toInt = x_1.toInt + 1 := i_add ex_20 rfl (by decide) (by omega) (by omega)
          refine lv_iinc (v := x_20) (lv' := [(7, .int x_20), (8, .int r_15), (6, .int x_18), (5, .int x_19), (0, .ref (A 53 0)), (1, .ref (A 27 0)), (2, .int kd), (3, .int nn), (4, .int wh)]) hx hb dX0_fairestPlace_45 hl (k := 1) rfl (by rw [ex_20]; rfl) (by decide) rfl (fun ls hl => ?_)
          refine lv_goto (tgt := 9) hx hb dX0_fairestPlace_48 (by decide) ?_
          exact ih_9 x_20 x_18 x_19 M_12 _ _ _ (by omega) (by first | omega | decide) (by first | omega | decide) iM_12 (rT.trans q_13 f_7) (fX.trans q_14 f_8) hw (lv_sub hl [0, 2, 3, 4, 5, 6, 7, 8] rfl)
        refine sb_icmp_le (tgt := 45) hx hb rfl rfl dX0_fairestPlace_34 (by decide) (fun c_34_16 => ?_) (fun c_34_16 => ?_)
        · exact hj_45_19 x_4 x_5 _ _ _  hw (lv_sub hl [0, 1, 2, 3, 4, 5, 6, 7, 8] rfl)
        · refine lv_iload hx hb dX0_fairestPlace_37 (lv_at hl 0 rfl) ?_
          refine lv_istore (lv' := [(6, .int r_15), (8, .int r_15), (7, .int x_1), (5, .int x_5), (0, .ref (A 53 0)), (1, .ref (A 27 0)), (2, .int kd), (3, .int nn), (4, .int wh)]) hx hb dX0_fairestPlace_39 hl (by decide) rfl (fun ls hl => ?_)
          refine lv_iload hx hb dX0_fairestPlace_41 (lv_at hl 2 rfl) ?_
          refine lv_istore (lv' := [(5, .int x_1), (6, .int r_15), (8, .int r_15), (7, .int x_1), (0, .ref (A 53 0)), (1, .ref (A 27 0)), (2, .int kd), (3, .int nn), (4, .int wh)]) hx hb dX0_fairestPlace_43 hl (by decide) rfl (fun ls hl => ?_)
          exact hj_45_19 r_15 x_1 _ _ _  hw (lv_sub hl [2, 3, 1, 0, 4, 5, 6, 7, 8] rfl)
  exact hl_9_8 ((8 - 0 : Int).toNat + 1) 0 (-1) 0 M _ _ _ (Nat.lt_succ_self _) (by have lt0 : ((-1) : Int32).toInt = (-1) := (by decide); have lt1 : (0 : Int32).toInt = 0 := (by decide); first | omega | decide) (by have lt0 : ((-1) : Int32).toInt = (-1) := (by decide); have lt1 : (0 : Int32).toInt = 0 := (by decide); first | omega | decide) hI rT.refl fX.refl hw (lv_sub hl [0, 1, 2, 3, 4, 5, 6, 7] rfl)
set_option maxHeartbeats 4000000 in
set_option maxRecDepth 100000 in
theorem s_X0_gainers (l : Launch) (D : va_G) (A : Nat → Nat → Nat) (cy : Nat → ClassId) (hJ : ti_inj ti_LT A) (M : ti_M) (hI : cI Tc M) (t : Nat) (ht : t = 3 ∨ t = 4) (hT : tT M 27 0 = some t) (pl nn : Int32) (h1 : 0 ≤ pl.toInt) (h2 : pl.toInt ≤ 7) : ti_Ki l yX0_gainers cX0_gainers 7 (some .int) 6 ti_LT D A cy M [.ref (A 53 0), .ref (A 27 0), .int pl, .int nn] (fun r M2 => cI Tc M2 ∧ rT M2 M ∧ fX M2 M) := by
  refine ti_eI yp_X0_gainers hJ ti_LT_nd (Nat.le_of_ble_eq_true rfl) ?_
  intro p e s m args below meth c Q H0 C hQ hw ls hl
  have hx := C.1
  have hb := C.2.1
  have hl : lv_has ls 7 [(0, .ref (A 53 0)), (1, .ref (A 27 0)), (2, .int pl), (3, .int nn)] := hl
  refine lv_aload_n hx hb dX0_gainers_0 rfl (lv_at hl 0 rfl) ?_
  refine lv_aload_n hx hb dX0_gainers_1 rfl (lv_at hl 1 rfl) ?_
  refine ti_callVv (ci := 0) (av := [.ref (A 27 0)]) C hw (s_X0_prepare l D A cy hJ M hI t ht (hT)) ⟨ml_X0_42, ym_X0_prepare, yv_X0_prepare, yi_X0_prepare, yc_X0_prepare⟩ yd_X0_prepare ob_53 (by decide) rfl rfl hl.1 (Nat.le_of_ble_eq_true rfl) ⟨by decide, by decide⟩ ⟨Nat.zero_le _, Nat.zero_le _⟩ dX0_gainers_2 (fun M_2 H locs hp_2 hw => ?_)
  obtain ⟨iM_2, q_3, q_4⟩ := hp_2
  refine lv_aload_n hx hb dX0_gainers_5 rfl (lv_at hl 0 rfl) ?_
  refine ti_get (ci := 0) (k := 1) (N := 6) (T := TX0) (v := .ref (A 55 0)) C hw iw_0 rfl ob_53 (by decide) (by decide) fl_X0_18 rfl rfl dX0_gainers_6 ?_
  refine lv_aload_n hx hb dX0_gainers_9 rfl (lv_at hl 0 rfl) ?_
  refine ti_get (ci := 0) (k := 0) (N := 6) (T := TX0) (v := .ref (A 54 0)) C hw iw_0 rfl ob_53 (by decide) (by decide) fl_X0_12 rfl rfl dX0_gainers_10 ?_
  refine ti_callVv (ci := 3) (av := [.ref (A 54 0)]) C hw (s_X3_copy l D A cy hJ M_2 iM_2 55 54 t ob_55 ob_54 ht ((tT_fr q_3).trans (tT_u _ _ _ _)) (fun h => absurd h np_55)) ⟨ml_X0_35, ym_X3_copy, yv_X3_copy, yi_X3_copy, yc_X3_copy⟩ yd_X3_copy ob_55 (by decide) rfl rfl hl.1 (Nat.le_of_ble_eq_true rfl) ⟨by decide, by decide⟩ ⟨Nat.zero_le _, Nat.zero_le _⟩ dX0_gainers_13 (fun M_6 H locs hp_6 hw => ?_)
  obtain ⟨iM_6, q_7, q_8⟩ := hp_6
  refine lv_iconst (v := 0) hx hb dX0_gainers_16 (by decide) ?_
  refine lv_istore (lv' := [(4, .int 0), (0, .ref (A 53 0)), (1, .ref (A 27 0)), (2, .int pl), (3, .int nn)]) hx hb dX0_gainers_17 hl (by decide) rfl (fun ls hl => ?_)
  have hl_19_16 : ∀ (n_17 : Nat) (x_9 : Int32) (M_12 : ti_M) (H : Heap) (locs : List Loc) (ls : Array Slot), (7 - x_9.toInt : Int).toNat < n_17 → (0 ≤ x_9.toInt) → (x_9.toInt ≤ 7) → (cI Tc M_12) → (rT M_12 M) → (fX M_12 M) → (tT M_12 54 0 = (some t)) → (tT M_12 55 0 = (some t)) → ti_H ti_LT D A cy H0 M_12 H locs → lv_has ls 7 [(4, .int x_9), (0, .ref (A 53 0)), (1, .ref (A 27 0)), (2, .int pl), (3, .int nn)] → W p l e (ti_rm 6) s m args below meth c H locs 0 0 Q (F0 m 19 ls []) := by
    intro n_17
    induction n_17 with
    | zero => intro x_9 M_12 H locs ls hf_17; exact absurd hf_17 (Nat.not_lt_zero _)
    | succ n_17 ih_17 =>
      intro x_9 M_12 H locs ls hf_17 b_10 b_11 iM_12 f_13 f_14 f_15 f_16 hw hl
      refine lv_iload hx hb dX0_gainers_19 (lv_at hl 0 rfl) ?_
      refine lv_iload_n hx hb dX0_gainers_21 rfl (lv_at hl 3 rfl) ?_
      refine sb_icmp_ge (tgt := 40) hx hb rfl rfl dX0_gainers_22 (by decide) (fun c_22_17 => ?_) (fun c_22_17 => ?_)
      · refine lv_aload_n hx hb dX0_gainers_40 rfl (lv_at hl 1 rfl) ?_
        refine ti_get (ci := 0) (k := 1) (N := 6) (T := TX0) (v := .ref (A 55 0)) C hw iw_0 rfl ob_53 (by decide) (by decide) fl_X0_18 rfl rfl dX0_gainers_41 ?_
        refine ti_get (ci := 3) (k := 9) (N := 17) (T := TX3) (v := .ref (A 55 10)) C hw iw_3 rfl ob_55 (by decide) (by decide) fl_X0_57 rfl rfl dX0_gainers_44 ?_
        refine lv_iconst (v := (-1)) hx hb dX0_gainers_47 (by decide) ?_
        refine ti_callSv (av := [.ref (A 55 10), .int (-1)]) C hw (k_fill l D A cy ti_LT_nd hJ M_12 55 9 3 8 (-1) ob_55 (by decide) (fun _ _ => rfl) (by decide)) ⟨ml_X0_148, ys_J7_fill_53178, yi_J7_fill_53178, yc_J7_fill_53178⟩ yd_J7_fill_53178 rfl hl.1 (Nat.le_of_ble_eq_true rfl) ⟨by decide, by decide⟩ ⟨Nat.zero_le _, Nat.zero_le _⟩ dX0_gainers_48 (fun M_25 H locs hp hw => ?_)
        obtain ⟨g_26, hM_25, -⟩ := hp
        have iM_25 : cI Tc M_25 := cI_uY iM_12 hM_25 ob_55.1 (fun _ => trivial)
        refine lv_aload_n hx hb dX0_gainers_51 rfl (lv_at hl 1 rfl) ?_
        refine ti_get (ci := 0) (k := 0) (N := 6) (T := TX0) (v := .ref (A 54 0)) C hw iw_0 rfl ob_53 (by decide) (by decide) fl_X0_12 rfl rfl dX0_gainers_52 ?_
        refine lv_aload_n hx hb dX0_gainers_55 rfl (lv_at hl 2 rfl) ?_
        refine ti_get (ci := 3) (k := 2) (N := 17) (T := TX3) C hw iw_3 rfl ob_27 (by decide) (by decide) fl_X0_45 rfl rfl dX0_gainers_56 ?_
        refine lv_topi (fun x_27 ex_27 => ?_)
        have bx_27 : 0 ≤ x_27.toInt ∧ x_27.toInt ≤ 120 := cI_rd iM_25 ob_27.1 ex_27 (Or.inl rfl)
        have ux_27 : (tI M_25 27 2).toInt = x_27.toInt := by rw [ex_27]
        refine lv_iload_n hx hb dX0_gainers_59 rfl (lv_at hl 4 rfl) ?_
        refine lv_iadd hx hb dX0_gainers_60 ?_
        refine lv_topi (fun x_28 ex_28 => ?_)
        refine ti_callVv (ci := 3) (av := [.int x_28]) C hw (s_X3_passTo l D A cy hJ M_25 iM_25 54 t ob_54 ht ((tT_uYE hM_25).trans f_15) x_28 np_54) ⟨ml_X0_60, ym_X3_passTo, yv_X3_passTo, yi_X3_passTo, yc_X3_passTo⟩ yd_X3_passTo ob_54 (by decide) rfl rfl hl.1 (Nat.le_of_ble_eq_true rfl) ⟨by decide, by decide⟩ ⟨Nat.zero_le _, Nat.zero_le _⟩ dX0_gainers_61 (fun M_30 H locs hp_30 hw => ?_)
        obtain ⟨iM_30, q_31, q_32⟩ := hp_30
        refine lv_aload_n hx hb dX0_gainers_64 rfl (lv_at hl 1 rfl) ?_
        refine ti_get (ci := 0) (k := 1) (N := 6) (T := TX0) (v := .ref (A 55 0)) C hw iw_0 rfl ob_53 (by decide) (by decide) fl_X0_18 rfl rfl dX0_gainers_65 ?_
        refine lv_aload_n hx hb dX0_gainers_68 rfl (lv_at hl 2 rfl) ?_
        refine ti_get (ci := 3) (k := 2) (N := 17) (T := TX3) C hw iw_3 rfl ob_27 (by decide) (by decide) fl_X0_45 rfl rfl dX0_gainers_69 ?_
        refine lv_topi (fun x_33 ex_33 => ?_)
        have bx_33 : 0 ≤ x_33.toInt ∧ x_33.toInt ≤ 120 := cI_rd iM_30 ob_27.1 ex_33 (Or.inl rfl)
        have ux_33 : (tI M_30 27 2).toInt = x_33.toInt := by rw [ex_33]
        refine lv_iload_n hx hb dX0_gainers_72 rfl (lv_at hl 4 rfl) ?_
        refine lv_iadd hx hb dX0_gainers_73 ?_
        refine lv_topi (fun x_34 ex_34 => ?_)
        refine ti_callVv (ci := 3) (av := [.int x_34]) C hw (s_X3_passTo l D A cy hJ M_30 iM_30 55 t ob_55 ht ((tT_fr q_31).trans ((tT_uYE hM_25).trans f_16)) x_34 np_55) ⟨ml_X0_60, ym_X3_passTo, yv_X3_passTo, yi_X3_passTo, yc_X3_passTo⟩ yd_X3_passTo ob_55 (by decide) rfl rfl hl.1 (Nat.le_of_ble_eq_true rfl) ⟨by decide, by decide⟩ ⟨Nat.zero_le _, Nat.zero_le _⟩ dX0_gainers_74 (fun M_36 H locs hp_36 hw => ?_)
        obtain ⟨iM_36, q_37, q_38⟩ := hp_36
        refine lv_iconst (v := 0) hx hb dX0_gainers_77 (by decide) ?_
        refine lv_istore (lv' := [(4, .int 0), (0, .ref (A 53 0)), (1, .ref (A 27 0)), (2, .int pl), (3, .int nn)]) hx hb dX0_gainers_78 hl (by decide) rfl (fun ls hl => ?_)
        refine lv_iload_n hx hb dX0_gainers_80 rfl (lv_at hl 3 rfl) ?_
        refine lv_istore (lv' := [(5, .int pl), (4, .int 0), (0, .ref (A 53 0)), (1, .ref (A 27 0)), (2, .int pl), (3, .int nn)]) hx hb dX0_gainers_81 hl (by decide) rfl (fun ls hl => ?_)
        have hl_83_42 : ∀ (n_43 : Nat) (x_39 : Int32) (x_42 : Int32) (H : Heap) (locs : List Loc) (ls : Array Slot), (8 - x_39.toInt : Int).toNat < n_43 → (0 ≤ x_39.toInt) → (x_39.toInt ≤ 8) → ti_H ti_LT D A cy H0 M_36 H locs → lv_has ls 7 [(5, .int x_39), (4, .int x_42), (0, .ref (A 53 0)), (1, .ref (A 27 0)), (2, .int pl), (3, .int nn)] → W p l e (ti_rm 6) s m args below meth c H locs 0 0 Q (F0 m 83 ls []) := by
          intro n_43
          induction n_43 with
          | zero => intro x_39 x_42 H locs ls hf_43; exact absurd hf_43 (Nat.not_lt_zero _)
          | succ n_43 ih_43 =>
            intro x_39 x_42 H locs ls hf_43 b_40 b_41 hw hl
            refine lv_iload hx hb dX0_gainers_83 (lv_at hl 0 rfl) ?_
            refine lv_aload_n hx hb dX0_gainers_85 rfl (lv_at hl 3 rfl) ?_
            refine ti_get (ci := 3) (k := 3) (N := 17) (T := TX3) C hw iw_3 rfl ob_27 (by decide) (by decide) fl_X0_68 rfl rfl dX0_gainers_86 ?_
            refine lv_topi (fun x_44 ex_44 => ?_)
            have bx_44 : 0 ≤ x_44.toInt ∧ x_44.toInt ≤ 8 := cI_rd iM_36 ob_27.1 ex_44
            have ux_44 : (tI M_36 27 3).toInt = x_44.toInt := by rw [ex_44]
            refine sb_icmp_ge (tgt := 167) hx hb rfl rfl dX0_gainers_89 (by decide) (fun c_89_44 => ?_) (fun c_89_44 => ?_)
            · refine lv_iload hx hb dX0_gainers_167 (lv_at hl 1 rfl) ?_
              exact hQ _ _ _ _ _ _ hw rfl (⟨iM_36, (rT.trans (rs_of q_37) (rT.trans (rs_of q_31) (rT.trans (rs_of (rf_Y hM_25)) f_13))), (fX.trans q_38 (fX.trans q_32 (fX.trans (fx_of (ra_Y hM_25)) f_14)))⟩) dX0_gainers_169
            · refine lv_aload_n hx hb dX0_gainers_92 rfl (lv_at hl 3 rfl) ?_
              refine ti_get (ci := 3) (k := 6) (N := 17) (T := TX3) (v := .ref (A 27 7)) C hw iw_3 rfl ob_27 (by decide) (by decide) fl_X0_77 rfl rfl dX0_gainers_93 ?_
              refine lv_iload hx hb dX0_gainers_96 (lv_at hl 0 rfl) ?_
              refine ti_iald (ci := 3) (k := 6) (n := 8) C hw ob_27 (by decide) (fun _ _ => rfl) (vp_in_iff.mpr (by omega)) dX0_gainers_98 ?_
              refine lv_topi (fun x_46 ex_46 => ?_)
              have bx_46 : 0 ≤ x_46.toInt ∧ x_46.toInt ≤ 7 := cI_ry iM_36 ob_27.1 ex_46
              refine lv_istore (lv' := [(6, .int x_46), (5, .int x_39), (4, .int x_42), (0, .ref (A 53 0)), (1, .ref (A 27 0)), (2, .int pl), (3, .int nn)]) hx hb dX0_gainers_99 hl (by decide) rfl (fun ls hl => ?_)
              refine lv_aload_n hx hb dX0_gainers_101 rfl (lv_at hl 3 rfl) ?_
              refine ti_get (ci := 0) (k := 1) (N := 6) (T := TX0) (v := .ref (A 55 0)) C hw iw_0 rfl ob_53 (by decide) (by decide) fl_X0_18 rfl rfl dX0_gainers_102 ?_
              refine ti_get (ci := 3) (k := 8) (N := 17) (T := TX3) (v := .ref (A 55 9)) C hw iw_3 rfl ob_55 (by decide) (by decide) fl_X0_48 rfl rfl dX0_gainers_105 ?_
              refine lv_iload hx hb dX0_gainers_108 (lv_at hl 0 rfl) ?_
              refine ti_iald (ci := 3) (k := 8) (n := 8) C hw ob_55 (by decide) (fun _ _ => rfl) (vp_in_iff.mpr (by omega)) dX0_gainers_110 ?_
              refine lv_topi (fun x_47 ex_47 => ?_)
              refine lv_iconst (v := 2) hx hb dX0_gainers_111 (by decide) ?_
              have hj_161_56 : ∀ (x_56 : Int32) (H : Heap) (locs : List Loc) (ls : Array Slot), ti_H ti_LT D A cy H0 M_36 H locs → lv_has ls 7 [(6, .int x_46), (5, .int x_39), (4, .int x_56), (0, .ref (A 53 0)), (1, .ref (A 27 0)), (2, .int pl), (3, .int nn)] → W p l e (ti_rm 6) s m args below meth c H locs 0 0 Q (F0 m 161 ls []) := by
                intro x_56 H locs ls  hw hl
                obtain ⟨x_57, ex_57⟩ : ∃ z : Int32, z = x_39 + 1 := ⟨_, rfl⟩
                have tx_57 : x_57.toInt = x_39.toInt + 1 := i_add ex_57 rfl (by decide) (by omega) (by omega)
                refine lv_iinc (v := x_57) (lv' := [(5, .int x_57), (6, .int x_46), (4, .int x_56), (0, .ref (A 53 0)), (1, .ref (A 27 0)), (2, .int pl), (3, .int nn)]) hx hb dX0_gainers_161 hl (k := 1) rfl (by rw [ex_57]; rfl) (by decide) rfl (fun ls hl => ?_)
                refine lv_goto (tgt := 83) hx hb dX0_gainers_164 (by decide) ?_
                exact ih_43 x_57 x_56 _ _ _ (by omega) (by first | omega | decide) (by first | omega | decide) hw (lv_sub hl [0, 2, 3, 4, 5, 6] rfl)
              refine sb_icmp_ne (tgt := 161) hx hb rfl (by decide : (2 : Int32).toInt = 2) dX0_gainers_112 (by decide) (fun c_112_47 => ?_) (fun c_112_47 => ?_)
              · exact hj_161_56 x_42 _ _ _  hw (lv_sub hl [0, 1, 2, 3, 4, 5, 6] rfl)
              · refine lv_aload_n hx hb dX0_gainers_115 rfl (lv_at hl 3 rfl) ?_
                refine ti_get (ci := 0) (k := 0) (N := 6) (T := TX0) (v := .ref (A 54 0)) C hw iw_0 rfl ob_53 (by decide) (by decide) fl_X0_12 rfl rfl dX0_gainers_116 ?_
                refine ti_get (ci := 3) (k := 8) (N := 17) (T := TX3) (v := .ref (A 54 9)) C hw iw_3 rfl ob_54 (by decide) (by decide) fl_X0_48 rfl rfl dX0_gainers_119 ?_
                refine lv_iload hx hb dX0_gainers_122 (lv_at hl 0 rfl) ?_
                refine ti_iald (ci := 3) (k := 8) (n := 8) C hw ob_54 (by decide) (fun _ _ => rfl) (vp_in_iff.mpr (by omega)) dX0_gainers_124 ?_
                refine lv_topi (fun x_49 ex_49 => ?_)
                refine lv_iconst (v := 2) hx hb dX0_gainers_125 (by decide) ?_
                have hj_152_53 : ∀  (H : Heap) (locs : List Loc) (ls : Array Slot), ti_H ti_LT D A cy H0 M_36 H locs → lv_has ls 7 [(6, .int x_46), (5, .int x_39), (4, .int x_42), (0, .ref (A 53 0)), (1, .ref (A 27 0)), (2, .int pl), (3, .int nn)] → W p l e (ti_rm 6) s m args below meth c H locs 0 0 Q (F0 m 152 ls []) := by
                  intro  H locs ls  hw hl
                  refine lv_iload hx hb dX0_gainers_152 (lv_at hl 2 rfl) ?_
                  refine lv_iconst (v := 1) hx hb dX0_gainers_154 (by decide) ?_
                  refine lv_iload hx hb dX0_gainers_155 (lv_at hl 0 rfl) ?_
                  refine lv_ishl hx hb dX0_gainers_157 ?_
                  refine lv_topi (fun x_54 ex_54 => ?_)
                  refine lv_ior hx hb dX0_gainers_158 ?_
                  refine lv_topi (fun x_55 ex_55 => ?_)
                  refine lv_istore (lv' := [(4, .int x_55), (6, .int x_46), (5, .int x_39), (0, .ref (A 53 0)), (1, .ref (A 27 0)), (2, .int pl), (3, .int nn)]) hx hb dX0_gainers_159 hl (by decide) rfl (fun ls hl => ?_)
                  exact hj_161_56 x_55 _ _ _  hw (lv_sub hl [1, 2, 0, 3, 4, 5, 6] rfl)
                refine sb_icmp_ne (tgt := 152) hx hb rfl (by decide : (2 : Int32).toInt = 2) dX0_gainers_126 (by decide) (fun c_126_49 => ?_) (fun c_126_49 => ?_)
                · exact hj_152_53  _ _ _  hw (lv_sub hl [0, 1, 2, 3, 4, 5, 6] rfl)
                · refine lv_aload_n hx hb dX0_gainers_129 rfl (lv_at hl 3 rfl) ?_
                  refine ti_get (ci := 0) (k := 1) (N := 6) (T := TX0) (v := .ref (A 55 0)) C hw iw_0 rfl ob_53 (by decide) (by decide) fl_X0_18 rfl rfl dX0_gainers_130 ?_
                  refine ti_get (ci := 3) (k := 14) (N := 17) (T := TX3) (v := .ref (A 55 15)) C hw iw_3 rfl ob_55 (by decide) (by decide) fl_X0_54 rfl rfl dX0_gainers_133 ?_
                  refine lv_iload hx hb dX0_gainers_136 (lv_at hl 0 rfl) ?_
                  refine ti_iald (ci := 3) (k := 14) (n := 8) C hw ob_55 (by decide) (fun _ _ => rfl) (vp_in_iff.mpr (by omega)) dX0_gainers_138 ?_
                  refine lv_topi (fun x_51 ex_51 => ?_)
                  refine lv_aload_n hx hb dX0_gainers_139 rfl (lv_at hl 3 rfl) ?_
                  refine ti_get (ci := 0) (k := 0) (N := 6) (T := TX0) (v := .ref (A 54 0)) C hw iw_0 rfl ob_53 (by decide) (by decide) fl_X0_12 rfl rfl dX0_gainers_140 ?_
                  refine ti_get (ci := 3) (k := 14) (N := 17) (T := TX3) (v := .ref (A 54 15)) C hw iw_3 rfl ob_54 (by decide) (by decide) fl_X0_54 rfl rfl dX0_gainers_143 ?_
                  refine lv_iload hx hb dX0_gainers_146 (lv_at hl 0 rfl) ?_
                  refine ti_iald (ci := 3) (k := 14) (n := 8) C hw ob_54 (by decide) (fun _ _ => rfl) (vp_in_iff.mpr (by omega)) dX0_gainers_148 ?_
                  refine lv_topi (fun x_52 ex_52 => ?_)
                  refine sb_icmp_ge (tgt := 161) hx hb rfl rfl dX0_gainers_149 (by decide) (fun c_149_52 => ?_) (fun c_149_52 => ?_)
                  · exact hj_161_56 x_42 _ _ _  hw (lv_sub hl [0, 1, 2, 3, 4, 5, 6] rfl)
                  · exact hj_152_53  _ _ _  hw (lv_sub hl [0, 1, 2, 3, 4, 5, 6] rfl)
        exact hl_83_42 ((8 - pl.toInt : Int).toNat + 1) pl 0 _ _ _ (Nat.lt_succ_self _) (by have lt0 : (0 : Int32).toInt = 0 := (by decide); first | omega | decide) (by have lt0 : (0 : Int32).toInt = 0 := (by decide); first | omega | decide) hw (lv_sub hl [0, 1, 2, 3, 4, 5] rfl)
      · refine lv_aload_n hx hb dX0_gainers_25 rfl (lv_at hl 1 rfl) ?_
        refine ti_get (ci := 0) (k := 1) (N := 6) (T := TX0) (v := .ref (A 55 0)) C hw iw_0 rfl ob_53 (by decide) (by decide) fl_X0_18 rfl rfl dX0_gainers_26 ?_
        refine lv_iconst (v := 0) hx hb dX0_gainers_29 (by decide) ?_
        refine lv_iconst (v := 3) hx hb dX0_gainers_30 (by decide) ?_
        refine ti_callVv (ci := 3) (av := [.int 0, .int 3]) C hw (s_X3_remove l D A cy hJ M_12 iM_12 55 ob_55 0 3) ⟨ml_X0_144, ym_X3_remove, yv_X3_remove, yi_X3_remove, yc_X3_remove⟩ yd_X3_remove ob_55 (by decide) rfl rfl hl.1 (Nat.le_of_ble_eq_true rfl) ⟨by decide, by decide⟩ ⟨Nat.zero_le _, Nat.zero_le _⟩ dX0_gainers_31 (fun M_20 H locs hp_20 hw => ?_)
        obtain ⟨iM_20, q_21, q_22, q_23⟩ := hp_20
        obtain ⟨x_24, ex_24⟩ : ∃ z : Int32, z = x_9 + 1 := ⟨_, rfl⟩
        have tx_24 : x_24.toInt = x_9.toInt + 1 := i_add ex_24 rfl (by decide) (by omega) (by omega)
        refine lv_iinc (v := x_24) (lv' := [(4, .int x_24), (0, .ref (A 53 0)), (1, .ref (A 27 0)), (2, .int pl), (3, .int nn)]) hx hb dX0_gainers_34 hl (k := 0) rfl (by rw [ex_24]; rfl) (by decide) rfl (fun ls hl => ?_)
        refine lv_goto (tgt := 19) hx hb dX0_gainers_37 (by decide) ?_
        exact ih_17 x_24 M_20 _ _ _ (by omega) (by first | omega | decide) (by first | omega | decide) iM_20 (rT.trans (rs_of q_21) f_13) (fX.trans q_23 f_14) ((tT_fr q_21).trans f_15) ((tT_fr q_21).trans f_16) hw (lv_sub hl [0, 1, 2, 3, 4] rfl)
  exact hl_19_16 ((7 - 0 : Int).toNat + 1) 0 M_6 _ _ _ (Nat.lt_succ_self _) (by have lt0 : (0 : Int32).toInt = 0 := (by decide); first | omega | decide) (by have lt0 : (0 : Int32).toInt = 0 := (by decide); first | omega | decide) iM_6 (rT.trans (rs_TT q_7 (by decide)) (rs_TT q_3 (by decide))) (fX.trans q_8 q_4) ((tT_fr q_7).trans ((tT_n _ _ _ _ (no (by decide))).trans ((tT_fr q_3).trans (tT_u _ _ _ _)))) ((tT_fr q_7).trans (tT_u _ _ _ _)) hw (lv_sub hl [0, 1, 2, 3, 4] rfl)
set_option maxHeartbeats 4000000 in
set_option maxRecDepth 100000 in
theorem s_X0_emptyMinutes (l : Launch) (D : va_G) (A : Nat → Nat → Nat) (cy : Nat → ClassId) (hJ : ti_inj ti_LT A) (M : ti_M) (hI : cI Tc M) (t : Nat) (ht : t = 3 ∨ t = 4) (hT : tT M 27 0 = some t) (nn wh : Int32) : ti_Ki l yX0_emptyMinutes cX0_emptyMinutes 7 (some .int) 5 ti_LT D A cy M [.ref (A 53 0), .ref (A 27 0), .int nn, .int wh] (fun r M2 => cI Tc M2 ∧ rT M2 M ∧ fX M2 M) := by
  refine ti_eI yp_X0_emptyMinutes hJ ti_LT_nd (Nat.le_of_ble_eq_true rfl) ?_
  intro p e s m args below meth c Q H0 C hQ hw ls hl
  have hx := C.1
  have hb := C.2.1
  have hl : lv_has ls 7 [(0, .ref (A 53 0)), (1, .ref (A 27 0)), (2, .int nn), (3, .int wh)] := hl
  have hnn := nn.toInt_lt
  refine lv_aload_n hx hb dX0_emptyMinutes_0 rfl (lv_at hl 0 rfl) ?_
  refine lv_aload_n hx hb dX0_emptyMinutes_1 rfl (lv_at hl 1 rfl) ?_
  refine ti_callVv (ci := 0) (av := [.ref (A 27 0)]) C hw (s_X0_prepare l D A cy hJ M hI t ht (hT)) ⟨ml_X0_42, ym_X0_prepare, yv_X0_prepare, yi_X0_prepare, yc_X0_prepare⟩ yd_X0_prepare ob_53 (by decide) rfl rfl hl.1 (Nat.le_of_ble_eq_true rfl) ⟨by decide, by decide⟩ ⟨Nat.zero_le _, Nat.zero_le _⟩ dX0_emptyMinutes_2 (fun M_2 H locs hp_2 hw => ?_)
  obtain ⟨iM_2, q_3, q_4⟩ := hp_2
  refine lv_iconst (v := 0) hx hb dX0_emptyMinutes_5 (by decide) ?_
  refine lv_istore (lv' := [(4, .int 0), (0, .ref (A 53 0)), (1, .ref (A 27 0)), (2, .int nn), (3, .int wh)]) hx hb dX0_emptyMinutes_6 hl (by decide) rfl (fun ls hl => ?_)
  refine lv_bipush (v := (-2)) hx hb dX0_emptyMinutes_8 (by decide) ?_
  refine lv_istore (lv' := [(5, .int (-2)), (4, .int 0), (0, .ref (A 53 0)), (1, .ref (A 27 0)), (2, .int nn), (3, .int wh)]) hx hb dX0_emptyMinutes_10 hl (by decide) rfl (fun ls hl => ?_)
  refine lv_iconst (v := 0) hx hb dX0_emptyMinutes_12 (by decide) ?_
  refine lv_istore (lv' := [(6, .int 0), (5, .int (-2)), (4, .int 0), (0, .ref (A 53 0)), (1, .ref (A 27 0)), (2, .int nn), (3, .int wh)]) hx hb dX0_emptyMinutes_13 hl (by decide) rfl (fun ls hl => ?_)
  have hl_15_12 : ∀ (n_13 : Nat) (x_5 : Int32) (x_7 : Int32) (x_8 : Int32) (M_9 : ti_M) (H : Heap) (locs : List Loc) (ls : Array Slot), (nn.toInt - x_5.toInt : Int).toNat < n_13 → (0 ≤ x_5.toInt) → (cI Tc M_9) → (rT M_9 M) → (fX M_9 M) → (tT M_9 54 0 = (some t)) → ti_H ti_LT D A cy H0 M_9 H locs → lv_has ls 7 [(6, .int x_5), (5, .int x_7), (4, .int x_8), (0, .ref (A 53 0)), (1, .ref (A 27 0)), (2, .int nn), (3, .int wh)] → W p l e (ti_rm 5) s m args below meth c H locs 0 0 Q (F0 m 15 ls []) := by
    intro n_13
    induction n_13 with
    | zero => intro x_5 x_7 x_8 M_9 H locs ls hf_13; exact absurd hf_13 (Nat.not_lt_zero _)
    | succ n_13 ih_13 =>
      intro x_5 x_7 x_8 M_9 H locs ls hf_13 b_6 iM_9 f_10 f_11 f_12 hw hl
      refine lv_iload hx hb dX0_emptyMinutes_15 (lv_at hl 0 rfl) ?_
      refine lv_iload_n hx hb dX0_emptyMinutes_17 rfl (lv_at hl 5 rfl) ?_
      refine sb_icmp_ge (tgt := 68) hx hb rfl rfl dX0_emptyMinutes_18 (by decide) (fun c_18_13 => ?_) (fun c_18_13 => ?_)
      · refine lv_iload_n hx hb dX0_emptyMinutes_68 rfl (lv_at hl 6 rfl) ?_
        refine sb_if_ne (tgt := 77) hx hb rfl dX0_emptyMinutes_69 (by decide) (fun c_69_29 => ?_) (fun c_69_29 => ?_)
        · refine lv_iload hx hb dX0_emptyMinutes_77 (lv_at hl 1 rfl) ?_
          exact hQ _ _ _ _ _ _ hw rfl (⟨iM_9, f_10, f_11⟩) dX0_emptyMinutes_79
        · refine lv_iload hx hb dX0_emptyMinutes_72 (lv_at hl 2 rfl) ?_
          refine lv_goto (tgt := 79) hx hb dX0_emptyMinutes_74 (by decide) ?_
          exact hQ _ _ _ _ _ _ hw rfl (⟨iM_9, f_10, f_11⟩) dX0_emptyMinutes_79
      · refine lv_aload_n hx hb dX0_emptyMinutes_21 rfl (lv_at hl 3 rfl) ?_
        refine ti_get (ci := 0) (k := 0) (N := 6) (T := TX0) (v := .ref (A 54 0)) C hw iw_0 rfl ob_53 (by decide) (by decide) fl_X0_12 rfl rfl dX0_emptyMinutes_22 ?_
        refine ti_callVv (ci := 3) (av := []) C hw (s_X3_pass l D A cy hJ M_9 iM_9 54 t ob_54 ht (f_12) (fun h => absurd h np_54)) ⟨ml_X0_51, ym_X3_pass, yv_X3_pass, yi_X3_pass, yc_X3_pass⟩ yd_X3_pass ob_54 (by decide) rfl rfl hl.1 (Nat.le_of_ble_eq_true rfl) ⟨by decide, by decide⟩ ⟨Nat.zero_le _, Nat.zero_le _⟩ dX0_emptyMinutes_25 (fun M_16 H locs hp_16 hw => ?_)
        obtain ⟨iM_16, q_17, q_18, q_19⟩ := hp_16
        refine lv_aload_n hx hb dX0_emptyMinutes_28 rfl (lv_at hl 3 rfl) ?_
        refine ti_get (ci := 0) (k := 0) (N := 6) (T := TX0) (v := .ref (A 54 0)) C hw iw_0 rfl ob_53 (by decide) (by decide) fl_X0_12 rfl rfl dX0_emptyMinutes_29 ?_
        refine ti_get (ci := 3) (k := 3) (N := 17) (T := TX3) C hw iw_3 rfl ob_54 (by decide) (by decide) fl_X0_68 rfl rfl dX0_emptyMinutes_32 ?_
        refine lv_topi (fun x_20 ex_20 => ?_)
        have bx_20 : 0 ≤ x_20.toInt ∧ x_20.toInt ≤ 8 := cI_rd iM_16 ob_54.1 ex_20
        have ux_20 : (tI M_16 54 3).toInt = x_20.toInt := by rw [ex_20]
        have hj_62_28 : ∀ (x_27 : Int32) (x_28 : Int32) (H : Heap) (locs : List Loc) (ls : Array Slot), ti_H ti_LT D A cy H0 M_16 H locs → lv_has ls 7 [(6, .int x_5), (5, .int x_27), (4, .int x_28), (0, .ref (A 53 0)), (1, .ref (A 27 0)), (2, .int nn), (3, .int wh)] → W p l e (ti_rm 5) s m args below meth c H locs 0 0 Q (F0 m 62 ls []) := by
          intro x_27 x_28 H locs ls  hw hl
          obtain ⟨x_29, ex_29⟩ : ∃ z : Int32, z = x_5 + 1 := ⟨_, rfl⟩
          have lox_29 := x_5.le_toInt
          have hix_29 := x_5.toInt_lt
          have tx_29 : x_29.toInt = x_5.toInt + 1 := i_add ex_29 rfl (by decide) (by omega) (by omega)
          refine lv_iinc (v := x_29) (lv' := [(6, .int x_29), (5, .int x_27), (4, .int x_28), (0, .ref (A 53 0)), (1, .ref (A 27 0)), (2, .int nn), (3, .int wh)]) hx hb dX0_emptyMinutes_62 hl (k := 0) rfl (by rw [ex_29]; rfl) (by decide) rfl (fun ls hl => ?_)
          refine lv_goto (tgt := 15) hx hb dX0_emptyMinutes_65 (by decide) ?_
          exact ih_13 x_29 x_27 x_28 M_16 _ _ _ (by omega) (by first | omega | decide) iM_16 (rT.trans (rs_of q_17) f_10) (fX.trans q_19 f_11) ((tT_fr q_17).trans f_12) hw (lv_sub hl [0, 1, 2, 3, 4, 5, 6] rfl)
        refine sb_if_ne (tgt := 62) hx hb rfl dX0_emptyMinutes_35 (by decide) (fun c_35_20 => ?_) (fun c_35_20 => ?_)
        · exact hj_62_28 x_7 x_8 _ _ _  hw (lv_sub hl [0, 1, 2, 3, 4, 5, 6] rfl)
        · refine lv_iload hx hb dX0_emptyMinutes_38 (lv_at hl 2 rfl) ?_
          have hj_57_25 : ∀ (x_25 : Int32) (H : Heap) (locs : List Loc) (ls : Array Slot), ti_H ti_LT D A cy H0 M_16 H locs → lv_has ls 7 [(6, .int x_5), (5, .int x_7), (4, .int x_8), (0, .ref (A 53 0)), (1, .ref (A 27 0)), (2, .int nn), (3, .int wh)] → W p l e (ti_rm 5) s m args below meth c H locs 0 0 Q (F0 m 57 ls [.int x_25]) := by
            intro x_25 H locs ls  hw hl
            refine lv_istore (lv' := [(5, .int x_25), (6, .int x_5), (4, .int x_8), (0, .ref (A 53 0)), (1, .ref (A 27 0)), (2, .int nn), (3, .int wh)]) hx hb dX0_emptyMinutes_57 hl (by decide) rfl (fun ls hl => ?_)
            obtain ⟨x_26, ex_26⟩ : ∃ z : Int32, z = x_8 + 1 := ⟨_, rfl⟩
            refine lv_iinc (v := x_26) (lv' := [(4, .int x_26), (5, .int x_25), (6, .int x_5), (0, .ref (A 53 0)), (1, .ref (A 27 0)), (2, .int nn), (3, .int wh)]) hx hb dX0_emptyMinutes_59 hl (k := 2) rfl (by rw [ex_26]; rfl) (by decide) rfl (fun ls hl => ?_)
            exact hj_62_28 x_25 x_26 _ _ _  hw (lv_sub hl [2, 1, 0, 3, 4, 5, 6] rfl)
          refine sb_if_ne (tgt := 55) hx hb rfl dX0_emptyMinutes_40 (by decide) (fun c_40_21 => ?_) (fun c_40_21 => ?_)
          · refine lv_iload hx hb dX0_emptyMinutes_55 (lv_at hl 1 rfl) ?_
            exact hj_57_25 x_7 _ _ _  hw (lv_sub hl [0, 1, 2, 3, 4, 5, 6] rfl)
          · refine lv_aload_n hx hb dX0_emptyMinutes_43 rfl (lv_at hl 3 rfl) ?_
            refine ti_get (ci := 0) (k := 0) (N := 6) (T := TX0) (v := .ref (A 54 0)) C hw iw_0 rfl ob_53 (by decide) (by decide) fl_X0_12 rfl rfl dX0_emptyMinutes_44 ?_
            refine ti_get (ci := 3) (k := 2) (N := 17) (T := TX3) C hw iw_3 rfl ob_54 (by decide) (by decide) fl_X0_45 rfl rfl dX0_emptyMinutes_47 ?_
            refine lv_topi (fun x_23 ex_23 => ?_)
            refine lv_iconst (v := 1) hx hb dX0_emptyMinutes_50 (by decide) ?_
            refine lv_isub hx hb dX0_emptyMinutes_51 ?_
            refine lv_topi (fun x_24 ex_24 => ?_)
            refine lv_goto (tgt := 57) hx hb dX0_emptyMinutes_52 (by decide) ?_
            exact hj_57_25 x_24 _ _ _  hw (lv_sub hl [0, 1, 2, 3, 4, 5, 6] rfl)
  exact hl_15_12 ((nn.toInt - 0 : Int).toNat + 1) 0 (-2) 0 M_2 _ _ _ (Nat.lt_succ_self _) (by have lt0 : ((-2) : Int32).toInt = (-2) := (by decide); have lt1 : (0 : Int32).toInt = 0 := (by decide); first | omega | decide) iM_2 (rs_TT q_3 (by decide)) q_4 ((tT_fr q_3).trans (tT_u _ _ _ _)) hw (lv_sub hl [0, 1, 2, 3, 4, 5, 6] rfl)
set_option maxHeartbeats 4000000 in
set_option maxRecDepth 100000 in
theorem s_X0_timesServed (l : Launch) (D : va_G) (A : Nat → Nat → Nat) (cy : Nat → ClassId) (hJ : ti_inj ti_LT A) (M : ti_M) (hI : cI Tc M) (t : Nat) (ht : t = 3 ∨ t = 4) (hT : tT M 27 0 = some t) (sd mn nn : Int32) (h1 : 0 ≤ mn.toInt) (h2 : mn.toInt ≤ 7) : ti_Ki l yX0_timesServed cX0_timesServed 8 (some .int) 6 ti_LT D A cy M [.ref (A 53 0), .ref (A 27 0), .int sd, .int mn, .int nn] (fun r M2 => cI Tc M2 ∧ rT M2 M ∧ fX M2 M) := by
  refine ti_eI yp_X0_timesServed hJ ti_LT_nd (Nat.le_of_ble_eq_true rfl) ?_
  intro p e s m args below meth c Q H0 C hQ hw ls hl
  have hx := C.1
  have hb := C.2.1
  have hl : lv_has ls 8 [(0, .ref (A 53 0)), (1, .ref (A 27 0)), (2, .int sd), (3, .int mn), (4, .int nn)] := hl
  refine lv_iconst (v := 0) hx hb dX0_timesServed_0 (by decide) ?_
  refine lv_istore (lv' := [(5, .int 0), (0, .ref (A 53 0)), (1, .ref (A 27 0)), (2, .int sd), (3, .int mn), (4, .int nn)]) hx hb dX0_timesServed_1 hl (by decide) rfl (fun ls hl => ?_)
  refine lv_iload_n hx hb dX0_timesServed_3 rfl (lv_at hl 3 rfl) ?_
  refine lv_istore (lv' := [(6, .int sd), (5, .int 0), (0, .ref (A 53 0)), (1, .ref (A 27 0)), (2, .int sd), (3, .int mn), (4, .int nn)]) hx hb dX0_timesServed_4 hl (by decide) rfl (fun ls hl => ?_)
  refine lv_iconst (v := 0) hx hb dX0_timesServed_6 (by decide) ?_
  refine lv_istore (lv' := [(7, .int 0), (6, .int sd), (5, .int 0), (0, .ref (A 53 0)), (1, .ref (A 27 0)), (2, .int sd), (3, .int mn), (4, .int nn)]) hx hb dX0_timesServed_7 hl (by decide) rfl (fun ls hl => ?_)
  have hl_9_8 : ∀ (n_9 : Nat) (x_1 : Int32) (x_4 : Int32) (x_5 : Int32) (M_6 : ti_M) (H : Heap) (locs : List Loc) (ls : Array Slot), (10 - x_1.toInt : Int).toNat < n_9 → (0 ≤ x_1.toInt) → (x_1.toInt ≤ 10) → (cI Tc M_6) → (rT M_6 M) → (fX M_6 M) → ti_H ti_LT D A cy H0 M_6 H locs → lv_has ls 8 [(7, .int x_1), (6, .int x_4), (5, .int x_5), (0, .ref (A 53 0)), (1, .ref (A 27 0)), (2, .int sd), (3, .int mn), (4, .int nn)] → W p l e (ti_rm 6) s m args below meth c H locs 0 0 Q (F0 m 9 ls []) := by
    intro n_9
    induction n_9 with
    | zero => intro x_1 x_4 x_5 M_6 H locs ls hf_9; exact absurd hf_9 (Nat.not_lt_zero _)
    | succ n_9 ih_9 =>
      intro x_1 x_4 x_5 M_6 H locs ls hf_9 b_2 b_3 iM_6 f_7 f_8 hw hl
      refine lv_iload hx hb dX0_timesServed_9 (lv_at hl 0 rfl) ?_
      refine lv_bipush (v := 10) hx hb dX0_timesServed_11 (by decide) ?_
      refine sb_icmp_ge (tgt := 86) hx hb rfl (by decide : (10 : Int32).toInt = 10) dX0_timesServed_13 (by decide) (fun c_13_9 => ?_) (fun c_13_9 => ?_)
      · refine lv_iload hx hb dX0_timesServed_86 (lv_at hl 2 rfl) ?_
        exact hQ _ _ _ _ _ _ hw rfl (⟨iM_6, f_7, f_8⟩) dX0_timesServed_88
      · refine lv_aload_n hx hb dX0_timesServed_16 rfl (lv_at hl 3 rfl) ?_
        refine ti_get (ci := 0) (k := 0) (N := 6) (T := TX0) (v := .ref (A 54 0)) C hw iw_0 rfl ob_53 (by decide) (by decide) fl_X0_12 rfl rfl dX0_timesServed_17 ?_
        refine lv_aload_n hx hb dX0_timesServed_20 rfl (lv_at hl 4 rfl) ?_
        refine ti_callVv (ci := 3) (av := [.ref (A 27 0)]) C hw (s_X3_copy l D A cy hJ M_6 iM_6 54 27 t ob_54 ob_27 ht ((f_7 27 0 (by decide)).trans hT) (fun h => absurd h np_54)) ⟨ml_X0_35, ym_X3_copy, yv_X3_copy, yi_X3_copy, yc_X3_copy⟩ yd_X3_copy ob_54 (by decide) rfl rfl hl.1 (Nat.le_of_ble_eq_true rfl) ⟨by decide, by decide⟩ ⟨Nat.zero_le _, Nat.zero_le _⟩ dX0_timesServed_21 (fun M_12 H locs hp_12 hw => ?_)
        obtain ⟨iM_12, q_13, q_14⟩ := hp_12
        refine lv_aload_n hx hb dX0_timesServed_24 rfl (lv_at hl 3 rfl) ?_
        refine ti_get (ci := 0) (k := 0) (N := 6) (T := TX0) (v := .ref (A 54 0)) C hw iw_0 rfl ob_53 (by decide) (by decide) fl_X0_12 rfl rfl dX0_timesServed_25 ?_
        refine lv_iconst (v := 1) hx hb dX0_timesServed_28 (by decide) ?_
        refine ti_putI (ci := 3) (k := 1) (N := 17) (T := TX3) C hw iw_3 tyX3 tyX3_ok nmX3 rfl ob_54 (by decide) (by decide) fl_X0_39 rfl rfl rfl rfl (fn_3 A _) fs_3_1 dX0_timesServed_29 (fun H locs hw => ?_)
        obtain ⟨M_15, hM_15⟩ : ∃ z : ti_M, z = uI M_12 54 1 1 := ⟨_, rfl⟩
        have hw := hw.to hM_15.symm
        have iM_15 : cI Tc M_15 := cI_uI iM_12 hM_15 ob_54.1 trivial
        refine lv_aload_n hx hb dX0_timesServed_32 rfl (lv_at hl 3 rfl) ?_
        refine ti_get (ci := 0) (k := 0) (N := 6) (T := TX0) (v := .ref (A 54 0)) C hw iw_0 rfl ob_53 (by decide) (by decide) fl_X0_12 rfl rfl dX0_timesServed_33 ?_
        refine lv_iload hx hb dX0_timesServed_36 (lv_at hl 1 rfl) ?_
        refine ti_putI (ci := 3) (k := 5) (N := 17) (T := TX3) C hw iw_3 tyX3 tyX3_ok nmX3 rfl ob_54 (by decide) (by decide) fl_X0_154 rfl rfl rfl rfl (fn_3 A _) fs_3_5 dX0_timesServed_38 (fun H locs hw => ?_)
        obtain ⟨M_16, hM_16⟩ : ∃ z : ti_M, z = uI M_15 54 5 x_4 := ⟨_, rfl⟩
        have hw := hw.to hM_16.symm
        have iM_16 : cI Tc M_16 := cI_uI iM_15 hM_16 ob_54.1 trivial
        refine lv_aload_n hx hb dX0_timesServed_41 rfl (lv_at hl 3 rfl) ?_
        refine ti_get (ci := 0) (k := 0) (N := 6) (T := TX0) (v := .ref (A 54 0)) C hw iw_0 rfl ob_53 (by decide) (by decide) fl_X0_12 rfl rfl dX0_timesServed_42 ?_
        refine lv_aload_n hx hb dX0_timesServed_45 rfl (lv_at hl 4 rfl) ?_
        refine ti_get (ci := 3) (k := 2) (N := 17) (T := TX3) C hw iw_3 rfl ob_27 (by decide) (by decide) fl_X0_45 rfl rfl dX0_timesServed_46 ?_
        refine lv_topi (fun x_17 ex_17 => ?_)
        have bx_17 : 0 ≤ x_17.toInt ∧ x_17.toInt ≤ 120 := cI_rd iM_16 ob_27.1 ex_17 (Or.inl rfl)
        have ux_17 : (tI M_16 27 2).toInt = x_17.toInt := by rw [ex_17]
        refine lv_iload hx hb dX0_timesServed_49 (lv_at hl 7 rfl) ?_
        refine lv_iadd hx hb dX0_timesServed_51 ?_
        refine lv_topi (fun x_18 ex_18 => ?_)
        refine ti_callVv (ci := 3) (av := [.int x_18]) C hw (s_X3_passTo l D A cy hJ M_16 iM_16 54 t ob_54 ht ((tT_uIE hM_16).trans ((tT_uIE hM_15).trans ((tT_fr q_13).trans (tT_u _ _ _ _)))) x_18 np_54) ⟨ml_X0_60, ym_X3_passTo, yv_X3_passTo, yi_X3_passTo, yc_X3_passTo⟩ yd_X3_passTo ob_54 (by decide) rfl rfl hl.1 (Nat.le_of_ble_eq_true rfl) ⟨by decide, by decide⟩ ⟨Nat.zero_le _, Nat.zero_le _⟩ dX0_timesServed_52 (fun M_20 H locs hp_20 hw => ?_)
        obtain ⟨iM_20, q_21, q_22⟩ := hp_20
        refine lv_aload_n hx hb dX0_timesServed_55 rfl (lv_at hl 3 rfl) ?_
        refine ti_get (ci := 0) (k := 0) (N := 6) (T := TX0) (v := .ref (A 54 0)) C hw iw_0 rfl ob_53 (by decide) (by decide) fl_X0_12 rfl rfl dX0_timesServed_56 ?_
        refine ti_get (ci := 3) (k := 5) (N := 17) (T := TX3) C hw iw_3 rfl ob_54 (by decide) (by decide) fl_X0_154 rfl rfl dX0_timesServed_59 ?_
        refine lv_topi (fun x_23 ex_23 => ?_)
        refine lv_istore (lv' := [(6, .int x_23), (7, .int x_1), (5, .int x_5), (0, .ref (A 53 0)), (1, .ref (A 27 0)), (2, .int sd), (3, .int mn), (4, .int nn)]) hx hb dX0_timesServed_62 hl (by decide) rfl (fun ls hl => ?_)
        refine lv_aload_n hx hb dX0_timesServed_64 rfl (lv_at hl 3 rfl) ?_
        refine ti_get (ci := 0) (k := 0) (N := 6) (T := TX0) (v := .ref (A 54 0)) C hw iw_0 rfl ob_53 (by decide) (by decide) fl_X0_12 rfl rfl dX0_timesServed_65 ?_
        refine ti_get (ci := 3) (k := 8) (N := 17) (T := TX3) (v := .ref (A 54 9)) C hw iw_3 rfl ob_54 (by decide) (by decide) fl_X0_48 rfl rfl dX0_timesServed_68 ?_
        refine lv_iload_n hx hb dX0_timesServed_71 rfl (lv_at hl 6 rfl) ?_
        refine ti_iald (ci := 3) (k := 8) (n := 8) C hw ob_54 (by decide) (fun _ _ => rfl) (vp_in_iff.mpr (by omega)) dX0_timesServed_72 ?_
        refine lv_topi (fun x_24 ex_24 => ?_)
        refine lv_iconst (v := 2) hx hb dX0_timesServed_73 (by decide) ?_
        have hj_80_27 : ∀ (x_27 : Int32) (H : Heap) (locs : List Loc) (ls : Array Slot), ti_H ti_LT D A cy H0 M_20 H locs → lv_has ls 8 [(6, .int x_23), (7, .int x_1), (5, .int x_27), (0, .ref (A 53 0)), (1, .ref (A 27 0)), (2, .int sd), (3, .int mn), (4, .int nn)] → W p l e (ti_rm 6) s m args below meth c H locs 0 0 Q (F0 m 80 ls []) := by
          intro x_27 H locs ls  hw hl
          obtain ⟨x_28, ex_28⟩ : ∃ z : Int32, z = x_1 + 1 := ⟨_, rfl⟩
          have tx_28 : x_28.toInt = x_1.toInt + 1 := i_add ex_28 rfl (by decide) (by omega) (by omega)
          refine lv_iinc (v := x_28) (lv' := [(7, .int x_28), (6, .int x_23), (5, .int x_27), (0, .ref (A 53 0)), (1, .ref (A 27 0)), (2, .int sd), (3, .int mn), (4, .int nn)]) hx hb dX0_timesServed_80 hl (k := 1) rfl (by rw [ex_28]; rfl) (by decide) rfl (fun ls hl => ?_)
          refine lv_goto (tgt := 9) hx hb dX0_timesServed_83 (by decide) ?_
          exact ih_9 x_28 x_23 x_27 M_20 _ _ _ (by omega) (by first | omega | decide) (by first | omega | decide) iM_20 (rT.trans (rs_of q_21) (rT.trans (rs_of (rf_I hM_16)) (rT.trans (rs_of (rf_I hM_15)) (rT.trans (rs_TT q_13 (by decide)) f_7)))) (fX.trans q_22 (fX.trans (fx_I hM_16 (by decide)) (fX.trans (fx_I hM_15 (by decide)) (fX.trans q_14 f_8)))) hw (lv_sub hl [0, 1, 2, 3, 4, 5, 6, 7] rfl)
        refine sb_icmp_ne (tgt := 80) hx hb rfl (by decide : (2 : Int32).toInt = 2) dX0_timesServed_74 (by decide) (fun c_74_24 => ?_) (fun c_74_24 => ?_)
        · exact hj_80_27 x_5 _ _ _  hw (lv_sub hl [0, 1, 2, 3, 4, 5, 6, 7] rfl)
        · obtain ⟨x_26, ex_26⟩ : ∃ z : Int32, z = x_5 + 1 := ⟨_, rfl⟩
          refine lv_iinc (v := x_26) (lv' := [(5, .int x_26), (6, .int x_23), (7, .int x_1), (0, .ref (A 53 0)), (1, .ref (A 27 0)), (2, .int sd), (3, .int mn), (4, .int nn)]) hx hb dX0_timesServed_77 hl (k := 2) rfl (by rw [ex_26]; rfl) (by decide) rfl (fun ls hl => ?_)
          exact hj_80_27 x_26 _ _ _  hw (lv_sub hl [1, 2, 0, 3, 4, 5, 6, 7] rfl)
  exact hl_9_8 ((10 - 0 : Int).toNat + 1) 0 sd 0 M _ _ _ (Nat.lt_succ_self _) (by have lt0 : (0 : Int32).toInt = 0 := (by decide); first | omega | decide) (by have lt0 : (0 : Int32).toInt = 0 := (by decide); first | omega | decide) hI rT.refl fX.refl hw (lv_sub hl [0, 1, 2, 3, 4, 5, 6, 7] rfl)
set_option maxHeartbeats 4000000 in
set_option maxRecDepth 100000 in
theorem s_X0_servedOtherwise (l : Launch) (D : va_G) (A : Nat → Nat → Nat) (cy : Nat → ClassId) (hJ : ti_inj ti_LT A) (M : ti_M) (hI : cI Tc M) (t : Nat) (ht : t = 3 ∨ t = 4) (hT : tT M 27 0 = some t) (wh mn nn : Int32) (h1 : 0 ≤ mn.toInt) (h2 : mn.toInt ≤ 7) : ti_Ki l yX0_servedOtherwise cX0_servedOtherwise 5 (some .int) 6 ti_LT D A cy M [.ref (A 53 0), .ref (A 27 0), .int wh, .int mn, .int nn] (fun r M2 => cI Tc M2 ∧ rT M2 M ∧ fX M2 M) := by
  refine ti_eI yp_X0_servedOtherwise hJ ti_LT_nd (Nat.le_of_ble_eq_true rfl) ?_
  intro p e s m args below meth c Q H0 C hQ hw ls hl
  have hx := C.1
  have hb := C.2.1
  have hl : lv_has ls 5 [(0, .ref (A 53 0)), (1, .ref (A 27 0)), (2, .int wh), (3, .int mn), (4, .int nn)] := hl
  refine lv_aload_n hx hb dX0_servedOtherwise_0 rfl (lv_at hl 0 rfl) ?_
  refine lv_aload_n hx hb dX0_servedOtherwise_1 rfl (lv_at hl 1 rfl) ?_
  refine ti_callVv (ci := 0) (av := [.ref (A 27 0)]) C hw (s_X0_prepare l D A cy hJ M hI t ht (hT)) ⟨ml_X0_42, ym_X0_prepare, yv_X0_prepare, yi_X0_prepare, yc_X0_prepare⟩ yd_X0_prepare ob_53 (by decide) rfl rfl hl.1 (Nat.le_of_ble_eq_true rfl) ⟨by decide, by decide⟩ ⟨Nat.zero_le _, Nat.zero_le _⟩ dX0_servedOtherwise_2 (fun M_2 H locs hp_2 hw => ?_)
  obtain ⟨iM_2, q_3, q_4⟩ := hp_2
  refine lv_iload_n hx hb dX0_servedOtherwise_5 rfl (lv_at hl 2 rfl) ?_
  have hj_150_32 : ∀ (M_29 : ti_M) (H : Heap) (locs : List Loc) (ls : Array Slot), (cI Tc M_29) → (rT M_29 M) → (fX M_29 M) → (tT M_29 54 0 = (some t)) → ti_H ti_LT D A cy H0 M_29 H locs → lv_has ls 5 [(0, .ref (A 53 0)), (1, .ref (A 27 0)), (2, .int wh), (3, .int mn), (4, .int nn)] → W p l e (ti_rm 6) s m args below meth c H locs 0 0 Q (F0 m 150 ls []) := by
    intro M_29 H locs ls iM_29 f_30 f_31 f_32 hw hl
    refine lv_aload_n hx hb dX0_servedOtherwise_150 rfl (lv_at hl 0 rfl) ?_
    refine ti_get (ci := 0) (k := 0) (N := 6) (T := TX0) (v := .ref (A 54 0)) C hw iw_0 rfl ob_53 (by decide) (by decide) fl_X0_12 rfl rfl dX0_servedOtherwise_151 ?_
    refine lv_aload_n hx hb dX0_servedOtherwise_154 rfl (lv_at hl 1 rfl) ?_
    refine ti_get (ci := 3) (k := 2) (N := 17) (T := TX3) C hw iw_3 rfl ob_27 (by decide) (by decide) fl_X0_45 rfl rfl dX0_servedOtherwise_155 ?_
    refine lv_topi (fun x_33 ex_33 => ?_)
    have bx_33 : 0 ≤ x_33.toInt ∧ x_33.toInt ≤ 120 := cI_rd iM_29 ob_27.1 ex_33 (Or.inl rfl)
    have ux_33 : (tI M_29 27 2).toInt = x_33.toInt := by rw [ex_33]
    refine lv_iload hx hb dX0_servedOtherwise_158 (lv_at hl 4 rfl) ?_
    refine lv_iadd hx hb dX0_servedOtherwise_160 ?_
    refine lv_topi (fun x_34 ex_34 => ?_)
    refine ti_callVv (ci := 3) (av := [.int x_34]) C hw (s_X3_passTo l D A cy hJ M_29 iM_29 54 t ob_54 ht (f_32) x_34 np_54) ⟨ml_X0_60, ym_X3_passTo, yv_X3_passTo, yi_X3_passTo, yc_X3_passTo⟩ yd_X3_passTo ob_54 (by decide) rfl rfl hl.1 (Nat.le_of_ble_eq_true rfl) ⟨by decide, by decide⟩ ⟨Nat.zero_le _, Nat.zero_le _⟩ dX0_servedOtherwise_161 (fun M_36 H locs hp_36 hw => ?_)
    obtain ⟨iM_36, q_37, q_38⟩ := hp_36
    refine lv_aload_n hx hb dX0_servedOtherwise_164 rfl (lv_at hl 0 rfl) ?_
    refine ti_get (ci := 0) (k := 0) (N := 6) (T := TX0) (v := .ref (A 54 0)) C hw iw_0 rfl ob_53 (by decide) (by decide) fl_X0_12 rfl rfl dX0_servedOtherwise_165 ?_
    refine lv_iconst (v := 2) hx hb dX0_servedOtherwise_168 (by decide) ?_
    refine ti_callVi (ci := 3) (av := [.int 2]) C hw (s_X3_howMany l D A cy hJ M_36 iM_36 54 t ob_54 ht ((tT_fr q_37).trans f_32) 2) ⟨ml_X0_157, ym_X3_howMany, yv_X3_howMany, yi_X3_howMany, yc_X3_howMany⟩ yd_X3_howMany ob_54 (by decide) rfl rfl hl.1 (Nat.le_of_ble_eq_true rfl) ⟨by decide, by decide⟩ ⟨Nat.zero_le _, Nat.zero_le _⟩ dX0_servedOtherwise_169 (fun r_39 M_40 H locs hp_40 hw => ?_)
    have hm := hp_40
    have hw := hw.to hm
    exact hQ _ _ _ _ _ _ hw rfl (⟨iM_36, (rT.trans (rs_of q_37) f_30), (fX.trans q_38 f_31)⟩) dX0_servedOtherwise_172
  by_cases s_5_0 : wh = 0
  · refine lv_tableIn (tgt := 40) (off := 34) hx hb dX0_servedOtherwise_6 (by rw [s_5_0]; decide) (by rw [s_5_0]; decide) (by rw [s_5_0]; decide) (by decide) ?_
    refine lv_aload_n hx hb dX0_servedOtherwise_40 rfl (lv_at hl 0 rfl) ?_
    refine ti_get (ci := 0) (k := 0) (N := 6) (T := TX0) (v := .ref (A 54 0)) C hw iw_0 rfl ob_53 (by decide) (by decide) fl_X0_12 rfl rfl dX0_servedOtherwise_41 ?_
    refine lv_dup hx hb dX0_servedOtherwise_44 rfl ?_
    refine ti_get (ci := 3) (k := 1) (N := 17) (T := TX3) C hw iw_3 rfl ob_54 (by decide) (by decide) fl_X0_39 rfl rfl dX0_servedOtherwise_45 ?_
    refine lv_topi (fun x_6 ex_6 => ?_)
    refine lv_iconst (v := 4) hx hb dX0_servedOtherwise_48 (by decide) ?_
    refine lv_ior hx hb dX0_servedOtherwise_49 ?_
    refine lv_topi (fun x_7 ex_7 => ?_)
    refine ti_putI (ci := 3) (k := 1) (N := 17) (T := TX3) C hw iw_3 tyX3 tyX3_ok nmX3 rfl ob_54 (by decide) (by decide) fl_X0_39 rfl rfl rfl rfl (fn_3 A _) fs_3_1 dX0_servedOtherwise_50 (fun H locs hw => ?_)
    obtain ⟨M_8, hM_8⟩ : ∃ z : ti_M, z = uI M_2 54 1 x_7 := ⟨_, rfl⟩
    have hw := hw.to hM_8.symm
    have iM_8 : cI Tc M_8 := cI_uI iM_2 hM_8 ob_54.1 trivial
    refine lv_goto (tgt := 150) hx hb dX0_servedOtherwise_53 (by decide) ?_
    exact hj_150_32 M_8 _ _ _ iM_8 (rT.trans (rs_of (rf_I hM_8)) (rs_TT q_3 (by decide))) (fX.trans (fx_I hM_8 (by decide)) q_4) ((tT_uIE hM_8).trans ((tT_fr q_3).trans (tT_u _ _ _ _))) hw (lv_sub hl [0, 1, 2, 3, 4] rfl)
  · by_cases s_5_1 : wh = 1
    · refine lv_tableIn (tgt := 56) (off := 50) hx hb dX0_servedOtherwise_6 (by rw [s_5_1]; decide) (by rw [s_5_1]; decide) (by rw [s_5_1]; decide) (by decide) ?_
      refine lv_aload_n hx hb dX0_servedOtherwise_56 rfl (lv_at hl 0 rfl) ?_
      refine ti_get (ci := 0) (k := 0) (N := 6) (T := TX0) (v := .ref (A 54 0)) C hw iw_0 rfl ob_53 (by decide) (by decide) fl_X0_12 rfl rfl dX0_servedOtherwise_57 ?_
      refine lv_dup hx hb dX0_servedOtherwise_60 rfl ?_
      refine ti_get (ci := 3) (k := 1) (N := 17) (T := TX3) C hw iw_3 rfl ob_54 (by decide) (by decide) fl_X0_39 rfl rfl dX0_servedOtherwise_61 ?_
      refine lv_topi (fun x_9 ex_9 => ?_)
      refine lv_bipush (v := 8) hx hb dX0_servedOtherwise_64 (by decide) ?_
      refine lv_ior hx hb dX0_servedOtherwise_66 ?_
      refine lv_topi (fun x_10 ex_10 => ?_)
      refine ti_putI (ci := 3) (k := 1) (N := 17) (T := TX3) C hw iw_3 tyX3 tyX3_ok nmX3 rfl ob_54 (by decide) (by decide) fl_X0_39 rfl rfl rfl rfl (fn_3 A _) fs_3_1 dX0_servedOtherwise_67 (fun H locs hw => ?_)
      obtain ⟨M_11, hM_11⟩ : ∃ z : ti_M, z = uI M_2 54 1 x_10 := ⟨_, rfl⟩
      have hw := hw.to hM_11.symm
      have iM_11 : cI Tc M_11 := cI_uI iM_2 hM_11 ob_54.1 trivial
      refine lv_goto (tgt := 150) hx hb dX0_servedOtherwise_70 (by decide) ?_
      exact hj_150_32 M_11 _ _ _ iM_11 (rT.trans (rs_of (rf_I hM_11)) (rs_TT q_3 (by decide))) (fX.trans (fx_I hM_11 (by decide)) q_4) ((tT_uIE hM_11).trans ((tT_fr q_3).trans (tT_u _ _ _ _))) hw (lv_sub hl [0, 1, 2, 3, 4] rfl)
    · by_cases s_5_2 : wh = 2
      · refine lv_tableIn (tgt := 73) (off := 67) hx hb dX0_servedOtherwise_6 (by rw [s_5_2]; decide) (by rw [s_5_2]; decide) (by rw [s_5_2]; decide) (by decide) ?_
        refine lv_aload_n hx hb dX0_servedOtherwise_73 rfl (lv_at hl 0 rfl) ?_
        refine ti_get (ci := 0) (k := 0) (N := 6) (T := TX0) (v := .ref (A 54 0)) C hw iw_0 rfl ob_53 (by decide) (by decide) fl_X0_12 rfl rfl dX0_servedOtherwise_74 ?_
        refine lv_aload_n hx hb dX0_servedOtherwise_77 rfl (lv_at hl 0 rfl) ?_
        refine ti_get (ci := 0) (k := 0) (N := 6) (T := TX0) (v := .ref (A 54 0)) C hw iw_0 rfl ob_53 (by decide) (by decide) fl_X0_12 rfl rfl dX0_servedOtherwise_78 ?_
        refine lv_iload_n hx hb dX0_servedOtherwise_81 rfl (lv_at hl 3 rfl) ?_
        refine ti_callVi (ci := 3) (av := [.int mn]) C hw (s_X3_placeOf l D A cy hJ M_2 iM_2 54 ob_54 mn) ⟨ml_X0_130, ym_X3_placeOf, yv_X3_placeOf, yi_X3_placeOf, yc_X3_placeOf⟩ yd_X3_placeOf ob_54 (by decide) rfl rfl hl.1 (Nat.le_of_ble_eq_true rfl) ⟨by decide, by decide⟩ ⟨Nat.zero_le _, Nat.zero_le _⟩ dX0_servedOtherwise_82 (fun r_12 M_13 H locs hp_13 hw => ?_)
        obtain ⟨hm, b0r_12, b1r_12⟩ := hp_13
        have hw := hw.to hm
        refine lv_iconst (v := 3) hx hb dX0_servedOtherwise_85 (by decide) ?_
        refine ti_callVv (ci := 3) (av := [.int r_12, .int 3]) C hw (s_X3_remove l D A cy hJ M_2 iM_2 54 ob_54 r_12 3) ⟨ml_X0_144, ym_X3_remove, yv_X3_remove, yi_X3_remove, yc_X3_remove⟩ yd_X3_remove ob_54 (by decide) rfl rfl hl.1 (Nat.le_of_ble_eq_true rfl) ⟨by decide, by decide⟩ ⟨Nat.zero_le _, Nat.zero_le _⟩ dX0_servedOtherwise_86 (fun M_15 H locs hp_15 hw => ?_)
        obtain ⟨iM_15, q_16, q_17, q_18⟩ := hp_15
        refine lv_aload_n hx hb dX0_servedOtherwise_89 rfl (lv_at hl 0 rfl) ?_
        refine ti_get (ci := 0) (k := 0) (N := 6) (T := TX0) (v := .ref (A 54 0)) C hw iw_0 rfl ob_53 (by decide) (by decide) fl_X0_12 rfl rfl dX0_servedOtherwise_90 ?_
        refine ti_get (ci := 3) (k := 8) (N := 17) (T := TX3) (v := .ref (A 54 9)) C hw iw_3 rfl ob_54 (by decide) (by decide) fl_X0_48 rfl rfl dX0_servedOtherwise_93 ?_
        refine lv_iload_n hx hb dX0_servedOtherwise_96 rfl (lv_at hl 3 rfl) ?_
        refine lv_iconst (v := 3) hx hb dX0_servedOtherwise_97 (by decide) ?_
        refine ti_iast (ci := 3) (k := 8) (n := 8) C hw ob_54 (by decide) (fun _ _ => rfl) (vp_in_iff.mpr (by omega)) dX0_servedOtherwise_98 (fun H locs hw => ?_)
        obtain ⟨M_19, hM_19⟩ : ∃ z : ti_M, z = uY M_15 54 8 (upd (tY M_15 54 8) (mn : Int32).toNatClampNeg 3) := ⟨_, rfl⟩
        have hw := hw.to hM_19.symm
        have iM_19 : cI Tc M_19 := cI_up iM_15 hM_19 ob_54.1 trivial
        refine lv_goto (tgt := 150) hx hb dX0_servedOtherwise_99 (by decide) ?_
        exact hj_150_32 M_19 _ _ _ iM_19 (rT.trans (rs_of (rf_Y hM_19)) (rT.trans (rs_of q_16) (rs_TT q_3 (by decide)))) (fX.trans (fx_of (ra_Y hM_19)) (fX.trans q_18 q_4)) ((tT_uYE hM_19).trans ((tT_fr q_16).trans ((tT_fr q_3).trans (tT_u _ _ _ _)))) hw (lv_sub hl [0, 1, 2, 3, 4] rfl)
      · by_cases s_5_3 : wh = 3
        · refine lv_tableIn (tgt := 102) (off := 96) hx hb dX0_servedOtherwise_6 (by rw [s_5_3]; decide) (by rw [s_5_3]; decide) (by rw [s_5_3]; decide) (by decide) ?_
          refine lv_aload_n hx hb dX0_servedOtherwise_102 rfl (lv_at hl 0 rfl) ?_
          refine ti_get (ci := 0) (k := 0) (N := 6) (T := TX0) (v := .ref (A 54 0)) C hw iw_0 rfl ob_53 (by decide) (by decide) fl_X0_12 rfl rfl dX0_servedOtherwise_103 ?_
          refine lv_dup hx hb dX0_servedOtherwise_106 rfl ?_
          refine ti_get (ci := 3) (k := 1) (N := 17) (T := TX3) C hw iw_3 rfl ob_54 (by decide) (by decide) fl_X0_39 rfl rfl dX0_servedOtherwise_107 ?_
          refine lv_topi (fun x_20 ex_20 => ?_)
          refine lv_bipush (v := 32) hx hb dX0_servedOtherwise_110 (by decide) ?_
          refine lv_ior hx hb dX0_servedOtherwise_112 ?_
          refine lv_topi (fun x_21 ex_21 => ?_)
          refine ti_putI (ci := 3) (k := 1) (N := 17) (T := TX3) C hw iw_3 tyX3 tyX3_ok nmX3 rfl ob_54 (by decide) (by decide) fl_X0_39 rfl rfl rfl rfl (fn_3 A _) fs_3_1 dX0_servedOtherwise_113 (fun H locs hw => ?_)
          obtain ⟨M_22, hM_22⟩ : ∃ z : ti_M, z = uI M_2 54 1 x_21 := ⟨_, rfl⟩
          have hw := hw.to hM_22.symm
          have iM_22 : cI Tc M_22 := cI_uI iM_2 hM_22 ob_54.1 trivial
          refine lv_goto (tgt := 150) hx hb dX0_servedOtherwise_116 (by decide) ?_
          exact hj_150_32 M_22 _ _ _ iM_22 (rT.trans (rs_of (rf_I hM_22)) (rs_TT q_3 (by decide))) (fX.trans (fx_I hM_22 (by decide)) q_4) ((tT_uIE hM_22).trans ((tT_fr q_3).trans (tT_u _ _ _ _))) hw (lv_sub hl [0, 1, 2, 3, 4] rfl)
        · by_cases s_5_4 : wh = 4
          · refine lv_tableIn (tgt := 119) (off := 113) hx hb dX0_servedOtherwise_6 (by rw [s_5_4]; decide) (by rw [s_5_4]; decide) (by rw [s_5_4]; decide) (by decide) ?_
            refine lv_aload_n hx hb dX0_servedOtherwise_119 rfl (lv_at hl 0 rfl) ?_
            refine ti_get (ci := 0) (k := 0) (N := 6) (T := TX0) (v := .ref (A 54 0)) C hw iw_0 rfl ob_53 (by decide) (by decide) fl_X0_12 rfl rfl dX0_servedOtherwise_120 ?_
            refine lv_dup hx hb dX0_servedOtherwise_123 rfl ?_
            refine ti_get (ci := 3) (k := 1) (N := 17) (T := TX3) C hw iw_3 rfl ob_54 (by decide) (by decide) fl_X0_39 rfl rfl dX0_servedOtherwise_124 ?_
            refine lv_topi (fun x_23 ex_23 => ?_)
            refine lv_bipush (v := 16) hx hb dX0_servedOtherwise_127 (by decide) ?_
            refine lv_ior hx hb dX0_servedOtherwise_129 ?_
            refine lv_topi (fun x_24 ex_24 => ?_)
            refine ti_putI (ci := 3) (k := 1) (N := 17) (T := TX3) C hw iw_3 tyX3 tyX3_ok nmX3 rfl ob_54 (by decide) (by decide) fl_X0_39 rfl rfl rfl rfl (fn_3 A _) fs_3_1 dX0_servedOtherwise_130 (fun H locs hw => ?_)
            obtain ⟨M_25, hM_25⟩ : ∃ z : ti_M, z = uI M_2 54 1 x_24 := ⟨_, rfl⟩
            have hw := hw.to hM_25.symm
            have iM_25 : cI Tc M_25 := cI_uI iM_2 hM_25 ob_54.1 trivial
            refine lv_goto (tgt := 150) hx hb dX0_servedOtherwise_133 (by decide) ?_
            exact hj_150_32 M_25 _ _ _ iM_25 (rT.trans (rs_of (rf_I hM_25)) (rs_TT q_3 (by decide))) (fX.trans (fx_I hM_25 (by decide)) q_4) ((tT_uIE hM_25).trans ((tT_fr q_3).trans (tT_u _ _ _ _))) hw (lv_sub hl [0, 1, 2, 3, 4] rfl)
          · refine lv_tableOut (tgt := 136) hx hb dX0_servedOtherwise_6 (ti_out (lo := 0) (hi := 4) wh (fun v h1 h2 => by rcases (show v = 0 ∨ v = 1 ∨ v = 2 ∨ v = 3 ∨ v = 4 by omega) with rfl | rfl | rfl | rfl | rfl <;> first | exact ti_nev 0 s_5_0 (by decide) | exact ti_nev 1 s_5_1 (by decide) | exact ti_nev 2 s_5_2 (by decide) | exact ti_nev 3 s_5_3 (by decide) | exact ti_nev 4 s_5_4 (by decide))) (by decide) ?_
            refine lv_aload_n hx hb dX0_servedOtherwise_136 rfl (lv_at hl 0 rfl) ?_
            refine ti_get (ci := 0) (k := 0) (N := 6) (T := TX0) (v := .ref (A 54 0)) C hw iw_0 rfl ob_53 (by decide) (by decide) fl_X0_12 rfl rfl dX0_servedOtherwise_137 ?_
            refine ti_get (ci := 3) (k := 9) (N := 17) (T := TX3) (v := .ref (A 54 10)) C hw iw_3 rfl ob_54 (by decide) (by decide) fl_X0_57 rfl rfl dX0_servedOtherwise_140 ?_
            refine lv_aload_n hx hb dX0_servedOtherwise_143 rfl (lv_at hl 1 rfl) ?_
            refine ti_get (ci := 3) (k := 2) (N := 17) (T := TX3) C hw iw_3 rfl ob_27 (by decide) (by decide) fl_X0_45 rfl rfl dX0_servedOtherwise_144 ?_
            refine lv_topi (fun x_26 ex_26 => ?_)
            have bx_26 : 0 ≤ x_26.toInt ∧ x_26.toInt ≤ 120 := cI_rd iM_2 ob_27.1 ex_26 (Or.inl rfl)
            have ux_26 : (tI M_2 27 2).toInt = x_26.toInt := by rw [ex_26]
            refine ti_callSv (av := [.ref (A 54 10), .int x_26]) C hw (k_fill l D A cy ti_LT_nd hJ M_2 54 9 3 8 x_26 ob_54 (by decide) (fun _ _ => rfl) (by decide)) ⟨ml_X0_148, ys_J7_fill_53178, yi_J7_fill_53178, yc_J7_fill_53178⟩ yd_J7_fill_53178 rfl hl.1 (Nat.le_of_ble_eq_true rfl) ⟨by decide, by decide⟩ ⟨Nat.zero_le _, Nat.zero_le _⟩ dX0_servedOtherwise_147 (fun M_27 H locs hp hw => ?_)
            obtain ⟨g_28, hM_27, -⟩ := hp
            have iM_27 : cI Tc M_27 := cI_uY iM_2 hM_27 ob_54.1 (fun _ => trivial)
            exact hj_150_32 M_27 _ _ _ iM_27 (rT.trans (rs_of (rf_Y hM_27)) (rs_TT q_3 (by decide))) (fX.trans (fx_of (ra_Y hM_27)) q_4) ((tT_uYE hM_27).trans ((tT_fr q_3).trans (tT_u _ _ _ _))) hw (lv_sub hl [0, 1, 2, 3, 4] rfl)

variable {Tc : gC} {Tm : gM}
theorem pt_Tw' {w : Nat} {v s x : Int} (h : w < 25) (hs : s = 0) (hx : x = (w : Int)) : pt_T ((pt_iv.getD w 0 : Nat) : Int) v s x := by
  subst hs hx
  exact pt_Tw h
theorem pt_s2b (c d : Int) : 0 ≤ pt_s2 c d ∧ pt_s2 c d ≤ 1 := by unfold pt_s2; (repeat' split) <;> omega
theorem pt_m6 {B : Nat → Int} {p a w : Nat} (hw : w < 25) (h : pt_mt B p a w) : a ≤ p + 6 := by
  have g := pt_s1 w hw
  have e := h.1
  omega
set_option maxHeartbeats 4000000 in
set_option maxRecDepth 100000 in
theorem x_X10_token (l : Launch) (D : va_G) (A : Nat → Nat → Nat) (cy : Nat → ClassId) (hJ : ti_inj ti_LM A) (M : ti_M) (hI : mI Tm M)  : ti_KvE l yX10_token cX10_token 2 5 ti_LM D A cy M [.ref (A 60 0)] (fun M2 => mI Tm M2 ∧ pr 21 24 M2 M ∧ (tI M 60 21).toInt ≤ (tI M2 60 21).toInt ∧ ((tI M 60 21).toInt < (tI M2 60 21).toInt ∨ (tI M2 60 23).toInt = 4) ∧ (tI M2 60 22).toInt = (((pt_P (pt_rB M) (pt_rn0 M) (tI M 60 21).toInt.toNat) : Nat) : Int) ∧ (tI M2 60 21).toInt = pt_A (pt_rB M) (pt_rn0 M) (tI M 60 21).toInt.toNat ∧ pt_T (pt_K (pt_rB M) (pt_rn0 M) (tI M 60 21).toInt.toNat) (pt_V (pt_rB M) (pt_rn0 M) (tI M 60 21).toInt.toNat) (tI M2 60 23).toInt (tI M2 60 24).toInt) := by
  refine ti_eVE yp_X10_token hJ ti_LM_nd (Nat.le_of_ble_eq_true rfl) ?_
  intro p e s m args below meth c Q H0 C hE hQ hw ls hl
  have hx := C.1
  have hb := C.2.1
  have hl : lv_has ls 2 [(0, .ref (A 60 0))] := hl
  have hz : 0 ≤ (tI M 60 20).toInt ∧ (tI M 60 20).toInt ≤ 700 := hI.1 20
  have hat : 0 ≤ (tI M 60 21).toInt ∧ (tI M 60 21).toInt ≤ 700 := hI.1 21
  have u_6 : 0 ≤ (tI M 60 21).toInt ∧ (tI M 60 21).toInt ≤ 700 := mI_rd (x := tI M 60 21) (k := 21) hI rfl
  have hl_0_4 : ∀ (n_5 : Nat) (M_1 : ti_M) (H : Heap) (locs : List Loc) (ls : Array Slot), (700 - (tI M_1 60 21).toInt : Int).toNat < n_5 → (mI Tm M_1) → (pr 21 24 M_1 M) → ((tI M 60 21).toInt ≤ (tI M_1 60 21).toInt) → (pt_to pt_W (pt_rB M) (pt_rn0 M) (tI M_1 60 21).toInt.toNat = pt_to pt_W (pt_rB M) (pt_rn0 M) (tI M 60 21).toInt.toNat) → ti_H ti_LM D A cy H0 M_1 H locs → lv_has ls 2 [(0, .ref (A 60 0))] → W p l e (ti_rm 5) s m args below meth c H locs 0 0 Q (F0 m 0 ls []) := by
    intro n_5
    induction n_5 with
    | zero => intro M_1 H locs ls hf_5; exact absurd hf_5 (Nat.not_lt_zero _)
    | succ n_5 ih_5 =>
      intro M_1 H locs ls hf_5 iM_1 f_2 j_3 j_4 hw hl
      have v_7 : (tI M_1 60 20).toInt = (tI M 60 20).toInt := by rw [f_2.2 20 (by decide)]
      have v_8 : 0 ≤ (tI M_1 60 21).toInt ∧ (tI M_1 60 21).toInt ≤ 700 := mI_rd (x := tI M_1 60 21) (k := 21) iM_1 rfl
      have v_9 : 0 ≤ (tI M_1 60 22).toInt ∧ (tI M_1 60 22).toInt ≤ 700 := mI_rd (x := tI M_1 60 22) (k := 22) iM_1 rfl
      refine lv_aload_n hx hb dX10_token_0 rfl (lv_at hl 0 rfl) ?_
      refine ti_callVi (ci := 10) (av := []) C hw (s_X10_here l D A cy hJ M_1 iM_1 ) ⟨ml_X10_166, ym_X10_here, yv_X10_here, yi_X10_here, yc_X10_here⟩ yd_X10_here ob_60 (by decide) rfl rfl hl.1 (Nat.le_of_ble_eq_true rfl) ⟨by decide, by decide⟩ ⟨Nat.zero_le _, Nat.zero_le _⟩ dX10_token_1 (fun r_10 M_11 H locs hp_11 hw => ?_)
      obtain ⟨hm, b0r_10, b1r_10, p0r_10, p1r_10⟩ := hp_11
      have hw := hw.to hm
      have hhr_10 : (hr M_1).toInt = r_10.toInt := by rw [← p1r_10]
      have kr_10 := hr_pk (a := 21) (b := 24) (M := M) f_2 (by decide) iM_1 p1r_10
      refine lv_bipush (v := 10) hx hb dX10_token_4 (by decide) ?_
      refine sb_icmp_eq (tgt := 18) hx hb rfl (by decide : (10 : Int32).toInt = 10) dX10_token_6 (by decide) (fun c_6_11 => ?_) (fun c_6_11 => ?_)
      · refine lv_aload_n hx hb dX10_token_18 rfl (lv_at hl 0 rfl) ?_
        refine lv_dup hx hb dX10_token_19 rfl ?_
        refine ti_get (ci := 10) (k := 21) (N := 67) (T := TX10) C hw iw_10 rfl ob_60 (by decide) (by decide) fl_X10_160 rfl rfl dX10_token_20 ?_
        refine lv_topi (fun x_16 ex_16 => ?_)
        have bx_16 : 0 ≤ x_16.toInt ∧ x_16.toInt ≤ 700 := mI_rd iM_1 ex_16
        have ux_16 : (tI M_1 60 21).toInt = x_16.toInt := by rw [ex_16]
        refine lv_iconst (v := 1) hx hb dX10_token_23 (by decide) ?_
        refine lv_iadd hx hb dX10_token_24 ?_
        refine lv_topi (fun x_17 ex_17 => ?_)
        have tx_17 : x_17.toInt = x_16.toInt + 1 := i_add ex_17 rfl (by decide : (1 : Int32).toInt = 1) (by omega) (by omega)
        refine ti_putI (ci := 10) (k := 21) (N := 67) (T := TX10) C hw iw_10 tyX10 tyX10_ok nmX10 rfl ob_60 (by decide) (by decide) fl_X10_160 rfl rfl rfl rfl (fn_10 A _) fs_10_21 dX10_token_25 (fun H locs hw => ?_)
        obtain ⟨M_18, hM_18⟩ : ∃ z : ti_M, z = uI M_1 60 21 x_17 := ⟨_, rfl⟩
        have hw := hw.to hM_18.symm
        have iM_18 : mI Tm M_18 := mI_uI iM_1 hM_18 (by decide) (by decide) (ib_mk (lo := 0) (hi := 700) (by omega) (by omega))
        have vM_18 : (tI M_18 60 21).toInt = (x_17 : Int32).toInt := by rw [tI_uE hM_18]
        have v_19 : (tI M_18 60 20).toInt = (tI M_1 60 20).toInt := by rw [tI_nE hM_18 (nk (by decide))]
        have v_20 : (tI M_18 60 21).toInt = (x_17 : Int32).toInt := by rw [tI_uE hM_18]
        have v_21 : (tI M_18 60 22).toInt = (tI M_1 60 22).toInt := by rw [tI_nE hM_18 (nk (by decide))]
        have v_22 : (tI M_18 60 23).toInt = (tI M_1 60 23).toInt := by rw [tI_nE hM_18 (nk (by decide))]
        have v_23 : (tI M_18 60 24).toInt = (tI M_1 60 24).toInt := by rw [tI_nE hM_18 (nk (by decide))]
        refine lv_goto (tgt := 0) hx hb dX10_token_28 (by decide) ?_
        have u_24 : (tI M_18 60 21).toInt = (x_17 : Int32).toInt := by rw [(tI_uE hM_18)]
        exact ih_5 M_18 _ _ _ (by omega) iM_18 (pr.trans (pr_I hM_18 (by decide)) f_2) (by first | omega | decide) (by have h := pt_pk_in kr_10 (by omega); have e1 : (tI M_18 60 21).toInt.toNat = (tI M_1 60 21).toInt.toNat + 1 := (by rw [(tI_uE hM_18), (ex_16.symm)]; omega); rw [e1, ← pt_to_go (P := pt_W) (B := pt_rB M) h.1 (by rw [← h.2]; exact pt_Wt (by omega))]; exact j_4) hw (lv_sub hl [0] rfl)
      · refine lv_aload_n hx hb dX10_token_9 rfl (lv_at hl 0 rfl) ?_
        refine ti_callVi (ci := 10) (av := []) C hw (s_X10_here l D A cy hJ M_1 iM_1 ) ⟨ml_X10_166, ym_X10_here, yv_X10_here, yi_X10_here, yc_X10_here⟩ yd_X10_here ob_60 (by decide) rfl rfl hl.1 (Nat.le_of_ble_eq_true rfl) ⟨by decide, by decide⟩ ⟨Nat.zero_le _, Nat.zero_le _⟩ dX10_token_10 (fun r_13 M_14 H locs hp_14 hw => ?_)
        obtain ⟨hm, b0r_13, b1r_13, p0r_13, p1r_13⟩ := hp_14
        have hw := hw.to hm
        have hhr_13 : (hr M_1).toInt = r_13.toInt := by rw [← p1r_13]
        have kr_13 := hr_pk (a := 21) (b := 24) (M := M) f_2 (by decide) iM_1 p1r_13
        refine lv_bipush (v := 32) hx hb dX10_token_13 (by decide) ?_
        refine sb_icmp_ne (tgt := 31) hx hb rfl (by decide : (32 : Int32).toInt = 32) dX10_token_15 (by decide) (fun c_15_14 => ?_) (fun c_15_14 => ?_)
        · refine lv_aload_n hx hb dX10_token_31 rfl (lv_at hl 0 rfl) ?_
          refine lv_aload_n hx hb dX10_token_32 rfl (lv_at hl 0 rfl) ?_
          refine ti_get (ci := 10) (k := 21) (N := 67) (T := TX10) C hw iw_10 rfl ob_60 (by decide) (by decide) fl_X10_160 rfl rfl dX10_token_33 ?_
          refine lv_topi (fun x_34 ex_34 => ?_)
          have bx_34 : 0 ≤ x_34.toInt ∧ x_34.toInt ≤ 700 := mI_rd iM_1 ex_34
          have ux_34 : (tI M_1 60 21).toInt = x_34.toInt := by rw [ex_34]
          refine ti_putI (ci := 10) (k := 22) (N := 67) (T := TX10) C hw iw_10 tyX10 tyX10_ok nmX10 rfl ob_60 (by decide) (by decide) fl_X10_170 rfl rfl rfl rfl (fn_10 A _) fs_10_22 dX10_token_36 (fun H locs hw => ?_)
          obtain ⟨M_35, hM_35⟩ : ∃ z : ti_M, z = uI M_1 60 22 x_34 := ⟨_, rfl⟩
          have hw := hw.to hM_35.symm
          have iM_35 : mI Tm M_35 := mI_uI iM_1 hM_35 (by decide) (by decide) (ib_mk (lo := 0) (hi := 700) (by omega) (by omega))
          have vM_35 : (tI M_35 60 22).toInt = (x_34 : Int32).toInt := by rw [tI_uE hM_35]
          have v_36 : (tI M_35 60 20).toInt = (tI M_1 60 20).toInt := by rw [tI_nE hM_35 (nk (by decide))]
          have v_37 : (tI M_35 60 21).toInt = (tI M_1 60 21).toInt := by rw [tI_nE hM_35 (nk (by decide))]
          have v_38 : (tI M_35 60 22).toInt = (x_34 : Int32).toInt := by rw [tI_uE hM_35]
          have v_39 : (tI M_35 60 23).toInt = (tI M_1 60 23).toInt := by rw [tI_nE hM_35 (nk (by decide))]
          have v_40 : (tI M_35 60 24).toInt = (tI M_1 60 24).toInt := by rw [tI_nE hM_35 (nk (by decide))]
          have v_41 : (hr M_35).toInt = (hr M_1).toInt := by rw [hr_I hM_35 (by decide)]
          refine lv_aload_n hx hb dX10_token_39 rfl (lv_at hl 0 rfl) ?_
          refine ti_callVi (ci := 10) (av := []) C hw (s_X10_here l D A cy hJ M_35 iM_35 ) ⟨ml_X10_166, ym_X10_here, yv_X10_here, yi_X10_here, yc_X10_here⟩ yd_X10_here ob_60 (by decide) rfl rfl hl.1 (Nat.le_of_ble_eq_true rfl) ⟨by decide, by decide⟩ ⟨Nat.zero_le _, Nat.zero_le _⟩ dX10_token_40 (fun r_42 M_43 H locs hp_43 hw => ?_)
          obtain ⟨hm, b0r_42, b1r_42, p0r_42, p1r_42⟩ := hp_43
          have hw := hw.to hm
          have hhr_42 : (hr M_35).toInt = r_42.toInt := by rw [← p1r_42]
          have kr_42 := hr_pk (a := 21) (b := 24) (M := M) (pr.trans (pr_I hM_35 (by decide)) f_2) (by decide) iM_35 p1r_42
          refine lv_istore_n (lv' := [(1, .int r_42), (0, .ref (A 60 0))]) hx hb dX10_token_43 rfl hl (by decide) rfl (fun ls hl => ?_)
          have eg : tI M_35 60 21 = tI M_1 60 21 := (tI_nE hM_35 (nk (by decide)))
          have EP : pt_P (pt_rB M) (pt_rn0 M) (tI M 60 21).toInt.toNat = (tI M_35 60 21).toInt.toNat := by unfold pt_P; rw [← j_4, pt_to_end (P := pt_W) (B := pt_rB M) (n := pt_rn0 M) (a := (tI M_1 60 21).toInt.toNat) (pt_pk_no kr_13 (pt_Wf (by omega) (by omega))), eg]
          have EC : pt_C (pt_rB M) (pt_rn0 M) (tI M 60 21).toInt.toNat = r_42.toInt := by unfold pt_C; rw [EP]; exact kr_42.symm
          have ep2 : (tI M_35 60 22).toInt = (tI M_35 60 21).toInt := by rw [(tI_uE hM_35), eg, (ex_34.symm)]
          have hmv : 0 ≤ (tI M_35 60 21).toInt ∧ (tI M_35 60 21).toInt ≤ 700 := iM_35.1 21
          refine lv_iload_n hx hb dX10_token_44 rfl (lv_at hl 0 rfl) ?_
          refine lv_iconst (v := (-1)) hx hb dX10_token_45 (by decide) ?_
          refine sb_icmp_ne (tgt := 57) hx hb rfl (by decide : ((-1) : Int32).toInt = (-1)) dX10_token_46 (by decide) (fun c_46_43 => ?_) (fun c_46_43 => ?_)
          · refine lv_iload_n hx hb dX10_token_57 rfl (lv_at hl 0 rfl) ?_
            refine ti_callSi (av := [.int r_42]) C hw (s_X10_isSmall l D A cy hJ M_35 iM_35 r_42) ⟨ml_X10_176, ys_X10_isSmall, yi_X10_isSmall, yc_X10_isSmall⟩ yd_X10_isSmall rfl hl.1 (Nat.le_of_ble_eq_true rfl) ⟨by decide, by decide⟩ ⟨Nat.zero_le _, Nat.zero_le _⟩ dX10_token_58 (fun r_52 M_53 H locs hp_53 hw => ?_)
            obtain ⟨hm, hz⟩ := hp_53
            have hw := hw.to hm
            rcases hz with ⟨rfl, d0_54, d1_54⟩ | ⟨rfl, d0_54⟩
            · refine sb_if_eq (tgt := 145) hx hb (by decide : (1 : Int32).toInt = 1) dX10_token_61 (by decide) (fun h => absurd h (by decide)) (fun c_61_54 => ?_)
              have u_64 : (tI M_35 60 21).toInt = (x_34 : Int32).toInt := by rw [((tI_nE hM_35 (nk (by decide))).trans ex_34.symm)]
              have hl_64_62 : ∀ (n_63 : Nat) (M_57 : ti_M) (H : Heap) (locs : List Loc) (ls : Array Slot), (700 - (tI M_57 60 21).toInt : Int).toNat < n_63 → (mI Tm M_57) → (pr 21 24 M_57 M) → ((tI M 60 21).toInt ≤ (tI M_57 60 21).toInt) → ((tI M 60 21).toInt < (tI M_57 60 21).toInt ∨ (97 ≤ (hr M_57).toInt ∧ (hr M_57).toInt ≤ 122)) → ((tI M_57 60 22).toInt = (((pt_P (pt_rB M) (pt_rn0 M) (tI M 60 21).toInt.toNat) : Nat) : Int)) → (pt_to pt_L (pt_rB M) (pt_rn0 M) (tI M_57 60 21).toInt.toNat = pt_to pt_L (pt_rB M) (pt_rn0 M) (pt_P (pt_rB M) (pt_rn0 M) (tI M 60 21).toInt.toNat)) → ti_H ti_LM D A cy H0 M_57 H locs → lv_has ls 2 [(1, .int r_42), (0, .ref (A 60 0))] → W p l e (ti_rm 5) s m args below meth c H locs 0 0 Q (F0 m 64 ls []) := by
                intro n_63
                induction n_63 with
                | zero => intro M_57 H locs ls hf_63; exact absurd hf_63 (Nat.not_lt_zero _)
                | succ n_63 ih_63 =>
                  intro M_57 H locs ls hf_63 iM_57 f_58 j_59 j_60 j_61 j_62 hw hl
                  have v_65 : (tI M_57 60 20).toInt = (tI M 60 20).toInt := by rw [f_58.2 20 (by decide)]
                  have v_66 : 0 ≤ (tI M_57 60 21).toInt ∧ (tI M_57 60 21).toInt ≤ 700 := mI_rd (x := tI M_57 60 21) (k := 21) iM_57 rfl
                  have v_67 : 0 ≤ (tI M_57 60 22).toInt ∧ (tI M_57 60 22).toInt ≤ 700 := mI_rd (x := tI M_57 60 22) (k := 22) iM_57 rfl
                  refine lv_aload_n hx hb dX10_token_64 rfl (lv_at hl 1 rfl) ?_
                  refine ti_callVi (ci := 10) (av := []) C hw (s_X10_here l D A cy hJ M_57 iM_57 ) ⟨ml_X10_166, ym_X10_here, yv_X10_here, yi_X10_here, yc_X10_here⟩ yd_X10_here ob_60 (by decide) rfl rfl hl.1 (Nat.le_of_ble_eq_true rfl) ⟨by decide, by decide⟩ ⟨Nat.zero_le _, Nat.zero_le _⟩ dX10_token_65 (fun r_68 M_69 H locs hp_69 hw => ?_)
                  obtain ⟨hm, b0r_68, b1r_68, p0r_68, p1r_68⟩ := hp_69
                  have hw := hw.to hm
                  have hhr_68 : (hr M_57).toInt = r_68.toInt := by rw [← p1r_68]
                  have kr_68 := hr_pk (a := 21) (b := 24) (M := M) f_58 (by decide) iM_57 p1r_68
                  refine ti_callSi (av := [.int r_68]) C hw (s_X10_isSmall l D A cy hJ M_57 iM_57 r_68) ⟨ml_X10_176, ys_X10_isSmall, yi_X10_isSmall, yc_X10_isSmall⟩ yd_X10_isSmall rfl hl.1 (Nat.le_of_ble_eq_true rfl) ⟨by decide, by decide⟩ ⟨Nat.zero_le _, Nat.zero_le _⟩ dX10_token_68 (fun r_70 M_71 H locs hp_71 hw => ?_)
                  obtain ⟨hm, hz⟩ := hp_71
                  have hw := hw.to hm
                  rcases hz with ⟨rfl, d0_72, d1_72⟩ | ⟨rfl, d0_72⟩
                  · refine sb_if_eq (tgt := 87) hx hb (by decide : (1 : Int32).toInt = 1) dX10_token_71 (by decide) (fun h => absurd h (by decide)) (fun c_71_72 => ?_)
                    refine lv_aload_n hx hb dX10_token_74 rfl (lv_at hl 1 rfl) ?_
                    refine lv_dup hx hb dX10_token_75 rfl ?_
                    refine ti_get (ci := 10) (k := 21) (N := 67) (T := TX10) C hw iw_10 rfl ob_60 (by decide) (by decide) fl_X10_160 rfl rfl dX10_token_76 ?_
                    refine lv_topi (fun x_75 ex_75 => ?_)
                    have bx_75 : 0 ≤ x_75.toInt ∧ x_75.toInt ≤ 700 := mI_rd iM_57 ex_75
                    have ux_75 : (tI M_57 60 21).toInt = x_75.toInt := by rw [ex_75]
                    refine lv_iconst (v := 1) hx hb dX10_token_79 (by decide) ?_
                    refine lv_iadd hx hb dX10_token_80 ?_
                    refine lv_topi (fun x_76 ex_76 => ?_)
                    have tx_76 : x_76.toInt = x_75.toInt + 1 := i_add ex_76 rfl (by decide : (1 : Int32).toInt = 1) (by omega) (by omega)
                    refine ti_putI (ci := 10) (k := 21) (N := 67) (T := TX10) C hw iw_10 tyX10 tyX10_ok nmX10 rfl ob_60 (by decide) (by decide) fl_X10_160 rfl rfl rfl rfl (fn_10 A _) fs_10_21 dX10_token_81 (fun H locs hw => ?_)
                    obtain ⟨M_77, hM_77⟩ : ∃ z : ti_M, z = uI M_57 60 21 x_76 := ⟨_, rfl⟩
                    have hw := hw.to hM_77.symm
                    have iM_77 : mI Tm M_77 := mI_uI iM_57 hM_77 (by decide) (by decide) (ib_mk (lo := 0) (hi := 700) (by omega) (by omega))
                    have vM_77 : (tI M_77 60 21).toInt = (x_76 : Int32).toInt := by rw [tI_uE hM_77]
                    have v_78 : (tI M_77 60 20).toInt = (tI M_57 60 20).toInt := by rw [tI_nE hM_77 (nk (by decide))]
                    have v_79 : (tI M_77 60 21).toInt = (x_76 : Int32).toInt := by rw [tI_uE hM_77]
                    have v_80 : (tI M_77 60 22).toInt = (tI M_57 60 22).toInt := by rw [tI_nE hM_77 (nk (by decide))]
                    have v_81 : (tI M_77 60 23).toInt = (tI M_57 60 23).toInt := by rw [tI_nE hM_77 (nk (by decide))]
                    have v_82 : (tI M_77 60 24).toInt = (tI M_57 60 24).toInt := by rw [tI_nE hM_77 (nk (by decide))]
                    refine lv_goto (tgt := 64) hx hb dX10_token_84 (by decide) ?_
                    have u_83 : (tI M_77 60 21).toInt = (x_76 : Int32).toInt := by rw [(tI_uE hM_77)]
                    exact ih_63 M_77 _ _ _ (by omega) iM_77 (pr.trans (pr_I hM_77 (by decide)) f_58) (by first | omega | decide) (by first | omega | decide) (by rw [(tI_nE hM_77 (nk (by decide)))]; exact j_61) (by have h := pt_pk_in kr_68 (by omega); have e1 : (tI M_77 60 21).toInt.toNat = (tI M_57 60 21).toInt.toNat + 1 := (by rw [(tI_uE hM_77), (ex_75.symm)]; omega); rw [e1, ← pt_to_go (P := pt_L) (B := pt_rB M) h.1 (by rw [← h.2]; exact pt_Lt (by omega) (by omega))]; exact j_62) hw (lv_sub hl [0, 1] rfl)
                  · refine sb_if_eq (tgt := 87) hx hb (by decide : (0 : Int32).toInt = 0) dX10_token_71 (by decide) (fun c_71_73 => ?_) (fun h => absurd h (by decide))
                    have EA : pt_to pt_L (pt_rB M) (pt_rn0 M) (pt_P (pt_rB M) (pt_rn0 M) (tI M 60 21).toInt.toNat) = (tI M_57 60 21).toInt.toNat := by rw [← j_62, pt_to_end (P := pt_L) (B := pt_rB M) (n := pt_rn0 M) (a := (tI M_57 60 21).toInt.toNat) (pt_pk_no kr_68 (pt_Lf (by omega)))]
                    have hpl := j_61
                    have hga : 0 ≤ (tI M_57 60 21).toInt ∧ (tI M_57 60 21).toInt ≤ 700 := iM_57.1 21
                    have hpa : (pt_P (pt_rB M) (pt_rn0 M) (tI M 60 21).toInt.toNat) ≤ (pt_to pt_L (pt_rB M) (pt_rn0 M) (pt_P (pt_rB M) (pt_rn0 M) (tI M 60 21).toInt.toNat)) := pt_to_le
                    have hpa2 : (tI M_57 60 22).toInt ≤ (tI M_57 60 21).toInt := by omega
                    refine lv_aload_n hx hb dX10_token_87 rfl (lv_at hl 1 rfl) ?_
                    refine lv_aload_n hx hb dX10_token_88 rfl (lv_at hl 1 rfl) ?_
                    refine ti_callViE (ci := 10) (av := []) C hE hw (x_X10_word l D A cy hJ M_57 iM_57 (by omega)) ⟨ml_X10_180, ym_X10_word, yv_X10_word, yi_X10_word, yc_X10_word⟩ yd_X10_word ob_60 (by decide) rfl rfl hl.1 (Nat.le_of_ble_eq_true rfl) ⟨by decide, by decide⟩ ⟨Nat.zero_le _, Nat.zero_le _⟩ dX10_token_89 (fun r_84 M_85 H locs hp_85 hw => ?_)
                    obtain ⟨hm, b0r_84, b1r_84, p0r_84⟩ := hp_85
                    have hw := hw.to hm
                    have hd := p0r_84
                    rw [pr_B f_58, show (tI M_57 60 22).toInt.toNat = (pt_P (pt_rB M) (pt_rn0 M) (tI M 60 21).toInt.toNat) by omega, ← EA] at hd
                    refine ti_putI (ci := 10) (k := 24) (N := 67) (T := TX10) C hw iw_10 tyX10 tyX10_ok nmX10 rfl ob_60 (by decide) (by decide) fl_X10_183 rfl rfl rfl rfl (fn_10 A _) fs_10_24 dX10_token_92 (fun H locs hw => ?_)
                    obtain ⟨M_86, hM_86⟩ : ∃ z : ti_M, z = uI M_57 60 24 r_84 := ⟨_, rfl⟩
                    have hw := hw.to hM_86.symm
                    have iM_86 : mI Tm M_86 := mI_va iM_57 hM_86 (fun _ => by omega)
                    have v_87 : (tI M_86 60 20).toInt = (tI M_57 60 20).toInt := by rw [tI_nE hM_86 (nk (by decide))]
                    have v_88 : (tI M_86 60 21).toInt = (tI M_57 60 21).toInt := by rw [tI_nE hM_86 (nk (by decide))]
                    have v_89 : (tI M_86 60 22).toInt = (tI M_57 60 22).toInt := by rw [tI_nE hM_86 (nk (by decide))]
                    have v_90 : (tI M_86 60 23).toInt = (tI M_57 60 23).toInt := by rw [tI_nE hM_86 (nk (by decide))]
                    have v_91 : (tI M_86 60 24).toInt = (r_84 : Int32).toInt := by rw [tI_uE hM_86]
                    have v_92 : (hr M_86).toInt = (hr M_57).toInt := by rw [hr_I hM_86 (by decide)]
                    refine lv_aload_n hx hb dX10_token_95 rfl (lv_at hl 1 rfl) ?_
                    refine lv_aload_n hx hb dX10_token_96 rfl (lv_at hl 1 rfl) ?_
                    refine ti_get (ci := 10) (k := 24) (N := 67) (T := TX10) C hw iw_10 rfl ob_60 (by decide) (by decide) fl_X10_183 rfl rfl dX10_token_97 ?_
                    refine ti_top (y := r_84) (tI_uE hM_86) ?_
                    refine lv_iconst (v := (-1)) hx hb dX10_token_100 (by decide) ?_
                    refine sb_icmp_eq (tgt := 108) hx hb rfl (by decide : ((-1) : Int32).toInt = (-1)) dX10_token_101 (by decide) (fun c_101_92 => ?_) (fun c_101_92 => ?_)
                    · refine lv_aload_n hx hb dX10_token_108 rfl (lv_at hl 1 rfl) ?_
                      refine ti_get (ci := 10) (k := 21) (N := 67) (T := TX10) C hw iw_10 rfl ob_60 (by decide) (by decide) fl_X10_160 rfl rfl dX10_token_109 ?_
                      refine lv_topi (fun x_94 ex_94 => ?_)
                      have bx_94 : 0 ≤ x_94.toInt ∧ x_94.toInt ≤ 700 := mI_rd iM_86 ex_94
                      have ux_94 : (tI M_86 60 21).toInt = x_94.toInt := by rw [ex_94]
                      refine lv_aload_n hx hb dX10_token_112 rfl (lv_at hl 1 rfl) ?_
                      refine ti_get (ci := 10) (k := 22) (N := 67) (T := TX10) C hw iw_10 rfl ob_60 (by decide) (by decide) fl_X10_170 rfl rfl dX10_token_113 ?_
                      refine lv_topi (fun x_95 ex_95 => ?_)
                      have bx_95 : 0 ≤ x_95.toInt ∧ x_95.toInt ≤ 700 := mI_rd iM_86 ex_95
                      have ux_95 : (tI M_86 60 22).toInt = x_95.toInt := by rw [ex_95]
                      refine lv_isub hx hb dX10_token_116 ?_
                      refine lv_topi (fun x_96 ex_96 => ?_)
                      have tx_96 : x_96.toInt = x_94.toInt - x_95.toInt := i_sub ex_96 rfl rfl (by omega) (by omega)
                      refine lv_bipush (v := 6) hx hb dX10_token_117 (by decide) ?_
                      refine sb_icmp_le (tgt := 126) hx hb rfl (by decide : (6 : Int32).toInt = 6) dX10_token_119 (by decide) (fun c_119_96 => ?_) (fun c_119_96 => ?_)
                      · refine lv_iconst (v := 1) hx hb dX10_token_126 (by decide) ?_
                        refine ti_putI (ci := 10) (k := 23) (N := 67) (T := TX10) C hw iw_10 tyX10 tyX10_ok nmX10 rfl ob_60 (by decide) (by decide) fl_X10_173 rfl rfl rfl rfl (fn_10 A _) fs_10_23 dX10_token_127 (fun H locs hw => ?_)
                        obtain ⟨M_114, hM_114⟩ : ∃ z : ti_M, z = uI M_86 60 23 1 := ⟨_, rfl⟩
                        have hw := hw.to hM_114.symm
                        have iM_114 : mI Tm M_114 := mI_so iM_86 hM_114 (fun h => absurd h (by decide))
                        have v_115 : (tI M_114 60 20).toInt = (tI M_86 60 20).toInt := by rw [tI_nE hM_114 (nk (by decide))]
                        have v_116 : (tI M_114 60 21).toInt = (tI M_86 60 21).toInt := by rw [tI_nE hM_114 (nk (by decide))]
                        have v_117 : (tI M_114 60 22).toInt = (tI M_86 60 22).toInt := by rw [tI_nE hM_114 (nk (by decide))]
                        have v_118 : (tI M_114 60 23).toInt = 1 := by rw [tI_uE hM_114]; decide
                        have v_119 : (tI M_114 60 24).toInt = (tI M_86 60 24).toInt := by rw [tI_nE hM_114 (nk (by decide))]
                        have v_120 : (hr M_114).toInt = (hr M_86).toInt := by rw [hr_I hM_114 (by decide)]
                        refine lv_aload_n hx hb dX10_token_130 rfl (lv_at hl 1 rfl) ?_
                        refine ti_get (ci := 10) (k := 23) (N := 67) (T := TX10) C hw iw_10 rfl ob_60 (by decide) (by decide) fl_X10_173 rfl rfl dX10_token_131 ?_
                        refine ti_top (y := 1) (tI_uE hM_114) ?_
                        refine lv_iconst (v := 1) hx hb dX10_token_134 (by decide) ?_
                        refine sb_icmp_ne (tgt := 225) hx hb (by decide : (1 : Int32).toInt = 1) (by decide : (1 : Int32).toInt = 1) dX10_token_135 (by decide) (fun h => absurd h (by decide)) (fun c_135_120 => ?_)
                        have hq22 : (tI M_114 60 22).toInt.toNat = (pt_P (pt_rB M) (pt_rn0 M) (tI M 60 21).toInt.toNat) := by rw [((tI_nE hM_114 (nk (by decide))).trans (tI_nE hM_86 (nk (by decide))))]; omega
                        have hq21 : (tI M_114 60 21).toInt.toNat = (pt_to pt_L (pt_rB M) (pt_rn0 M) (pt_P (pt_rB M) (pt_rn0 M) (tI M 60 21).toInt.toNat)) := by rw [((tI_nE hM_114 (nk (by decide))).trans (tI_nE hM_86 (nk (by decide)))), EA]
                        have hal : pt_al (pt_rB M_114) (tI M_114 60 22).toInt.toNat (tI M_114 60 21).toInt.toNat := by rw [pr_B (pr.trans (pr_I hM_114 (by decide)) (pr.trans (pr_I hM_86 (by decide)) f_58)), hq22, hq21]; exact pt_to_al
                        refine lv_aload_n hx hb dX10_token_138 rfl (lv_at hl 1 rfl) ?_
                        refine ti_callVv (ci := 10) (av := []) C hw (x_X10_name l D A cy hJ M_114 iM_114 (tI_uE hM_114) hal) ⟨ml_X10_186, ym_X10_name, yv_X10_name, yi_X10_name, yc_X10_name⟩ yd_X10_name ob_60 (by decide) rfl rfl hl.1 (Nat.le_of_ble_eq_true rfl) ⟨by decide, by decide⟩ ⟨Nat.zero_le _, Nat.zero_le _⟩ dX10_token_139 (fun M_123 H locs hp_123 hw => ?_)
                        obtain ⟨iM_123, q_124, p0r_122⟩ := hp_123
                        have v_125 : (tI M_123 60 20).toInt = (tI M_114 60 20).toInt := by rw [q_124.2 20 (by decide)]
                        have v_126 : (tI M_123 60 21).toInt = (tI M_114 60 21).toInt := by rw [q_124.2 21 (by decide)]
                        have v_127 : (tI M_123 60 22).toInt = (tI M_114 60 22).toInt := by rw [q_124.2 22 (by decide)]
                        have v_128 : (tI M_123 60 23).toInt = (tI M_114 60 23).toInt := by rw [q_124.2 23 (by decide)]
                        refine lv_goto (tgt := 225) hx hb dX10_token_142 (by decide) ?_
                        have h6 : (pt_to pt_L (pt_rB M) (pt_rn0 M) (pt_P (pt_rB M) (pt_rn0 M) (tI M 60 21).toInt.toNat)) ≤ (pt_P (pt_rB M) (pt_rn0 M) (tI M 60 21).toInt.toNat) + 6 := by rw [EA]; omega
                        have hm := hd.resolve_right (fun q => by omega)
                        have EK : pt_K (pt_rB M) (pt_rn0 M) (tI M 60 21).toInt.toNat = 25 := by unfold pt_K; rw [EC, if_neg (by omega), if_pos (pt_Lt (by omega) (by omega)), if_neg (by omega), pt_nw h6 hm.2]
                        have EV : pt_V (pt_rB M) (pt_rn0 M) (tI M 60 21).toInt.toNat = pt_h (pt_rB M) (pt_P (pt_rB M) (pt_rn0 M) (tI M 60 21).toInt.toNat) (pt_to pt_L (pt_rB M) (pt_rn0 M) (pt_P (pt_rB M) (pt_rn0 M) (tI M 60 21).toInt.toNat)) 6 := by unfold pt_V; rw [EC, if_neg (by omega), if_pos (pt_Lt (by omega) (by omega)), pt_ev_h h6]
                        have q1 := p0r_122
                        rw [pr_B (pr.trans (pr_I hM_114 (by decide)) (pr.trans (pr_I hM_86 (by decide)) f_58)), hq22, hq21] at q1
                        exact hQ _ _ _ _ _ hw (⟨iM_123, (pr.trans (pr_w q_124 (by decide) (by decide)) (pr.trans (pr_I hM_114 (by decide)) (pr.trans (pr_I hM_86 (by decide)) f_58))), by omega, by omega, (by rw [((q_124.2 22 (by decide)).trans ((tI_nE hM_114 (nk (by decide))).trans (tI_nE hM_86 (nk (by decide)))))]; exact j_61), (by rw [((q_124.2 21 (by decide)).trans ((tI_nE hM_114 (nk (by decide))).trans (tI_nE hM_86 (nk (by decide)))))]; unfold pt_A; rw [EC, if_neg (by omega), if_pos (pt_Lt (by omega) (by omega)), EA]; omega), (by rw [EK, EV, ← q1]; exact pt_Tc (Or.inl ⟨rfl, by rw [q_124.2 23 (by decide), (tI_uE hM_114)]; decide, rfl⟩))⟩) dX10_token_225
                      · refine lv_iconst (v := 5) hx hb dX10_token_122 (by decide) ?_
                        refine lv_goto (tgt := 127) hx hb dX10_token_123 (by decide) ?_
                        refine ti_putI (ci := 10) (k := 23) (N := 67) (T := TX10) C hw iw_10 tyX10 tyX10_ok nmX10 rfl ob_60 (by decide) (by decide) fl_X10_173 rfl rfl rfl rfl (fn_10 A _) fs_10_23 dX10_token_127 (fun H locs hw => ?_)
                        obtain ⟨M_106, hM_106⟩ : ∃ z : ti_M, z = uI M_86 60 23 5 := ⟨_, rfl⟩
                        have hw := hw.to hM_106.symm
                        have iM_106 : mI Tm M_106 := mI_so iM_86 hM_106 (fun h => absurd h (by decide))
                        have v_107 : (tI M_106 60 20).toInt = (tI M_86 60 20).toInt := by rw [tI_nE hM_106 (nk (by decide))]
                        have v_108 : (tI M_106 60 21).toInt = (tI M_86 60 21).toInt := by rw [tI_nE hM_106 (nk (by decide))]
                        have v_109 : (tI M_106 60 22).toInt = (tI M_86 60 22).toInt := by rw [tI_nE hM_106 (nk (by decide))]
                        have v_110 : (tI M_106 60 23).toInt = 5 := by rw [tI_uE hM_106]; decide
                        have v_111 : (tI M_106 60 24).toInt = (tI M_86 60 24).toInt := by rw [tI_nE hM_106 (nk (by decide))]
                        have v_112 : (hr M_106).toInt = (hr M_86).toInt := by rw [hr_I hM_106 (by decide)]
                        refine lv_aload_n hx hb dX10_token_130 rfl (lv_at hl 1 rfl) ?_
                        refine ti_get (ci := 10) (k := 23) (N := 67) (T := TX10) C hw iw_10 rfl ob_60 (by decide) (by decide) fl_X10_173 rfl rfl dX10_token_131 ?_
                        refine ti_top (y := 5) (tI_uE hM_106) ?_
                        refine lv_iconst (v := 1) hx hb dX10_token_134 (by decide) ?_
                        refine sb_icmp_ne (tgt := 225) hx hb (by decide : (5 : Int32).toInt = 5) (by decide : (1 : Int32).toInt = 1) dX10_token_135 (by decide) (fun c_135_112 => ?_) (fun h => absurd h (by decide))
                        have EK : pt_K (pt_rB M) (pt_rn0 M) (tI M 60 21).toInt.toNat = 28 := by unfold pt_K; rw [EC, if_neg (by omega), if_pos (pt_Lt (by omega) (by omega)), if_pos (by rw [EA]; omega)]
                        exact hQ _ _ _ _ _ hw (⟨iM_106, (pr.trans (pr_I hM_106 (by decide)) (pr.trans (pr_I hM_86 (by decide)) f_58)), by omega, by omega, (by rw [((tI_nE hM_106 (nk (by decide))).trans (tI_nE hM_86 (nk (by decide))))]; exact j_61), (by rw [((tI_nE hM_106 (nk (by decide))).trans (tI_nE hM_86 (nk (by decide))))]; unfold pt_A; rw [EC, if_neg (by omega), if_pos (pt_Lt (by omega) (by omega)), EA]; omega), (by rw [EK]; exact pt_Tc (Or.inr (Or.inr (Or.inr ⟨rfl, by rw [(tI_uE hM_106)]; decide⟩))))⟩) dX10_token_225
                    · refine lv_iconst (v := 0) hx hb dX10_token_104 (by decide) ?_
                      refine lv_goto (tgt := 127) hx hb dX10_token_105 (by decide) ?_
                      refine ti_putI (ci := 10) (k := 23) (N := 67) (T := TX10) C hw iw_10 tyX10 tyX10_ok nmX10 rfl ob_60 (by decide) (by decide) fl_X10_173 rfl rfl rfl rfl (fn_10 A _) fs_10_23 dX10_token_127 (fun H locs hw => ?_)
                      obtain ⟨M_98, hM_98⟩ : ∃ z : ti_M, z = uI M_86 60 23 0 := ⟨_, rfl⟩
                      have hw := hw.to hM_98.symm
                      have iM_98 : mI Tm M_98 := mI_so iM_86 hM_98 (fun _ => by rw [(tI_uE hM_86)]; omega)
                      have v_99 : (tI M_98 60 20).toInt = (tI M_86 60 20).toInt := by rw [tI_nE hM_98 (nk (by decide))]
                      have v_100 : (tI M_98 60 21).toInt = (tI M_86 60 21).toInt := by rw [tI_nE hM_98 (nk (by decide))]
                      have v_101 : (tI M_98 60 22).toInt = (tI M_86 60 22).toInt := by rw [tI_nE hM_98 (nk (by decide))]
                      have v_102 : (tI M_98 60 23).toInt = 0 := by rw [tI_uE hM_98]; decide
                      have v_103 : (tI M_98 60 24).toInt = (tI M_86 60 24).toInt := by rw [tI_nE hM_98 (nk (by decide))]
                      have v_104 : (hr M_98).toInt = (hr M_86).toInt := by rw [hr_I hM_98 (by decide)]
                      refine lv_aload_n hx hb dX10_token_130 rfl (lv_at hl 1 rfl) ?_
                      refine ti_get (ci := 10) (k := 23) (N := 67) (T := TX10) C hw iw_10 rfl ob_60 (by decide) (by decide) fl_X10_173 rfl rfl dX10_token_131 ?_
                      refine ti_top (y := 0) (tI_uE hM_98) ?_
                      refine lv_iconst (v := 1) hx hb dX10_token_134 (by decide) ?_
                      refine sb_icmp_ne (tgt := 225) hx hb (by decide : (0 : Int32).toInt = 0) (by decide : (1 : Int32).toInt = 1) dX10_token_135 (by decide) (fun c_135_104 => ?_) (fun h => absurd h (by decide))
                      have hm := hd.resolve_left (fun q => by omega)
                      have h6 := pt_m6 (by omega) hm.2
                      have EK : pt_K (pt_rB M) (pt_rn0 M) (tI M 60 21).toInt.toNat = ((pt_iv.getD r_84.toInt.toNat 0 : Nat) : Int) := by unfold pt_K; rw [EC, if_neg (by omega), if_pos (pt_Lt (by omega) (by omega)), if_neg (by omega), pt_wd h6 (by omega) hm.2]
                      exact hQ _ _ _ _ _ hw (⟨iM_98, (pr.trans (pr_I hM_98 (by decide)) (pr.trans (pr_I hM_86 (by decide)) f_58)), by omega, by omega, (by rw [((tI_nE hM_98 (nk (by decide))).trans (tI_nE hM_86 (nk (by decide))))]; exact j_61), (by rw [((tI_nE hM_98 (nk (by decide))).trans (tI_nE hM_86 (nk (by decide))))]; unfold pt_A; rw [EC, if_neg (by omega), if_pos (pt_Lt (by omega) (by omega)), EA]; omega), (by rw [EK]; exact pt_Tw' (by omega) (by rw [(tI_uE hM_98)]; decide) (by rw [((tI_nE hM_98 (nk (by decide))).trans (tI_uE hM_86))]; omega))⟩) dX10_token_225
              exact hl_64_62 ((700 - (tI M_35 60 21).toInt : Int).toNat + 1) M_35 _ _ _ (Nat.lt_succ_self _) iM_35 (pr.trans (pr_I hM_35 (by decide)) f_2) (by first | omega | decide) (by first | omega | decide) (by rw [EP]; omega) (by rw [EP]) hw (lv_sub hl [0, 1] rfl)
            · refine sb_if_eq (tgt := 145) hx hb (by decide : (0 : Int32).toInt = 0) dX10_token_61 (by decide) (fun c_61_55 => ?_) (fun h => absurd h (by decide))
              refine lv_iload_n hx hb dX10_token_145 rfl (lv_at hl 0 rfl) ?_
              refine ti_callSi (av := [.int r_42]) C hw (s_X10_isDigit l D A cy hJ M_35 iM_35 r_42) ⟨ml_X10_189, ys_X10_isDigit, yi_X10_isDigit, yc_X10_isDigit⟩ yd_X10_isDigit rfl hl.1 (Nat.le_of_ble_eq_true rfl) ⟨by decide, by decide⟩ ⟨Nat.zero_le _, Nat.zero_le _⟩ dX10_token_146 (fun r_129 M_130 H locs hp_130 hw => ?_)
              obtain ⟨hm, hz⟩ := hp_130
              have hw := hw.to hm
              rcases hz with ⟨rfl, d0_131, d1_131⟩ | ⟨rfl, d0_131⟩
              · refine sb_if_eq (tgt := 220) hx hb (by decide : (1 : Int32).toInt = 1) dX10_token_149 (by decide) (fun h => absurd h (by decide)) (fun c_149_131 => ?_)
                refine lv_aload_n hx hb dX10_token_152 rfl (lv_at hl 1 rfl) ?_
                refine lv_iconst (v := 2) hx hb dX10_token_153 (by decide) ?_
                refine ti_putI (ci := 10) (k := 23) (N := 67) (T := TX10) C hw iw_10 tyX10 tyX10_ok nmX10 rfl ob_60 (by decide) (by decide) fl_X10_173 rfl rfl rfl rfl (fn_10 A _) fs_10_23 dX10_token_154 (fun H locs hw => ?_)
                obtain ⟨M_134, hM_134⟩ : ∃ z : ti_M, z = uI M_35 60 23 2 := ⟨_, rfl⟩
                have hw := hw.to hM_134.symm
                have iM_134 : mI Tm M_134 := mI_so iM_35 hM_134 (fun h => absurd h (by decide))
                have v_135 : (tI M_134 60 20).toInt = (tI M_35 60 20).toInt := by rw [tI_nE hM_134 (nk (by decide))]
                have v_136 : (tI M_134 60 21).toInt = (tI M_35 60 21).toInt := by rw [tI_nE hM_134 (nk (by decide))]
                have v_137 : (tI M_134 60 22).toInt = (tI M_35 60 22).toInt := by rw [tI_nE hM_134 (nk (by decide))]
                have v_138 : (tI M_134 60 23).toInt = 2 := by rw [tI_uE hM_134]; decide
                have v_139 : (tI M_134 60 24).toInt = (tI M_35 60 24).toInt := by rw [tI_nE hM_134 (nk (by decide))]
                have v_140 : (hr M_134).toInt = (hr M_35).toInt := by rw [hr_I hM_134 (by decide)]
                refine lv_aload_n hx hb dX10_token_157 rfl (lv_at hl 1 rfl) ?_
                refine lv_iconst (v := 0) hx hb dX10_token_158 (by decide) ?_
                refine ti_putI (ci := 10) (k := 24) (N := 67) (T := TX10) C hw iw_10 tyX10 tyX10_ok nmX10 rfl ob_60 (by decide) (by decide) fl_X10_183 rfl rfl rfl rfl (fn_10 A _) fs_10_24 dX10_token_159 (fun H locs hw => ?_)
                obtain ⟨M_141, hM_141⟩ : ∃ z : ti_M, z = uI M_134 60 24 0 := ⟨_, rfl⟩
                have hw := hw.to hM_141.symm
                have iM_141 : mI Tm M_141 := mI_va iM_134 hM_141 (fun h => absurd ((tI_uE hM_134).symm.trans h) (by decide))
                have v_142 : (tI M_141 60 20).toInt = (tI M_134 60 20).toInt := by rw [tI_nE hM_141 (nk (by decide))]
                have v_143 : (tI M_141 60 21).toInt = (tI M_134 60 21).toInt := by rw [tI_nE hM_141 (nk (by decide))]
                have v_144 : (tI M_141 60 22).toInt = (tI M_134 60 22).toInt := by rw [tI_nE hM_141 (nk (by decide))]
                have v_145 : (tI M_141 60 23).toInt = (tI M_134 60 23).toInt := by rw [tI_nE hM_141 (nk (by decide))]
                have v_146 : (tI M_141 60 24).toInt = 0 := by rw [tI_uE hM_141]; decide
                have v_147 : (hr M_141).toInt = (hr M_134).toInt := by rw [hr_I hM_141 (by decide)]
                have u_159 : (tI M_141 60 21).toInt = (x_34 : Int32).toInt := by rw [((tI_nE hM_141 (nk (by decide))).trans ((tI_nE hM_134 (nk (by decide))).trans ((tI_nE hM_35 (nk (by decide))).trans ex_34.symm)))]
                have u_160 : (tI M_141 60 24).toInt = (0 : Int32).toInt := by rw [(tI_uE hM_141)]
                have hl_162_157 : ∀ (n_158 : Nat) (M_148 : ti_M) (H : Heap) (locs : List Loc) (ls : Array Slot), (700 - (tI M_148 60 21).toInt : Int).toNat < n_158 → (mI Tm M_148) → (pr 21 24 M_148 M) → (tI M_148 60 23 = 2) → ((tI M 60 21).toInt ≤ (tI M_148 60 21).toInt) → ((tI M 60 21).toInt < (tI M_148 60 21).toInt ∨ (48 ≤ (hr M_148).toInt ∧ (hr M_148).toInt ≤ 57)) → (0 ≤ (tI M_148 60 24).toInt) → ((tI M_148 60 24).toInt ≤ 1000000) → ((tI M_148 60 22).toInt = (((pt_P (pt_rB M) (pt_rn0 M) (tI M 60 21).toInt.toNat) : Nat) : Int)) → (pt_to pt_D (pt_rB M) (pt_rn0 M) (tI M_148 60 21).toInt.toNat = pt_to pt_D (pt_rB M) (pt_rn0 M) (pt_P (pt_rB M) (pt_rn0 M) (tI M 60 21).toInt.toNat)) → (pt_mv (pt_rB M) (pt_rn0 M) (tI M_148 60 21).toInt.toNat (tI M_148 60 24).toInt = pt_mv (pt_rB M) (pt_rn0 M) (pt_P (pt_rB M) (pt_rn0 M) (tI M 60 21).toInt.toNat) 0) → ti_H ti_LM D A cy H0 M_148 H locs → lv_has ls 2 [(1, .int r_42), (0, .ref (A 60 0))] → W p l e (ti_rm 5) s m args below meth c H locs 0 0 Q (F0 m 162 ls []) := by
                  intro n_158
                  induction n_158 with
                  | zero => intro M_148 H locs ls hf_158; exact absurd hf_158 (Nat.not_lt_zero _)
                  | succ n_158 ih_158 =>
                    intro M_148 H locs ls hf_158 iM_148 f_149 f_150 j_151 j_152 j_153 j_154 j_155 j_156 j_157 hw hl
                    have v_161 : (tI M_148 60 20).toInt = (tI M 60 20).toInt := by rw [f_149.2 20 (by decide)]
                    have v_162 : 0 ≤ (tI M_148 60 21).toInt ∧ (tI M_148 60 21).toInt ≤ 700 := mI_rd (x := tI M_148 60 21) (k := 21) iM_148 rfl
                    have v_163 : 0 ≤ (tI M_148 60 22).toInt ∧ (tI M_148 60 22).toInt ≤ 700 := mI_rd (x := tI M_148 60 22) (k := 22) iM_148 rfl
                    refine lv_aload_n hx hb dX10_token_162 rfl (lv_at hl 1 rfl) ?_
                    refine ti_callVi (ci := 10) (av := []) C hw (s_X10_here l D A cy hJ M_148 iM_148 ) ⟨ml_X10_166, ym_X10_here, yv_X10_here, yi_X10_here, yc_X10_here⟩ yd_X10_here ob_60 (by decide) rfl rfl hl.1 (Nat.le_of_ble_eq_true rfl) ⟨by decide, by decide⟩ ⟨Nat.zero_le _, Nat.zero_le _⟩ dX10_token_163 (fun r_164 M_165 H locs hp_165 hw => ?_)
                    obtain ⟨hm, b0r_164, b1r_164, p0r_164, p1r_164⟩ := hp_165
                    have hw := hw.to hm
                    have hhr_164 : (hr M_148).toInt = r_164.toInt := by rw [← p1r_164]
                    have kr_164 := hr_pk (a := 21) (b := 24) (M := M) f_149 (by decide) iM_148 p1r_164
                    refine ti_callSi (av := [.int r_164]) C hw (s_X10_isDigit l D A cy hJ M_148 iM_148 r_164) ⟨ml_X10_189, ys_X10_isDigit, yi_X10_isDigit, yc_X10_isDigit⟩ yd_X10_isDigit rfl hl.1 (Nat.le_of_ble_eq_true rfl) ⟨by decide, by decide⟩ ⟨Nat.zero_le _, Nat.zero_le _⟩ dX10_token_166 (fun r_166 M_167 H locs hp_167 hw => ?_)
                    obtain ⟨hm, hz⟩ := hp_167
                    have hw := hw.to hm
                    rcases hz with ⟨rfl, d0_168, d1_168⟩ | ⟨rfl, d0_168⟩
                    · refine sb_if_eq (tgt := 225) hx hb (by decide : (1 : Int32).toInt = 1) dX10_token_169 (by decide) (fun h => absurd h (by decide)) (fun c_169_168 => ?_)
                      refine lv_aload_n hx hb dX10_token_172 rfl (lv_at hl 1 rfl) ?_
                      refine lv_aload_n hx hb dX10_token_173 rfl (lv_at hl 1 rfl) ?_
                      refine ti_get (ci := 10) (k := 24) (N := 67) (T := TX10) C hw iw_10 rfl ob_60 (by decide) (by decide) fl_X10_183 rfl rfl dX10_token_174 ?_
                      refine lv_topi (fun x_171 ex_171 => ?_)
                      have u_172 : (tI M_148 60 24).toInt = x_171.toInt := by rw [ex_171]
                      refine lv_ldc (v := 99999) hx hb C.2.2.2.1 (C.2.2.1 _ cn_X10_192) dX10_token_177 ?_
                      refine sb_icmp_le (tgt := 189) hx hb rfl (by decide : (99999 : Int32).toInt = 99999) dX10_token_179 (by decide) (fun c_179_172 => ?_) (fun c_179_172 => ?_)
                      · refine lv_bipush (v := 10) hx hb dX10_token_189 (by decide) ?_
                        refine lv_aload_n hx hb dX10_token_191 rfl (lv_at hl 1 rfl) ?_
                        refine ti_get (ci := 10) (k := 24) (N := 67) (T := TX10) C hw iw_10 rfl ob_60 (by decide) (by decide) fl_X10_183 rfl rfl dX10_token_192 ?_
                        refine ti_top (y := x_171) (ex_171.symm) ?_
                        refine lv_imul hx hb dX10_token_195 ?_
                        refine lv_topi (fun x_174 ex_174 => ?_)
                        have lox_174x_171 := x_171.le_toInt
                        have hix_174x_171 := x_171.toInt_lt
                        have tx_174 : x_174.toInt = 10 * x_171.toInt := i_mul ex_174 (by decide : (10 : Int32).toInt = 10) rfl (by omega) (by omega)
                        refine lv_aload_n hx hb dX10_token_196 rfl (lv_at hl 1 rfl) ?_
                        refine ti_callVi (ci := 10) (av := []) C hw (s_X10_here l D A cy hJ M_148 iM_148 ) ⟨ml_X10_166, ym_X10_here, yv_X10_here, yi_X10_here, yc_X10_here⟩ yd_X10_here ob_60 (by decide) rfl rfl hl.1 (Nat.le_of_ble_eq_true rfl) ⟨by decide, by decide⟩ ⟨Nat.zero_le _, Nat.zero_le _⟩ dX10_token_197 (fun r_175 M_176 H locs hp_176 hw => ?_)
                        obtain ⟨hm, b0r_175, b1r_175, p0r_175, p1r_175⟩ := hp_176
                        have hw := hw.to hm
                        have hhr_175 : (hr M_148).toInt = r_175.toInt := by rw [← p1r_175]
                        have kr_175 := hr_pk (a := 21) (b := 24) (M := M) f_149 (by decide) iM_148 p1r_175
                        refine lv_iadd hx hb dX10_token_200 ?_
                        refine lv_topi (fun x_177 ex_177 => ?_)
                        have lox_177x_174 := x_174.le_toInt
                        have hix_177x_174 := x_174.toInt_lt
                        have lox_177r_175 := r_175.le_toInt
                        have hix_177r_175 := r_175.toInt_lt
                        have tx_177 : x_177.toInt = x_174.toInt + r_175.toInt := i_add ex_177 rfl rfl (by omega) (by omega)
                        refine lv_bipush (v := 48) hx hb dX10_token_201 (by decide) ?_
                        refine lv_isub hx hb dX10_token_203 ?_
                        refine lv_topi (fun x_178 ex_178 => ?_)
                        have lox_178x_177 := x_177.le_toInt
                        have hix_178x_177 := x_177.toInt_lt
                        have tx_178 : x_178.toInt = x_177.toInt - 48 := i_sub ex_178 rfl (by decide : (48 : Int32).toInt = 48) (by omega) (by omega)
                        refine ti_putI (ci := 10) (k := 24) (N := 67) (T := TX10) C hw iw_10 tyX10 tyX10_ok nmX10 rfl ob_60 (by decide) (by decide) fl_X10_183 rfl rfl rfl rfl (fn_10 A _) fs_10_24 dX10_token_204 (fun H locs hw => ?_)
                        obtain ⟨M_196, hM_196⟩ : ∃ z : ti_M, z = uI M_148 60 24 x_178 := ⟨_, rfl⟩
                        have hw := hw.to hM_196.symm
                        have iM_196 : mI Tm M_196 := mI_va iM_148 hM_196 (fun h => absurd ((f_150).symm.trans h) (by decide))
                        have v_197 : (tI M_196 60 20).toInt = (tI M_148 60 20).toInt := by rw [tI_nE hM_196 (nk (by decide))]
                        have v_198 : (tI M_196 60 21).toInt = (tI M_148 60 21).toInt := by rw [tI_nE hM_196 (nk (by decide))]
                        have v_199 : (tI M_196 60 22).toInt = (tI M_148 60 22).toInt := by rw [tI_nE hM_196 (nk (by decide))]
                        have v_200 : (tI M_196 60 23).toInt = (tI M_148 60 23).toInt := by rw [tI_nE hM_196 (nk (by decide))]
                        have v_201 : (tI M_196 60 24).toInt = (x_178 : Int32).toInt := by rw [tI_uE hM_196]
                        have v_202 : (hr M_196).toInt = (hr M_148).toInt := by rw [hr_I hM_196 (by decide)]
                        refine lv_aload_n hx hb dX10_token_207 rfl (lv_at hl 1 rfl) ?_
                        refine lv_dup hx hb dX10_token_208 rfl ?_
                        refine ti_get (ci := 10) (k := 21) (N := 67) (T := TX10) C hw iw_10 rfl ob_60 (by decide) (by decide) fl_X10_160 rfl rfl dX10_token_209 ?_
                        refine lv_topi (fun x_203 ex_203 => ?_)
                        have bx_203 : 0 ≤ x_203.toInt ∧ x_203.toInt ≤ 700 := mI_rd iM_196 ex_203
                        have ux_203 : (tI M_196 60 21).toInt = x_203.toInt := by rw [ex_203]
                        refine lv_iconst (v := 1) hx hb dX10_token_212 (by decide) ?_
                        refine lv_iadd hx hb dX10_token_213 ?_
                        refine lv_topi (fun x_204 ex_204 => ?_)
                        have tx_204 : x_204.toInt = x_203.toInt + 1 := i_add ex_204 rfl (by decide : (1 : Int32).toInt = 1) (by omega) (by omega)
                        refine ti_putI (ci := 10) (k := 21) (N := 67) (T := TX10) C hw iw_10 tyX10 tyX10_ok nmX10 rfl ob_60 (by decide) (by decide) fl_X10_160 rfl rfl rfl rfl (fn_10 A _) fs_10_21 dX10_token_214 (fun H locs hw => ?_)
                        obtain ⟨M_205, hM_205⟩ : ∃ z : ti_M, z = uI M_196 60 21 x_204 := ⟨_, rfl⟩
                        have hw := hw.to hM_205.symm
                        have iM_205 : mI Tm M_205 := mI_uI iM_196 hM_205 (by decide) (by decide) (ib_mk (lo := 0) (hi := 700) (by omega) (by omega))
                        have vM_205 : (tI M_205 60 21).toInt = (x_204 : Int32).toInt := by rw [tI_uE hM_205]
                        have v_206 : (tI M_205 60 20).toInt = (tI M_196 60 20).toInt := by rw [tI_nE hM_205 (nk (by decide))]
                        have v_207 : (tI M_205 60 21).toInt = (x_204 : Int32).toInt := by rw [tI_uE hM_205]
                        have v_208 : (tI M_205 60 22).toInt = (tI M_196 60 22).toInt := by rw [tI_nE hM_205 (nk (by decide))]
                        have v_209 : (tI M_205 60 23).toInt = (tI M_196 60 23).toInt := by rw [tI_nE hM_205 (nk (by decide))]
                        have v_210 : (tI M_205 60 24).toInt = (tI M_196 60 24).toInt := by rw [tI_nE hM_205 (nk (by decide))]
                        refine lv_goto (tgt := 162) hx hb dX10_token_217 (by decide) ?_
                        have u_211 : (tI M_205 60 21).toInt = (x_204 : Int32).toInt := by rw [(tI_uE hM_205)]
                        have u_212 : (tI M_205 60 24).toInt = (x_178 : Int32).toInt := by rw [((tI_nE hM_205 (nk (by decide))).trans (tI_uE hM_196))]
                        exact ih_158 M_205 _ _ _ (by omega) iM_205 (pr.trans (pr_I hM_205 (by decide)) (pr.trans (pr_I hM_196 (by decide)) f_149)) ((tI_nE hM_205 (nk (by decide))).trans ((tI_nE hM_196 (nk (by decide))).trans f_150)) (by first | omega | decide) (by first | omega | decide) (by first | omega | decide) (by first | omega | decide) (by rw [((tI_nE hM_205 (nk (by decide))).trans (tI_nE hM_196 (nk (by decide))))]; exact j_155) (by have h := pt_pk_in kr_164 (by omega); have e1 : (tI M_205 60 21).toInt.toNat = (tI M_148 60 21).toInt.toNat + 1 := (by rw [(tI_uE hM_205), ← (tI_nE hM_196 (nk (by decide))), (ex_203.symm)]; omega); rw [e1, ← pt_to_go (P := pt_D) (B := pt_rB M) h.1 (by rw [← h.2]; exact pt_Dt (by omega) (by omega))]; exact j_156) (by have h := pt_pk_in kr_164 (by omega); have e1 : (tI M_205 60 21).toInt.toNat = (tI M_148 60 21).toInt.toNat + 1 := (by rw [(tI_uE hM_205), ← (tI_nE hM_196 (nk (by decide))), (ex_203.symm)]; omega); rw [e1, ((tI_nE hM_205 (nk (by decide))).trans (tI_uE hM_196)), show x_178.toInt = (if 99999 < (tI M_148 60 24).toInt then (tI M_148 60 24).toInt else 10 * (tI M_148 60 24).toInt + pt_rB M (tI M_148 60 21).toInt.toNat - 48) by (rw [if_neg (by omega), ← h.2]; omega), ← pt_mv_go (B := pt_rB M) h.1 (by rw [← h.2]; exact pt_Dt (by omega) (by omega))]; exact j_157) hw (lv_sub hl [0, 1] rfl)
                      · refine lv_aload_n hx hb dX10_token_182 rfl (lv_at hl 1 rfl) ?_
                        refine ti_get (ci := 10) (k := 24) (N := 67) (T := TX10) C hw iw_10 rfl ob_60 (by decide) (by decide) fl_X10_183 rfl rfl dX10_token_183 ?_
                        refine ti_top (y := x_171) (ex_171.symm) ?_
                        refine lv_goto (tgt := 204) hx hb dX10_token_186 (by decide) ?_
                        refine ti_putI (ci := 10) (k := 24) (N := 67) (T := TX10) C hw iw_10 tyX10 tyX10_ok nmX10 rfl ob_60 (by decide) (by decide) fl_X10_183 rfl rfl rfl rfl (fn_10 A _) fs_10_24 dX10_token_204 (fun H locs hw => ?_)
                        obtain ⟨M_179, hM_179⟩ : ∃ z : ti_M, z = uI M_148 60 24 x_171 := ⟨_, rfl⟩
                        have hw := hw.to hM_179.symm
                        have iM_179 : mI Tm M_179 := mI_va iM_148 hM_179 (fun h => absurd ((f_150).symm.trans h) (by decide))
                        have v_180 : (tI M_179 60 20).toInt = (tI M_148 60 20).toInt := by rw [tI_nE hM_179 (nk (by decide))]
                        have v_181 : (tI M_179 60 21).toInt = (tI M_148 60 21).toInt := by rw [tI_nE hM_179 (nk (by decide))]
                        have v_182 : (tI M_179 60 22).toInt = (tI M_148 60 22).toInt := by rw [tI_nE hM_179 (nk (by decide))]
                        have v_183 : (tI M_179 60 23).toInt = (tI M_148 60 23).toInt := by rw [tI_nE hM_179 (nk (by decide))]
                        have v_184 : (tI M_179 60 24).toInt = (x_171 : Int32).toInt := by rw [tI_uE hM_179]
                        have v_185 : (hr M_179).toInt = (hr M_148).toInt := by rw [hr_I hM_179 (by decide)]
                        refine lv_aload_n hx hb dX10_token_207 rfl (lv_at hl 1 rfl) ?_
                        refine lv_dup hx hb dX10_token_208 rfl ?_
                        refine ti_get (ci := 10) (k := 21) (N := 67) (T := TX10) C hw iw_10 rfl ob_60 (by decide) (by decide) fl_X10_160 rfl rfl dX10_token_209 ?_
                        refine lv_topi (fun x_186 ex_186 => ?_)
                        have bx_186 : 0 ≤ x_186.toInt ∧ x_186.toInt ≤ 700 := mI_rd iM_179 ex_186
                        have ux_186 : (tI M_179 60 21).toInt = x_186.toInt := by rw [ex_186]
                        refine lv_iconst (v := 1) hx hb dX10_token_212 (by decide) ?_
                        refine lv_iadd hx hb dX10_token_213 ?_
                        refine lv_topi (fun x_187 ex_187 => ?_)
                        have tx_187 : x_187.toInt = x_186.toInt + 1 := i_add ex_187 rfl (by decide : (1 : Int32).toInt = 1) (by omega) (by omega)
                        refine ti_putI (ci := 10) (k := 21) (N := 67) (T := TX10) C hw iw_10 tyX10 tyX10_ok nmX10 rfl ob_60 (by decide) (by decide) fl_X10_160 rfl rfl rfl rfl (fn_10 A _) fs_10_21 dX10_token_214 (fun H locs hw => ?_)
                        obtain ⟨M_188, hM_188⟩ : ∃ z : ti_M, z = uI M_179 60 21 x_187 := ⟨_, rfl⟩
                        have hw := hw.to hM_188.symm
                        have iM_188 : mI Tm M_188 := mI_uI iM_179 hM_188 (by decide) (by decide) (ib_mk (lo := 0) (hi := 700) (by omega) (by omega))
                        have vM_188 : (tI M_188 60 21).toInt = (x_187 : Int32).toInt := by rw [tI_uE hM_188]
                        have v_189 : (tI M_188 60 20).toInt = (tI M_179 60 20).toInt := by rw [tI_nE hM_188 (nk (by decide))]
                        have v_190 : (tI M_188 60 21).toInt = (x_187 : Int32).toInt := by rw [tI_uE hM_188]
                        have v_191 : (tI M_188 60 22).toInt = (tI M_179 60 22).toInt := by rw [tI_nE hM_188 (nk (by decide))]
                        have v_192 : (tI M_188 60 23).toInt = (tI M_179 60 23).toInt := by rw [tI_nE hM_188 (nk (by decide))]
                        have v_193 : (tI M_188 60 24).toInt = (tI M_179 60 24).toInt := by rw [tI_nE hM_188 (nk (by decide))]
                        refine lv_goto (tgt := 162) hx hb dX10_token_217 (by decide) ?_
                        have u_194 : (tI M_188 60 21).toInt = (x_187 : Int32).toInt := by rw [(tI_uE hM_188)]
                        have u_195 : (tI M_188 60 24).toInt = (x_171 : Int32).toInt := by rw [((tI_nE hM_188 (nk (by decide))).trans (tI_uE hM_179))]
                        exact ih_158 M_188 _ _ _ (by omega) iM_188 (pr.trans (pr_I hM_188 (by decide)) (pr.trans (pr_I hM_179 (by decide)) f_149)) ((tI_nE hM_188 (nk (by decide))).trans ((tI_nE hM_179 (nk (by decide))).trans f_150)) (by first | omega | decide) (by first | omega | decide) (by first | omega | decide) (by first | omega | decide) (by rw [((tI_nE hM_188 (nk (by decide))).trans (tI_nE hM_179 (nk (by decide))))]; exact j_155) (by have h := pt_pk_in kr_164 (by omega); have e1 : (tI M_188 60 21).toInt.toNat = (tI M_148 60 21).toInt.toNat + 1 := (by rw [(tI_uE hM_188), ← (tI_nE hM_179 (nk (by decide))), (ex_186.symm)]; omega); rw [e1, ← pt_to_go (P := pt_D) (B := pt_rB M) h.1 (by rw [← h.2]; exact pt_Dt (by omega) (by omega))]; exact j_156) (by have h := pt_pk_in kr_164 (by omega); have e1 : (tI M_188 60 21).toInt.toNat = (tI M_148 60 21).toInt.toNat + 1 := (by rw [(tI_uE hM_188), ← (tI_nE hM_179 (nk (by decide))), (ex_186.symm)]; omega); rw [e1, ((tI_nE hM_188 (nk (by decide))).trans (tI_uE hM_179)), show x_171.toInt = (if 99999 < (tI M_148 60 24).toInt then (tI M_148 60 24).toInt else 10 * (tI M_148 60 24).toInt + pt_rB M (tI M_148 60 21).toInt.toNat - 48) by (rw [if_pos (by omega)]; omega), ← pt_mv_go (B := pt_rB M) h.1 (by rw [← h.2]; exact pt_Dt (by omega) (by omega))]; exact j_157) hw (lv_sub hl [0, 1] rfl)
                    · refine sb_if_eq (tgt := 225) hx hb (by decide : (0 : Int32).toInt = 0) dX10_token_169 (by decide) (fun c_169_169 => ?_) (fun h => absurd h (by decide))
                      have EA : pt_to pt_D (pt_rB M) (pt_rn0 M) (pt_P (pt_rB M) (pt_rn0 M) (tI M 60 21).toInt.toNat) = (tI M_148 60 21).toInt.toNat := by rw [← j_156, pt_to_end (P := pt_D) (B := pt_rB M) (n := pt_rn0 M) (a := (tI M_148 60 21).toInt.toNat) (pt_pk_no kr_164 (pt_Df (by omega)))]
                      have EV : pt_mv (pt_rB M) (pt_rn0 M) (pt_P (pt_rB M) (pt_rn0 M) (tI M 60 21).toInt.toNat) 0 = (tI M_148 60 24).toInt := by rw [← j_157, pt_mv_end (B := pt_rB M) (n := pt_rn0 M) (a := (tI M_148 60 21).toInt.toNat) (pt_pk_no kr_164 (pt_Df (by omega)))]
                      have EK : pt_K (pt_rB M) (pt_rn0 M) (tI M 60 21).toInt.toNat = 26 := by unfold pt_K; rw [EC, if_neg (by omega), if_neg (by rw [pt_Lf (by omega)]; decide), if_pos (pt_Dt (by omega) (by omega))]
                      have EW : pt_V (pt_rB M) (pt_rn0 M) (tI M 60 21).toInt.toNat = pt_nv (pt_rB M) (pt_rn0 M) (pt_P (pt_rB M) (pt_rn0 M) (tI M 60 21).toInt.toNat) 0 := by unfold pt_V; rw [EC, if_neg (by omega), if_neg (by rw [pt_Lf (by omega)]; decide), if_pos (pt_Dt (by omega) (by omega))]
                      have hga : 0 ≤ (tI M_148 60 21).toInt ∧ (tI M_148 60 21).toInt ≤ 700 := iM_148.1 21
                      exact hQ _ _ _ _ _ hw (⟨iM_148, f_149, by omega, by omega, j_155, (by unfold pt_A; rw [EC, if_neg (by omega), if_neg (by rw [pt_Lf (by omega)]; decide), if_pos (pt_Dt (by omega) (by omega)), EA]; omega), (by rw [EK, EW, ← EV]; exact pt_Tc (Or.inr (Or.inl ⟨rfl, by rw [(f_150)]; decide, pt_mn⟩)))⟩) dX10_token_225
                exact hl_162_157 ((700 - (tI M_141 60 21).toInt : Int).toNat + 1) M_141 _ _ _ (Nat.lt_succ_self _) iM_141 (pr.trans (pr_I hM_141 (by decide)) (pr.trans (pr_I hM_134 (by decide)) (pr.trans (pr_I hM_35 (by decide)) f_2))) ((tI_nE hM_141 (nk (by decide))).trans (tI_uE hM_134)) (by first | omega | decide) (by first | omega | decide) (by first | omega | decide) (by first | omega | decide) (by rw [((tI_nE hM_141 (nk (by decide))).trans (tI_nE hM_134 (nk (by decide)))), EP]; omega) (by rw [((tI_nE hM_141 (nk (by decide))).trans (tI_nE hM_134 (nk (by decide)))), EP]) (by rw [((tI_nE hM_141 (nk (by decide))).trans (tI_nE hM_134 (nk (by decide)))), EP, (tI_uE hM_141), show (0 : Int32).toInt = 0 by decide]) hw (lv_sub hl [0, 1] rfl)
              · refine sb_if_eq (tgt := 220) hx hb (by decide : (0 : Int32).toInt = 0) dX10_token_149 (by decide) (fun c_149_132 => ?_) (fun h => absurd h (by decide))
                refine lv_aload_n hx hb dX10_token_220 rfl (lv_at hl 1 rfl) ?_
                refine lv_iload_n hx hb dX10_token_221 rfl (lv_at hl 0 rfl) ?_
                refine ti_callVv (ci := 10) (av := [.int r_42]) C hw (x_X10_sign l D A cy hJ M_35 iM_35 r_42 (by first | omega | decide) (by first | omega | decide) (by first | omega | decide)) ⟨ml_X10_193, ym_X10_sign, yv_X10_sign, yi_X10_sign, yc_X10_sign⟩ yd_X10_sign ob_60 (by decide) rfl rfl hl.1 (Nat.le_of_ble_eq_true rfl) ⟨by decide, by decide⟩ ⟨Nat.zero_le _, Nat.zero_le _⟩ dX10_token_222 (fun M_214 H locs hp_214 hw => ?_)
                obtain ⟨iM_214, q_215, q_216, p0r_213, p1r_213⟩ := hp_214
                have v_217 : (tI M_214 60 20).toInt = (tI M_35 60 20).toInt := by rw [q_215.2 20 (by decide)]
                have v_218 : 0 ≤ (tI M_214 60 21).toInt ∧ (tI M_214 60 21).toInt ≤ 700 := mI_rd (x := tI M_214 60 21) (k := 21) iM_214 rfl
                have v_219 : (tI M_214 60 22).toInt = (tI M_35 60 22).toInt := by rw [q_216]
                have q1 := p0r_213
                have q2 := p1r_213 (pt_V (pt_rB M) (pt_rn0 M) (tI M 60 21).toInt.toNat)
                rw [pr_B (pr.trans (pr_I hM_35 (by decide)) f_2), pr_n (pr.trans (pr_I hM_35 (by decide)) f_2) (by decide), ← EP] at q1 q2
                have EK : pt_K (pt_rB M) (pt_rn0 M) (tI M 60 21).toInt.toNat = pt_sk r_42.toInt (pt_pk (pt_rB M) (pt_rn0 M) ((pt_P (pt_rB M) (pt_rn0 M) (tI M 60 21).toInt.toNat) + 1)) := by unfold pt_K; rw [EC, if_neg (by omega), if_neg (by rw [pt_Lf (by omega)]; decide), if_neg (by rw [pt_Df (by omega)]; decide)]
                have hs2 := pt_s2b r_42.toInt (pt_pk (pt_rB M) (pt_rn0 M) ((pt_P (pt_rB M) (pt_rn0 M) (tI M 60 21).toInt.toNat) + 1))
                have EQA : pt_A (pt_rB M) (pt_rn0 M) (tI M 60 21).toInt.toNat = (((pt_P (pt_rB M) (pt_rn0 M) (tI M 60 21).toInt.toNat) : Nat) : Int) + 1 + pt_s2 r_42.toInt (pt_pk (pt_rB M) (pt_rn0 M) ((pt_P (pt_rB M) (pt_rn0 M) (tI M 60 21).toInt.toNat) + 1)) := by unfold pt_A; rw [EC, if_neg (by omega), if_neg (by rw [pt_Lf (by omega)]; decide), if_neg (by rw [pt_Df (by omega)]; decide)]
                exact hQ _ _ _ _ _ hw (⟨iM_214, (pr.trans q_215 (pr.trans (pr_I hM_35 (by decide)) f_2)), by omega, by omega, (by rw [q_216, EP]; omega), (by rw [q1, EQA]; omega), (by rw [EK]; exact q2)⟩) dX10_token_225
          · refine lv_aload_n hx hb dX10_token_49 rfl (lv_at hl 1 rfl) ?_
            refine lv_iconst (v := 4) hx hb dX10_token_50 (by decide) ?_
            refine ti_putI (ci := 10) (k := 23) (N := 67) (T := TX10) C hw iw_10 tyX10 tyX10_ok nmX10 rfl ob_60 (by decide) (by decide) fl_X10_173 rfl rfl rfl rfl (fn_10 A _) fs_10_23 dX10_token_51 (fun H locs hw => ?_)
            obtain ⟨M_45, hM_45⟩ : ∃ z : ti_M, z = uI M_35 60 23 4 := ⟨_, rfl⟩
            have hw := hw.to hM_45.symm
            have iM_45 : mI Tm M_45 := mI_so iM_35 hM_45 (fun h => absurd h (by decide))
            have v_46 : (tI M_45 60 20).toInt = (tI M_35 60 20).toInt := by rw [tI_nE hM_45 (nk (by decide))]
            have v_47 : (tI M_45 60 21).toInt = (tI M_35 60 21).toInt := by rw [tI_nE hM_45 (nk (by decide))]
            have v_48 : (tI M_45 60 22).toInt = (tI M_35 60 22).toInt := by rw [tI_nE hM_45 (nk (by decide))]
            have v_49 : (tI M_45 60 23).toInt = 4 := by rw [tI_uE hM_45]; decide
            have v_50 : (tI M_45 60 24).toInt = (tI M_35 60 24).toInt := by rw [tI_nE hM_45 (nk (by decide))]
            have v_51 : (hr M_45).toInt = (hr M_35).toInt := by rw [hr_I hM_45 (by decide)]
            refine lv_goto (tgt := 225) hx hb dX10_token_54 (by decide) ?_
            have EK : pt_K (pt_rB M) (pt_rn0 M) (tI M 60 21).toInt.toNat = 27 := by unfold pt_K; rw [EC, if_pos (by omega)]
            exact hQ _ _ _ _ _ hw (⟨iM_45, (pr.trans (pr_I hM_45 (by decide)) (pr.trans (pr_I hM_35 (by decide)) f_2)), by omega, by omega, (by rw [(tI_nE hM_45 (nk (by decide))), EP]; omega), (by rw [(tI_nE hM_45 (nk (by decide)))]; unfold pt_A; rw [EC, if_pos (by omega), EP]; omega), (by rw [EK]; exact pt_Tc (Or.inr (Or.inr (Or.inl ⟨rfl, by rw [(tI_uE hM_45)]; decide⟩))))⟩) dX10_token_225
        · refine lv_aload_n hx hb dX10_token_18 rfl (lv_at hl 0 rfl) ?_
          refine lv_dup hx hb dX10_token_19 rfl ?_
          refine ti_get (ci := 10) (k := 21) (N := 67) (T := TX10) C hw iw_10 rfl ob_60 (by decide) (by decide) fl_X10_160 rfl rfl dX10_token_20 ?_
          refine lv_topi (fun x_25 ex_25 => ?_)
          have bx_25 : 0 ≤ x_25.toInt ∧ x_25.toInt ≤ 700 := mI_rd iM_1 ex_25
          have ux_25 : (tI M_1 60 21).toInt = x_25.toInt := by rw [ex_25]
          refine lv_iconst (v := 1) hx hb dX10_token_23 (by decide) ?_
          refine lv_iadd hx hb dX10_token_24 ?_
          refine lv_topi (fun x_26 ex_26 => ?_)
          have tx_26 : x_26.toInt = x_25.toInt + 1 := i_add ex_26 rfl (by decide : (1 : Int32).toInt = 1) (by omega) (by omega)
          refine ti_putI (ci := 10) (k := 21) (N := 67) (T := TX10) C hw iw_10 tyX10 tyX10_ok nmX10 rfl ob_60 (by decide) (by decide) fl_X10_160 rfl rfl rfl rfl (fn_10 A _) fs_10_21 dX10_token_25 (fun H locs hw => ?_)
          obtain ⟨M_27, hM_27⟩ : ∃ z : ti_M, z = uI M_1 60 21 x_26 := ⟨_, rfl⟩
          have hw := hw.to hM_27.symm
          have iM_27 : mI Tm M_27 := mI_uI iM_1 hM_27 (by decide) (by decide) (ib_mk (lo := 0) (hi := 700) (by omega) (by omega))
          have vM_27 : (tI M_27 60 21).toInt = (x_26 : Int32).toInt := by rw [tI_uE hM_27]
          have v_28 : (tI M_27 60 20).toInt = (tI M_1 60 20).toInt := by rw [tI_nE hM_27 (nk (by decide))]
          have v_29 : (tI M_27 60 21).toInt = (x_26 : Int32).toInt := by rw [tI_uE hM_27]
          have v_30 : (tI M_27 60 22).toInt = (tI M_1 60 22).toInt := by rw [tI_nE hM_27 (nk (by decide))]
          have v_31 : (tI M_27 60 23).toInt = (tI M_1 60 23).toInt := by rw [tI_nE hM_27 (nk (by decide))]
          have v_32 : (tI M_27 60 24).toInt = (tI M_1 60 24).toInt := by rw [tI_nE hM_27 (nk (by decide))]
          refine lv_goto (tgt := 0) hx hb dX10_token_28 (by decide) ?_
          have u_33 : (tI M_27 60 21).toInt = (x_26 : Int32).toInt := by rw [(tI_uE hM_27)]
          exact ih_5 M_27 _ _ _ (by omega) iM_27 (pr.trans (pr_I hM_27 (by decide)) f_2) (by first | omega | decide) (by have h := pt_pk_in kr_13 (by omega); have e1 : (tI M_27 60 21).toInt.toNat = (tI M_1 60 21).toInt.toNat + 1 := (by rw [(tI_uE hM_27), (ex_25.symm)]; omega); rw [e1, ← pt_to_go (P := pt_W) (B := pt_rB M) h.1 (by rw [← h.2]; exact pt_Wt (by omega))]; exact j_4) hw (lv_sub hl [0] rfl)
  exact hl_0_4 ((700 - (tI M 60 21).toInt : Int).toNat + 1) M _ _ _ (Nat.lt_succ_self _) hI pr.refl (by first | omega | decide) rfl hw (lv_sub hl [0] rfl)

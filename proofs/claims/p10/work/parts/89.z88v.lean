variable {Tc : gC} {Tm : gM}
variable {Tm : gM}
/-- all rows of what is told, of queues, steps, image, log stay -/
def qy (N M : ti_M) : Prop := (∀ k : Nat, 3 ≤ k → k < 60 → tY N 60 k = tY M 60 k) ∧ tI N 60 51 = tI M 60 51 ∧ tI N 60 52 = tI M 60 52 ∧ tI N 60 53 = tI M 60 53
theorem qy.refl {M : ti_M} : qy M M := ⟨fun _ _ _ => rfl, rfl, rfl, rfl⟩
theorem qy.trans {K N M : ti_M} (x : qy K N) (y : qy N M) : qy K M := ⟨fun k a b => (x.1 k a b).trans (y.1 k a b), x.2.1.trans y.2.1, x.2.2.1.trans y.2.2.1, x.2.2.2.trans y.2.2.2⟩
theorem qy_I {N M : ti_M} {k : Nat} {v : Int32} (e : N = uI M 60 k v) (h : k ≠ 51 ∧ k ≠ 52 ∧ k ≠ 53) : qy N M := ⟨fun _ _ _ => tY_uIE e, tI_nE e (nk (Ne.symm h.1)), tI_nE e (nk (Ne.symm h.2.1)), tI_nE e (nk (Ne.symm h.2.2))⟩
theorem qy_Y {N M : ti_M} {k : Nat} {f : Nat → Int32} (e : N = uY M 60 k f) (h : k < 3 ∨ 60 ≤ k) : qy N M := ⟨fun k2 _ _ => tY_nE e (nk (by omega)), tI_uYE e, tI_uYE e, tI_uYE e⟩
set_option maxHeartbeats 4000000 in
set_option maxRecDepth 100000 in
theorem w_X10_isPlace (l : Launch) (D : va_G) (A : Nat → Nat → Nat) (cy : Nat → ClassId) (hJ : ti_inj ti_LM A) (M : ti_M) (hI : mI Tm M)  (a : Int32) : ti_Ki l yX10_isPlace cX10_isPlace 1 (some .boolean) 0 ti_LM D A cy M [.int a] (fun r M2 => M2 = M ∧ ((r = 1 ∧ 0 ≤ a.toInt ∧ a.toInt ≤ 7) ∨ (r = 0 ∧ (a.toInt < 0 ∨ 7 < a.toInt)))) := by
  refine ti_eI yp_X10_isPlace hJ ti_LM_nd (Nat.le_of_ble_eq_true rfl) ?_
  intro p e s m args below meth c Q H0 C hQ hw ls hl
  have hx := C.1
  have hb := C.2.1
  have hl : lv_has ls 1 [(0, .int a)] := hl
  refine lv_iload_n hx hb dX10_isPlace_0 rfl (lv_at hl 0 rfl) ?_
  refine sb_if_lt (tgt := 14) hx hb rfl dX10_isPlace_1 (by decide) (fun c_1_0 => ?_) (fun c_1_0 => ?_)
  · refine lv_iconst (v := 0) hx hb dX10_isPlace_14 (by decide) ?_
    exact hQ _ _ _ _ _ _ hw rfl (⟨rfl, Or.inr ⟨rfl, by omega⟩⟩) dX10_isPlace_15
  · refine lv_iload_n hx hb dX10_isPlace_4 rfl (lv_at hl 0 rfl) ?_
    refine lv_bipush (v := 8) hx hb dX10_isPlace_5 (by decide) ?_
    refine sb_icmp_ge (tgt := 14) hx hb rfl (by decide : (8 : Int32).toInt = 8) dX10_isPlace_7 (by decide) (fun c_7_1 => ?_) (fun c_7_1 => ?_)
    · refine lv_iconst (v := 0) hx hb dX10_isPlace_14 (by decide) ?_
      exact hQ _ _ _ _ _ _ hw rfl (⟨rfl, Or.inr ⟨rfl, by omega⟩⟩) dX10_isPlace_15
    · refine lv_iconst (v := 1) hx hb dX10_isPlace_10 (by decide) ?_
      refine lv_goto (tgt := 15) hx hb dX10_isPlace_11 (by decide) ?_
      exact hQ _ _ _ _ _ _ hw rfl (⟨rfl, Or.inl ⟨rfl, by omega, by omega⟩⟩) dX10_isPlace_15
set_option maxHeartbeats 4000000 in
set_option maxRecDepth 100000 in
theorem w_X10_isMan (l : Launch) (D : va_G) (A : Nat → Nat → Nat) (cy : Nat → ClassId) (hJ : ti_inj ti_LM A) (M : ti_M) (hI : mI Tm M)  (a : Int32) : ti_Ki l yX10_isMan cX10_isMan 2 (some .boolean) 0 ti_LM D A cy M [.ref (A 60 0), .int a] (fun r M2 => M2 = M ∧ ((r = 1 ∧ 0 ≤ a.toInt ∧ a.toInt < (tY M 60 3 0).toInt) ∨ (r = 0 ∧ (a.toInt < 0 ∨ (tY M 60 3 0).toInt ≤ a.toInt)))) := by
  refine ti_eI yp_X10_isMan hJ ti_LM_nd (Nat.le_of_ble_eq_true rfl) ?_
  intro p e s m args below meth c Q H0 C hQ hw ls hl
  have hx := C.1
  have hb := C.2.1
  have hl : lv_has ls 2 [(0, .ref (A 60 0)), (1, .int a)] := hl
  refine lv_iload_n hx hb dX10_isMan_0 rfl (lv_at hl 1 rfl) ?_
  refine sb_if_lt (tgt := 18) hx hb rfl dX10_isMan_1 (by decide) (fun c_1_0 => ?_) (fun c_1_0 => ?_)
  · refine lv_iconst (v := 0) hx hb dX10_isMan_18 (by decide) ?_
    exact hQ _ _ _ _ _ _ hw rfl (⟨rfl, Or.inr ⟨rfl, by omega⟩⟩) dX10_isMan_19
  · refine lv_iload_n hx hb dX10_isMan_4 rfl (lv_at hl 1 rfl) ?_
    refine lv_aload_n hx hb dX10_isMan_5 rfl (lv_at hl 0 rfl) ?_
    refine ti_get (ci := 10) (k := 3) (N := 67) (T := TX10) (v := .ref (A 60 4)) C hw iw_10 rfl ob_60 (by decide) (by decide) fl_X10_13 rfl rfl dX10_isMan_6 ?_
    refine lv_iconst (v := 0) hx hb dX10_isMan_9 (by decide) ?_
    refine ti_iald (ci := 10) (k := 3) (n := 22) C hw ob_60 (by decide) (fun _ _ => rfl) (by unfold vp_in; decide) dX10_isMan_10 ?_
    refine lv_topi (fun x_2 ex_2 => ?_)
    have yx_2 : tY M 60 3 0 = x_2 := ((congrArg _ (by decide)).symm.trans ex_2.symm)
    have bx_2 : 0 ≤ x_2.toInt ∧ x_2.toInt ≤ 8 := mI_rn (i := 0) hI yx_2.symm (fun _ h => h)
    have zx_2 : (tY M 60 3 0).toInt = x_2.toInt := by rw [yx_2]
    refine sb_icmp_ge (tgt := 18) hx hb rfl rfl dX10_isMan_11 (by decide) (fun c_11_2 => ?_) (fun c_11_2 => ?_)
    · refine lv_iconst (v := 0) hx hb dX10_isMan_18 (by decide) ?_
      exact hQ _ _ _ _ _ _ hw rfl (⟨rfl, Or.inr ⟨rfl, by rw [(yx_2)]; omega⟩⟩) dX10_isMan_19
    · refine lv_iconst (v := 1) hx hb dX10_isMan_14 (by decide) ?_
      refine lv_goto (tgt := 19) hx hb dX10_isMan_15 (by decide) ?_
      exact hQ _ _ _ _ _ _ hw rfl (⟨rfl, Or.inl ⟨rfl, by omega, by rw [(yx_2)]; omega⟩⟩) dX10_isMan_19
set_option maxHeartbeats 4000000 in
set_option maxRecDepth 100000 in
theorem w_X10_stone (l : Launch) (D : va_G) (A : Nat → Nat → Nat) (cy : Nat → ClassId) (hJ : ti_inj ti_LM A) (M : ti_M) (hI : mI Tm M) (hF : mF Tm M) (z1 : Int32) (z2 : Int32) (z3 : Int32) (rg : Nat → Int) (htd : tdR M rg) : ti_Ki l yX10_stone cX10_stone 4 (some .int) 1 ti_LM D A cy M [.ref (A 60 0), .int z1, .int z2, .int z3] (fun r M2 => ((z1.toInt < 0 ∨ 59 < z1.toInt ∨ z2.toInt < 0 ∨ 7 < z2.toInt ∨ (z3.toInt ≠ -1 ∧ (z3.toInt < 0 ∨ rg 7 ≤ z3.toInt)) ∨ 24 ≤ (tI M 60 58).toInt) ∧ r.toInt = -1 ∧ mF Tm M2 ∧ tI M2 60 2 = tI M 60 2 ∧ lw M2 M ∧ qy M2 M) ∨ (¬ (z1.toInt < 0 ∨ 59 < z1.toInt ∨ z2.toInt < 0 ∨ 7 < z2.toInt ∨ (z3.toInt ≠ -1 ∧ (z3.toInt < 0 ∨ rg 7 ≤ z3.toInt)) ∨ 24 ≤ (tI M 60 58).toInt) ∧ r.toInt = (tI M 60 58).toInt ∧ mF (mG M2) M2 ∧ tI M2 60 2 = tI M 60 2 ∧ lw M2 M ∧ tY M2 60 1 = tY M 60 1 ∧ tI M2 60 27 = tI M 60 27 ∧ tI M2 60 28 = tI M 60 28 ∧ qy M2 M ∧ (tI M2 60 58).toInt = (tI M 60 58).toInt + 1 ∧ tI M2 60 59 = tI M 60 59)) := by
  refine ti_eI yp_X10_stone hJ ti_LM_nd (Nat.le_of_ble_eq_true rfl) ?_
  intro p e s m args below meth c Q H0 C hQ hw ls hl
  have hx := C.1
  have hb := C.2.1
  have hl : lv_has ls 4 [(0, .ref (A 60 0)), (1, .int z1), (2, .int z2), (3, .int z3)] := hl
  have hL : mL M := hF.2.1
  have hC0 : mC M 0 := hF.2.2.1.1
  have hP0 : mP M 0 := hF.2.2.1.2
  have h7 := htd.1
  refine lv_aload_n hx hb dX10_stone_0 rfl (lv_at hl 0 rfl) ?_
  refine lv_iconst (v := 0) hx hb dX10_stone_1 (by decide) ?_
  refine ti_putI (ci := 10) (k := 0) (N := 67) (T := TX10) C hw iw_10 tyX10 tyX10_ok nmX10 rfl ob_60 (by decide) (by decide) fl_X10_154 rfl rfl rfl rfl (fn_10 A _) fs_10_0 dX10_stone_2 (fun H locs hw => ?_)
  obtain ⟨M_1, hM_1⟩ : ∃ z : ti_M, z = uI M 60 0 0 := ⟨_, rfl⟩
  have hw := hw.to hM_1.symm
  have iM_1 : mI Tm M_1 := mI_uI hI hM_1 (by decide) (by decide) trivial
  have v_2 : (tI M_1 60 58).toInt = (tI M 60 58).toInt := by rw [tI_nE hM_1 (nk (by decide))]
  have v_3 : (tI M_1 60 59).toInt = (tI M 60 59).toInt := by rw [tI_nE hM_1 (nk (by decide))]
  refine lv_iload_n hx hb dX10_stone_5 rfl (lv_at hl 1 rfl) ?_
  refine sb_if_lt (tgt := 44) hx hb rfl dX10_stone_6 (by decide) (fun c_6_3 => ?_) (fun c_6_3 => ?_)
  · refine lv_iconst (v := (-1)) hx hb dX10_stone_44 (by decide) ?_
    exact hQ _ _ _ _ _ _ hw rfl (Or.inl ⟨by omega, by decide, mF_qw hF iM_1 (qw_I hM_1 (by decide)), (qw_I hM_1 (by decide)).2.1.1, (qw_I hM_1 (by decide)).1, (qy_I hM_1 (by decide))⟩) dX10_stone_45
  · refine lv_iload_n hx hb dX10_stone_9 rfl (lv_at hl 1 rfl) ?_
    refine lv_bipush (v := 59) hx hb dX10_stone_10 (by decide) ?_
    refine sb_icmp_gt (tgt := 44) hx hb rfl (by decide : (59 : Int32).toInt = 59) dX10_stone_12 (by decide) (fun c_12_4 => ?_) (fun c_12_4 => ?_)
    · refine lv_iconst (v := (-1)) hx hb dX10_stone_44 (by decide) ?_
      exact hQ _ _ _ _ _ _ hw rfl (Or.inl ⟨by omega, by decide, mF_qw hF iM_1 (qw_I hM_1 (by decide)), (qw_I hM_1 (by decide)).2.1.1, (qw_I hM_1 (by decide)).1, (qy_I hM_1 (by decide))⟩) dX10_stone_45
    · refine lv_iload_n hx hb dX10_stone_15 rfl (lv_at hl 2 rfl) ?_
      refine ti_callSi (av := [.int z2]) C hw (w_X10_isPlace l D A cy hJ M_1 iM_1 z2) ⟨ml_X10_414, ys_X10_isPlace, yi_X10_isPlace, yc_X10_isPlace⟩ yd_X10_isPlace rfl hl.1 (Nat.le_of_ble_eq_true rfl) ⟨by decide, by decide⟩ ⟨Nat.zero_le _, Nat.zero_le _⟩ dX10_stone_16 (fun r_6 M_7 H locs hp_7 hw => ?_)
      obtain ⟨hm, hz⟩ := hp_7
      have hw := hw.to hm
      rcases hz with ⟨rfl, d0_8, d1_8⟩ | ⟨rfl, e_8⟩
      · refine sb_if_eq (tgt := 44) hx hb (by decide : (1 : Int32).toInt = 1) dX10_stone_19 (by decide) (fun h => absurd h (by decide)) (fun c_19_8 => ?_)
        refine lv_iload_n hx hb dX10_stone_22 rfl (lv_at hl 3 rfl) ?_
        refine lv_iconst (v := (-1)) hx hb dX10_stone_23 (by decide) ?_
        refine sb_icmp_eq (tgt := 35) hx hb rfl (by decide : ((-1) : Int32).toInt = (-1)) dX10_stone_24 (by decide) (fun c_24_10 => ?_) (fun c_24_10 => ?_)
        · refine lv_aload_n hx hb dX10_stone_35 rfl (lv_at hl 0 rfl) ?_
          refine ti_get (ci := 10) (k := 58) (N := 67) (T := TX10) C hw iw_10 rfl ob_60 (by decide) (by decide) fl_X10_310 rfl rfl dX10_stone_36 ?_
          refine lv_topi (fun x_18 ex_18 => ?_)
          have bx_18 : 0 ≤ x_18.toInt ∧ x_18.toInt ≤ 24 := mI_rd iM_1 ex_18
          have ux_18 : (tI M_1 60 58).toInt = x_18.toInt := by rw [ex_18]
          refine lv_bipush (v := 24) hx hb dX10_stone_39 (by decide) ?_
          refine sb_icmp_ne (tgt := 46) hx hb rfl (by decide : (24 : Int32).toInt = 24) dX10_stone_41 (by decide) (fun c_41_18 => ?_) (fun c_41_18 => ?_)
          · refine lv_aload_n hx hb dX10_stone_46 rfl (lv_at hl 0 rfl) ?_
            refine ti_get (ci := 10) (k := 60) (N := 67) (T := TX10) (v := .ref (A 60 61)) C hw iw_10 rfl ob_60 (by decide) (by decide) fl_X10_135 rfl rfl dX10_stone_47 ?_
            refine lv_aload_n hx hb dX10_stone_50 rfl (lv_at hl 0 rfl) ?_
            refine ti_get (ci := 10) (k := 58) (N := 67) (T := TX10) C hw iw_10 rfl ob_60 (by decide) (by decide) fl_X10_310 rfl rfl dX10_stone_51 ?_
            refine ti_top (y := x_18) (ex_18.symm) ?_
            have u_22 : (tI M_1 60 58).toInt = (x_18 : Int32).toInt := by rw [(ex_18.symm)]
            refine lv_iload_n hx hb dX10_stone_54 rfl (lv_at hl 1 rfl) ?_
            refine ti_iast (ci := 10) (k := 60) (n := 24) C hw ob_60 (by decide) (fun _ _ => rfl) (vp_in_iff.mpr (by omega)) dX10_stone_55 (fun H locs hw => ?_)
            obtain ⟨M_23, hM_23⟩ : ∃ z : ti_M, z = uY M_1 60 60 (upd (tY M_1 60 60) (x_18 : Int32).toNatClampNeg z1) := ⟨_, rfl⟩
            have hw := hw.to hM_23.symm
            have iM_23 : mI (mG M_23) M_23 := mI_ry2 (i := x_18.toNatClampNeg) iM_1 hM_23 (ib_mk (lo := 0) (hi := 59) (by omega) (by omega))
            have v_24 : (tI M_23 60 58).toInt = (tI M_1 60 58).toInt := by rw [tI_uYE hM_23]
            have v_25 : (tI M_23 60 59).toInt = (tI M_1 60 59).toInt := by rw [tI_uYE hM_23]
            refine lv_aload_n hx hb dX10_stone_56 rfl (lv_at hl 0 rfl) ?_
            refine ti_get (ci := 10) (k := 61) (N := 67) (T := TX10) (v := .ref (A 60 62)) C hw iw_10 rfl ob_60 (by decide) (by decide) fl_X10_138 rfl rfl dX10_stone_57 ?_
            refine lv_aload_n hx hb dX10_stone_60 rfl (lv_at hl 0 rfl) ?_
            refine ti_get (ci := 10) (k := 58) (N := 67) (T := TX10) C hw iw_10 rfl ob_60 (by decide) (by decide) fl_X10_310 rfl rfl dX10_stone_61 ?_
            refine ti_top (y := x_18) ((tI_uYE hM_23).trans ex_18.symm) ?_
            have u_26 : (tI M_23 60 58).toInt = (x_18 : Int32).toInt := by rw [((tI_uYE hM_23).trans ex_18.symm)]
            refine lv_iload_n hx hb dX10_stone_64 rfl (lv_at hl 2 rfl) ?_
            refine ti_iast (ci := 10) (k := 61) (n := 24) C hw ob_60 (by decide) (fun _ _ => rfl) (vp_in_iff.mpr (by omega)) dX10_stone_65 (fun H locs hw => ?_)
            obtain ⟨M_27, hM_27⟩ : ∃ z : ti_M, z = uY M_23 60 61 (upd (tY M_23 60 61) (x_18 : Int32).toNatClampNeg z2) := ⟨_, rfl⟩
            have hw := hw.to hM_27.symm
            have iM_27 : mI (mG M_27) M_27 := mI_ry2 (i := x_18.toNatClampNeg) iM_23 hM_27 (ib_mk (lo := 0) (hi := 7) (by omega) (by omega))
            have v_28 : (tI M_27 60 58).toInt = (tI M_23 60 58).toInt := by rw [tI_uYE hM_27]
            have v_29 : (tI M_27 60 59).toInt = (tI M_23 60 59).toInt := by rw [tI_uYE hM_27]
            refine lv_aload_n hx hb dX10_stone_66 rfl (lv_at hl 0 rfl) ?_
            refine ti_get (ci := 10) (k := 62) (N := 67) (T := TX10) (v := .ref (A 60 63)) C hw iw_10 rfl ob_60 (by decide) (by decide) fl_X10_141 rfl rfl dX10_stone_67 ?_
            refine lv_aload_n hx hb dX10_stone_70 rfl (lv_at hl 0 rfl) ?_
            refine ti_get (ci := 10) (k := 58) (N := 67) (T := TX10) C hw iw_10 rfl ob_60 (by decide) (by decide) fl_X10_310 rfl rfl dX10_stone_71 ?_
            refine ti_top (y := x_18) ((tI_uYE hM_27).trans ((tI_uYE hM_23).trans ex_18.symm)) ?_
            have u_30 : (tI M_27 60 58).toInt = (x_18 : Int32).toInt := by rw [((tI_uYE hM_27).trans ((tI_uYE hM_23).trans ex_18.symm))]
            refine lv_iload_n hx hb dX10_stone_74 rfl (lv_at hl 3 rfl) ?_
            refine ti_iast (ci := 10) (k := 62) (n := 24) C hw ob_60 (by decide) (fun _ _ => rfl) (vp_in_iff.mpr (by omega)) dX10_stone_75 (fun H locs hw => ?_)
            obtain ⟨M_31, hM_31⟩ : ∃ z : ti_M, z = uY M_27 60 62 (upd (tY M_27 60 62) (x_18 : Int32).toNatClampNeg z3) := ⟨_, rfl⟩
            have hw := hw.to hM_31.symm
            have iM_31 : mI (mG M_31) M_31 := mI_ry2 (i := x_18.toNatClampNeg) iM_27 hM_31 trivial
            have v_32 : (tI M_31 60 58).toInt = (tI M_27 60 58).toInt := by rw [tI_uYE hM_31]
            have v_33 : (tI M_31 60 59).toInt = (tI M_27 60 59).toInt := by rw [tI_uYE hM_31]
            refine lv_aload_n hx hb dX10_stone_76 rfl (lv_at hl 0 rfl) ?_
            refine ti_get (ci := 10) (k := 63) (N := 67) (T := TX10) (v := .ref (A 60 64)) C hw iw_10 rfl ob_60 (by decide) (by decide) fl_X10_144 rfl rfl dX10_stone_77 ?_
            refine lv_aload_n hx hb dX10_stone_80 rfl (lv_at hl 0 rfl) ?_
            refine ti_get (ci := 10) (k := 58) (N := 67) (T := TX10) C hw iw_10 rfl ob_60 (by decide) (by decide) fl_X10_310 rfl rfl dX10_stone_81 ?_
            refine ti_top (y := x_18) ((tI_uYE hM_31).trans ((tI_uYE hM_27).trans ((tI_uYE hM_23).trans ex_18.symm))) ?_
            have u_34 : (tI M_31 60 58).toInt = (x_18 : Int32).toInt := by rw [((tI_uYE hM_31).trans ((tI_uYE hM_27).trans ((tI_uYE hM_23).trans ex_18.symm)))]
            refine lv_iconst (v := (-1)) hx hb dX10_stone_84 (by decide) ?_
            refine ti_iast (ci := 10) (k := 63) (n := 24) C hw ob_60 (by decide) (fun _ _ => rfl) (vp_in_iff.mpr (by omega)) dX10_stone_85 (fun H locs hw => ?_)
            obtain ⟨M_35, hM_35⟩ : ∃ z : ti_M, z = uY M_31 60 63 (upd (tY M_31 60 63) (x_18 : Int32).toNatClampNeg (-1)) := ⟨_, rfl⟩
            have hw := hw.to hM_35.symm
            have iM_35 : mI (mG M_35) M_35 := mI_ry2 (i := x_18.toNatClampNeg) iM_31 hM_35 (ib_mk (lo := (-1)) (hi := 23) (by decide) (by decide))
            have v_36 : (tI M_35 60 58).toInt = (tI M_31 60 58).toInt := by rw [tI_uYE hM_35]
            have v_37 : (tI M_35 60 59).toInt = (tI M_31 60 59).toInt := by rw [tI_uYE hM_35]
            refine lv_aload_n hx hb dX10_stone_86 rfl (lv_at hl 0 rfl) ?_
            refine lv_dup hx hb dX10_stone_87 rfl ?_
            refine ti_get (ci := 10) (k := 58) (N := 67) (T := TX10) C hw iw_10 rfl ob_60 (by decide) (by decide) fl_X10_310 rfl rfl dX10_stone_88 ?_
            refine ti_top (y := x_18) ((tI_uYE hM_35).trans ((tI_uYE hM_31).trans ((tI_uYE hM_27).trans ((tI_uYE hM_23).trans ex_18.symm)))) ?_
            have u_38 : (tI M_35 60 58).toInt = (x_18 : Int32).toInt := by rw [((tI_uYE hM_35).trans ((tI_uYE hM_31).trans ((tI_uYE hM_27).trans ((tI_uYE hM_23).trans ex_18.symm))))]
            refine lv_iconst (v := 1) hx hb dX10_stone_91 (by decide) ?_
            refine lv_iadd hx hb dX10_stone_92 ?_
            refine lv_topi (fun x_39 ex_39 => ?_)
            have tx_39 : x_39.toInt = x_18.toInt + 1 := i_add ex_39 rfl (by decide : (1 : Int32).toInt = 1) (by omega) (by omega)
            refine ti_putI (ci := 10) (k := 58) (N := 67) (T := TX10) C hw iw_10 tyX10 tyX10_ok nmX10 rfl ob_60 (by decide) (by decide) fl_X10_310 rfl rfl rfl rfl (fn_10 A _) fs_10_58 dX10_stone_93 (fun H locs hw => ?_)
            obtain ⟨M_40, hM_40⟩ : ∃ z : ti_M, z = uI M_35 60 58 x_39 := ⟨_, rfl⟩
            have hw := hw.to hM_40.symm
            have iM_40 : mI (mG M_40) M_40 := mI_ls iM_35 hM_40 (Or.inl rfl) (ib_mk (lo := 0) (hi := 24) (by omega) (by omega))
            have vM_40 : (tI M_40 60 58).toInt = (x_39 : Int32).toInt := by rw [tI_uE hM_40]
            have v_41 : (tI M_40 60 58).toInt = (x_39 : Int32).toInt := by rw [tI_uE hM_40]
            have v_42 : (tI M_40 60 59).toInt = (tI M_35 60 59).toInt := by rw [tI_nE hM_40 (nk (by decide))]
            refine lv_aload_n hx hb dX10_stone_96 rfl (lv_at hl 0 rfl) ?_
            refine ti_get (ci := 10) (k := 58) (N := 67) (T := TX10) C hw iw_10 rfl ob_60 (by decide) (by decide) fl_X10_310 rfl rfl dX10_stone_97 ?_
            refine ti_top (y := x_39) (tI_uE hM_40) ?_
            have u_43 : (tI M_40 60 58).toInt = (x_39 : Int32).toInt := by rw [(tI_uE hM_40)]
            refine lv_iconst (v := 1) hx hb dX10_stone_100 (by decide) ?_
            refine lv_isub hx hb dX10_stone_101 ?_
            refine lv_topi (fun x_44 ex_44 => ?_)
            have tx_44 : x_44.toInt = x_39.toInt - 1 := i_sub ex_44 rfl (by decide : (1 : Int32).toInt = 1) (by omega) (by omega)
            exact hQ _ _ _ _ _ _ hw rfl (Or.inr ⟨by omega, by omega, mF_self (mF_qx hF iM_40 (qw.trans (qw_I hM_40 (by decide)) (qw.trans (qw_Y hM_35 (by decide)) (qw.trans (qw_Y hM_31 (by decide)) (qw.trans (qw_Y hM_27 (by decide)) (qw.trans (qw_Y hM_23 (by decide)) (qw_I hM_1 (by decide)))))))), (qw.trans (qw_I hM_40 (by decide)) (qw.trans (qw_Y hM_35 (by decide)) (qw.trans (qw_Y hM_31 (by decide)) (qw.trans (qw_Y hM_27 (by decide)) (qw.trans (qw_Y hM_23 (by decide)) (qw_I hM_1 (by decide))))))).2.1.1, (qw.trans (qw_I hM_40 (by decide)) (qw.trans (qw_Y hM_35 (by decide)) (qw.trans (qw_Y hM_31 (by decide)) (qw.trans (qw_Y hM_27 (by decide)) (qw.trans (qw_Y hM_23 (by decide)) (qw_I hM_1 (by decide))))))).1, ((tY_uIE hM_40).trans ((tY_nE hM_35 (nk (by decide))).trans ((tY_nE hM_31 (nk (by decide))).trans ((tY_nE hM_27 (nk (by decide))).trans ((tY_nE hM_23 (nk (by decide))).trans (tY_uIE hM_1)))))), ((tI_nE hM_40 (nk (by decide))).trans ((tI_uYE hM_35).trans ((tI_uYE hM_31).trans ((tI_uYE hM_27).trans ((tI_uYE hM_23).trans (tI_nE hM_1 (nk (by decide)))))))), ((tI_nE hM_40 (nk (by decide))).trans ((tI_uYE hM_35).trans ((tI_uYE hM_31).trans ((tI_uYE hM_27).trans ((tI_uYE hM_23).trans (tI_nE hM_1 (nk (by decide)))))))), (qy.trans (qy_I hM_40 (by decide)) (qy.trans (qy_Y hM_35 (by decide)) (qy.trans (qy_Y hM_31 (by decide)) (qy.trans (qy_Y hM_27 (by decide)) (qy.trans (qy_Y hM_23 (by decide)) (qy_I hM_1 (by decide))))))), (by rw [(tI_uE hM_40)]; omega), ((tI_nE hM_40 (nk (by decide))).trans ((tI_uYE hM_35).trans ((tI_uYE hM_31).trans ((tI_uYE hM_27).trans ((tI_uYE hM_23).trans (tI_nE hM_1 (nk (by decide))))))))⟩) dX10_stone_102
          · refine lv_iconst (v := (-1)) hx hb dX10_stone_44 (by decide) ?_
            exact hQ _ _ _ _ _ _ hw rfl (Or.inl ⟨by omega, by decide, mF_qw hF iM_1 (qw_I hM_1 (by decide)), (qw_I hM_1 (by decide)).2.1.1, (qw_I hM_1 (by decide)).1, (qy_I hM_1 (by decide))⟩) dX10_stone_45
        · refine lv_aload_n hx hb dX10_stone_27 rfl (lv_at hl 0 rfl) ?_
          refine lv_iload_n hx hb dX10_stone_28 rfl (lv_at hl 3 rfl) ?_
          refine ti_callVi (ci := 10) (av := [.int z3]) C hw (w_X10_isMan l D A cy hJ M_1 iM_1 z3) ⟨ml_X10_356, ym_X10_isMan, yv_X10_isMan, yi_X10_isMan, yc_X10_isMan⟩ yd_X10_isMan ob_60 (by decide) rfl rfl hl.1 (Nat.le_of_ble_eq_true rfl) ⟨by decide, by decide⟩ ⟨Nat.zero_le _, Nat.zero_le _⟩ dX10_stone_29 (fun r_12 M_13 H locs hp_13 hw => ?_)
          obtain ⟨hm, hz⟩ := hp_13
          have hw := hw.to hm
          have lk_15 : (tY M_1 60 3 0).toInt = (tY M 60 3 0).toInt := by rw [(cg (tY_uIE hM_1) 0)]
          rcases hz with ⟨rfl, d0_14, d1_14⟩ | ⟨rfl, e_14⟩
          · refine sb_if_eq (tgt := 44) hx hb (by decide : (1 : Int32).toInt = 1) dX10_stone_32 (by decide) (fun h => absurd h (by decide)) (fun c_32_15 => ?_)
            refine lv_aload_n hx hb dX10_stone_35 rfl (lv_at hl 0 rfl) ?_
            refine ti_get (ci := 10) (k := 58) (N := 67) (T := TX10) C hw iw_10 rfl ob_60 (by decide) (by decide) fl_X10_310 rfl rfl dX10_stone_36 ?_
            refine lv_topi (fun x_20 ex_20 => ?_)
            have bx_20 : 0 ≤ x_20.toInt ∧ x_20.toInt ≤ 24 := mI_rd iM_1 ex_20
            have ux_20 : (tI M_1 60 58).toInt = x_20.toInt := by rw [ex_20]
            refine lv_bipush (v := 24) hx hb dX10_stone_39 (by decide) ?_
            refine sb_icmp_ne (tgt := 46) hx hb rfl (by decide : (24 : Int32).toInt = 24) dX10_stone_41 (by decide) (fun c_41_20 => ?_) (fun c_41_20 => ?_)
            · refine lv_aload_n hx hb dX10_stone_46 rfl (lv_at hl 0 rfl) ?_
              refine ti_get (ci := 10) (k := 60) (N := 67) (T := TX10) (v := .ref (A 60 61)) C hw iw_10 rfl ob_60 (by decide) (by decide) fl_X10_135 rfl rfl dX10_stone_47 ?_
              refine lv_aload_n hx hb dX10_stone_50 rfl (lv_at hl 0 rfl) ?_
              refine ti_get (ci := 10) (k := 58) (N := 67) (T := TX10) C hw iw_10 rfl ob_60 (by decide) (by decide) fl_X10_310 rfl rfl dX10_stone_51 ?_
              refine ti_top (y := x_20) (ex_20.symm) ?_
              have u_45 : (tI M_1 60 58).toInt = (x_20 : Int32).toInt := by rw [(ex_20.symm)]
              refine lv_iload_n hx hb dX10_stone_54 rfl (lv_at hl 1 rfl) ?_
              refine ti_iast (ci := 10) (k := 60) (n := 24) C hw ob_60 (by decide) (fun _ _ => rfl) (vp_in_iff.mpr (by omega)) dX10_stone_55 (fun H locs hw => ?_)
              obtain ⟨M_46, hM_46⟩ : ∃ z : ti_M, z = uY M_1 60 60 (upd (tY M_1 60 60) (x_20 : Int32).toNatClampNeg z1) := ⟨_, rfl⟩
              have hw := hw.to hM_46.symm
              have iM_46 : mI (mG M_46) M_46 := mI_ry2 (i := x_20.toNatClampNeg) iM_1 hM_46 (ib_mk (lo := 0) (hi := 59) (by omega) (by omega))
              have v_47 : (tI M_46 60 58).toInt = (tI M_1 60 58).toInt := by rw [tI_uYE hM_46]
              have v_48 : (tI M_46 60 59).toInt = (tI M_1 60 59).toInt := by rw [tI_uYE hM_46]
              refine lv_aload_n hx hb dX10_stone_56 rfl (lv_at hl 0 rfl) ?_
              refine ti_get (ci := 10) (k := 61) (N := 67) (T := TX10) (v := .ref (A 60 62)) C hw iw_10 rfl ob_60 (by decide) (by decide) fl_X10_138 rfl rfl dX10_stone_57 ?_
              refine lv_aload_n hx hb dX10_stone_60 rfl (lv_at hl 0 rfl) ?_
              refine ti_get (ci := 10) (k := 58) (N := 67) (T := TX10) C hw iw_10 rfl ob_60 (by decide) (by decide) fl_X10_310 rfl rfl dX10_stone_61 ?_
              refine ti_top (y := x_20) ((tI_uYE hM_46).trans ex_20.symm) ?_
              have u_49 : (tI M_46 60 58).toInt = (x_20 : Int32).toInt := by rw [((tI_uYE hM_46).trans ex_20.symm)]
              refine lv_iload_n hx hb dX10_stone_64 rfl (lv_at hl 2 rfl) ?_
              refine ti_iast (ci := 10) (k := 61) (n := 24) C hw ob_60 (by decide) (fun _ _ => rfl) (vp_in_iff.mpr (by omega)) dX10_stone_65 (fun H locs hw => ?_)
              obtain ⟨M_50, hM_50⟩ : ∃ z : ti_M, z = uY M_46 60 61 (upd (tY M_46 60 61) (x_20 : Int32).toNatClampNeg z2) := ⟨_, rfl⟩
              have hw := hw.to hM_50.symm
              have iM_50 : mI (mG M_50) M_50 := mI_ry2 (i := x_20.toNatClampNeg) iM_46 hM_50 (ib_mk (lo := 0) (hi := 7) (by omega) (by omega))
              have v_51 : (tI M_50 60 58).toInt = (tI M_46 60 58).toInt := by rw [tI_uYE hM_50]
              have v_52 : (tI M_50 60 59).toInt = (tI M_46 60 59).toInt := by rw [tI_uYE hM_50]
              refine lv_aload_n hx hb dX10_stone_66 rfl (lv_at hl 0 rfl) ?_
              refine ti_get (ci := 10) (k := 62) (N := 67) (T := TX10) (v := .ref (A 60 63)) C hw iw_10 rfl ob_60 (by decide) (by decide) fl_X10_141 rfl rfl dX10_stone_67 ?_
              refine lv_aload_n hx hb dX10_stone_70 rfl (lv_at hl 0 rfl) ?_
              refine ti_get (ci := 10) (k := 58) (N := 67) (T := TX10) C hw iw_10 rfl ob_60 (by decide) (by decide) fl_X10_310 rfl rfl dX10_stone_71 ?_
              refine ti_top (y := x_20) ((tI_uYE hM_50).trans ((tI_uYE hM_46).trans ex_20.symm)) ?_
              have u_53 : (tI M_50 60 58).toInt = (x_20 : Int32).toInt := by rw [((tI_uYE hM_50).trans ((tI_uYE hM_46).trans ex_20.symm))]
              refine lv_iload_n hx hb dX10_stone_74 rfl (lv_at hl 3 rfl) ?_
              refine ti_iast (ci := 10) (k := 62) (n := 24) C hw ob_60 (by decide) (fun _ _ => rfl) (vp_in_iff.mpr (by omega)) dX10_stone_75 (fun H locs hw => ?_)
              obtain ⟨M_54, hM_54⟩ : ∃ z : ti_M, z = uY M_50 60 62 (upd (tY M_50 60 62) (x_20 : Int32).toNatClampNeg z3) := ⟨_, rfl⟩
              have hw := hw.to hM_54.symm
              have iM_54 : mI (mG M_54) M_54 := mI_ry2 (i := x_20.toNatClampNeg) iM_50 hM_54 trivial
              have v_55 : (tI M_54 60 58).toInt = (tI M_50 60 58).toInt := by rw [tI_uYE hM_54]
              have v_56 : (tI M_54 60 59).toInt = (tI M_50 60 59).toInt := by rw [tI_uYE hM_54]
              refine lv_aload_n hx hb dX10_stone_76 rfl (lv_at hl 0 rfl) ?_
              refine ti_get (ci := 10) (k := 63) (N := 67) (T := TX10) (v := .ref (A 60 64)) C hw iw_10 rfl ob_60 (by decide) (by decide) fl_X10_144 rfl rfl dX10_stone_77 ?_
              refine lv_aload_n hx hb dX10_stone_80 rfl (lv_at hl 0 rfl) ?_
              refine ti_get (ci := 10) (k := 58) (N := 67) (T := TX10) C hw iw_10 rfl ob_60 (by decide) (by decide) fl_X10_310 rfl rfl dX10_stone_81 ?_
              refine ti_top (y := x_20) ((tI_uYE hM_54).trans ((tI_uYE hM_50).trans ((tI_uYE hM_46).trans ex_20.symm))) ?_
              have u_57 : (tI M_54 60 58).toInt = (x_20 : Int32).toInt := by rw [((tI_uYE hM_54).trans ((tI_uYE hM_50).trans ((tI_uYE hM_46).trans ex_20.symm)))]
              refine lv_iconst (v := (-1)) hx hb dX10_stone_84 (by decide) ?_
              refine ti_iast (ci := 10) (k := 63) (n := 24) C hw ob_60 (by decide) (fun _ _ => rfl) (vp_in_iff.mpr (by omega)) dX10_stone_85 (fun H locs hw => ?_)
              obtain ⟨M_58, hM_58⟩ : ∃ z : ti_M, z = uY M_54 60 63 (upd (tY M_54 60 63) (x_20 : Int32).toNatClampNeg (-1)) := ⟨_, rfl⟩
              have hw := hw.to hM_58.symm
              have iM_58 : mI (mG M_58) M_58 := mI_ry2 (i := x_20.toNatClampNeg) iM_54 hM_58 (ib_mk (lo := (-1)) (hi := 23) (by decide) (by decide))
              have v_59 : (tI M_58 60 58).toInt = (tI M_54 60 58).toInt := by rw [tI_uYE hM_58]
              have v_60 : (tI M_58 60 59).toInt = (tI M_54 60 59).toInt := by rw [tI_uYE hM_58]
              refine lv_aload_n hx hb dX10_stone_86 rfl (lv_at hl 0 rfl) ?_
              refine lv_dup hx hb dX10_stone_87 rfl ?_
              refine ti_get (ci := 10) (k := 58) (N := 67) (T := TX10) C hw iw_10 rfl ob_60 (by decide) (by decide) fl_X10_310 rfl rfl dX10_stone_88 ?_
              refine ti_top (y := x_20) ((tI_uYE hM_58).trans ((tI_uYE hM_54).trans ((tI_uYE hM_50).trans ((tI_uYE hM_46).trans ex_20.symm)))) ?_
              have u_61 : (tI M_58 60 58).toInt = (x_20 : Int32).toInt := by rw [((tI_uYE hM_58).trans ((tI_uYE hM_54).trans ((tI_uYE hM_50).trans ((tI_uYE hM_46).trans ex_20.symm))))]
              refine lv_iconst (v := 1) hx hb dX10_stone_91 (by decide) ?_
              refine lv_iadd hx hb dX10_stone_92 ?_
              refine lv_topi (fun x_62 ex_62 => ?_)
              have tx_62 : x_62.toInt = x_20.toInt + 1 := i_add ex_62 rfl (by decide : (1 : Int32).toInt = 1) (by omega) (by omega)
              refine ti_putI (ci := 10) (k := 58) (N := 67) (T := TX10) C hw iw_10 tyX10 tyX10_ok nmX10 rfl ob_60 (by decide) (by decide) fl_X10_310 rfl rfl rfl rfl (fn_10 A _) fs_10_58 dX10_stone_93 (fun H locs hw => ?_)
              obtain ⟨M_63, hM_63⟩ : ∃ z : ti_M, z = uI M_58 60 58 x_62 := ⟨_, rfl⟩
              have hw := hw.to hM_63.symm
              have iM_63 : mI (mG M_63) M_63 := mI_ls iM_58 hM_63 (Or.inl rfl) (ib_mk (lo := 0) (hi := 24) (by omega) (by omega))
              have vM_63 : (tI M_63 60 58).toInt = (x_62 : Int32).toInt := by rw [tI_uE hM_63]
              have v_64 : (tI M_63 60 58).toInt = (x_62 : Int32).toInt := by rw [tI_uE hM_63]
              have v_65 : (tI M_63 60 59).toInt = (tI M_58 60 59).toInt := by rw [tI_nE hM_63 (nk (by decide))]
              refine lv_aload_n hx hb dX10_stone_96 rfl (lv_at hl 0 rfl) ?_
              refine ti_get (ci := 10) (k := 58) (N := 67) (T := TX10) C hw iw_10 rfl ob_60 (by decide) (by decide) fl_X10_310 rfl rfl dX10_stone_97 ?_
              refine ti_top (y := x_62) (tI_uE hM_63) ?_
              have u_66 : (tI M_63 60 58).toInt = (x_62 : Int32).toInt := by rw [(tI_uE hM_63)]
              refine lv_iconst (v := 1) hx hb dX10_stone_100 (by decide) ?_
              refine lv_isub hx hb dX10_stone_101 ?_
              refine lv_topi (fun x_67 ex_67 => ?_)
              have tx_67 : x_67.toInt = x_62.toInt - 1 := i_sub ex_67 rfl (by decide : (1 : Int32).toInt = 1) (by omega) (by omega)
              exact hQ _ _ _ _ _ _ hw rfl (Or.inr ⟨by omega, by omega, mF_self (mF_qx hF iM_63 (qw.trans (qw_I hM_63 (by decide)) (qw.trans (qw_Y hM_58 (by decide)) (qw.trans (qw_Y hM_54 (by decide)) (qw.trans (qw_Y hM_50 (by decide)) (qw.trans (qw_Y hM_46 (by decide)) (qw_I hM_1 (by decide)))))))), (qw.trans (qw_I hM_63 (by decide)) (qw.trans (qw_Y hM_58 (by decide)) (qw.trans (qw_Y hM_54 (by decide)) (qw.trans (qw_Y hM_50 (by decide)) (qw.trans (qw_Y hM_46 (by decide)) (qw_I hM_1 (by decide))))))).2.1.1, (qw.trans (qw_I hM_63 (by decide)) (qw.trans (qw_Y hM_58 (by decide)) (qw.trans (qw_Y hM_54 (by decide)) (qw.trans (qw_Y hM_50 (by decide)) (qw.trans (qw_Y hM_46 (by decide)) (qw_I hM_1 (by decide))))))).1, ((tY_uIE hM_63).trans ((tY_nE hM_58 (nk (by decide))).trans ((tY_nE hM_54 (nk (by decide))).trans ((tY_nE hM_50 (nk (by decide))).trans ((tY_nE hM_46 (nk (by decide))).trans (tY_uIE hM_1)))))), ((tI_nE hM_63 (nk (by decide))).trans ((tI_uYE hM_58).trans ((tI_uYE hM_54).trans ((tI_uYE hM_50).trans ((tI_uYE hM_46).trans (tI_nE hM_1 (nk (by decide)))))))), ((tI_nE hM_63 (nk (by decide))).trans ((tI_uYE hM_58).trans ((tI_uYE hM_54).trans ((tI_uYE hM_50).trans ((tI_uYE hM_46).trans (tI_nE hM_1 (nk (by decide)))))))), (qy.trans (qy_I hM_63 (by decide)) (qy.trans (qy_Y hM_58 (by decide)) (qy.trans (qy_Y hM_54 (by decide)) (qy.trans (qy_Y hM_50 (by decide)) (qy.trans (qy_Y hM_46 (by decide)) (qy_I hM_1 (by decide))))))), (by rw [(tI_uE hM_63)]; omega), ((tI_nE hM_63 (nk (by decide))).trans ((tI_uYE hM_58).trans ((tI_uYE hM_54).trans ((tI_uYE hM_50).trans ((tI_uYE hM_46).trans (tI_nE hM_1 (nk (by decide))))))))⟩) dX10_stone_102
            · refine lv_iconst (v := (-1)) hx hb dX10_stone_44 (by decide) ?_
              exact hQ _ _ _ _ _ _ hw rfl (Or.inl ⟨by omega, by decide, mF_qw hF iM_1 (qw_I hM_1 (by decide)), (qw_I hM_1 (by decide)).2.1.1, (qw_I hM_1 (by decide)).1, (qy_I hM_1 (by decide))⟩) dX10_stone_45
          · refine sb_if_eq (tgt := 44) hx hb (by decide : (0 : Int32).toInt = 0) dX10_stone_32 (by decide) (fun c_32_16 => ?_) (fun h => absurd h (by decide))
            refine lv_iconst (v := (-1)) hx hb dX10_stone_44 (by decide) ?_
            exact hQ _ _ _ _ _ _ hw rfl (Or.inl ⟨by omega, by decide, mF_qw hF iM_1 (qw_I hM_1 (by decide)), (qw_I hM_1 (by decide)).2.1.1, (qw_I hM_1 (by decide)).1, (qy_I hM_1 (by decide))⟩) dX10_stone_45
      · refine sb_if_eq (tgt := 44) hx hb (by decide : (0 : Int32).toInt = 0) dX10_stone_19 (by decide) (fun c_19_9 => ?_) (fun h => absurd h (by decide))
        refine lv_iconst (v := (-1)) hx hb dX10_stone_44 (by decide) ?_
        exact hQ _ _ _ _ _ _ hw rfl (Or.inl ⟨by omega, by decide, mF_qw hF iM_1 (qw_I hM_1 (by decide)), (qw_I hM_1 (by decide)).2.1.1, (qw_I hM_1 (by decide)).1, (qy_I hM_1 (by decide))⟩) dX10_stone_45
set_option maxHeartbeats 4000000 in
set_option maxRecDepth 100000 in
theorem w_X10_strike (l : Launch) (D : va_G) (A : Nat → Nat → Nat) (cy : Nat → ClassId) (hJ : ti_inj ti_LM A) (M : ti_M) (hI : mI Tm M) (hF : mF Tm M) (z1 : Int32) (rg : Nat → Int) (htd : tdR M rg) : ti_Ki l yX10_strike cX10_strike 2 (some .int) 0 ti_LM D A cy M [.ref (A 60 0), .int z1] (fun r M2 => ((z1.toInt < 0 ∨ (tI M 60 58).toInt ≤ z1.toInt ∨ 24 ≤ (tI M 60 58).toInt) ∧ r.toInt = -1 ∧ mF Tm M2 ∧ tI M2 60 2 = tI M 60 2 ∧ lw M2 M ∧ qy M2 M) ∨ (¬ (z1.toInt < 0 ∨ (tI M 60 58).toInt ≤ z1.toInt ∨ 24 ≤ (tI M 60 58).toInt) ∧ r.toInt = (tI M 60 58).toInt ∧ mF (mG M2) M2 ∧ tI M2 60 2 = tI M 60 2 ∧ lw M2 M ∧ tY M2 60 1 = tY M 60 1 ∧ tI M2 60 27 = tI M 60 27 ∧ tI M2 60 28 = tI M 60 28 ∧ qy M2 M ∧ (tI M2 60 58).toInt = (tI M 60 58).toInt + 1 ∧ tI M2 60 59 = tI M 60 59)) := by
  refine ti_eI yp_X10_strike hJ ti_LM_nd (Nat.le_of_ble_eq_true rfl) ?_
  intro p e s m args below meth c Q H0 C hQ hw ls hl
  have hx := C.1
  have hb := C.2.1
  have hl : lv_has ls 2 [(0, .ref (A 60 0)), (1, .int z1)] := hl
  have hL : mL M := hF.2.1
  have hC0 : mC M 0 := hF.2.2.1.1
  have hP0 : mP M 0 := hF.2.2.1.2
  have h7 := htd.1
  refine lv_aload_n hx hb dX10_strike_0 rfl (lv_at hl 0 rfl) ?_
  refine lv_iconst (v := 0) hx hb dX10_strike_1 (by decide) ?_
  refine ti_putI (ci := 10) (k := 0) (N := 67) (T := TX10) C hw iw_10 tyX10 tyX10_ok nmX10 rfl ob_60 (by decide) (by decide) fl_X10_154 rfl rfl rfl rfl (fn_10 A _) fs_10_0 dX10_strike_2 (fun H locs hw => ?_)
  obtain ⟨M_1, hM_1⟩ : ∃ z : ti_M, z = uI M 60 0 0 := ⟨_, rfl⟩
  have hw := hw.to hM_1.symm
  have iM_1 : mI Tm M_1 := mI_uI hI hM_1 (by decide) (by decide) trivial
  have v_2 : (tI M_1 60 58).toInt = (tI M 60 58).toInt := by rw [tI_nE hM_1 (nk (by decide))]
  have v_3 : (tI M_1 60 59).toInt = (tI M 60 59).toInt := by rw [tI_nE hM_1 (nk (by decide))]
  refine lv_iload_n hx hb dX10_strike_5 rfl (lv_at hl 1 rfl) ?_
  refine sb_if_lt (tgt := 26) hx hb rfl dX10_strike_6 (by decide) (fun c_6_3 => ?_) (fun c_6_3 => ?_)
  · refine lv_iconst (v := (-1)) hx hb dX10_strike_26 (by decide) ?_
    exact hQ _ _ _ _ _ _ hw rfl (Or.inl ⟨by omega, by decide, mF_qw hF iM_1 (qw_I hM_1 (by decide)), (qw_I hM_1 (by decide)).2.1.1, (qw_I hM_1 (by decide)).1, (qy_I hM_1 (by decide))⟩) dX10_strike_27
  · refine lv_iload_n hx hb dX10_strike_9 rfl (lv_at hl 1 rfl) ?_
    refine lv_aload_n hx hb dX10_strike_10 rfl (lv_at hl 0 rfl) ?_
    refine ti_get (ci := 10) (k := 58) (N := 67) (T := TX10) C hw iw_10 rfl ob_60 (by decide) (by decide) fl_X10_310 rfl rfl dX10_strike_11 ?_
    refine lv_topi (fun x_5 ex_5 => ?_)
    have bx_5 : 0 ≤ x_5.toInt ∧ x_5.toInt ≤ 24 := mI_rd iM_1 ex_5
    have ux_5 : (tI M_1 60 58).toInt = x_5.toInt := by rw [ex_5]
    refine sb_icmp_ge (tgt := 26) hx hb rfl rfl dX10_strike_14 (by decide) (fun c_14_5 => ?_) (fun c_14_5 => ?_)
    · refine lv_iconst (v := (-1)) hx hb dX10_strike_26 (by decide) ?_
      exact hQ _ _ _ _ _ _ hw rfl (Or.inl ⟨by omega, by decide, mF_qw hF iM_1 (qw_I hM_1 (by decide)), (qw_I hM_1 (by decide)).2.1.1, (qw_I hM_1 (by decide)).1, (qy_I hM_1 (by decide))⟩) dX10_strike_27
    · refine lv_aload_n hx hb dX10_strike_17 rfl (lv_at hl 0 rfl) ?_
      refine ti_get (ci := 10) (k := 58) (N := 67) (T := TX10) C hw iw_10 rfl ob_60 (by decide) (by decide) fl_X10_310 rfl rfl dX10_strike_18 ?_
      refine ti_top (y := x_5) (ex_5.symm) ?_
      have u_7 : (tI M_1 60 58).toInt = (x_5 : Int32).toInt := by rw [(ex_5.symm)]
      refine lv_bipush (v := 24) hx hb dX10_strike_21 (by decide) ?_
      refine sb_icmp_ne (tgt := 28) hx hb rfl (by decide : (24 : Int32).toInt = 24) dX10_strike_23 (by decide) (fun c_23_7 => ?_) (fun c_23_7 => ?_)
      · refine lv_aload_n hx hb dX10_strike_28 rfl (lv_at hl 0 rfl) ?_
        refine ti_get (ci := 10) (k := 63) (N := 67) (T := TX10) (v := .ref (A 60 64)) C hw iw_10 rfl ob_60 (by decide) (by decide) fl_X10_144 rfl rfl dX10_strike_29 ?_
        refine lv_aload_n hx hb dX10_strike_32 rfl (lv_at hl 0 rfl) ?_
        refine ti_get (ci := 10) (k := 58) (N := 67) (T := TX10) C hw iw_10 rfl ob_60 (by decide) (by decide) fl_X10_310 rfl rfl dX10_strike_33 ?_
        refine ti_top (y := x_5) (ex_5.symm) ?_
        have u_9 : (tI M_1 60 58).toInt = (x_5 : Int32).toInt := by rw [(ex_5.symm)]
        refine lv_iload_n hx hb dX10_strike_36 rfl (lv_at hl 1 rfl) ?_
        refine ti_iast (ci := 10) (k := 63) (n := 24) C hw ob_60 (by decide) (fun _ _ => rfl) (vp_in_iff.mpr (by omega)) dX10_strike_37 (fun H locs hw => ?_)
        obtain ⟨M_10, hM_10⟩ : ∃ z : ti_M, z = uY M_1 60 63 (upd (tY M_1 60 63) (x_5 : Int32).toNatClampNeg z1) := ⟨_, rfl⟩
        have hw := hw.to hM_10.symm
        have iM_10 : mI (mG M_10) M_10 := mI_ry2 (i := x_5.toNatClampNeg) iM_1 hM_10 (ib_mk (lo := (-1)) (hi := 23) (by omega) (by omega))
        have v_11 : (tI M_10 60 58).toInt = (tI M_1 60 58).toInt := by rw [tI_uYE hM_10]
        have v_12 : (tI M_10 60 59).toInt = (tI M_1 60 59).toInt := by rw [tI_uYE hM_10]
        refine lv_aload_n hx hb dX10_strike_38 rfl (lv_at hl 0 rfl) ?_
        refine lv_dup hx hb dX10_strike_39 rfl ?_
        refine ti_get (ci := 10) (k := 58) (N := 67) (T := TX10) C hw iw_10 rfl ob_60 (by decide) (by decide) fl_X10_310 rfl rfl dX10_strike_40 ?_
        refine ti_top (y := x_5) ((tI_uYE hM_10).trans ex_5.symm) ?_
        have u_13 : (tI M_10 60 58).toInt = (x_5 : Int32).toInt := by rw [((tI_uYE hM_10).trans ex_5.symm)]
        refine lv_iconst (v := 1) hx hb dX10_strike_43 (by decide) ?_
        refine lv_iadd hx hb dX10_strike_44 ?_
        refine lv_topi (fun x_14 ex_14 => ?_)
        have tx_14 : x_14.toInt = x_5.toInt + 1 := i_add ex_14 rfl (by decide : (1 : Int32).toInt = 1) (by omega) (by omega)
        refine ti_putI (ci := 10) (k := 58) (N := 67) (T := TX10) C hw iw_10 tyX10 tyX10_ok nmX10 rfl ob_60 (by decide) (by decide) fl_X10_310 rfl rfl rfl rfl (fn_10 A _) fs_10_58 dX10_strike_45 (fun H locs hw => ?_)
        obtain ⟨M_15, hM_15⟩ : ∃ z : ti_M, z = uI M_10 60 58 x_14 := ⟨_, rfl⟩
        have hw := hw.to hM_15.symm
        have iM_15 : mI (mG M_15) M_15 := mI_ls iM_10 hM_15 (Or.inl rfl) (ib_mk (lo := 0) (hi := 24) (by omega) (by omega))
        have vM_15 : (tI M_15 60 58).toInt = (x_14 : Int32).toInt := by rw [tI_uE hM_15]
        have v_16 : (tI M_15 60 58).toInt = (x_14 : Int32).toInt := by rw [tI_uE hM_15]
        have v_17 : (tI M_15 60 59).toInt = (tI M_10 60 59).toInt := by rw [tI_nE hM_15 (nk (by decide))]
        refine lv_aload_n hx hb dX10_strike_48 rfl (lv_at hl 0 rfl) ?_
        refine ti_get (ci := 10) (k := 58) (N := 67) (T := TX10) C hw iw_10 rfl ob_60 (by decide) (by decide) fl_X10_310 rfl rfl dX10_strike_49 ?_
        refine ti_top (y := x_14) (tI_uE hM_15) ?_
        have u_18 : (tI M_15 60 58).toInt = (x_14 : Int32).toInt := by rw [(tI_uE hM_15)]
        refine lv_iconst (v := 1) hx hb dX10_strike_52 (by decide) ?_
        refine lv_isub hx hb dX10_strike_53 ?_
        refine lv_topi (fun x_19 ex_19 => ?_)
        have tx_19 : x_19.toInt = x_14.toInt - 1 := i_sub ex_19 rfl (by decide : (1 : Int32).toInt = 1) (by omega) (by omega)
        exact hQ _ _ _ _ _ _ hw rfl (Or.inr ⟨by omega, by omega, mF_self (mF_qx hF iM_15 (qw.trans (qw_I hM_15 (by decide)) (qw.trans (qw_Y hM_10 (by decide)) (qw_I hM_1 (by decide))))), (qw.trans (qw_I hM_15 (by decide)) (qw.trans (qw_Y hM_10 (by decide)) (qw_I hM_1 (by decide)))).2.1.1, (qw.trans (qw_I hM_15 (by decide)) (qw.trans (qw_Y hM_10 (by decide)) (qw_I hM_1 (by decide)))).1, ((tY_uIE hM_15).trans ((tY_nE hM_10 (nk (by decide))).trans (tY_uIE hM_1))), ((tI_nE hM_15 (nk (by decide))).trans ((tI_uYE hM_10).trans (tI_nE hM_1 (nk (by decide))))), ((tI_nE hM_15 (nk (by decide))).trans ((tI_uYE hM_10).trans (tI_nE hM_1 (nk (by decide))))), (qy.trans (qy_I hM_15 (by decide)) (qy.trans (qy_Y hM_10 (by decide)) (qy_I hM_1 (by decide)))), (by rw [(tI_uE hM_15)]; omega), ((tI_nE hM_15 (nk (by decide))).trans ((tI_uYE hM_10).trans (tI_nE hM_1 (nk (by decide)))))⟩) dX10_strike_54
      · refine lv_iconst (v := (-1)) hx hb dX10_strike_26 (by decide) ?_
        exact hQ _ _ _ _ _ _ hw rfl (Or.inl ⟨by omega, by decide, mF_qw hF iM_1 (qw_I hM_1 (by decide)), (qw_I hM_1 (by decide)).2.1.1, (qw_I hM_1 (by decide)).1, (qy_I hM_1 (by decide))⟩) dX10_strike_27
set_option maxHeartbeats 4000000 in
set_option maxRecDepth 100000 in
theorem w_X10_known (l : Launch) (D : va_G) (A : Nat → Nat → Nat) (cy : Nat → ClassId) (hJ : ti_inj ti_LM A) (M : ti_M) (hI : mI Tm M) (hF : mF Tm M) (z1 : Int32) (rg : Nat → Int) (htd : tdR M rg) : ti_Ki l yX10_known cX10_known 2 (some .boolean) 0 ti_LM D A cy M [.ref (A 60 0), .int z1] (fun r M2 => ((z1.toInt < -1 ∨ (tI M 60 58).toInt < z1.toInt) ∧ r.toInt = 0 ∧ mF Tm M2 ∧ tI M2 60 2 = tI M 60 2 ∧ lw M2 M ∧ qy M2 M) ∨ (¬ (z1.toInt < -1 ∨ (tI M 60 58).toInt < z1.toInt) ∧ r.toInt = 1 ∧ mF (mG M2) M2 ∧ tI M2 60 2 = tI M 60 2 ∧ lw M2 M ∧ tY M2 60 1 = tY M 60 1 ∧ tI M2 60 27 = tI M 60 27 ∧ tI M2 60 28 = tI M 60 28 ∧ qy M2 M ∧ tI M2 60 58 = tI M 60 58 ∧ tI M2 60 59 = z1)) := by
  refine ti_eI yp_X10_known hJ ti_LM_nd (Nat.le_of_ble_eq_true rfl) ?_
  intro p e s m args below meth c Q H0 C hQ hw ls hl
  have hx := C.1
  have hb := C.2.1
  have hl : lv_has ls 2 [(0, .ref (A 60 0)), (1, .int z1)] := hl
  have hL : mL M := hF.2.1
  have hC0 : mC M 0 := hF.2.2.1.1
  have hP0 : mP M 0 := hF.2.2.1.2
  have h7 := htd.1
  refine lv_aload_n hx hb dX10_known_0 rfl (lv_at hl 0 rfl) ?_
  refine lv_iconst (v := 0) hx hb dX10_known_1 (by decide) ?_
  refine ti_putI (ci := 10) (k := 0) (N := 67) (T := TX10) C hw iw_10 tyX10 tyX10_ok nmX10 rfl ob_60 (by decide) (by decide) fl_X10_154 rfl rfl rfl rfl (fn_10 A _) fs_10_0 dX10_known_2 (fun H locs hw => ?_)
  obtain ⟨M_1, hM_1⟩ : ∃ z : ti_M, z = uI M 60 0 0 := ⟨_, rfl⟩
  have hw := hw.to hM_1.symm
  have iM_1 : mI Tm M_1 := mI_uI hI hM_1 (by decide) (by decide) trivial
  have v_2 : (tI M_1 60 58).toInt = (tI M 60 58).toInt := by rw [tI_nE hM_1 (nk (by decide))]
  have v_3 : (tI M_1 60 59).toInt = (tI M 60 59).toInt := by rw [tI_nE hM_1 (nk (by decide))]
  refine lv_iload_n hx hb dX10_known_5 rfl (lv_at hl 1 rfl) ?_
  refine lv_iconst (v := (-1)) hx hb dX10_known_6 (by decide) ?_
  refine sb_icmp_lt (tgt := 18) hx hb rfl (by decide : ((-1) : Int32).toInt = (-1)) dX10_known_7 (by decide) (fun c_7_3 => ?_) (fun c_7_3 => ?_)
  · refine lv_iconst (v := 0) hx hb dX10_known_18 (by decide) ?_
    exact hQ _ _ _ _ _ _ hw rfl (Or.inl ⟨by omega, by decide, mF_qw hF iM_1 (qw_I hM_1 (by decide)), (qw_I hM_1 (by decide)).2.1.1, (qw_I hM_1 (by decide)).1, (qy_I hM_1 (by decide))⟩) dX10_known_19
  · refine lv_iload_n hx hb dX10_known_10 rfl (lv_at hl 1 rfl) ?_
    refine lv_aload_n hx hb dX10_known_11 rfl (lv_at hl 0 rfl) ?_
    refine ti_get (ci := 10) (k := 58) (N := 67) (T := TX10) C hw iw_10 rfl ob_60 (by decide) (by decide) fl_X10_310 rfl rfl dX10_known_12 ?_
    refine lv_topi (fun x_5 ex_5 => ?_)
    have bx_5 : 0 ≤ x_5.toInt ∧ x_5.toInt ≤ 24 := mI_rd iM_1 ex_5
    have ux_5 : (tI M_1 60 58).toInt = x_5.toInt := by rw [ex_5]
    refine sb_icmp_le (tgt := 20) hx hb rfl rfl dX10_known_15 (by decide) (fun c_15_5 => ?_) (fun c_15_5 => ?_)
    · refine lv_aload_n hx hb dX10_known_20 rfl (lv_at hl 0 rfl) ?_
      refine lv_iload_n hx hb dX10_known_21 rfl (lv_at hl 1 rfl) ?_
      refine ti_putI (ci := 10) (k := 59) (N := 67) (T := TX10) C hw iw_10 tyX10 tyX10_ok nmX10 rfl ob_60 (by decide) (by decide) fl_X10_132 rfl rfl rfl rfl (fn_10 A _) fs_10_59 dX10_known_22 (fun H locs hw => ?_)
      obtain ⟨M_7, hM_7⟩ : ∃ z : ti_M, z = uI M_1 60 59 z1 := ⟨_, rfl⟩
      have hw := hw.to hM_7.symm
      have iM_7 : mI (mG M_7) M_7 := mI_ls iM_1 hM_7 (Or.inr rfl) (ib_mk (lo := (-1)) (hi := 24) (by omega) (by omega))
      have vM_7 : (tI M_7 60 59).toInt = (z1 : Int32).toInt := by rw [tI_uE hM_7]
      have v_8 : (tI M_7 60 58).toInt = (tI M_1 60 58).toInt := by rw [tI_nE hM_7 (nk (by decide))]
      have v_9 : (tI M_7 60 59).toInt = (z1 : Int32).toInt := by rw [tI_uE hM_7]
      refine lv_iconst (v := 1) hx hb dX10_known_25 (by decide) ?_
      exact hQ _ _ _ _ _ _ hw rfl (Or.inr ⟨by omega, by decide, mF_self (mF_qx hF iM_7 (qw.trans (qw_I hM_7 (by decide)) (qw_I hM_1 (by decide)))), (qw.trans (qw_I hM_7 (by decide)) (qw_I hM_1 (by decide))).2.1.1, (qw.trans (qw_I hM_7 (by decide)) (qw_I hM_1 (by decide))).1, ((tY_uIE hM_7).trans (tY_uIE hM_1)), ((tI_nE hM_7 (nk (by decide))).trans (tI_nE hM_1 (nk (by decide)))), ((tI_nE hM_7 (nk (by decide))).trans (tI_nE hM_1 (nk (by decide)))), (qy.trans (qy_I hM_7 (by decide)) (qy_I hM_1 (by decide))), ((tI_nE hM_7 (nk (by decide))).trans (tI_nE hM_1 (nk (by decide)))), (by rw [(tI_uE hM_7)])⟩) dX10_known_26
    · refine lv_iconst (v := 0) hx hb dX10_known_18 (by decide) ?_
      exact hQ _ _ _ _ _ _ hw rfl (Or.inl ⟨by omega, by decide, mF_qw hF iM_1 (qw_I hM_1 (by decide)), (qw_I hM_1 (by decide)).2.1.1, (qw_I hM_1 (by decide)).1, (qy_I hM_1 (by decide))⟩) dX10_known_19
set_option maxHeartbeats 4000000 in
set_option maxRecDepth 100000 in
theorem w_X10_feed (l : Launch) (D : va_G) (A : Nat → Nat → Nat) (cy : Nat → ClassId) (hJ : ti_inj ti_LM A) (M : ti_M) (hI : mJ M) (hF : mF Tm M) (z1 : Int32) (z2 : Int32) (z3 : Int32) (z4 : Int32) (z5 : Int32) : ti_Ki l yX10_feed cX10_feed 8 (some .int) 0 ti_LM D A cy M [.ref (A 60 0), .int z1, .int z2, .int z3, .int z4, .int z5] (fun r M2 => ((680 < (tI M 60 2).toInt ∧ r.toInt = -1 ∧ mF (mG M2) M2 ∧ tI M2 60 2 = tI M 60 2 ∧ tY M2 60 1 = tY M 60 1 ∧ tI M2 60 27 = tI M 60 27 ∧ tI M2 60 28 = tI M 60 28 ∧ tI M2 60 58 = tI M 60 58 ∧ tI M2 60 59 = tI M 60 59) ∨ ((tI M 60 2).toInt ≤ 680 ∧ r.toInt = (tI M 60 2).toInt + 20 ∧ mF (mG M2) M2 ∧ (tI M2 60 2).toInt = (tI M 60 2).toInt + 20 ∧ (∀ i : Nat, (i : Int) < (tI M 60 2).toInt → tY M2 60 1 i = tY M 60 1 i) ∧ (∀ j : Nat, j < 20 → (tY M2 60 1 ((tI M 60 2).toInt.toNat + j)).toInt = pp_fb z1 z2 z3 z4 z5 j) ∧ tI M2 60 27 = tI M 60 27 ∧ tI M2 60 28 = tI M 60 28 ∧ tI M2 60 58 = tI M 60 58 ∧ tI M2 60 59 = tI M 60 59)) ∧ lw M2 M ∧ qy M2 M) := by
  refine ti_eI yp_X10_feed hJ ti_LM_nd (Nat.le_of_ble_eq_true rfl) ?_
  intro p e s m args below meth c Q H0 C hQ hw ls hl
  have hx := C.1
  have hb := C.2.1
  have hl : lv_has ls 8 [(0, .ref (A 60 0)), (1, .int z1), (2, .int z2), (3, .int z3), (4, .int z4), (5, .int z5)] := hl
  refine lv_aload_n hx hb dX10_feed_0 rfl (lv_at hl 0 rfl) ?_
  refine lv_iconst (v := 0) hx hb dX10_feed_1 (by decide) ?_
  refine ti_putI (ci := 10) (k := 0) (N := 67) (T := TX10) C hw iw_10 tyX10 tyX10_ok nmX10 rfl ob_60 (by decide) (by decide) fl_X10_154 rfl rfl rfl rfl (fn_10 A _) fs_10_0 dX10_feed_2 (fun H locs hw => ?_)
  obtain ⟨M_1, hM_1⟩ : ∃ z : ti_M, z = uI M 60 0 0 := ⟨_, rfl⟩
  have hw := hw.to hM_1.symm
  have iM_1 : mJ M_1 := mI_self (mI_uI hI hM_1 (by decide) (by decide) trivial)
  refine lv_aload_n hx hb dX10_feed_5 rfl (lv_at hl 0 rfl) ?_
  refine ti_get (ci := 10) (k := 2) (N := 67) (T := TX10) C hw iw_10 rfl ob_60 (by decide) (by decide) fl_X10_157 rfl rfl dX10_feed_6 ?_
  refine lv_topi (fun x_2 ex_2 => ?_)
  have bx_2 : 0 ≤ x_2.toInt ∧ x_2.toInt ≤ 700 := mI_rd iM_1 ex_2
  have ux_2 : (tI M_1 60 2).toInt = x_2.toInt := by rw [ex_2]
  refine lv_sipush (v := 680) hx hb dX10_feed_9 (by decide) ?_
  refine sb_icmp_le (tgt := 17) hx hb rfl (by decide : (680 : Int32).toInt = 680) dX10_feed_12 (by decide) (fun c_12_2 => ?_) (fun c_12_2 => ?_)
  · refine lv_iconst (v := 0) hx hb dX10_feed_17 (by decide) ?_
    refine lv_istore (lv' := [(6, .int 0), (0, .ref (A 60 0)), (1, .int z1), (2, .int z2), (3, .int z3), (4, .int z4), (5, .int z5)]) hx hb dX10_feed_18 hl (by decide) rfl (fun ls hl => ?_)
    have hl_20_16 : ∀ (n_17 : Nat) (x_4 : Int32) (M_7 : ti_M) (H : Heap) (locs : List Loc) (ls : Array Slot), (20 - x_4.toInt : Int).toNat < n_17 → (0 ≤ x_4.toInt) → (x_4.toInt ≤ 20) → (mJ M_7) → (qw M_7 M) → (qy M_7 M) → (tI M_7 60 27 = tI M 60 27) → (tI M_7 60 28 = tI M 60 28) → (tI M_7 60 58 = tI M 60 58) → (tI M_7 60 59 = tI M 60 59) → (tI M_7 60 2 = x_2) → (∀ i : Nat, (i : Int) < (tI M 60 2).toInt → tY M_7 60 1 i = tY M 60 1 i) → (∀ j : Nat, (j : Int) < x_4.toInt → (tY M_7 60 1 ((tI M 60 2).toInt.toNat + j)).toInt = pp_fb z1 z2 z3 z4 z5 j) → ti_H ti_LM D A cy H0 M_7 H locs → lv_has ls 8 [(6, .int x_4), (0, .ref (A 60 0)), (1, .int z1), (2, .int z2), (3, .int z3), (4, .int z4), (5, .int z5)] → W p l e (ti_rm 0) s m args below meth c H locs 0 0 Q (F0 m 20 ls []) := by
      intro n_17
      induction n_17 with
      | zero => intro x_4 M_7 H locs ls hf_17; exact absurd hf_17 (Nat.not_lt_zero _)
      | succ n_17 ih_17 =>
        intro x_4 M_7 H locs ls hf_17 b_5 b_6 iM_7 f_8 f_9 f_10 f_11 f_12 f_13 f_14 j_15 j_16 hw hl
        have v_18 : (tI M_7 60 2).toInt = (tI M 60 2).toInt := by rw [f_8.2.1.1]
        refine lv_iload hx hb dX10_feed_20 (lv_at hl 0 rfl) ?_
        refine lv_bipush (v := 20) hx hb dX10_feed_22 (by decide) ?_
        refine sb_icmp_ge (tgt := 110) hx hb rfl (by decide : (20 : Int32).toInt = 20) dX10_feed_24 (by decide) (fun c_24_18 => ?_) (fun c_24_18 => ?_)
        · refine lv_aload_n hx hb dX10_feed_110 rfl (lv_at hl 1 rfl) ?_
          refine lv_dup hx hb dX10_feed_111 rfl ?_
          refine ti_get (ci := 10) (k := 2) (N := 67) (T := TX10) C hw iw_10 rfl ob_60 (by decide) (by decide) fl_X10_157 rfl rfl dX10_feed_112 ?_
          refine ti_top (y := x_2) (f_14) ?_
          have u_69 : (tI M_7 60 2).toInt = (x_2 : Int32).toInt := by rw [(f_14)]
          refine lv_bipush (v := 20) hx hb dX10_feed_115 (by decide) ?_
          refine lv_iadd hx hb dX10_feed_117 ?_
          refine lv_topi (fun x_70 ex_70 => ?_)
          have tx_70 : x_70.toInt = x_2.toInt + 20 := i_add ex_70 rfl (by decide : (20 : Int32).toInt = 20) (by omega) (by omega)
          refine ti_putI (ci := 10) (k := 2) (N := 67) (T := TX10) C hw iw_10 tyX10 tyX10_ok nmX10 rfl ob_60 (by decide) (by decide) fl_X10_157 rfl rfl rfl rfl (fn_10 A _) fs_10_2 dX10_feed_118 (fun H locs hw => ?_)
          obtain ⟨M_71, hM_71⟩ : ∃ z : ti_M, z = uI M_7 60 2 x_70 := ⟨_, rfl⟩
          have hw := hw.to hM_71.symm
          have iM_71 : mJ M_71 := mI_self (mI_uI iM_7 hM_71 (by decide) (by decide) (ib_mk (lo := 0) (hi := 700) (by omega) (by omega)))
          have vM_71 : (tI M_71 60 2).toInt = (x_70 : Int32).toInt := by rw [tI_uE hM_71]
          refine lv_aload_n hx hb dX10_feed_121 rfl (lv_at hl 1 rfl) ?_
          refine ti_get (ci := 10) (k := 2) (N := 67) (T := TX10) C hw iw_10 rfl ob_60 (by decide) (by decide) fl_X10_157 rfl rfl dX10_feed_122 ?_
          refine ti_top (y := x_70) (tI_uE hM_71) ?_
          have u_72 : (tI M_71 60 2).toInt = (x_70 : Int32).toInt := by rw [(tI_uE hM_71)]
          exact hQ _ _ _ _ _ _ hw rfl (⟨(Or.inr ⟨by omega, by omega, mF_tp hF iM_7 f_8 iM_71 hM_71, by omega, (fun i hi => by rw [tY_uIE hM_71]; exact j_15 i hi), (fun j hj => by rw [tY_uIE hM_71]; exact j_16 j (by omega)), ((tI_nE hM_71 (nk (by decide))).trans f_10), ((tI_nE hM_71 (nk (by decide))).trans f_11), ((tI_nE hM_71 (nk (by decide))).trans f_12), ((tI_nE hM_71 (nk (by decide))).trans f_13)⟩), (fun k h1 h2 => (tY_uIE hM_71).trans (f_8.1 k h1 h2)), (qy.trans (qy_I hM_71 (by decide)) f_9)⟩) dX10_feed_125
        · refine lv_iload hx hb dX10_feed_27 (lv_at hl 0 rfl) ?_
          refine lv_iconst (v := 4) hx hb dX10_feed_29 (by decide) ?_
          refine sb_icmp_ge (tgt := 37) hx hb rfl (by decide : (4 : Int32).toInt = 4) dX10_feed_30 (by decide) (fun c_30_19 => ?_) (fun c_30_19 => ?_)
          · refine lv_iload hx hb dX10_feed_37 (lv_at hl 0 rfl) ?_
            refine lv_bipush (v := 8) hx hb dX10_feed_39 (by decide) ?_
            refine sb_icmp_ge (tgt := 48) hx hb rfl (by decide : (8 : Int32).toInt = 8) dX10_feed_41 (by decide) (fun c_41_20 => ?_) (fun c_41_20 => ?_)
            · refine lv_iload hx hb dX10_feed_48 (lv_at hl 0 rfl) ?_
              refine lv_bipush (v := 12) hx hb dX10_feed_50 (by decide) ?_
              refine sb_icmp_ge (tgt := 59) hx hb rfl (by decide : (12 : Int32).toInt = 12) dX10_feed_52 (by decide) (fun c_52_21 => ?_) (fun c_52_21 => ?_)
              · refine lv_iload hx hb dX10_feed_59 (lv_at hl 0 rfl) ?_
                refine lv_bipush (v := 16) hx hb dX10_feed_61 (by decide) ?_
                refine sb_icmp_ge (tgt := 71) hx hb rfl (by decide : (16 : Int32).toInt = 16) dX10_feed_63 (by decide) (fun c_63_22 => ?_) (fun c_63_22 => ?_)
                · refine lv_iload hx hb dX10_feed_71 (lv_at hl 6 rfl) ?_
                  refine lv_istore (lv' := [(7, .int z5), (6, .int x_4), (0, .ref (A 60 0)), (1, .int z1), (2, .int z2), (3, .int z3), (4, .int z4), (5, .int z5)]) hx hb dX10_feed_73 hl (by decide) rfl (fun ls hl => ?_)
                  refine lv_aload_n hx hb dX10_feed_75 rfl (lv_at hl 2 rfl) ?_
                  refine ti_get (ci := 10) (k := 1) (N := 67) (T := TX10) (v := .ref (A 60 2)) C hw iw_10 rfl ob_60 (by decide) (by decide) fl_X10_7 rfl rfl dX10_feed_76 ?_
                  refine lv_aload_n hx hb dX10_feed_79 rfl (lv_at hl 2 rfl) ?_
                  refine ti_get (ci := 10) (k := 2) (N := 67) (T := TX10) C hw iw_10 rfl ob_60 (by decide) (by decide) fl_X10_157 rfl rfl dX10_feed_80 ?_
                  refine ti_top (y := x_2) (f_14) ?_
                  have u_60 : (tI M_7 60 2).toInt = (x_2 : Int32).toInt := by rw [(f_14)]
                  refine lv_iload hx hb dX10_feed_83 (lv_at hl 1 rfl) ?_
                  refine lv_iadd hx hb dX10_feed_85 ?_
                  refine lv_topi (fun x_61 ex_61 => ?_)
                  have tx_61 : x_61.toInt = x_2.toInt + x_4.toInt := i_add ex_61 rfl rfl (by omega) (by omega)
                  refine lv_iload hx hb dX10_feed_86 (lv_at hl 0 rfl) ?_
                  refine lv_bipush (v := 24) hx hb dX10_feed_88 (by decide) ?_
                  refine lv_bipush (v := 8) hx hb dX10_feed_90 (by decide) ?_
                  refine lv_iload hx hb dX10_feed_92 (lv_at hl 1 rfl) ?_
                  refine lv_iconst (v := 4) hx hb dX10_feed_94 (by decide) ?_
                  refine lv_irem hx hb dX10_feed_95 (by decide) ?_
                  refine lv_topi (fun x_62 ex_62 => ?_)
                  have bx_62 := i_rem ex_62 rfl (by decide : (4 : Int32).toInt = 4) (by omega) (by decide)
                  refine lv_imul hx hb dX10_feed_96 ?_
                  refine lv_topi (fun x_63 ex_63 => ?_)
                  have tx_63 : x_63.toInt = 8 * x_62.toInt := i_mul ex_63 (by decide : (8 : Int32).toInt = 8) rfl (by omega) (by omega)
                  refine lv_isub hx hb dX10_feed_97 ?_
                  refine lv_topi (fun x_64 ex_64 => ?_)
                  have tx_64 : x_64.toInt = 24 - x_63.toInt := i_sub ex_64 (by decide : (24 : Int32).toInt = 24) rfl (by omega) (by omega)
                  refine lv_ishr hx hb dX10_feed_98 ?_
                  refine lv_topi (fun x_65 ex_65 => ?_)
                  refine lv_sipush (v := 255) hx hb dX10_feed_99 (by decide) ?_
                  refine lv_iand hx hb dX10_feed_102 ?_
                  refine lv_topi (fun x_66 ex_66 => ?_)
                  have bx_66 := i_and 8 ex_66 (by decide) (by decide)
                  refine ti_iast (ci := 10) (k := 1) (n := 700) C hw ob_60 (by decide) (fun _ _ => rfl) (vp_in_iff.mpr (by omega)) dX10_feed_103 (fun H locs hw => ?_)
                  obtain ⟨M_67, hM_67⟩ : ∃ z : ti_M, z = uY M_7 60 1 (upd (tY M_7 60 1) (x_61 : Int32).toNatClampNeg x_66) := ⟨_, rfl⟩
                  have hw := hw.to hM_67.symm
                  have iM_67 : mJ M_67 := mI_tp iM_7 hM_67 (fun j => by by_cases q : j = (x_61 : Int32).toNatClampNeg; (subst q; rw [pk_us]; exact ib_mk (lo := 0) (hi := 255) (by omega) (by omega)); (rw [pk_un q]; exact iM_7.2.1 1 j))
                  obtain ⟨x_68, ex_68⟩ : ∃ z : Int32, z = x_4 + 1 := ⟨_, rfl⟩
                  have tx_68 : x_68.toInt = x_4.toInt + 1 := i_add ex_68 rfl (by decide) (by omega) (by omega)
                  refine lv_iinc (v := x_68) (lv' := [(6, .int x_68), (7, .int z5), (0, .ref (A 60 0)), (1, .int z1), (2, .int z2), (3, .int z3), (4, .int z4), (5, .int z5)]) hx hb dX10_feed_104 hl (k := 1) rfl (by rw [ex_68]; rfl) (by decide) rfl (fun ls hl => ?_)
                  refine lv_goto (tgt := 20) hx hb dX10_feed_107 (by decide) ?_
                  exact ih_17 x_68 M_67 _ _ _ (by omega) (by first | omega | decide) (by first | omega | decide) iM_67 (qw.trans (qw_Y hM_67 (by decide)) f_8) (qy.trans (qy_Y hM_67 (by decide)) f_9) ((tI_uYE hM_67).trans f_10) ((tI_uYE hM_67).trans f_11) ((tI_uYE hM_67).trans f_12) ((tI_uYE hM_67).trans f_13) ((tI_uYE hM_67).trans f_14) (fun i hi => by rw [tY_uE hM_67, pk_un (show i ≠ (x_61 : Int32).toNatClampNeg by (show i ≠ (x_61 : Int32).toInt.toNat; omega))]; exact j_15 i hi) (fun j hj => by
      rw [tY_uE hM_67]
      by_cases q : j = x_4.toInt.toNat
      · rw [show (tI M 60 2).toInt.toNat + j = (x_61 : Int32).toNatClampNeg by (show _ = (x_61 : Int32).toInt.toNat; omega), pk_us]; subst q; exact pb_k (k := x_4.toInt.toNat) (by rw [if_neg (by omega), if_neg (by omega), if_neg (by omega), if_neg (by omega)]) ex_65 (by omega) ex_66
      · rw [pk_un (show (tI M 60 2).toInt.toNat + j ≠ (x_61 : Int32).toNatClampNeg by (show _ ≠ (x_61 : Int32).toInt.toNat; omega))]; exact j_16 j (by omega)) hw (lv_sub hl [0, 2, 3, 4, 5, 6, 7] rfl)
                · refine lv_iload hx hb dX10_feed_66 (lv_at hl 5 rfl) ?_
                  refine lv_goto (tgt := 73) hx hb dX10_feed_68 (by decide) ?_
                  refine lv_istore (lv' := [(7, .int z4), (6, .int x_4), (0, .ref (A 60 0)), (1, .int z1), (2, .int z2), (3, .int z3), (4, .int z4), (5, .int z5)]) hx hb dX10_feed_73 hl (by decide) rfl (fun ls hl => ?_)
                  refine lv_aload_n hx hb dX10_feed_75 rfl (lv_at hl 2 rfl) ?_
                  refine ti_get (ci := 10) (k := 1) (N := 67) (T := TX10) (v := .ref (A 60 2)) C hw iw_10 rfl ob_60 (by decide) (by decide) fl_X10_7 rfl rfl dX10_feed_76 ?_
                  refine lv_aload_n hx hb dX10_feed_79 rfl (lv_at hl 2 rfl) ?_
                  refine ti_get (ci := 10) (k := 2) (N := 67) (T := TX10) C hw iw_10 rfl ob_60 (by decide) (by decide) fl_X10_157 rfl rfl dX10_feed_80 ?_
                  refine ti_top (y := x_2) (f_14) ?_
                  have u_51 : (tI M_7 60 2).toInt = (x_2 : Int32).toInt := by rw [(f_14)]
                  refine lv_iload hx hb dX10_feed_83 (lv_at hl 1 rfl) ?_
                  refine lv_iadd hx hb dX10_feed_85 ?_
                  refine lv_topi (fun x_52 ex_52 => ?_)
                  have tx_52 : x_52.toInt = x_2.toInt + x_4.toInt := i_add ex_52 rfl rfl (by omega) (by omega)
                  refine lv_iload hx hb dX10_feed_86 (lv_at hl 0 rfl) ?_
                  refine lv_bipush (v := 24) hx hb dX10_feed_88 (by decide) ?_
                  refine lv_bipush (v := 8) hx hb dX10_feed_90 (by decide) ?_
                  refine lv_iload hx hb dX10_feed_92 (lv_at hl 1 rfl) ?_
                  refine lv_iconst (v := 4) hx hb dX10_feed_94 (by decide) ?_
                  refine lv_irem hx hb dX10_feed_95 (by decide) ?_
                  refine lv_topi (fun x_53 ex_53 => ?_)
                  have bx_53 := i_rem ex_53 rfl (by decide : (4 : Int32).toInt = 4) (by omega) (by decide)
                  refine lv_imul hx hb dX10_feed_96 ?_
                  refine lv_topi (fun x_54 ex_54 => ?_)
                  have tx_54 : x_54.toInt = 8 * x_53.toInt := i_mul ex_54 (by decide : (8 : Int32).toInt = 8) rfl (by omega) (by omega)
                  refine lv_isub hx hb dX10_feed_97 ?_
                  refine lv_topi (fun x_55 ex_55 => ?_)
                  have tx_55 : x_55.toInt = 24 - x_54.toInt := i_sub ex_55 (by decide : (24 : Int32).toInt = 24) rfl (by omega) (by omega)
                  refine lv_ishr hx hb dX10_feed_98 ?_
                  refine lv_topi (fun x_56 ex_56 => ?_)
                  refine lv_sipush (v := 255) hx hb dX10_feed_99 (by decide) ?_
                  refine lv_iand hx hb dX10_feed_102 ?_
                  refine lv_topi (fun x_57 ex_57 => ?_)
                  have bx_57 := i_and 8 ex_57 (by decide) (by decide)
                  refine ti_iast (ci := 10) (k := 1) (n := 700) C hw ob_60 (by decide) (fun _ _ => rfl) (vp_in_iff.mpr (by omega)) dX10_feed_103 (fun H locs hw => ?_)
                  obtain ⟨M_58, hM_58⟩ : ∃ z : ti_M, z = uY M_7 60 1 (upd (tY M_7 60 1) (x_52 : Int32).toNatClampNeg x_57) := ⟨_, rfl⟩
                  have hw := hw.to hM_58.symm
                  have iM_58 : mJ M_58 := mI_tp iM_7 hM_58 (fun j => by by_cases q : j = (x_52 : Int32).toNatClampNeg; (subst q; rw [pk_us]; exact ib_mk (lo := 0) (hi := 255) (by omega) (by omega)); (rw [pk_un q]; exact iM_7.2.1 1 j))
                  obtain ⟨x_59, ex_59⟩ : ∃ z : Int32, z = x_4 + 1 := ⟨_, rfl⟩
                  have tx_59 : x_59.toInt = x_4.toInt + 1 := i_add ex_59 rfl (by decide) (by omega) (by omega)
                  refine lv_iinc (v := x_59) (lv' := [(6, .int x_59), (7, .int z4), (0, .ref (A 60 0)), (1, .int z1), (2, .int z2), (3, .int z3), (4, .int z4), (5, .int z5)]) hx hb dX10_feed_104 hl (k := 1) rfl (by rw [ex_59]; rfl) (by decide) rfl (fun ls hl => ?_)
                  refine lv_goto (tgt := 20) hx hb dX10_feed_107 (by decide) ?_
                  exact ih_17 x_59 M_58 _ _ _ (by omega) (by first | omega | decide) (by first | omega | decide) iM_58 (qw.trans (qw_Y hM_58 (by decide)) f_8) (qy.trans (qy_Y hM_58 (by decide)) f_9) ((tI_uYE hM_58).trans f_10) ((tI_uYE hM_58).trans f_11) ((tI_uYE hM_58).trans f_12) ((tI_uYE hM_58).trans f_13) ((tI_uYE hM_58).trans f_14) (fun i hi => by rw [tY_uE hM_58, pk_un (show i ≠ (x_52 : Int32).toNatClampNeg by (show i ≠ (x_52 : Int32).toInt.toNat; omega))]; exact j_15 i hi) (fun j hj => by
      rw [tY_uE hM_58]
      by_cases q : j = x_4.toInt.toNat
      · rw [show (tI M 60 2).toInt.toNat + j = (x_52 : Int32).toNatClampNeg by (show _ = (x_52 : Int32).toInt.toNat; omega), pk_us]; subst q; exact pb_k (k := x_4.toInt.toNat) (by rw [if_neg (by omega), if_neg (by omega), if_neg (by omega), if_pos (by omega)]) ex_56 (by omega) ex_57
      · rw [pk_un (show (tI M 60 2).toInt.toNat + j ≠ (x_52 : Int32).toNatClampNeg by (show _ ≠ (x_52 : Int32).toInt.toNat; omega))]; exact j_16 j (by omega)) hw (lv_sub hl [0, 2, 3, 4, 5, 6, 7] rfl)
              · refine lv_iload_n hx hb dX10_feed_55 rfl (lv_at hl 4 rfl) ?_
                refine lv_goto (tgt := 73) hx hb dX10_feed_56 (by decide) ?_
                refine lv_istore (lv' := [(7, .int z3), (6, .int x_4), (0, .ref (A 60 0)), (1, .int z1), (2, .int z2), (3, .int z3), (4, .int z4), (5, .int z5)]) hx hb dX10_feed_73 hl (by decide) rfl (fun ls hl => ?_)
                refine lv_aload_n hx hb dX10_feed_75 rfl (lv_at hl 2 rfl) ?_
                refine ti_get (ci := 10) (k := 1) (N := 67) (T := TX10) (v := .ref (A 60 2)) C hw iw_10 rfl ob_60 (by decide) (by decide) fl_X10_7 rfl rfl dX10_feed_76 ?_
                refine lv_aload_n hx hb dX10_feed_79 rfl (lv_at hl 2 rfl) ?_
                refine ti_get (ci := 10) (k := 2) (N := 67) (T := TX10) C hw iw_10 rfl ob_60 (by decide) (by decide) fl_X10_157 rfl rfl dX10_feed_80 ?_
                refine ti_top (y := x_2) (f_14) ?_
                have u_42 : (tI M_7 60 2).toInt = (x_2 : Int32).toInt := by rw [(f_14)]
                refine lv_iload hx hb dX10_feed_83 (lv_at hl 1 rfl) ?_
                refine lv_iadd hx hb dX10_feed_85 ?_
                refine lv_topi (fun x_43 ex_43 => ?_)
                have tx_43 : x_43.toInt = x_2.toInt + x_4.toInt := i_add ex_43 rfl rfl (by omega) (by omega)
                refine lv_iload hx hb dX10_feed_86 (lv_at hl 0 rfl) ?_
                refine lv_bipush (v := 24) hx hb dX10_feed_88 (by decide) ?_
                refine lv_bipush (v := 8) hx hb dX10_feed_90 (by decide) ?_
                refine lv_iload hx hb dX10_feed_92 (lv_at hl 1 rfl) ?_
                refine lv_iconst (v := 4) hx hb dX10_feed_94 (by decide) ?_
                refine lv_irem hx hb dX10_feed_95 (by decide) ?_
                refine lv_topi (fun x_44 ex_44 => ?_)
                have bx_44 := i_rem ex_44 rfl (by decide : (4 : Int32).toInt = 4) (by omega) (by decide)
                refine lv_imul hx hb dX10_feed_96 ?_
                refine lv_topi (fun x_45 ex_45 => ?_)
                have tx_45 : x_45.toInt = 8 * x_44.toInt := i_mul ex_45 (by decide : (8 : Int32).toInt = 8) rfl (by omega) (by omega)
                refine lv_isub hx hb dX10_feed_97 ?_
                refine lv_topi (fun x_46 ex_46 => ?_)
                have tx_46 : x_46.toInt = 24 - x_45.toInt := i_sub ex_46 (by decide : (24 : Int32).toInt = 24) rfl (by omega) (by omega)
                refine lv_ishr hx hb dX10_feed_98 ?_
                refine lv_topi (fun x_47 ex_47 => ?_)
                refine lv_sipush (v := 255) hx hb dX10_feed_99 (by decide) ?_
                refine lv_iand hx hb dX10_feed_102 ?_
                refine lv_topi (fun x_48 ex_48 => ?_)
                have bx_48 := i_and 8 ex_48 (by decide) (by decide)
                refine ti_iast (ci := 10) (k := 1) (n := 700) C hw ob_60 (by decide) (fun _ _ => rfl) (vp_in_iff.mpr (by omega)) dX10_feed_103 (fun H locs hw => ?_)
                obtain ⟨M_49, hM_49⟩ : ∃ z : ti_M, z = uY M_7 60 1 (upd (tY M_7 60 1) (x_43 : Int32).toNatClampNeg x_48) := ⟨_, rfl⟩
                have hw := hw.to hM_49.symm
                have iM_49 : mJ M_49 := mI_tp iM_7 hM_49 (fun j => by by_cases q : j = (x_43 : Int32).toNatClampNeg; (subst q; rw [pk_us]; exact ib_mk (lo := 0) (hi := 255) (by omega) (by omega)); (rw [pk_un q]; exact iM_7.2.1 1 j))
                obtain ⟨x_50, ex_50⟩ : ∃ z : Int32, z = x_4 + 1 := ⟨_, rfl⟩
                have tx_50 : x_50.toInt = x_4.toInt + 1 := i_add ex_50 rfl (by decide) (by omega) (by omega)
                refine lv_iinc (v := x_50) (lv' := [(6, .int x_50), (7, .int z3), (0, .ref (A 60 0)), (1, .int z1), (2, .int z2), (3, .int z3), (4, .int z4), (5, .int z5)]) hx hb dX10_feed_104 hl (k := 1) rfl (by rw [ex_50]; rfl) (by decide) rfl (fun ls hl => ?_)
                refine lv_goto (tgt := 20) hx hb dX10_feed_107 (by decide) ?_
                exact ih_17 x_50 M_49 _ _ _ (by omega) (by first | omega | decide) (by first | omega | decide) iM_49 (qw.trans (qw_Y hM_49 (by decide)) f_8) (qy.trans (qy_Y hM_49 (by decide)) f_9) ((tI_uYE hM_49).trans f_10) ((tI_uYE hM_49).trans f_11) ((tI_uYE hM_49).trans f_12) ((tI_uYE hM_49).trans f_13) ((tI_uYE hM_49).trans f_14) (fun i hi => by rw [tY_uE hM_49, pk_un (show i ≠ (x_43 : Int32).toNatClampNeg by (show i ≠ (x_43 : Int32).toInt.toNat; omega))]; exact j_15 i hi) (fun j hj => by
      rw [tY_uE hM_49]
      by_cases q : j = x_4.toInt.toNat
      · rw [show (tI M 60 2).toInt.toNat + j = (x_43 : Int32).toNatClampNeg by (show _ = (x_43 : Int32).toInt.toNat; omega), pk_us]; subst q; exact pb_k (k := x_4.toInt.toNat) (by rw [if_neg (by omega), if_neg (by omega), if_pos (by omega)]) ex_47 (by omega) ex_48
      · rw [pk_un (show (tI M 60 2).toInt.toNat + j ≠ (x_43 : Int32).toNatClampNeg by (show _ ≠ (x_43 : Int32).toInt.toNat; omega))]; exact j_16 j (by omega)) hw (lv_sub hl [0, 2, 3, 4, 5, 6, 7] rfl)
            · refine lv_iload_n hx hb dX10_feed_44 rfl (lv_at hl 3 rfl) ?_
              refine lv_goto (tgt := 73) hx hb dX10_feed_45 (by decide) ?_
              refine lv_istore (lv' := [(7, .int z2), (6, .int x_4), (0, .ref (A 60 0)), (1, .int z1), (2, .int z2), (3, .int z3), (4, .int z4), (5, .int z5)]) hx hb dX10_feed_73 hl (by decide) rfl (fun ls hl => ?_)
              refine lv_aload_n hx hb dX10_feed_75 rfl (lv_at hl 2 rfl) ?_
              refine ti_get (ci := 10) (k := 1) (N := 67) (T := TX10) (v := .ref (A 60 2)) C hw iw_10 rfl ob_60 (by decide) (by decide) fl_X10_7 rfl rfl dX10_feed_76 ?_
              refine lv_aload_n hx hb dX10_feed_79 rfl (lv_at hl 2 rfl) ?_
              refine ti_get (ci := 10) (k := 2) (N := 67) (T := TX10) C hw iw_10 rfl ob_60 (by decide) (by decide) fl_X10_157 rfl rfl dX10_feed_80 ?_
              refine ti_top (y := x_2) (f_14) ?_
              have u_33 : (tI M_7 60 2).toInt = (x_2 : Int32).toInt := by rw [(f_14)]
              refine lv_iload hx hb dX10_feed_83 (lv_at hl 1 rfl) ?_
              refine lv_iadd hx hb dX10_feed_85 ?_
              refine lv_topi (fun x_34 ex_34 => ?_)
              have tx_34 : x_34.toInt = x_2.toInt + x_4.toInt := i_add ex_34 rfl rfl (by omega) (by omega)
              refine lv_iload hx hb dX10_feed_86 (lv_at hl 0 rfl) ?_
              refine lv_bipush (v := 24) hx hb dX10_feed_88 (by decide) ?_
              refine lv_bipush (v := 8) hx hb dX10_feed_90 (by decide) ?_
              refine lv_iload hx hb dX10_feed_92 (lv_at hl 1 rfl) ?_
              refine lv_iconst (v := 4) hx hb dX10_feed_94 (by decide) ?_
              refine lv_irem hx hb dX10_feed_95 (by decide) ?_
              refine lv_topi (fun x_35 ex_35 => ?_)
              have bx_35 := i_rem ex_35 rfl (by decide : (4 : Int32).toInt = 4) (by omega) (by decide)
              refine lv_imul hx hb dX10_feed_96 ?_
              refine lv_topi (fun x_36 ex_36 => ?_)
              have tx_36 : x_36.toInt = 8 * x_35.toInt := i_mul ex_36 (by decide : (8 : Int32).toInt = 8) rfl (by omega) (by omega)
              refine lv_isub hx hb dX10_feed_97 ?_
              refine lv_topi (fun x_37 ex_37 => ?_)
              have tx_37 : x_37.toInt = 24 - x_36.toInt := i_sub ex_37 (by decide : (24 : Int32).toInt = 24) rfl (by omega) (by omega)
              refine lv_ishr hx hb dX10_feed_98 ?_
              refine lv_topi (fun x_38 ex_38 => ?_)
              refine lv_sipush (v := 255) hx hb dX10_feed_99 (by decide) ?_
              refine lv_iand hx hb dX10_feed_102 ?_
              refine lv_topi (fun x_39 ex_39 => ?_)
              have bx_39 := i_and 8 ex_39 (by decide) (by decide)
              refine ti_iast (ci := 10) (k := 1) (n := 700) C hw ob_60 (by decide) (fun _ _ => rfl) (vp_in_iff.mpr (by omega)) dX10_feed_103 (fun H locs hw => ?_)
              obtain ⟨M_40, hM_40⟩ : ∃ z : ti_M, z = uY M_7 60 1 (upd (tY M_7 60 1) (x_34 : Int32).toNatClampNeg x_39) := ⟨_, rfl⟩
              have hw := hw.to hM_40.symm
              have iM_40 : mJ M_40 := mI_tp iM_7 hM_40 (fun j => by by_cases q : j = (x_34 : Int32).toNatClampNeg; (subst q; rw [pk_us]; exact ib_mk (lo := 0) (hi := 255) (by omega) (by omega)); (rw [pk_un q]; exact iM_7.2.1 1 j))
              obtain ⟨x_41, ex_41⟩ : ∃ z : Int32, z = x_4 + 1 := ⟨_, rfl⟩
              have tx_41 : x_41.toInt = x_4.toInt + 1 := i_add ex_41 rfl (by decide) (by omega) (by omega)
              refine lv_iinc (v := x_41) (lv' := [(6, .int x_41), (7, .int z2), (0, .ref (A 60 0)), (1, .int z1), (2, .int z2), (3, .int z3), (4, .int z4), (5, .int z5)]) hx hb dX10_feed_104 hl (k := 1) rfl (by rw [ex_41]; rfl) (by decide) rfl (fun ls hl => ?_)
              refine lv_goto (tgt := 20) hx hb dX10_feed_107 (by decide) ?_
              exact ih_17 x_41 M_40 _ _ _ (by omega) (by first | omega | decide) (by first | omega | decide) iM_40 (qw.trans (qw_Y hM_40 (by decide)) f_8) (qy.trans (qy_Y hM_40 (by decide)) f_9) ((tI_uYE hM_40).trans f_10) ((tI_uYE hM_40).trans f_11) ((tI_uYE hM_40).trans f_12) ((tI_uYE hM_40).trans f_13) ((tI_uYE hM_40).trans f_14) (fun i hi => by rw [tY_uE hM_40, pk_un (show i ≠ (x_34 : Int32).toNatClampNeg by (show i ≠ (x_34 : Int32).toInt.toNat; omega))]; exact j_15 i hi) (fun j hj => by
      rw [tY_uE hM_40]
      by_cases q : j = x_4.toInt.toNat
      · rw [show (tI M 60 2).toInt.toNat + j = (x_34 : Int32).toNatClampNeg by (show _ = (x_34 : Int32).toInt.toNat; omega), pk_us]; subst q; exact pb_k (k := x_4.toInt.toNat) (by rw [if_neg (by omega), if_pos (by omega)]) ex_38 (by omega) ex_39
      · rw [pk_un (show (tI M 60 2).toInt.toNat + j ≠ (x_34 : Int32).toNatClampNeg by (show _ ≠ (x_34 : Int32).toInt.toNat; omega))]; exact j_16 j (by omega)) hw (lv_sub hl [0, 2, 3, 4, 5, 6, 7] rfl)
          · refine lv_iload_n hx hb dX10_feed_33 rfl (lv_at hl 2 rfl) ?_
            refine lv_goto (tgt := 73) hx hb dX10_feed_34 (by decide) ?_
            refine lv_istore (lv' := [(7, .int z1), (6, .int x_4), (0, .ref (A 60 0)), (1, .int z1), (2, .int z2), (3, .int z3), (4, .int z4), (5, .int z5)]) hx hb dX10_feed_73 hl (by decide) rfl (fun ls hl => ?_)
            refine lv_aload_n hx hb dX10_feed_75 rfl (lv_at hl 2 rfl) ?_
            refine ti_get (ci := 10) (k := 1) (N := 67) (T := TX10) (v := .ref (A 60 2)) C hw iw_10 rfl ob_60 (by decide) (by decide) fl_X10_7 rfl rfl dX10_feed_76 ?_
            refine lv_aload_n hx hb dX10_feed_79 rfl (lv_at hl 2 rfl) ?_
            refine ti_get (ci := 10) (k := 2) (N := 67) (T := TX10) C hw iw_10 rfl ob_60 (by decide) (by decide) fl_X10_157 rfl rfl dX10_feed_80 ?_
            refine ti_top (y := x_2) (f_14) ?_
            have u_24 : (tI M_7 60 2).toInt = (x_2 : Int32).toInt := by rw [(f_14)]
            refine lv_iload hx hb dX10_feed_83 (lv_at hl 1 rfl) ?_
            refine lv_iadd hx hb dX10_feed_85 ?_
            refine lv_topi (fun x_25 ex_25 => ?_)
            have tx_25 : x_25.toInt = x_2.toInt + x_4.toInt := i_add ex_25 rfl rfl (by omega) (by omega)
            refine lv_iload hx hb dX10_feed_86 (lv_at hl 0 rfl) ?_
            refine lv_bipush (v := 24) hx hb dX10_feed_88 (by decide) ?_
            refine lv_bipush (v := 8) hx hb dX10_feed_90 (by decide) ?_
            refine lv_iload hx hb dX10_feed_92 (lv_at hl 1 rfl) ?_
            refine lv_iconst (v := 4) hx hb dX10_feed_94 (by decide) ?_
            refine lv_irem hx hb dX10_feed_95 (by decide) ?_
            refine lv_topi (fun x_26 ex_26 => ?_)
            have bx_26 := i_rem ex_26 rfl (by decide : (4 : Int32).toInt = 4) (by omega) (by decide)
            refine lv_imul hx hb dX10_feed_96 ?_
            refine lv_topi (fun x_27 ex_27 => ?_)
            have tx_27 : x_27.toInt = 8 * x_26.toInt := i_mul ex_27 (by decide : (8 : Int32).toInt = 8) rfl (by omega) (by omega)
            refine lv_isub hx hb dX10_feed_97 ?_
            refine lv_topi (fun x_28 ex_28 => ?_)
            have tx_28 : x_28.toInt = 24 - x_27.toInt := i_sub ex_28 (by decide : (24 : Int32).toInt = 24) rfl (by omega) (by omega)
            refine lv_ishr hx hb dX10_feed_98 ?_
            refine lv_topi (fun x_29 ex_29 => ?_)
            refine lv_sipush (v := 255) hx hb dX10_feed_99 (by decide) ?_
            refine lv_iand hx hb dX10_feed_102 ?_
            refine lv_topi (fun x_30 ex_30 => ?_)
            have bx_30 := i_and 8 ex_30 (by decide) (by decide)
            refine ti_iast (ci := 10) (k := 1) (n := 700) C hw ob_60 (by decide) (fun _ _ => rfl) (vp_in_iff.mpr (by omega)) dX10_feed_103 (fun H locs hw => ?_)
            obtain ⟨M_31, hM_31⟩ : ∃ z : ti_M, z = uY M_7 60 1 (upd (tY M_7 60 1) (x_25 : Int32).toNatClampNeg x_30) := ⟨_, rfl⟩
            have hw := hw.to hM_31.symm
            have iM_31 : mJ M_31 := mI_tp iM_7 hM_31 (fun j => by by_cases q : j = (x_25 : Int32).toNatClampNeg; (subst q; rw [pk_us]; exact ib_mk (lo := 0) (hi := 255) (by omega) (by omega)); (rw [pk_un q]; exact iM_7.2.1 1 j))
            obtain ⟨x_32, ex_32⟩ : ∃ z : Int32, z = x_4 + 1 := ⟨_, rfl⟩
            have tx_32 : x_32.toInt = x_4.toInt + 1 := i_add ex_32 rfl (by decide) (by omega) (by omega)
            refine lv_iinc (v := x_32) (lv' := [(6, .int x_32), (7, .int z1), (0, .ref (A 60 0)), (1, .int z1), (2, .int z2), (3, .int z3), (4, .int z4), (5, .int z5)]) hx hb dX10_feed_104 hl (k := 1) rfl (by rw [ex_32]; rfl) (by decide) rfl (fun ls hl => ?_)
            refine lv_goto (tgt := 20) hx hb dX10_feed_107 (by decide) ?_
            exact ih_17 x_32 M_31 _ _ _ (by omega) (by first | omega | decide) (by first | omega | decide) iM_31 (qw.trans (qw_Y hM_31 (by decide)) f_8) (qy.trans (qy_Y hM_31 (by decide)) f_9) ((tI_uYE hM_31).trans f_10) ((tI_uYE hM_31).trans f_11) ((tI_uYE hM_31).trans f_12) ((tI_uYE hM_31).trans f_13) ((tI_uYE hM_31).trans f_14) (fun i hi => by rw [tY_uE hM_31, pk_un (show i ≠ (x_25 : Int32).toNatClampNeg by (show i ≠ (x_25 : Int32).toInt.toNat; omega))]; exact j_15 i hi) (fun j hj => by
      rw [tY_uE hM_31]
      by_cases q : j = x_4.toInt.toNat
      · rw [show (tI M 60 2).toInt.toNat + j = (x_25 : Int32).toNatClampNeg by (show _ = (x_25 : Int32).toInt.toNat; omega), pk_us]; subst q; exact pb_k (k := x_4.toInt.toNat) (by rw [if_pos (by omega)]) ex_29 (by omega) ex_30
      · rw [pk_un (show (tI M 60 2).toInt.toNat + j ≠ (x_25 : Int32).toNatClampNeg by (show _ ≠ (x_25 : Int32).toInt.toNat; omega))]; exact j_16 j (by omega)) hw (lv_sub hl [0, 2, 3, 4, 5, 6, 7] rfl)
    exact hl_20_16 ((20 - 0 : Int).toNat + 1) 0 M_1 _ _ _ (Nat.lt_succ_self _) (by have lt0 : (0 : Int32).toInt = 0 := (by decide); first | omega | decide) (by have lt0 : (0 : Int32).toInt = 0 := (by decide); first | omega | decide) iM_1 (qw_I hM_1 (by decide)) (qy_I hM_1 (by decide)) (tI_nE hM_1 (nk (by decide))) (tI_nE hM_1 (nk (by decide))) (tI_nE hM_1 (nk (by decide))) (tI_nE hM_1 (nk (by decide))) (ex_2.symm) (fun i _ => by rw [(tY_uIE hM_1)]) (fun j hj => absurd hj (by have z0 : (0 : Int32).toInt = 0 := (by decide); omega)) hw (lv_sub hl [0, 1, 2, 3, 4, 5, 6] rfl)
  · have e2 : (tI M_1 60 2).toInt = (tI M 60 2).toInt := congrArg Int32.toInt (tI_nE hM_1 (nk (by decide)))
    refine lv_iconst (v := (-1)) hx hb dX10_feed_15 (by decide) ?_
    exact hQ _ _ _ _ _ _ hw rfl (⟨(Or.inl ⟨by omega, by decide, mF_qx hF iM_1 (qw_I hM_1 (by decide)), (tI_nE hM_1 (nk (by decide))), (tY_uIE hM_1), (tI_nE hM_1 (nk (by decide))), (tI_nE hM_1 (nk (by decide))), (tI_nE hM_1 (nk (by decide))), (tI_nE hM_1 (nk (by decide)))⟩), (qw_I hM_1 (by decide)).1, (qy_I hM_1 (by decide))⟩) dX10_feed_16

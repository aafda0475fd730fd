variable {Tc : gC} {Tm : gM}
set_option maxHeartbeats 4000000 in
set_option maxRecDepth 100000 in
theorem z_X3_passTo (l : Launch) (D : va_G) (A : Nat → Nat → Nat) (cy : Nat → ClassId) (hJ : ti_inj ti_LT A) (M : ti_M) (hI : cI Tc M) (q t : Nat) (hq : ti_ob ti_LT q 3) (ht : t = 3 ∨ t = 4) (hT : tT M q 0 = some t) (un : Int32) (tx rg : Nat → Int) (htx : tC t tx M) (hs : qC q rg M) (hm : rg 1 = 0 ∨ rg 1 = 1 ∨ rg 1 = 3) (h2 : 0 ≤ rg 2) (h5 : 0 ≤ rg 5) (hnp : ¬ cPer q) : ti_Kv l yX3_passTo cX3_passTo 3 5 ti_LT D A cy M [.ref (A q 0), .int un] (fun M2 => cI Tc M2 ∧ M2.2.2.2 = M.2.2.2 ∧ eo q M2 M ∧ qC q (bq_pl tx (un.toInt - rg 2).toNat rg) M2) := by
  refine ti_eV yp_X3_passTo hJ ti_LT_nd (Nat.le_of_ble_eq_true rfl) ?_
  intro p e s m args below meth c Q H0 C hQ hw ls hl
  have hx := C.1
  have hb := C.2.1
  have hl : lv_has ls 3 [(0, .ref (A q 0)), (1, .int un)] := hl
  have hun := un.toInt_lt
  refine lv_aload_n hx hb dX3_passTo_0 rfl (lv_at hl 0 rfl) ?_
  refine ti_get (ci := 3) (k := 2) (N := 17) (T := TX3) C hw iw_3 rfl hq (by decide) (by decide) fl_X3_53 rfl rfl dX3_passTo_1 ?_
  refine lv_topi (fun x_1 ex_1 => ?_)
  have L_2 : rg 2 = x_1.toInt := ((hs.1 2 (by decide) (by decide)).trans (congrArg Int32.toInt (ex_1.symm))).trans rfl
  refine lv_istore_n (lv' := [(2, .int x_1), (0, .ref (A q 0)), (1, .int un)]) hx hb dX3_passTo_4 rfl hl (by decide) rfl (fun ls hl => ?_)
  have hl_5_13 : ∀ (n_14 : Nat) (x_3 : Int32) (M_4 : ti_M) (g_7 : Nat → Int) (H : Heap) (locs : List Loc) (ls : Array Slot), (un.toInt - x_3.toInt : Int).toNat < n_14 → (cI Tc M_4) → (M_4.2.2.2 = M.2.2.2) → (eo q M_4 M) → (qC q g_7 M_4) → (bq_pl tx ((un.toInt) - (x_3.toInt)).toNat g_7 = bq_pl tx (un.toInt - rg 2).toNat rg) → (g_7 2 = x_3.toInt) → (g_7 1 = rg 1) → (0 ≤ g_7 5) → (0 ≤ x_3.toInt) → ti_H ti_LT D A cy H0 M_4 H locs → lv_has ls 3 [(2, .int x_3), (0, .ref (A q 0)), (1, .int un)] → W p l e (ti_rm 5) s m args below meth c H locs 0 0 Q (F0 m 5 ls []) := by
    intro n_14
    induction n_14 with
    | zero => intro x_3 M_4 g_7 H locs ls hf_14; exact absurd hf_14 (Nat.not_lt_zero _)
    | succ n_14 ih_14 =>
      intro x_3 M_4 g_7 H locs ls hf_14 iM_4 f_5 f_6 hs_8 j_9 j_10 j_11 j_12 j_13 hw hl
      refine lv_iload_n hx hb dX3_passTo_5 rfl (lv_at hl 0 rfl) ?_
      refine lv_iload_n hx hb dX3_passTo_6 rfl (lv_at hl 2 rfl) ?_
      refine sb_icmp_ge (tgt := 20) hx hb rfl rfl dX3_passTo_7 (by decide) (fun c_7_14 => ?_) (fun c_7_14 => ?_)
      · exact hQ _ _ _ _ _ hw (⟨iM_4, (f_5), f_6, (by rw [← j_9, show (un.toInt - x_3.toInt).toNat = 0 by omega]; exact hs_8)⟩) dX3_passTo_20
      · refine lv_aload_n hx hb dX3_passTo_10 rfl (lv_at hl 1 rfl) ?_
        refine ti_callVv (ci := 3) (av := []) C hw (z_X3_pass l D A cy hJ M_4 iM_4 q t hq ht ((tT_fr f_5).trans hT) tx g_7 (tC_eo ht hq.1 htx f_6) hs_8 (by omega) (by omega) (by omega) (fun h => absurd h hnp)) ⟨ml_X3_140, ym_X3_pass, yv_X3_pass, yi_X3_pass, yc_X3_pass⟩ yd_X3_pass hq (by decide) rfl rfl hl.1 (Nat.le_of_ble_eq_true rfl) ⟨by decide, by decide⟩ ⟨Nat.zero_le _, Nat.zero_le _⟩ dX3_passTo_11 (fun M_17 H locs hp_17 hw => ?_)
        obtain ⟨iM_17, q_18, q_19, hs_20⟩ := hp_17
        obtain ⟨g_21, eg_21⟩ : ∃ z : Nat → Int, z = bq_ps tx g_7 := ⟨_, rfl⟩
        rw [← eg_21] at hs_20
        have w1g_21 : g_21 1 = g_7 1 := by rw [eg_21]; exact ps_1
        have w2g_21 : g_21 2 = g_7 2 + 1 := by rw [eg_21, ps_2, bw_id (by omega) (by omega)]
        have w5g_21 : 0 ≤ g_21 5 := by rw [eg_21]; exact ps_5 (by omega)
        obtain ⟨x_22, ex_22⟩ : ∃ z : Int32, z = x_3 + 1 := ⟨_, rfl⟩
        have lox_22 := x_3.le_toInt
        have hix_22 := x_3.toInt_lt
        have tx_22 : x_22.toInt = x_3.toInt + 1 := i_add ex_22 rfl (by decide) (by omega) (by omega)
        refine lv_iinc (v := x_22) (lv' := [(2, .int x_22), (0, .ref (A q 0)), (1, .int un)]) hx hb dX3_passTo_14 hl (k := 0) rfl (by rw [ex_22]; rfl) (by decide) rfl (fun ls hl => ?_)
        refine lv_goto (tgt := 5) hx hb dX3_passTo_17 (by decide) ?_
        exact ih_14 x_22 M_17 g_21 _ _ _ (by omega) iM_17 ((q_18).trans f_5) (eo.trans q_19 f_6) hs_20 (by rw [← j_9, pl_go (tx := tx) (s := g_7) (f := (un.toInt - x_3.toInt).toNat) (f' := (un.toInt - x_22.toInt).toNat) (by omega), ← eg_21]) (by first | omega | decide) (by first | omega | decide) (by first | omega | decide) (by first | omega | decide) hw (lv_sub hl [0, 1, 2] rfl)
  exact hl_5_13 ((un.toInt - x_1.toInt : Int).toNat + 1) x_1 M rg _ _ _ (Nat.lt_succ_self _) hI rfl eo.refl hs (by rw [show x_1.toInt = rg 2 by omega]) (by first | omega | decide) (by first | omega | decide) (by first | omega | decide) (by first | omega | decide) hw (lv_sub hl [0, 1, 2] rfl)
set_option maxHeartbeats 4000000 in
set_option maxRecDepth 100000 in
theorem z_X3_copy (l : Launch) (D : va_G) (A : Nat → Nat → Nat) (cy : Nat → ClassId) (hJ : ti_inj ti_LT A) (M : ti_M) (hI : cI Tc M) (q r t : Nat) (hq : ti_ob ti_LT q 3) (hr : ti_ob ti_LT r 3) (ht : t = 3 ∨ t = 4) (hT : tT M r 0 = some t) (hpr : cPer q → cPer r) (hqr : q ≠ r) (rs : Nat → Int) (hs : qC r rs M) : ti_Kv l yX3_copy cX3_copy 2 1 ti_LT D A cy M [.ref (A q 0), .ref (A r 0)] (fun M2 => cI Tc M2 ∧ M2.2.2.2 = (uT M q 0 (some t)).2.2.2 ∧ eo q M2 M ∧ qC q rs M2) := by
  refine ti_eV yp_X3_copy hJ ti_LT_nd (Nat.le_of_ble_eq_true rfl) ?_
  intro p e s m args below meth c Q H0 C hQ hw ls hl
  have hx := C.1
  have hb := C.2.1
  have hl : lv_has ls 2 [(0, .ref (A q 0)), (1, .ref (A r 0))] := hl
  refine lv_aload_n hx hb dX3_copy_0 rfl (lv_at hl 0 rfl) ?_
  refine lv_aload_n hx hb dX3_copy_1 rfl (lv_at hl 1 rfl) ?_
  refine ti_get (ci := 3) (k := 0) (N := 17) (T := TX3) (v := .ref (A t 0)) C hw iw_3 rfl hr (by decide) (by decide) fl_X3_45 rfl (ti_Tv (hT)) dX3_copy_2 ?_
  refine ti_putT (ci := 3) (k := 0) (N := 17) (T := TX3) C hw iw_3 tyX3 tyX3_ok nmX3 rfl hq (by decide) (by decide) fl_X3_45 rfl rfl rfl rfl (fn_3 A _) fs_3_0 dX3_copy_5 (fun H locs hw => ?_)
  obtain ⟨M_1, hM_1⟩ : ∃ z : ti_M, z = uT M q 0 (some t) := ⟨_, rfl⟩
  have hw := hw.to hM_1.symm
  have iM_1 : cI Tc M_1 := cI_uT hI hM_1
  refine lv_aload_n hx hb dX3_copy_8 rfl (lv_at hl 0 rfl) ?_
  refine lv_aload_n hx hb dX3_copy_9 rfl (lv_at hl 1 rfl) ?_
  refine ti_get (ci := 3) (k := 1) (N := 17) (T := TX3) C hw iw_3 rfl hr (by decide) (by decide) fl_X3_49 rfl rfl dX3_copy_10 ?_
  refine lv_topi (fun x_2 ex_2 => ?_)
  have L1 : rs 1 = (x_2 : Int32).toInt := (hs.1 1 (by decide) (by decide)).trans (congrArg Int32.toInt (((tI_uTE hM_1)).symm.trans ex_2.symm))
  refine ti_putI (ci := 3) (k := 1) (N := 17) (T := TX3) C hw iw_3 tyX3 tyX3_ok nmX3 rfl hq (by decide) (by decide) fl_X3_49 rfl rfl rfl rfl (fn_3 A _) fs_3_1 dX3_copy_13 (fun H locs hw => ?_)
  obtain ⟨M_3, hM_3⟩ : ∃ z : ti_M, z = uI M_1 q 1 x_2 := ⟨_, rfl⟩
  have hw := hw.to hM_3.symm
  have iM_3 : cI Tc M_3 := cI_uI iM_1 hM_3 hq.1 trivial
  refine lv_aload_n hx hb dX3_copy_16 rfl (lv_at hl 0 rfl) ?_
  refine lv_aload_n hx hb dX3_copy_17 rfl (lv_at hl 1 rfl) ?_
  refine ti_get (ci := 3) (k := 2) (N := 17) (T := TX3) C hw iw_3 rfl hr (by decide) (by decide) fl_X3_53 rfl rfl dX3_copy_18 ?_
  refine lv_topi (fun x_4 ex_4 => ?_)
  have L2 : rs 2 = (x_4 : Int32).toInt := (hs.1 2 (by decide) (by decide)).trans (congrArg Int32.toInt ((((tI_nE hM_3 (nk (by decide))).trans (tI_uTE hM_1))).symm.trans ex_4.symm))
  refine ti_putI (ci := 3) (k := 2) (N := 17) (T := TX3) C hw iw_3 tyX3 tyX3_ok nmX3 rfl hq (by decide) (by decide) fl_X3_53 rfl rfl rfl rfl (fn_3 A _) fs_3_2 dX3_copy_21 (fun H locs hw => ?_)
  obtain ⟨M_5, hM_5⟩ : ∃ z : ti_M, z = uI M_3 q 2 x_4 := ⟨_, rfl⟩
  have hw := hw.to hM_5.symm
  have iM_5 : cI Tc M_5 := cI_uI iM_3 hM_5 hq.1 (fun hp => cI_rd iM_3 hr.1 ex_4 (hpr hp))
  refine lv_aload_n hx hb dX3_copy_24 rfl (lv_at hl 0 rfl) ?_
  refine lv_aload_n hx hb dX3_copy_25 rfl (lv_at hl 1 rfl) ?_
  refine ti_get (ci := 3) (k := 3) (N := 17) (T := TX3) C hw iw_3 rfl hr (by decide) (by decide) fl_X3_56 rfl rfl dX3_copy_26 ?_
  refine lv_topi (fun x_6 ex_6 => ?_)
  have bx_6 : 0 ≤ x_6.toInt ∧ x_6.toInt ≤ 8 := cI_rd iM_5 hr.1 ex_6
  have ux_6 : (tI M_5 r 3).toInt = x_6.toInt := by rw [ex_6]
  have L3 : rs 3 = (x_6 : Int32).toInt := (hs.1 3 (by decide) (by decide)).trans (congrArg Int32.toInt ((((tI_nE hM_5 (nk (by decide))).trans ((tI_nE hM_3 (nk (by decide))).trans (tI_uTE hM_1)))).symm.trans ex_6.symm))
  refine ti_putI (ci := 3) (k := 3) (N := 17) (T := TX3) C hw iw_3 tyX3 tyX3_ok nmX3 rfl hq (by decide) (by decide) fl_X3_56 rfl rfl rfl rfl (fn_3 A _) fs_3_3 dX3_copy_29 (fun H locs hw => ?_)
  obtain ⟨M_7, hM_7⟩ : ∃ z : ti_M, z = uI M_5 q 3 x_6 := ⟨_, rfl⟩
  have hw := hw.to hM_7.symm
  have iM_7 : cI Tc M_7 := cI_uI iM_5 hM_7 hq.1 (ib_mk (lo := 0) (hi := 8) (by omega) (by omega))
  have vM_7 : (tI M_7 q 3).toInt = (x_6 : Int32).toInt := by rw [tI_uE hM_7]
  refine lv_aload_n hx hb dX3_copy_32 rfl (lv_at hl 0 rfl) ?_
  refine lv_aload_n hx hb dX3_copy_33 rfl (lv_at hl 1 rfl) ?_
  refine ti_get (ci := 3) (k := 4) (N := 17) (T := TX3) C hw iw_3 rfl hr (by decide) (by decide) fl_X3_64 rfl rfl dX3_copy_34 ?_
  refine lv_topi (fun x_8 ex_8 => ?_)
  have L4 : rs 4 = (x_8 : Int32).toInt := (hs.1 4 (by decide) (by decide)).trans (congrArg Int32.toInt ((((tI_nE hM_7 (nk (by decide))).trans ((tI_nE hM_5 (nk (by decide))).trans ((tI_nE hM_3 (nk (by decide))).trans (tI_uTE hM_1))))).symm.trans ex_8.symm))
  refine ti_putI (ci := 3) (k := 4) (N := 17) (T := TX3) C hw iw_3 tyX3 tyX3_ok nmX3 rfl hq (by decide) (by decide) fl_X3_64 rfl rfl rfl rfl (fn_3 A _) fs_3_4 dX3_copy_37 (fun H locs hw => ?_)
  obtain ⟨M_9, hM_9⟩ : ∃ z : ti_M, z = uI M_7 q 4 x_8 := ⟨_, rfl⟩
  have hw := hw.to hM_9.symm
  have iM_9 : cI Tc M_9 := cI_uI iM_7 hM_9 hq.1 trivial
  refine lv_aload_n hx hb dX3_copy_40 rfl (lv_at hl 0 rfl) ?_
  refine lv_aload_n hx hb dX3_copy_41 rfl (lv_at hl 1 rfl) ?_
  refine ti_get (ci := 3) (k := 5) (N := 17) (T := TX3) C hw iw_3 rfl hr (by decide) (by decide) fl_X3_68 rfl rfl dX3_copy_42 ?_
  refine lv_topi (fun x_10 ex_10 => ?_)
  have L5 : rs 5 = (x_10 : Int32).toInt := (hs.1 5 (by decide) (by decide)).trans (congrArg Int32.toInt ((((tI_nE hM_9 (nk (by decide))).trans ((tI_nE hM_7 (nk (by decide))).trans ((tI_nE hM_5 (nk (by decide))).trans ((tI_nE hM_3 (nk (by decide))).trans (tI_uTE hM_1)))))).symm.trans ex_10.symm))
  refine ti_putI (ci := 3) (k := 5) (N := 17) (T := TX3) C hw iw_3 tyX3 tyX3_ok nmX3 rfl hq (by decide) (by decide) fl_X3_68 rfl rfl rfl rfl (fn_3 A _) fs_3_5 dX3_copy_45 (fun H locs hw => ?_)
  obtain ⟨M_11, hM_11⟩ : ∃ z : ti_M, z = uI M_9 q 5 x_10 := ⟨_, rfl⟩
  have hw := hw.to hM_11.symm
  have iM_11 : cI Tc M_11 := cI_uI iM_9 hM_11 hq.1 trivial
  refine lv_aload_n hx hb dX3_copy_48 rfl (lv_at hl 1 rfl) ?_
  refine ti_get (ci := 3) (k := 6) (N := 17) (T := TX3) (v := .ref (A r 7)) C hw iw_3 rfl hr (by decide) (by decide) fl_X3_9 rfl rfl dX3_copy_49 ?_
  refine lv_iconst (v := 0) hx hb dX3_copy_52 (by decide) ?_
  refine lv_aload_n hx hb dX3_copy_53 rfl (lv_at hl 0 rfl) ?_
  refine ti_get (ci := 3) (k := 6) (N := 17) (T := TX3) (v := .ref (A q 7)) C hw iw_3 rfl hq (by decide) (by decide) fl_X3_9 rfl rfl dX3_copy_54 ?_
  refine lv_iconst (v := 0) hx hb dX3_copy_57 (by decide) ?_
  refine lv_bipush (v := 8) hx hb dX3_copy_58 (by decide) ?_
  refine ti_copy (c1 := 3) (k1 := 6) (n1 := 8) (c2 := 3) (k2 := 6) (n2 := 8) C hw ml_X3_72 sy_nat sy_sta sy_ini hr (by decide) (fun _ _ => rfl) hq (by decide) (fun _ _ => rfl) hl.1 (by decide) (by decide) (by decide) (by decide) (by decide) (by decide) (Nat.le_of_ble_eq_true rfl) dX3_copy_60 (fun H locs hw => ?_)
  obtain ⟨M_12, hM_12⟩ : ∃ z : ti_M, z = uY M_11 q 6 (va_cpy (tY M_11 r 6) (tY M_11 q 6) (0 : Int32).toNatClampNeg (0 : Int32).toNatClampNeg (8 : Int32).toNatClampNeg) := ⟨_, rfl⟩
  have hw := hw.to hM_12.symm
  have iM_12 : cI Tc M_12 := cI_cp iM_11 hM_12 hq.1 (fun i => cI_ry iM_11 hr.1 rfl)
  refine lv_aload_n hx hb dX3_copy_63 rfl (lv_at hl 1 rfl) ?_
  refine ti_get (ci := 3) (k := 7) (N := 17) (T := TX3) (v := .ref (A r 8)) C hw iw_3 rfl hr (by decide) (by decide) fl_X3_15 rfl rfl dX3_copy_64 ?_
  refine lv_iconst (v := 0) hx hb dX3_copy_67 (by decide) ?_
  refine lv_aload_n hx hb dX3_copy_68 rfl (lv_at hl 0 rfl) ?_
  refine ti_get (ci := 3) (k := 7) (N := 17) (T := TX3) (v := .ref (A q 8)) C hw iw_3 rfl hq (by decide) (by decide) fl_X3_15 rfl rfl dX3_copy_69 ?_
  refine lv_iconst (v := 0) hx hb dX3_copy_72 (by decide) ?_
  refine lv_iconst (v := 3) hx hb dX3_copy_73 (by decide) ?_
  refine ti_copy (c1 := 3) (k1 := 7) (n1 := 3) (c2 := 3) (k2 := 7) (n2 := 3) C hw ml_X3_72 sy_nat sy_sta sy_ini hr (by decide) (fun _ _ => rfl) hq (by decide) (fun _ _ => rfl) hl.1 (by decide) (by decide) (by decide) (by decide) (by decide) (by decide) (Nat.le_of_ble_eq_true rfl) dX3_copy_74 (fun H locs hw => ?_)
  obtain ⟨M_13, hM_13⟩ : ∃ z : ti_M, z = uY M_12 q 7 (va_cpy (tY M_12 r 7) (tY M_12 q 7) (0 : Int32).toNatClampNeg (0 : Int32).toNatClampNeg (3 : Int32).toNatClampNeg) := ⟨_, rfl⟩
  have hw := hw.to hM_13.symm
  have iM_13 : cI Tc M_13 := cI_cp iM_12 hM_13 hq.1 (fun _ => trivial)
  refine lv_aload_n hx hb dX3_copy_77 rfl (lv_at hl 1 rfl) ?_
  refine ti_get (ci := 3) (k := 8) (N := 17) (T := TX3) (v := .ref (A r 9)) C hw iw_3 rfl hr (by decide) (by decide) fl_X3_18 rfl rfl dX3_copy_78 ?_
  refine lv_iconst (v := 0) hx hb dX3_copy_81 (by decide) ?_
  refine lv_aload_n hx hb dX3_copy_82 rfl (lv_at hl 0 rfl) ?_
  refine ti_get (ci := 3) (k := 8) (N := 17) (T := TX3) (v := .ref (A q 9)) C hw iw_3 rfl hq (by decide) (by decide) fl_X3_18 rfl rfl dX3_copy_83 ?_
  refine lv_iconst (v := 0) hx hb dX3_copy_86 (by decide) ?_
  refine lv_bipush (v := 8) hx hb dX3_copy_87 (by decide) ?_
  refine ti_copy (c1 := 3) (k1 := 8) (n1 := 8) (c2 := 3) (k2 := 8) (n2 := 8) C hw ml_X3_72 sy_nat sy_sta sy_ini hr (by decide) (fun _ _ => rfl) hq (by decide) (fun _ _ => rfl) hl.1 (by decide) (by decide) (by decide) (by decide) (by decide) (by decide) (Nat.le_of_ble_eq_true rfl) dX3_copy_89 (fun H locs hw => ?_)
  obtain ⟨M_14, hM_14⟩ : ∃ z : ti_M, z = uY M_13 q 8 (va_cpy (tY M_13 r 8) (tY M_13 q 8) (0 : Int32).toNatClampNeg (0 : Int32).toNatClampNeg (8 : Int32).toNatClampNeg) := ⟨_, rfl⟩
  have hw := hw.to hM_14.symm
  have iM_14 : cI Tc M_14 := cI_cp iM_13 hM_14 hq.1 (fun _ => trivial)
  refine lv_aload_n hx hb dX3_copy_92 rfl (lv_at hl 1 rfl) ?_
  refine ti_get (ci := 3) (k := 9) (N := 17) (T := TX3) (v := .ref (A r 10)) C hw iw_3 rfl hr (by decide) (by decide) fl_X3_21 rfl rfl dX3_copy_93 ?_
  refine lv_iconst (v := 0) hx hb dX3_copy_96 (by decide) ?_
  refine lv_aload_n hx hb dX3_copy_97 rfl (lv_at hl 0 rfl) ?_
  refine ti_get (ci := 3) (k := 9) (N := 17) (T := TX3) (v := .ref (A q 10)) C hw iw_3 rfl hq (by decide) (by decide) fl_X3_21 rfl rfl dX3_copy_98 ?_
  refine lv_iconst (v := 0) hx hb dX3_copy_101 (by decide) ?_
  refine lv_bipush (v := 8) hx hb dX3_copy_102 (by decide) ?_
  refine ti_copy (c1 := 3) (k1 := 9) (n1 := 8) (c2 := 3) (k2 := 9) (n2 := 8) C hw ml_X3_72 sy_nat sy_sta sy_ini hr (by decide) (fun _ _ => rfl) hq (by decide) (fun _ _ => rfl) hl.1 (by decide) (by decide) (by decide) (by decide) (by decide) (by decide) (Nat.le_of_ble_eq_true rfl) dX3_copy_104 (fun H locs hw => ?_)
  obtain ⟨M_15, hM_15⟩ : ∃ z : ti_M, z = uY M_14 q 9 (va_cpy (tY M_14 r 9) (tY M_14 q 9) (0 : Int32).toNatClampNeg (0 : Int32).toNatClampNeg (8 : Int32).toNatClampNeg) := ⟨_, rfl⟩
  have hw := hw.to hM_15.symm
  have iM_15 : cI Tc M_15 := cI_cp iM_14 hM_15 hq.1 (fun _ => trivial)
  refine lv_aload_n hx hb dX3_copy_107 rfl (lv_at hl 1 rfl) ?_
  refine ti_get (ci := 3) (k := 10) (N := 17) (T := TX3) (v := .ref (A r 11)) C hw iw_3 rfl hr (by decide) (by decide) fl_X3_24 rfl rfl dX3_copy_108 ?_
  refine lv_iconst (v := 0) hx hb dX3_copy_111 (by decide) ?_
  refine lv_aload_n hx hb dX3_copy_112 rfl (lv_at hl 0 rfl) ?_
  refine ti_get (ci := 3) (k := 10) (N := 17) (T := TX3) (v := .ref (A q 11)) C hw iw_3 rfl hq (by decide) (by decide) fl_X3_24 rfl rfl dX3_copy_113 ?_
  refine lv_iconst (v := 0) hx hb dX3_copy_116 (by decide) ?_
  refine lv_bipush (v := 8) hx hb dX3_copy_117 (by decide) ?_
  refine ti_copy (c1 := 3) (k1 := 10) (n1 := 8) (c2 := 3) (k2 := 10) (n2 := 8) C hw ml_X3_72 sy_nat sy_sta sy_ini hr (by decide) (fun _ _ => rfl) hq (by decide) (fun _ _ => rfl) hl.1 (by decide) (by decide) (by decide) (by decide) (by decide) (by decide) (Nat.le_of_ble_eq_true rfl) dX3_copy_119 (fun H locs hw => ?_)
  obtain ⟨M_16, hM_16⟩ : ∃ z : ti_M, z = uY M_15 q 10 (va_cpy (tY M_15 r 10) (tY M_15 q 10) (0 : Int32).toNatClampNeg (0 : Int32).toNatClampNeg (8 : Int32).toNatClampNeg) := ⟨_, rfl⟩
  have hw := hw.to hM_16.symm
  have iM_16 : cI Tc M_16 := cI_cp iM_15 hM_16 hq.1 (fun _ => trivial)
  refine lv_aload_n hx hb dX3_copy_122 rfl (lv_at hl 1 rfl) ?_
  refine ti_get (ci := 3) (k := 11) (N := 17) (T := TX3) (v := .ref (A r 12)) C hw iw_3 rfl hr (by decide) (by decide) fl_X3_27 rfl rfl dX3_copy_123 ?_
  refine lv_iconst (v := 0) hx hb dX3_copy_126 (by decide) ?_
  refine lv_aload_n hx hb dX3_copy_127 rfl (lv_at hl 0 rfl) ?_
  refine ti_get (ci := 3) (k := 11) (N := 17) (T := TX3) (v := .ref (A q 12)) C hw iw_3 rfl hq (by decide) (by decide) fl_X3_27 rfl rfl dX3_copy_128 ?_
  refine lv_iconst (v := 0) hx hb dX3_copy_131 (by decide) ?_
  refine lv_bipush (v := 8) hx hb dX3_copy_132 (by decide) ?_
  refine ti_copy (c1 := 3) (k1 := 11) (n1 := 8) (c2 := 3) (k2 := 11) (n2 := 8) C hw ml_X3_72 sy_nat sy_sta sy_ini hr (by decide) (fun _ _ => rfl) hq (by decide) (fun _ _ => rfl) hl.1 (by decide) (by decide) (by decide) (by decide) (by decide) (by decide) (Nat.le_of_ble_eq_true rfl) dX3_copy_134 (fun H locs hw => ?_)
  obtain ⟨M_17, hM_17⟩ : ∃ z : ti_M, z = uY M_16 q 11 (va_cpy (tY M_16 r 11) (tY M_16 q 11) (0 : Int32).toNatClampNeg (0 : Int32).toNatClampNeg (8 : Int32).toNatClampNeg) := ⟨_, rfl⟩
  have hw := hw.to hM_17.symm
  have iM_17 : cI Tc M_17 := cI_cp iM_16 hM_17 hq.1 (fun _ => trivial)
  refine lv_aload_n hx hb dX3_copy_137 rfl (lv_at hl 1 rfl) ?_
  refine ti_get (ci := 3) (k := 12) (N := 17) (T := TX3) (v := .ref (A r 13)) C hw iw_3 rfl hr (by decide) (by decide) fl_X3_30 rfl rfl dX3_copy_138 ?_
  refine lv_iconst (v := 0) hx hb dX3_copy_141 (by decide) ?_
  refine lv_aload_n hx hb dX3_copy_142 rfl (lv_at hl 0 rfl) ?_
  refine ti_get (ci := 3) (k := 12) (N := 17) (T := TX3) (v := .ref (A q 13)) C hw iw_3 rfl hq (by decide) (by decide) fl_X3_30 rfl rfl dX3_copy_143 ?_
  refine lv_iconst (v := 0) hx hb dX3_copy_146 (by decide) ?_
  refine lv_bipush (v := 8) hx hb dX3_copy_147 (by decide) ?_
  refine ti_copy (c1 := 3) (k1 := 12) (n1 := 8) (c2 := 3) (k2 := 12) (n2 := 8) C hw ml_X3_72 sy_nat sy_sta sy_ini hr (by decide) (fun _ _ => rfl) hq (by decide) (fun _ _ => rfl) hl.1 (by decide) (by decide) (by decide) (by decide) (by decide) (by decide) (Nat.le_of_ble_eq_true rfl) dX3_copy_149 (fun H locs hw => ?_)
  obtain ⟨M_18, hM_18⟩ : ∃ z : ti_M, z = uY M_17 q 12 (va_cpy (tY M_17 r 12) (tY M_17 q 12) (0 : Int32).toNatClampNeg (0 : Int32).toNatClampNeg (8 : Int32).toNatClampNeg) := ⟨_, rfl⟩
  have hw := hw.to hM_18.symm
  have iM_18 : cI Tc M_18 := cI_cp iM_17 hM_18 hq.1 (fun _ => trivial)
  refine lv_aload_n hx hb dX3_copy_152 rfl (lv_at hl 1 rfl) ?_
  refine ti_get (ci := 3) (k := 13) (N := 17) (T := TX3) (v := .ref (A r 14)) C hw iw_3 rfl hr (by decide) (by decide) fl_X3_33 rfl rfl dX3_copy_153 ?_
  refine lv_iconst (v := 0) hx hb dX3_copy_156 (by decide) ?_
  refine lv_aload_n hx hb dX3_copy_157 rfl (lv_at hl 0 rfl) ?_
  refine ti_get (ci := 3) (k := 13) (N := 17) (T := TX3) (v := .ref (A q 14)) C hw iw_3 rfl hq (by decide) (by decide) fl_X3_33 rfl rfl dX3_copy_158 ?_
  refine lv_iconst (v := 0) hx hb dX3_copy_161 (by decide) ?_
  refine lv_bipush (v := 8) hx hb dX3_copy_162 (by decide) ?_
  refine ti_copy (c1 := 3) (k1 := 13) (n1 := 8) (c2 := 3) (k2 := 13) (n2 := 8) C hw ml_X3_72 sy_nat sy_sta sy_ini hr (by decide) (fun _ _ => rfl) hq (by decide) (fun _ _ => rfl) hl.1 (by decide) (by decide) (by decide) (by decide) (by decide) (by decide) (Nat.le_of_ble_eq_true rfl) dX3_copy_164 (fun H locs hw => ?_)
  obtain ⟨M_19, hM_19⟩ : ∃ z : ti_M, z = uY M_18 q 13 (va_cpy (tY M_18 r 13) (tY M_18 q 13) (0 : Int32).toNatClampNeg (0 : Int32).toNatClampNeg (8 : Int32).toNatClampNeg) := ⟨_, rfl⟩
  have hw := hw.to hM_19.symm
  have iM_19 : cI Tc M_19 := cI_cp iM_18 hM_19 hq.1 (fun _ => trivial)
  refine lv_aload_n hx hb dX3_copy_167 rfl (lv_at hl 1 rfl) ?_
  refine ti_get (ci := 3) (k := 14) (N := 17) (T := TX3) (v := .ref (A r 15)) C hw iw_3 rfl hr (by decide) (by decide) fl_X3_36 rfl rfl dX3_copy_168 ?_
  refine lv_iconst (v := 0) hx hb dX3_copy_171 (by decide) ?_
  refine lv_aload_n hx hb dX3_copy_172 rfl (lv_at hl 0 rfl) ?_
  refine ti_get (ci := 3) (k := 14) (N := 17) (T := TX3) (v := .ref (A q 15)) C hw iw_3 rfl hq (by decide) (by decide) fl_X3_36 rfl rfl dX3_copy_173 ?_
  refine lv_iconst (v := 0) hx hb dX3_copy_176 (by decide) ?_
  refine lv_bipush (v := 8) hx hb dX3_copy_177 (by decide) ?_
  refine ti_copy (c1 := 3) (k1 := 14) (n1 := 8) (c2 := 3) (k2 := 14) (n2 := 8) C hw ml_X3_72 sy_nat sy_sta sy_ini hr (by decide) (fun _ _ => rfl) hq (by decide) (fun _ _ => rfl) hl.1 (by decide) (by decide) (by decide) (by decide) (by decide) (by decide) (Nat.le_of_ble_eq_true rfl) dX3_copy_179 (fun H locs hw => ?_)
  obtain ⟨M_20, hM_20⟩ : ∃ z : ti_M, z = uY M_19 q 14 (va_cpy (tY M_19 r 14) (tY M_19 q 14) (0 : Int32).toNatClampNeg (0 : Int32).toNatClampNeg (8 : Int32).toNatClampNeg) := ⟨_, rfl⟩
  have hw := hw.to hM_20.symm
  have iM_20 : cI Tc M_20 := cI_cp iM_19 hM_20 hq.1 (fun _ => trivial)
  refine lv_aload_n hx hb dX3_copy_182 rfl (lv_at hl 1 rfl) ?_
  refine ti_get (ci := 3) (k := 15) (N := 17) (T := TX3) (v := .ref (A r 16)) C hw iw_3 rfl hr (by decide) (by decide) fl_X3_39 rfl rfl dX3_copy_183 ?_
  refine lv_iconst (v := 0) hx hb dX3_copy_186 (by decide) ?_
  refine lv_aload_n hx hb dX3_copy_187 rfl (lv_at hl 0 rfl) ?_
  refine ti_get (ci := 3) (k := 15) (N := 17) (T := TX3) (v := .ref (A q 16)) C hw iw_3 rfl hq (by decide) (by decide) fl_X3_39 rfl rfl dX3_copy_188 ?_
  refine lv_iconst (v := 0) hx hb dX3_copy_191 (by decide) ?_
  refine lv_bipush (v := 8) hx hb dX3_copy_192 (by decide) ?_
  refine ti_copy (c1 := 3) (k1 := 15) (n1 := 8) (c2 := 3) (k2 := 15) (n2 := 8) C hw ml_X3_72 sy_nat sy_sta sy_ini hr (by decide) (fun _ _ => rfl) hq (by decide) (fun _ _ => rfl) hl.1 (by decide) (by decide) (by decide) (by decide) (by decide) (by decide) (Nat.le_of_ble_eq_true rfl) dX3_copy_194 (fun H locs hw => ?_)
  obtain ⟨M_21, hM_21⟩ : ∃ z : ti_M, z = uY M_20 q 15 (va_cpy (tY M_20 r 15) (tY M_20 q 15) (0 : Int32).toNatClampNeg (0 : Int32).toNatClampNeg (8 : Int32).toNatClampNeg) := ⟨_, rfl⟩
  have hw := hw.to hM_21.symm
  have iM_21 : cI Tc M_21 := cI_cp iM_20 hM_21 hq.1 (fun _ => trivial)
  refine lv_aload_n hx hb dX3_copy_197 rfl (lv_at hl 1 rfl) ?_
  refine ti_get (ci := 3) (k := 16) (N := 17) (T := TX3) (v := .ref (A r 17)) C hw iw_3 rfl hr (by decide) (by decide) fl_X3_42 rfl rfl dX3_copy_198 ?_
  refine lv_iconst (v := 0) hx hb dX3_copy_201 (by decide) ?_
  refine lv_aload_n hx hb dX3_copy_202 rfl (lv_at hl 0 rfl) ?_
  refine ti_get (ci := 3) (k := 16) (N := 17) (T := TX3) (v := .ref (A q 17)) C hw iw_3 rfl hq (by decide) (by decide) fl_X3_42 rfl rfl dX3_copy_203 ?_
  refine lv_iconst (v := 0) hx hb dX3_copy_206 (by decide) ?_
  refine lv_bipush (v := 8) hx hb dX3_copy_207 (by decide) ?_
  refine ti_copy (c1 := 3) (k1 := 16) (n1 := 8) (c2 := 3) (k2 := 16) (n2 := 8) C hw ml_X3_72 sy_nat sy_sta sy_ini hr (by decide) (fun _ _ => rfl) hq (by decide) (fun _ _ => rfl) hl.1 (by decide) (by decide) (by decide) (by decide) (by decide) (by decide) (Nat.le_of_ble_eq_true rfl) dX3_copy_209 (fun H locs hw => ?_)
  obtain ⟨M_22, hM_22⟩ : ∃ z : ti_M, z = uY M_21 q 16 (va_cpy (tY M_21 r 16) (tY M_21 q 16) (0 : Int32).toNatClampNeg (0 : Int32).toNatClampNeg (8 : Int32).toNatClampNeg) := ⟨_, rfl⟩
  have hw := hw.to hM_22.symm
  have iM_22 : cI Tc M_22 := cI_cp iM_21 hM_22 hq.1 (fun _ => trivial)
  have QQ_23 : qC q rs M_22 := by
    refine ⟨fun k h1 h2 => ?_, fun k i h6 h16 hi h7 => ?_⟩
    · rcases (show k = 1 ∨ k = 2 ∨ k = 3 ∨ k = 4 ∨ k = 5 by omega) with rfl | rfl | rfl | rfl | rfl
      · exact L1.trans (congrArg Int32.toInt ((tI_uYE hM_22).trans ((tI_uYE hM_21).trans ((tI_uYE hM_20).trans ((tI_uYE hM_19).trans ((tI_uYE hM_18).trans ((tI_uYE hM_17).trans ((tI_uYE hM_16).trans ((tI_uYE hM_15).trans ((tI_uYE hM_14).trans ((tI_uYE hM_13).trans ((tI_uYE hM_12).trans ((tI_nE hM_11 (nk (by decide))).trans ((tI_nE hM_9 (nk (by decide))).trans ((tI_nE hM_7 (nk (by decide))).trans ((tI_nE hM_5 (nk (by decide))).trans (tI_uE hM_3))))))))))))))))).symm
      · exact L2.trans (congrArg Int32.toInt ((tI_uYE hM_22).trans ((tI_uYE hM_21).trans ((tI_uYE hM_20).trans ((tI_uYE hM_19).trans ((tI_uYE hM_18).trans ((tI_uYE hM_17).trans ((tI_uYE hM_16).trans ((tI_uYE hM_15).trans ((tI_uYE hM_14).trans ((tI_uYE hM_13).trans ((tI_uYE hM_12).trans ((tI_nE hM_11 (nk (by decide))).trans ((tI_nE hM_9 (nk (by decide))).trans ((tI_nE hM_7 (nk (by decide))).trans (tI_uE hM_5)))))))))))))))).symm
      · exact L3.trans (congrArg Int32.toInt ((tI_uYE hM_22).trans ((tI_uYE hM_21).trans ((tI_uYE hM_20).trans ((tI_uYE hM_19).trans ((tI_uYE hM_18).trans ((tI_uYE hM_17).trans ((tI_uYE hM_16).trans ((tI_uYE hM_15).trans ((tI_uYE hM_14).trans ((tI_uYE hM_13).trans ((tI_uYE hM_12).trans ((tI_nE hM_11 (nk (by decide))).trans ((tI_nE hM_9 (nk (by decide))).trans (tI_uE hM_7))))))))))))))).symm
      · exact L4.trans (congrArg Int32.toInt ((tI_uYE hM_22).trans ((tI_uYE hM_21).trans ((tI_uYE hM_20).trans ((tI_uYE hM_19).trans ((tI_uYE hM_18).trans ((tI_uYE hM_17).trans ((tI_uYE hM_16).trans ((tI_uYE hM_15).trans ((tI_uYE hM_14).trans ((tI_uYE hM_13).trans ((tI_uYE hM_12).trans ((tI_nE hM_11 (nk (by decide))).trans (tI_uE hM_9)))))))))))))).symm
      · exact L5.trans (congrArg Int32.toInt ((tI_uYE hM_22).trans ((tI_uYE hM_21).trans ((tI_uYE hM_20).trans ((tI_uYE hM_19).trans ((tI_uYE hM_18).trans ((tI_uYE hM_17).trans ((tI_uYE hM_16).trans ((tI_uYE hM_15).trans ((tI_uYE hM_14).trans ((tI_uYE hM_13).trans ((tI_uYE hM_12).trans (tI_uE hM_11))))))))))))).symm
    · rw [hs.2 k i h6 h16 hi h7]
      apply congrArg Int32.toInt
      symm
      rcases (show k = 6 ∨ k = 7 ∨ k = 8 ∨ k = 9 ∨ k = 10 ∨ k = 11 ∨ k = 12 ∨ k = 13 ∨ k = 14 ∨ k = 15 ∨ k = 16 by omega) with rfl | rfl | rfl | rfl | rfl | rfl | rfl | rfl | rfl | rfl | rfl
      · exact cp_row (n := 8) hM_12 rfl (by decide) (((tY_nE hM_22 (nk (by decide))).trans ((tY_nE hM_21 (nk (by decide))).trans ((tY_nE hM_20 (nk (by decide))).trans ((tY_nE hM_19 (nk (by decide))).trans ((tY_nE hM_18 (nk (by decide))).trans ((tY_nE hM_17 (nk (by decide))).trans ((tY_nE hM_16 (nk (by decide))).trans ((tY_nE hM_15 (nk (by decide))).trans ((tY_nE hM_14 (nk (by decide))).trans (tY_nE hM_13 (nk (by decide))))))))))))) (((tY_uIE hM_11).trans ((tY_uIE hM_9).trans ((tY_uIE hM_7).trans ((tY_uIE hM_5).trans ((tY_uIE hM_3).trans (tY_uTE hM_1))))))) (by omega)
      · have h3 := h7 rfl; exact cp_row (n := 3) hM_13 rfl (by decide) (((tY_nE hM_22 (nk (by decide))).trans ((tY_nE hM_21 (nk (by decide))).trans ((tY_nE hM_20 (nk (by decide))).trans ((tY_nE hM_19 (nk (by decide))).trans ((tY_nE hM_18 (nk (by decide))).trans ((tY_nE hM_17 (nk (by decide))).trans ((tY_nE hM_16 (nk (by decide))).trans ((tY_nE hM_15 (nk (by decide))).trans (tY_nE hM_14 (nk (by decide)))))))))))) (((tY_nE hM_12 (no (Ne.symm hqr))).trans ((tY_uIE hM_11).trans ((tY_uIE hM_9).trans ((tY_uIE hM_7).trans ((tY_uIE hM_5).trans ((tY_uIE hM_3).trans (tY_uTE hM_1)))))))) (by omega)
      · exact cp_row (n := 8) hM_14 rfl (by decide) (((tY_nE hM_22 (nk (by decide))).trans ((tY_nE hM_21 (nk (by decide))).trans ((tY_nE hM_20 (nk (by decide))).trans ((tY_nE hM_19 (nk (by decide))).trans ((tY_nE hM_18 (nk (by decide))).trans ((tY_nE hM_17 (nk (by decide))).trans ((tY_nE hM_16 (nk (by decide))).trans (tY_nE hM_15 (nk (by decide))))))))))) (((tY_nE hM_13 (no (Ne.symm hqr))).trans ((tY_nE hM_12 (no (Ne.symm hqr))).trans ((tY_uIE hM_11).trans ((tY_uIE hM_9).trans ((tY_uIE hM_7).trans ((tY_uIE hM_5).trans ((tY_uIE hM_3).trans (tY_uTE hM_1))))))))) (by omega)
      · exact cp_row (n := 8) hM_15 rfl (by decide) (((tY_nE hM_22 (nk (by decide))).trans ((tY_nE hM_21 (nk (by decide))).trans ((tY_nE hM_20 (nk (by decide))).trans ((tY_nE hM_19 (nk (by decide))).trans ((tY_nE hM_18 (nk (by decide))).trans ((tY_nE hM_17 (nk (by decide))).trans (tY_nE hM_16 (nk (by decide)))))))))) (((tY_nE hM_14 (no (Ne.symm hqr))).trans ((tY_nE hM_13 (no (Ne.symm hqr))).trans ((tY_nE hM_12 (no (Ne.symm hqr))).trans ((tY_uIE hM_11).trans ((tY_uIE hM_9).trans ((tY_uIE hM_7).trans ((tY_uIE hM_5).trans ((tY_uIE hM_3).trans (tY_uTE hM_1)))))))))) (by omega)
      · exact cp_row (n := 8) hM_16 rfl (by decide) (((tY_nE hM_22 (nk (by decide))).trans ((tY_nE hM_21 (nk (by decide))).trans ((tY_nE hM_20 (nk (by decide))).trans ((tY_nE hM_19 (nk (by decide))).trans ((tY_nE hM_18 (nk (by decide))).trans (tY_nE hM_17 (nk (by decide))))))))) (((tY_nE hM_15 (no (Ne.symm hqr))).trans ((tY_nE hM_14 (no (Ne.symm hqr))).trans ((tY_nE hM_13 (no (Ne.symm hqr))).trans ((tY_nE hM_12 (no (Ne.symm hqr))).trans ((tY_uIE hM_11).trans ((tY_uIE hM_9).trans ((tY_uIE hM_7).trans ((tY_uIE hM_5).trans ((tY_uIE hM_3).trans (tY_uTE hM_1))))))))))) (by omega)
      · exact cp_row (n := 8) hM_17 rfl (by decide) (((tY_nE hM_22 (nk (by decide))).trans ((tY_nE hM_21 (nk (by decide))).trans ((tY_nE hM_20 (nk (by decide))).trans ((tY_nE hM_19 (nk (by decide))).trans (tY_nE hM_18 (nk (by decide)))))))) (((tY_nE hM_16 (no (Ne.symm hqr))).trans ((tY_nE hM_15 (no (Ne.symm hqr))).trans ((tY_nE hM_14 (no (Ne.symm hqr))).trans ((tY_nE hM_13 (no (Ne.symm hqr))).trans ((tY_nE hM_12 (no (Ne.symm hqr))).trans ((tY_uIE hM_11).trans ((tY_uIE hM_9).trans ((tY_uIE hM_7).trans ((tY_uIE hM_5).trans ((tY_uIE hM_3).trans (tY_uTE hM_1)))))))))))) (by omega)
      · exact cp_row (n := 8) hM_18 rfl (by decide) (((tY_nE hM_22 (nk (by decide))).trans ((tY_nE hM_21 (nk (by decide))).trans ((tY_nE hM_20 (nk (by decide))).trans (tY_nE hM_19 (nk (by decide))))))) (((tY_nE hM_17 (no (Ne.symm hqr))).trans ((tY_nE hM_16 (no (Ne.symm hqr))).trans ((tY_nE hM_15 (no (Ne.symm hqr))).trans ((tY_nE hM_14 (no (Ne.symm hqr))).trans ((tY_nE hM_13 (no (Ne.symm hqr))).trans ((tY_nE hM_12 (no (Ne.symm hqr))).trans ((tY_uIE hM_11).trans ((tY_uIE hM_9).trans ((tY_uIE hM_7).trans ((tY_uIE hM_5).trans ((tY_uIE hM_3).trans (tY_uTE hM_1))))))))))))) (by omega)
      · exact cp_row (n := 8) hM_19 rfl (by decide) (((tY_nE hM_22 (nk (by decide))).trans ((tY_nE hM_21 (nk (by decide))).trans (tY_nE hM_20 (nk (by decide)))))) (((tY_nE hM_18 (no (Ne.symm hqr))).trans ((tY_nE hM_17 (no (Ne.symm hqr))).trans ((tY_nE hM_16 (no (Ne.symm hqr))).trans ((tY_nE hM_15 (no (Ne.symm hqr))).trans ((tY_nE hM_14 (no (Ne.symm hqr))).trans ((tY_nE hM_13 (no (Ne.symm hqr))).trans ((tY_nE hM_12 (no (Ne.symm hqr))).trans ((tY_uIE hM_11).trans ((tY_uIE hM_9).trans ((tY_uIE hM_7).trans ((tY_uIE hM_5).trans ((tY_uIE hM_3).trans (tY_uTE hM_1)))))))))))))) (by omega)
      · exact cp_row (n := 8) hM_20 rfl (by decide) (((tY_nE hM_22 (nk (by decide))).trans (tY_nE hM_21 (nk (by decide))))) (((tY_nE hM_19 (no (Ne.symm hqr))).trans ((tY_nE hM_18 (no (Ne.symm hqr))).trans ((tY_nE hM_17 (no (Ne.symm hqr))).trans ((tY_nE hM_16 (no (Ne.symm hqr))).trans ((tY_nE hM_15 (no (Ne.symm hqr))).trans ((tY_nE hM_14 (no (Ne.symm hqr))).trans ((tY_nE hM_13 (no (Ne.symm hqr))).trans ((tY_nE hM_12 (no (Ne.symm hqr))).trans ((tY_uIE hM_11).trans ((tY_uIE hM_9).trans ((tY_uIE hM_7).trans ((tY_uIE hM_5).trans ((tY_uIE hM_3).trans (tY_uTE hM_1))))))))))))))) (by omega)
      · exact cp_row (n := 8) hM_21 rfl (by decide) ((tY_nE hM_22 (nk (by decide)))) (((tY_nE hM_20 (no (Ne.symm hqr))).trans ((tY_nE hM_19 (no (Ne.symm hqr))).trans ((tY_nE hM_18 (no (Ne.symm hqr))).trans ((tY_nE hM_17 (no (Ne.symm hqr))).trans ((tY_nE hM_16 (no (Ne.symm hqr))).trans ((tY_nE hM_15 (no (Ne.symm hqr))).trans ((tY_nE hM_14 (no (Ne.symm hqr))).trans ((tY_nE hM_13 (no (Ne.symm hqr))).trans ((tY_nE hM_12 (no (Ne.symm hqr))).trans ((tY_uIE hM_11).trans ((tY_uIE hM_9).trans ((tY_uIE hM_7).trans ((tY_uIE hM_5).trans ((tY_uIE hM_3).trans (tY_uTE hM_1)))))))))))))))) (by omega)
      · exact cp_row (n := 8) hM_22 rfl (by decide) rfl (((tY_nE hM_21 (no (Ne.symm hqr))).trans ((tY_nE hM_20 (no (Ne.symm hqr))).trans ((tY_nE hM_19 (no (Ne.symm hqr))).trans ((tY_nE hM_18 (no (Ne.symm hqr))).trans ((tY_nE hM_17 (no (Ne.symm hqr))).trans ((tY_nE hM_16 (no (Ne.symm hqr))).trans ((tY_nE hM_15 (no (Ne.symm hqr))).trans ((tY_nE hM_14 (no (Ne.symm hqr))).trans ((tY_nE hM_13 (no (Ne.symm hqr))).trans ((tY_nE hM_12 (no (Ne.symm hqr))).trans ((tY_uIE hM_11).trans ((tY_uIE hM_9).trans ((tY_uIE hM_7).trans ((tY_uIE hM_5).trans ((tY_uIE hM_3).trans (tY_uTE hM_1))))))))))))))))) (by omega)
  exact hQ _ _ _ _ _ hw (⟨iM_22, ((rf_Y hM_22).trans ((rf_Y hM_21).trans ((rf_Y hM_20).trans ((rf_Y hM_19).trans ((rf_Y hM_18).trans ((rf_Y hM_17).trans ((rf_Y hM_16).trans ((rf_Y hM_15).trans ((rf_Y hM_14).trans ((rf_Y hM_13).trans ((rf_Y hM_12).trans ((rf_I hM_11).trans ((rf_I hM_9).trans ((rf_I hM_7).trans ((rf_I hM_5).trans ((rf_I hM_3).trans (rf_Tc hM_1 rfl))))))))))))))))), (eo.trans (eo_Y hM_22) (eo.trans (eo_Y hM_21) (eo.trans (eo_Y hM_20) (eo.trans (eo_Y hM_19) (eo.trans (eo_Y hM_18) (eo.trans (eo_Y hM_17) (eo.trans (eo_Y hM_16) (eo.trans (eo_Y hM_15) (eo.trans (eo_Y hM_14) (eo.trans (eo_Y hM_13) (eo.trans (eo_Y hM_12) (eo.trans (eo_I hM_11) (eo.trans (eo_I hM_9) (eo.trans (eo_I hM_7) (eo.trans (eo_I hM_5) (eo.trans (eo_I hM_3) (eo_T hM_1))))))))))))))))), QQ_23⟩) dX3_copy_212
set_option maxHeartbeats 4000000 in
set_option maxRecDepth 100000 in
theorem z_X3_start (l : Launch) (D : va_G) (A : Nat → Nat → Nat) (cy : Nat → ClassId) (hJ : ti_inj ti_LT A) (M : ti_M) (hI : cI Tc M) (q t : Nat) (hq : ti_ob ti_LT q 3) (ht : t = 3 ∨ t = 4) (tx rg : Nat → Int) (htx : tC t tx M) (hs : qC q rg M) : ti_Kv l yX3_start cX3_start 3 1 ti_LT D A cy M [.ref (A q 0), .ref (A t 0)] (fun M2 => cI Tc M2 ∧ M2.2.2.2 = (uT M q 0 (some t)).2.2.2 ∧ eo q M2 M ∧ qC q (bq_s0 tx rg) M2) := by
  refine ti_eV yp_X3_start hJ ti_LT_nd (Nat.le_of_ble_eq_true rfl) ?_
  intro p e s m args below meth c Q H0 C hQ hw ls hl
  have hx := C.1
  have hb := C.2.1
  have hl : lv_has ls 3 [(0, .ref (A q 0)), (1, .ref (A t 0))] := hl
  have l4 : 0 ≤ tx 4 ∧ tx 4 ≤ 8 := by rw [htx.1 4 (by decide) (by decide)]; exact cI_rd (k := 4) hI (ob_t ht).1 rfl
  refine lv_aload_n hx hb dX3_start_0 rfl (lv_at hl 0 rfl) ?_
  refine lv_aload_n hx hb dX3_start_1 rfl (lv_at hl 1 rfl) ?_
  refine ti_putT (ci := 3) (k := 0) (N := 17) (T := TX3) C hw iw_3 tyX3 tyX3_ok nmX3 rfl hq (by decide) (by decide) fl_X3_45 rfl rfl rfl rfl (fn_3 A _) fs_3_0 dX3_start_2 (fun H locs hw => ?_)
  obtain ⟨M_1, hM_1⟩ : ∃ z : ti_M, z = uT M q 0 (some t) := ⟨_, rfl⟩
  have hw := hw.to hM_1.symm
  have iM_1 : cI Tc M_1 := cI_uT hI hM_1
  have hs_2 : qC q rg M_1 := qC_T hs hM_1
  refine lv_aload_n hx hb dX3_start_5 rfl (lv_at hl 0 rfl) ?_
  refine lv_iconst (v := 0) hx hb dX3_start_6 (by decide) ?_
  refine ti_putI (ci := 3) (k := 1) (N := 17) (T := TX3) C hw iw_3 tyX3 tyX3_ok nmX3 rfl hq (by decide) (by decide) fl_X3_49 rfl rfl rfl rfl (fn_3 A _) fs_3_1 dX3_start_7 (fun H locs hw => ?_)
  obtain ⟨M_3, hM_3⟩ : ∃ z : ti_M, z = uI M_1 q 1 0 := ⟨_, rfl⟩
  have hw := hw.to hM_3.symm
  have iM_3 : cI Tc M_3 := cI_uI iM_1 hM_3 hq.1 trivial
  have hs_4 : qC q (pp_su rg 1 0) M_3 := qC_I hs_2 (by decide : (0 : Int32).toInt = 0) hM_3 (by decide)
  obtain ⟨g_5, eg_5⟩ : ∃ z : Nat → Int, z = pp_su rg 1 0 := ⟨_, rfl⟩
  rw [← eg_5] at hs_4
  have sg_5 : g_5 1 = 0 := by rw [eg_5, su_s]
  refine lv_aload_n hx hb dX3_start_10 rfl (lv_at hl 0 rfl) ?_
  refine lv_iconst (v := 0) hx hb dX3_start_11 (by decide) ?_
  refine ti_putI (ci := 3) (k := 2) (N := 17) (T := TX3) C hw iw_3 tyX3 tyX3_ok nmX3 rfl hq (by decide) (by decide) fl_X3_53 rfl rfl rfl rfl (fn_3 A _) fs_3_2 dX3_start_12 (fun H locs hw => ?_)
  obtain ⟨M_6, hM_6⟩ : ∃ z : ti_M, z = uI M_3 q 2 0 := ⟨_, rfl⟩
  have hw := hw.to hM_6.symm
  have iM_6 : cI Tc M_6 := cI_uI iM_3 hM_6 hq.1 (fun _ => ib_mk (lo := 0) (hi := 120) (by decide) (by decide))
  have hs_7 : qC q (pp_su g_5 2 0) M_6 := qC_I hs_4 (by decide : (0 : Int32).toInt = 0) hM_6 (by decide)
  obtain ⟨g_8, eg_8⟩ : ∃ z : Nat → Int, z = pp_su g_5 2 0 := ⟨_, rfl⟩
  rw [← eg_8] at hs_7
  have sg_8 : g_8 2 = 0 := by rw [eg_8, su_s]
  refine lv_aload_n hx hb dX3_start_15 rfl (lv_at hl 0 rfl) ?_
  refine lv_iconst (v := 0) hx hb dX3_start_16 (by decide) ?_
  refine ti_putI (ci := 3) (k := 3) (N := 17) (T := TX3) C hw iw_3 tyX3 tyX3_ok nmX3 rfl hq (by decide) (by decide) fl_X3_56 rfl rfl rfl rfl (fn_3 A _) fs_3_3 dX3_start_17 (fun H locs hw => ?_)
  obtain ⟨M_9, hM_9⟩ : ∃ z : ti_M, z = uI M_6 q 3 0 := ⟨_, rfl⟩
  have hw := hw.to hM_9.symm
  have iM_9 : cI Tc M_9 := cI_uI iM_6 hM_9 hq.1 (ib_mk (lo := 0) (hi := 8) (by decide) (by decide))
  have vM_9 : (tI M_9 q 3).toInt = 0 := by rw [tI_uE hM_9]; decide
  have hs_10 : qC q (pp_su g_8 3 0) M_9 := qC_I hs_7 (by decide : (0 : Int32).toInt = 0) hM_9 (by decide)
  obtain ⟨g_11, eg_11⟩ : ∃ z : Nat → Int, z = pp_su g_8 3 0 := ⟨_, rfl⟩
  rw [← eg_11] at hs_10
  have sg_11 : g_11 3 = 0 := by rw [eg_11, su_s]
  refine lv_aload_n hx hb dX3_start_20 rfl (lv_at hl 0 rfl) ?_
  refine lv_aload_n hx hb dX3_start_21 rfl (lv_at hl 1 rfl) ?_
  refine ti_get (ci := 8) (k := 6) (N := 12) (T := TX8) C hw iw_8 rfl (ob_t ht) (by decide) (by decide) fl_X3_59 rfl rfl dX3_start_22 ?_
  refine lv_topi (fun x_12 ex_12 => ?_)
  have L_13 : tx 6 = x_12.toInt := (((tC_eo ht hq.1 htx (eo.trans (eo_I hM_9) (eo.trans (eo_I hM_6) (eo.trans (eo_I hM_3) (eo_T hM_1))))).1 6 (by decide) (by decide)).trans (congrArg Int32.toInt (ex_12.symm))).trans rfl
  refine ti_putI (ci := 3) (k := 4) (N := 17) (T := TX3) C hw iw_3 tyX3 tyX3_ok nmX3 rfl hq (by decide) (by decide) fl_X3_64 rfl rfl rfl rfl (fn_3 A _) fs_3_4 dX3_start_25 (fun H locs hw => ?_)
  obtain ⟨M_14, hM_14⟩ : ∃ z : ti_M, z = uI M_9 q 4 x_12 := ⟨_, rfl⟩
  have hw := hw.to hM_14.symm
  have iM_14 : cI Tc M_14 := cI_uI iM_9 hM_14 hq.1 trivial
  have hs_15 : qC q (pp_su g_11 4 x_12.toInt) M_14 := qC_I hs_10 rfl hM_14 (by decide)
  obtain ⟨g_16, eg_16⟩ : ∃ z : Nat → Int, z = pp_su g_11 4 x_12.toInt := ⟨_, rfl⟩
  rw [← eg_16] at hs_15
  have sg_16 : g_16 4 = x_12.toInt := by rw [eg_16, su_s]
  refine lv_aload_n hx hb dX3_start_28 rfl (lv_at hl 0 rfl) ?_
  refine lv_aload_n hx hb dX3_start_29 rfl (lv_at hl 1 rfl) ?_
  refine ti_get (ci := 8) (k := 11) (N := 12) (T := TX8) C hw iw_8 rfl (ob_t ht) (by decide) (by decide) fl_X3_65 rfl rfl dX3_start_30 ?_
  refine lv_topi (fun x_17 ex_17 => ?_)
  have L_18 : tx 11 = x_17.toInt := (((tC_eo ht hq.1 htx (eo.trans (eo_I hM_14) (eo.trans (eo_I hM_9) (eo.trans (eo_I hM_6) (eo.trans (eo_I hM_3) (eo_T hM_1)))))).1 11 (by decide) (by decide)).trans (congrArg Int32.toInt (ex_17.symm))).trans rfl
  refine ti_putI (ci := 3) (k := 5) (N := 17) (T := TX3) C hw iw_3 tyX3 tyX3_ok nmX3 rfl hq (by decide) (by decide) fl_X3_68 rfl rfl rfl rfl (fn_3 A _) fs_3_5 dX3_start_33 (fun H locs hw => ?_)
  obtain ⟨M_19, hM_19⟩ : ∃ z : ti_M, z = uI M_14 q 5 x_17 := ⟨_, rfl⟩
  have hw := hw.to hM_19.symm
  have iM_19 : cI Tc M_19 := cI_uI iM_14 hM_19 hq.1 trivial
  have hs_20 : qC q (pp_su g_16 5 x_17.toInt) M_19 := qC_I hs_15 rfl hM_19 (by decide)
  obtain ⟨g_21, eg_21⟩ : ∃ z : Nat → Int, z = pp_su g_16 5 x_17.toInt := ⟨_, rfl⟩
  rw [← eg_21] at hs_20
  have sg_21 : g_21 5 = x_17.toInt := by rw [eg_21, su_s]
  refine lv_aload_n hx hb dX3_start_36 rfl (lv_at hl 1 rfl) ?_
  refine ti_get (ci := 8) (k := 1) (N := 12) (T := TX8) (v := .ref (A t 2)) C hw iw_8 rfl (ob_t ht) (by decide) (by decide) fl_X3_71 rfl rfl dX3_start_37 ?_
  refine lv_iconst (v := 0) hx hb dX3_start_40 (by decide) ?_
  refine lv_aload_n hx hb dX3_start_41 rfl (lv_at hl 0 rfl) ?_
  refine ti_get (ci := 3) (k := 7) (N := 17) (T := TX3) (v := .ref (A q 8)) C hw iw_3 rfl hq (by decide) (by decide) fl_X3_15 rfl rfl dX3_start_42 ?_
  refine lv_iconst (v := 0) hx hb dX3_start_45 (by decide) ?_
  refine lv_iconst (v := 3) hx hb dX3_start_46 (by decide) ?_
  refine ti_copy (c1 := 8) (k1 := 1) (n1 := 3) (c2 := 3) (k2 := 7) (n2 := 3) C hw ml_X3_72 sy_nat sy_sta sy_ini (ob_t ht) (by decide) (fun _ _ => rfl) hq (by decide) (fun _ _ => rfl) hl.1 (by decide) (by decide) (by decide) (by decide) (by decide) (by decide) (Nat.le_of_ble_eq_true rfl) dX3_start_47 (fun H locs hw => ?_)
  obtain ⟨M_22, hM_22⟩ : ∃ z : ti_M, z = uY M_19 q 7 (va_cpy (tY M_19 t 1) (tY M_19 q 7) (0 : Int32).toNatClampNeg (0 : Int32).toNatClampNeg (3 : Int32).toNatClampNeg) := ⟨_, rfl⟩
  have hw := hw.to hM_22.symm
  have iM_22 : cI Tc M_22 := cI_cp iM_19 hM_22 hq.1 (fun _ => trivial)
  have hs_23 : qC q (bq_cp tx g_21) M_22 := qC_cp hs_20 (tC_eo ht hq.1 htx (eo.trans (eo_I hM_19) (eo.trans (eo_I hM_14) (eo.trans (eo_I hM_9) (eo.trans (eo_I hM_6) (eo.trans (eo_I hM_3) (eo_T hM_1))))))) hM_22 rfl rfl
  obtain ⟨g_24, eg_24⟩ : ∃ z : Nat → Int, z = bq_cp tx g_21 := ⟨_, rfl⟩
  rw [← eg_24] at hs_23
  have E0 : g_24 = bq_s1 tx rg 0 := by rw [← s1_0, L_13, L_18, ← eg_5, ← eg_8, ← eg_11, ← eg_16, ← eg_21, ← eg_24]
  refine lv_iconst (v := 0) hx hb dX3_start_50 (by decide) ?_
  refine lv_istore_n (lv' := [(2, .int 0), (0, .ref (A q 0)), (1, .ref (A t 0))]) hx hb dX3_start_51 rfl hl (by decide) rfl (fun ls hl => ?_)
  have hl_52_34 : ∀ (n_35 : Nat) (x_25 : Int32) (M_28 : ti_M) (g_31 : Nat → Int) (H : Heap) (locs : List Loc) (ls : Array Slot), (8 - x_25.toInt : Int).toNat < n_35 → (0 ≤ x_25.toInt) → (x_25.toInt ≤ 8) → (cI Tc M_28) → (M_28.2.2.2 = (uT M q 0 (some t)).2.2.2) → (eo q M_28 M) → (qC q g_31 M_28) → (g_31 = bq_s1 tx rg (x_25.toInt).toNat) → (x_25.toInt ≤ tx 4) → ti_H ti_LT D A cy H0 M_28 H locs → lv_has ls 3 [(2, .int x_25), (0, .ref (A q 0)), (1, .ref (A t 0))] → W p l e (ti_rm 1) s m args below meth c H locs 0 0 Q (F0 m 52 ls []) := by
    intro n_35
    induction n_35 with
    | zero => intro x_25 M_28 g_31 H locs ls hf_35; exact absurd hf_35 (Nat.not_lt_zero _)
    | succ n_35 ih_35 =>
      intro x_25 M_28 g_31 H locs ls hf_35 b_26 b_27 iM_28 f_29 f_30 hs_32 j_33 j_34 hw hl
      refine lv_iload_n hx hb dX3_start_52 rfl (lv_at hl 0 rfl) ?_
      refine lv_aload_n hx hb dX3_start_53 rfl (lv_at hl 2 rfl) ?_
      refine ti_get (ci := 8) (k := 4) (N := 12) (T := TX8) C hw iw_8 rfl (ob_t ht) (by decide) (by decide) fl_X3_78 rfl rfl dX3_start_54 ?_
      refine lv_topi (fun x_36 ex_36 => ?_)
      have bx_36 : 0 ≤ x_36.toInt ∧ x_36.toInt ≤ 8 := cI_rd iM_28 (ob_t ht).1 ex_36
      have ux_36 : (tI M_28 t 4).toInt = x_36.toInt := by rw [ex_36]
      have L_37 : tx 4 = x_36.toInt := (((tC_eo ht hq.1 htx f_30).1 4 (by decide) (by decide)).trans (congrArg Int32.toInt (ex_36.symm))).trans rfl
      refine sb_icmp_ge (tgt := 111) hx hb rfl rfl dX3_start_57 (by decide) (fun c_57_37 => ?_) (fun c_57_37 => ?_)
      · refine lv_aload_n hx hb dX3_start_111 rfl (lv_at hl 1 rfl) ?_
        refine ti_get (ci := 3) (k := 8) (N := 17) (T := TX3) (v := .ref (A q 9)) C hw iw_3 rfl hq (by decide) (by decide) fl_X3_18 rfl rfl dX3_start_112 ?_
        refine lv_iconst (v := 0) hx hb dX3_start_115 (by decide) ?_
        refine ti_callSv (av := [.ref (A q 9), .int 0]) C hw (k_fill l D A cy ti_LT_nd hJ M_28 q 8 3 8 0 hq (by decide) (fun _ _ => rfl) (by decide)) ⟨ml_X3_93, ys_J7_fill_53178, yi_J7_fill_53178, yc_J7_fill_53178⟩ yd_J7_fill_53178 rfl hl.1 (Nat.le_of_ble_eq_true rfl) ⟨by decide, by decide⟩ ⟨Nat.zero_le _, Nat.zero_le _⟩ dX3_start_116 (fun M_56 H locs hp hw => ?_)
        obtain ⟨g_57, hM_56, hgM_56⟩ := hp
        have iM_56 : cI Tc M_56 := cI_uY iM_28 hM_56 hq.1 (fun _ => trivial)
        have hs_58 : qC q (bq_fl g_31 128) M_56 := qC_f8 (k := 8) hs_32 hM_56 (by decide) (fun j hj => by rw [hgM_56 j hj]; decide)
        obtain ⟨g_59, eg_59⟩ : ∃ z : Nat → Int, z = bq_fl g_31 128 := ⟨_, rfl⟩
        rw [← eg_59] at hs_58
        refine lv_aload_n hx hb dX3_start_119 rfl (lv_at hl 1 rfl) ?_
        refine ti_get (ci := 3) (k := 11) (N := 17) (T := TX3) (v := .ref (A q 12)) C hw iw_3 rfl hq (by decide) (by decide) fl_X3_27 rfl rfl dX3_start_120 ?_
        refine lv_iconst (v := 0) hx hb dX3_start_123 (by decide) ?_
        refine ti_callSv (av := [.ref (A q 12), .int 0]) C hw (k_fill l D A cy ti_LT_nd hJ M_56 q 11 3 8 0 hq (by decide) (fun _ _ => rfl) (by decide)) ⟨ml_X3_93, ys_J7_fill_53178, yi_J7_fill_53178, yc_J7_fill_53178⟩ yd_J7_fill_53178 rfl hl.1 (Nat.le_of_ble_eq_true rfl) ⟨by decide, by decide⟩ ⟨Nat.zero_le _, Nat.zero_le _⟩ dX3_start_124 (fun M_60 H locs hp hw => ?_)
        obtain ⟨g_61, hM_60, hgM_60⟩ := hp
        have iM_60 : cI Tc M_60 := cI_uY iM_56 hM_60 hq.1 (fun _ => trivial)
        have hs_62 : qC q (bq_fl g_59 176) M_60 := qC_f8 (k := 11) hs_58 hM_60 (by decide) (fun j hj => by rw [hgM_60 j hj]; decide)
        obtain ⟨g_63, eg_63⟩ : ∃ z : Nat → Int, z = bq_fl g_59 176 := ⟨_, rfl⟩
        rw [← eg_63] at hs_62
        refine lv_aload_n hx hb dX3_start_127 rfl (lv_at hl 1 rfl) ?_
        refine ti_get (ci := 3) (k := 15) (N := 17) (T := TX3) (v := .ref (A q 16)) C hw iw_3 rfl hq (by decide) (by decide) fl_X3_39 rfl rfl dX3_start_128 ?_
        refine lv_iconst (v := 0) hx hb dX3_start_131 (by decide) ?_
        refine ti_callSv (av := [.ref (A q 16), .int 0]) C hw (k_fill l D A cy ti_LT_nd hJ M_60 q 15 3 8 0 hq (by decide) (fun _ _ => rfl) (by decide)) ⟨ml_X3_93, ys_J7_fill_53178, yi_J7_fill_53178, yc_J7_fill_53178⟩ yd_J7_fill_53178 rfl hl.1 (Nat.le_of_ble_eq_true rfl) ⟨by decide, by decide⟩ ⟨Nat.zero_le _, Nat.zero_le _⟩ dX3_start_132 (fun M_64 H locs hp hw => ?_)
        obtain ⟨g_65, hM_64, hgM_64⟩ := hp
        have iM_64 : cI Tc M_64 := cI_uY iM_60 hM_64 hq.1 (fun _ => trivial)
        have hs_66 : qC q (bq_fl g_63 240) M_64 := qC_f8 (k := 15) hs_62 hM_64 (by decide) (fun j hj => by rw [hgM_64 j hj]; decide)
        obtain ⟨g_67, eg_67⟩ : ∃ z : Nat → Int, z = bq_fl g_63 240 := ⟨_, rfl⟩
        rw [← eg_67] at hs_66
        refine lv_aload_n hx hb dX3_start_135 rfl (lv_at hl 1 rfl) ?_
        refine ti_get (ci := 3) (k := 16) (N := 17) (T := TX3) (v := .ref (A q 17)) C hw iw_3 rfl hq (by decide) (by decide) fl_X3_42 rfl rfl dX3_start_136 ?_
        refine lv_iconst (v := 0) hx hb dX3_start_139 (by decide) ?_
        refine ti_callSv (av := [.ref (A q 17), .int 0]) C hw (k_fill l D A cy ti_LT_nd hJ M_64 q 16 3 8 0 hq (by decide) (fun _ _ => rfl) (by decide)) ⟨ml_X3_93, ys_J7_fill_53178, yi_J7_fill_53178, yc_J7_fill_53178⟩ yd_J7_fill_53178 rfl hl.1 (Nat.le_of_ble_eq_true rfl) ⟨by decide, by decide⟩ ⟨Nat.zero_le _, Nat.zero_le _⟩ dX3_start_140 (fun M_68 H locs hp hw => ?_)
        obtain ⟨g_69, hM_68, hgM_68⟩ := hp
        have iM_68 : cI Tc M_68 := cI_uY iM_64 hM_68 hq.1 (fun _ => trivial)
        have hs_70 : qC q (bq_fl g_67 256) M_68 := qC_f8 (k := 16) hs_66 hM_68 (by decide) (fun j hj => by rw [hgM_68 j hj]; decide)
        obtain ⟨g_71, eg_71⟩ : ∃ z : Nat → Int, z = bq_fl g_67 256 := ⟨_, rfl⟩
        rw [← eg_71] at hs_70
        have E_72 : bq_s0 tx rg = g_71 := by unfold bq_s0; rw [show (tx 4).toNat = x_25.toInt.toNat by omega, ← j_33, ← eg_59, ← eg_63, ← eg_67, ← eg_71]
        exact hQ _ _ _ _ _ hw (⟨iM_68, ((rf_Y hM_68).trans ((rf_Y hM_64).trans ((rf_Y hM_60).trans ((rf_Y hM_56).trans f_29)))), (eo.trans (eo_Y hM_68) (eo.trans (eo_Y hM_64) (eo.trans (eo_Y hM_60) (eo.trans (eo_Y hM_56) f_30)))), (by rw [E_72]; exact hs_70)⟩) dX3_start_143
      · refine lv_aload_n hx hb dX3_start_60 rfl (lv_at hl 1 rfl) ?_
        refine ti_get (ci := 3) (k := 9) (N := 17) (T := TX3) (v := .ref (A q 10)) C hw iw_3 rfl hq (by decide) (by decide) fl_X3_21 rfl rfl dX3_start_61 ?_
        refine lv_iload_n hx hb dX3_start_64 rfl (lv_at hl 0 rfl) ?_
        refine lv_aload_n hx hb dX3_start_65 rfl (lv_at hl 2 rfl) ?_
        refine ti_get (ci := 8) (k := 0) (N := 12) (T := TX8) (v := .ref (A t 1)) C hw iw_8 rfl (ob_t ht) (by decide) (by decide) fl_X3_81 rfl rfl dX3_start_66 ?_
        refine lv_iload_n hx hb dX3_start_69 rfl (lv_at hl 0 rfl) ?_
        refine ti_aald (ci := 8) (k := 0) (n := 8) (t0 := 5) (Cn := RX2) (gg := (ti_men t)) (j := x_25.toNatClampNeg) C hw (ob_t ht) (by decide) (fun _ _ => rfl) rfl (vp_in_iff.mpr (by omega)) rfl dX3_start_70 ?_
        have ob_39 : ti_ob ti_LT (ti_men t x_25.toNatClampNeg) 2 := ob_m ht (i_nt rfl (by omega) (by omega))
        refine ti_get (ci := 2) (k := 7) (N := 10) (T := TX2) C hw iw_2 rfl ob_39 (by decide) (by decide) fl_X3_85 rfl rfl dX3_start_71 ?_
        refine lv_topi (fun x_40 ex_40 => ?_)
        have L_41 : tx (100 + 16 * x_25.toInt.toNat + 7) = x_40.toInt := (((show tx (100 + 16 * x_25.toInt.toNat + 7) = _ from by rw [← (show x_25.toNatClampNeg = x_25.toInt.toNat from congrArg Int.toNat rfl)]; exact (tC_eo ht hq.1 htx f_30).2.2.1 x_25.toNatClampNeg 7 (i_nt (n := 8) rfl (by omega) (by omega)) (by decide) (by decide))).trans (congrArg Int32.toInt (ex_40.symm))).trans rfl
        refine ti_iast (ci := 3) (k := 9) (n := 8) C hw hq (by decide) (fun _ _ => rfl) (vp_in_iff.mpr (by omega)) dX3_start_74 (fun H locs hw => ?_)
        obtain ⟨M_42, hM_42⟩ : ∃ z : ti_M, z = uY M_28 q 9 (upd (tY M_28 q 9) (x_25 : Int32).toNatClampNeg x_40) := ⟨_, rfl⟩
        have hw := hw.to hM_42.symm
        have iM_42 : cI Tc M_42 := cI_up iM_28 hM_42 hq.1 trivial
        have hs_43 : qC q (pp_su g_31 (144 + x_25.toInt.toNat) x_40.toInt) M_42 := qC_Y (k := 9) (j := x_25.toInt.toNat) (i := x_25) hs_32 (by omega) rfl hM_42 (by decide) (by omega)
        obtain ⟨g_44, eg_44⟩ : ∃ z : Nat → Int, z = pp_su g_31 (144 + x_25.toInt.toNat) x_40.toInt := ⟨_, rfl⟩
        rw [← eg_44] at hs_43
        refine lv_aload_n hx hb dX3_start_75 rfl (lv_at hl 1 rfl) ?_
        refine ti_get (ci := 3) (k := 10) (N := 17) (T := TX3) (v := .ref (A q 11)) C hw iw_3 rfl hq (by decide) (by decide) fl_X3_24 rfl rfl dX3_start_76 ?_
        refine lv_iload_n hx hb dX3_start_79 rfl (lv_at hl 0 rfl) ?_
        refine lv_aload_n hx hb dX3_start_80 rfl (lv_at hl 2 rfl) ?_
        refine ti_get (ci := 8) (k := 0) (N := 12) (T := TX8) (v := .ref (A t 1)) C hw iw_8 rfl (ob_t ht) (by decide) (by decide) fl_X3_81 rfl rfl dX3_start_81 ?_
        refine lv_iload_n hx hb dX3_start_84 rfl (lv_at hl 0 rfl) ?_
        refine ti_aald (ci := 8) (k := 0) (n := 8) (t0 := 5) (Cn := RX2) (gg := (ti_men t)) (j := x_25.toNatClampNeg) C hw (ob_t ht) (by decide) (fun _ _ => rfl) rfl (vp_in_iff.mpr (by omega)) rfl dX3_start_85 ?_
        refine ti_get (ci := 2) (k := 3) (N := 10) (T := TX2) C hw iw_2 rfl ob_39 (by decide) (by decide) fl_X3_89 rfl rfl dX3_start_86 ?_
        refine lv_topi (fun x_45 ex_45 => ?_)
        have L_46 : tx (100 + 16 * x_25.toInt.toNat + 3) = x_45.toInt := (((show tx (100 + 16 * x_25.toInt.toNat + 3) = _ from by rw [← (show x_25.toNatClampNeg = x_25.toInt.toNat from congrArg Int.toNat rfl)]; exact (tC_eo ht hq.1 htx (eo.trans (eo_Y hM_42) f_30)).2.2.1 x_25.toNatClampNeg 3 (i_nt (n := 8) rfl (by omega) (by omega)) (by decide) (by decide))).trans (congrArg Int32.toInt (ex_45.symm))).trans rfl
        refine ti_iast (ci := 3) (k := 10) (n := 8) C hw hq (by decide) (fun _ _ => rfl) (vp_in_iff.mpr (by omega)) dX3_start_89 (fun H locs hw => ?_)
        obtain ⟨M_47, hM_47⟩ : ∃ z : ti_M, z = uY M_42 q 10 (upd (tY M_42 q 10) (x_25 : Int32).toNatClampNeg x_45) := ⟨_, rfl⟩
        have hw := hw.to hM_47.symm
        have iM_47 : cI Tc M_47 := cI_up iM_42 hM_47 hq.1 trivial
        have hs_48 : qC q (pp_su g_44 (160 + x_25.toInt.toNat) x_45.toInt) M_47 := qC_Y (k := 10) (j := x_25.toInt.toNat) (i := x_25) hs_43 (by omega) rfl hM_47 (by decide) (by omega)
        obtain ⟨g_49, eg_49⟩ : ∃ z : Nat → Int, z = pp_su g_44 (160 + x_25.toInt.toNat) x_45.toInt := ⟨_, rfl⟩
        rw [← eg_49] at hs_48
        refine lv_aload_n hx hb dX3_start_90 rfl (lv_at hl 1 rfl) ?_
        refine ti_get (ci := 3) (k := 12) (N := 17) (T := TX3) (v := .ref (A q 13)) C hw iw_3 rfl hq (by decide) (by decide) fl_X3_30 rfl rfl dX3_start_91 ?_
        refine lv_iload_n hx hb dX3_start_94 rfl (lv_at hl 0 rfl) ?_
        refine lv_aload_n hx hb dX3_start_95 rfl (lv_at hl 2 rfl) ?_
        refine ti_get (ci := 8) (k := 0) (N := 12) (T := TX8) (v := .ref (A t 1)) C hw iw_8 rfl (ob_t ht) (by decide) (by decide) fl_X3_81 rfl rfl dX3_start_96 ?_
        refine lv_iload_n hx hb dX3_start_99 rfl (lv_at hl 0 rfl) ?_
        refine ti_aald (ci := 8) (k := 0) (n := 8) (t0 := 5) (Cn := RX2) (gg := (ti_men t)) (j := x_25.toNatClampNeg) C hw (ob_t ht) (by decide) (fun _ _ => rfl) rfl (vp_in_iff.mpr (by omega)) rfl dX3_start_100 ?_
        refine ti_get (ci := 2) (k := 5) (N := 10) (T := TX2) C hw iw_2 rfl ob_39 (by decide) (by decide) fl_X3_91 rfl rfl dX3_start_101 ?_
        refine lv_topi (fun x_50 ex_50 => ?_)
        have L_51 : tx (100 + 16 * x_25.toInt.toNat + 5) = x_50.toInt := (((show tx (100 + 16 * x_25.toInt.toNat + 5) = _ from by rw [← (show x_25.toNatClampNeg = x_25.toInt.toNat from congrArg Int.toNat rfl)]; exact (tC_eo ht hq.1 htx (eo.trans (eo_Y hM_47) (eo.trans (eo_Y hM_42) f_30))).2.2.1 x_25.toNatClampNeg 5 (i_nt (n := 8) rfl (by omega) (by omega)) (by decide) (by decide))).trans (congrArg Int32.toInt (ex_50.symm))).trans rfl
        refine ti_iast (ci := 3) (k := 12) (n := 8) C hw hq (by decide) (fun _ _ => rfl) (vp_in_iff.mpr (by omega)) dX3_start_104 (fun H locs hw => ?_)
        obtain ⟨M_52, hM_52⟩ : ∃ z : ti_M, z = uY M_47 q 12 (upd (tY M_47 q 12) (x_25 : Int32).toNatClampNeg x_50) := ⟨_, rfl⟩
        have hw := hw.to hM_52.symm
        have iM_52 : cI Tc M_52 := cI_up iM_47 hM_52 hq.1 trivial
        have hs_53 : qC q (pp_su g_49 (192 + x_25.toInt.toNat) x_50.toInt) M_52 := qC_Y (k := 12) (j := x_25.toInt.toNat) (i := x_25) hs_48 (by omega) rfl hM_52 (by decide) (by omega)
        obtain ⟨g_54, eg_54⟩ : ∃ z : Nat → Int, z = pp_su g_49 (192 + x_25.toInt.toNat) x_50.toInt := ⟨_, rfl⟩
        rw [← eg_54] at hs_53
        obtain ⟨x_55, ex_55⟩ : ∃ z : Int32, z = x_25 + 1 := ⟨_, rfl⟩
        have tx_55 : x_55.toInt = x_25.toInt + 1 := i_add ex_55 rfl (by decide) (by omega) (by omega)
        refine lv_iinc (v := x_55) (lv' := [(2, .int x_55), (0, .ref (A q 0)), (1, .ref (A t 0))]) hx hb dX3_start_105 hl (k := 0) rfl (by rw [ex_55]; rfl) (by decide) rfl (fun ls hl => ?_)
        refine lv_goto (tgt := 52) hx hb dX3_start_108 (by decide) ?_
        exact ih_35 x_55 M_52 g_54 _ _ _ (by omega) (by first | omega | decide) (by first | omega | decide) iM_52 ((rf_Y hM_52).trans ((rf_Y hM_47).trans ((rf_Y hM_42).trans f_29))) (eo.trans (eo_Y hM_52) (eo.trans (eo_Y hM_47) (eo.trans (eo_Y hM_42) f_30))) hs_53 (by rw [show x_55.toInt.toNat = x_25.toInt.toNat + 1 by omega, ← s1_go (tx := tx) (J := rg) (n := x_25.toInt.toNat) (by omega), ← j_33, L_41, L_46, L_51, ← eg_44, ← eg_49, ← eg_54]) (by first | omega | decide) hw (lv_sub hl [0, 1, 2] rfl)
  exact hl_52_34 ((8 - 0 : Int).toNat + 1) 0 M_22 g_24 _ _ _ (Nat.lt_succ_self _) (by have lt0 : (0 : Int32).toInt = 0 := (by decide); first | omega | decide) (by have lt0 : (0 : Int32).toInt = 0 := (by decide); first | omega | decide) iM_22 ((rf_Y hM_22).trans ((rf_I hM_19).trans ((rf_I hM_14).trans ((rf_I hM_9).trans ((rf_I hM_6).trans ((rf_I hM_3).trans (rf_Tc hM_1 rfl))))))) (eo.trans (eo_Y hM_22) (eo.trans (eo_I hM_19) (eo.trans (eo_I hM_14) (eo.trans (eo_I hM_9) (eo.trans (eo_I hM_6) (eo.trans (eo_I hM_3) (eo_T hM_1))))))) hs_23 E0 (by have lt0 : (0 : Int32).toInt = 0 := (by decide); first | omega | decide) hw (lv_sub hl [0, 1, 2] rfl)

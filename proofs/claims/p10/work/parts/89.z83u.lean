variable {Tc : gC} {Tm : gM}
theorem tR_4 {tx : Nat → Int} {M : ti_M} (h : tR tx M) (hI : mI Tm M) : 0 ≤ tx 4 ∧ tx 4 ≤ 8 := by
  have b : ib 0 8 (tY M 60 3 0) := hI.2.1 3 0
  rw [h.1.1]; exact b
set_option maxHeartbeats 4000000 in
set_option maxRecDepth 100000 in
theorem z_X10_begins (l : Launch) (D : va_G) (A : Nat → Nat → Nat) (cy : Nat → ClassId) (hJ : ti_inj ti_LM A) (M : ti_M) (hI : mI Tm M) (tx J : Nat → Int) (htr : tR tx M) (ht4 : 0 ≤ tx 4 ∧ tx 4 ≤ 8) : ti_Kv l yX10_begins cX10_begins 1 1 ti_LM D A cy M [.ref (A 60 0)] (fun M2 => eR 0 M2 M ∧ qR (tx 4).toNat 0 (bq_s0 tx J) M2 ∧ qV (tx 4).toNat 0 (bq_s0 tx J) M2 ∧ mI Tm M2 ∧ rq 0 M2 M ∧ mC M2 0 ∧ mP M2 0) := by
  refine ti_eV yp_X10_begins hJ ti_LM_nd (Nat.le_of_ble_eq_true rfl) ?_
  intro p e s m args below meth c Q H0 C hQ hw ls hl
  have hx := C.1
  have hb := C.2.1
  have hl : lv_has ls 1 [(0, .ref (A 60 0))] := hl
  refine lv_aload_n hx hb dX10_begins_0 rfl (lv_at hl 0 rfl) ?_
  refine lv_iconst (v := 0) hx hb dX10_begins_1 (by decide) ?_
  refine ti_callVv (ci := 10) (av := [.int 0]) C hw (z_X10_starts_0 l D A cy hJ M hI tx J htr ht4) ⟨ml_X10_353, ym_X10_starts, yv_X10_starts, yi_X10_starts, yc_X10_starts⟩ yd_X10_starts ob_60 (by decide) rfl rfl hl.1 (Nat.le_of_ble_eq_true rfl) ⟨by decide, by decide⟩ ⟨Nat.zero_le _, Nat.zero_le _⟩ dX10_begins_2 (fun M_2 H locs hp_2 hw => ?_)
  obtain ⟨q_3, q_4, q_5, iM_2, q_6, q_7, q_8⟩ := hp_2
  exact hQ _ _ _ _ _ hw (⟨q_3, q_4, q_5, iM_2, q_6, q_7, q_8⟩) dX10_begins_5
set_option maxHeartbeats 4000000 in
set_option maxRecDepth 100000 in
theorem z_X10_text (l : Launch) (D : va_G) (A : Nat → Nat → Nat) (cy : Nat → ClassId) (hJ : ti_inj ti_LM A) (M : ti_M) (hI : mI Tm M) (hF : mF Tm M) (nn : Int32) (B J : Nat → Int) (hB0 : nn.toInt ≤ (tI M 60 2).toInt → ∀ i : Nat, i < nn.toInt.toNat → (tY M 60 1 i).toInt = B i) (K0 J2 : Nat → Int) : ti_KiE l yX10_text cX10_text 3 (some .int) 652 ti_LM D A cy M [.ref (A 60 0), .int nn] (fun r M2 => ((nn.toInt < 0 ∨ (tI M 60 2).toInt < nn.toInt) ∧ r.toInt = -2 ∧ mF Tm M2 ∧ tI M2 60 2 = tI M 60 2 ∧ ∃ z : Int32, M2 = uI M 60 0 z) ∨ (¬ (nn.toInt < 0 ∨ (tI M 60 2).toInt < nn.toInt) ∧ tI M2 60 2 = 0 ∧ mF (mG M2) M2 ∧ r.toInt = pp_an (pp_tx B nn.toInt.toNat J) ∧ (tI M2 60 27).toInt = (pp_tx B nn.toInt.toNat J) 4 ∧ (tI M2 60 28).toInt = (pp_tx B nn.toInt.toNat J) 5 ∧ ((pp_tx B nn.toInt.toNat J) 4 ≠ 0 → lx M2 M ∧ gU M2 M) ∧ ((pp_tx B nn.toInt.toNat J) 4 = 0 → tdR M2 (pp_tx B nn.toInt.toNat J) ∧ tW (tX (pp_tx B nn.toInt.toNat J) (qq_tx B nn.toInt.toNat J K0)) ∧ tR (tX (pp_tx B nn.toInt.toNat J) (qq_tx B nn.toInt.toNat J K0)) M2 ∧ qR ((tX (pp_tx B nn.toInt.toNat J) (qq_tx B nn.toInt.toNat J K0)) 4).toNat 0 (bq_s0 (tX (pp_tx B nn.toInt.toNat J) (qq_tx B nn.toInt.toNat J K0)) J2) M2 ∧ qV ((tX (pp_tx B nn.toInt.toNat J) (qq_tx B nn.toInt.toNat J K0)) 4).toNat 0 (bq_s0 (tX (pp_tx B nn.toInt.toNat J) (qq_tx B nn.toInt.toNat J K0)) J2) M2 ∧ tI M2 60 51 = 0 ∧ tI M2 60 52 = 0 ∧ tI M2 60 53 = tI M 60 53 ∧ tI M2 60 58 = 0 ∧ tI M2 60 59 = -1))) := by
  refine ti_eIE yp_X10_text hJ ti_LM_nd (Nat.le_of_ble_eq_true rfl) ?_
  intro p e s m args below meth c Q H0 C hE hQ hw ls hl
  have hx := C.1
  have hb := C.2.1
  have hl : lv_has ls 3 [(0, .ref (A 60 0)), (1, .int nn)] := hl
  refine lv_aload_n hx hb dX10_text_0 rfl (lv_at hl 0 rfl) ?_
  refine lv_iconst (v := 0) hx hb dX10_text_1 (by decide) ?_
  refine ti_putI (ci := 10) (k := 0) (N := 67) (T := TX10) C hw iw_10 tyX10 tyX10_ok nmX10 rfl ob_60 (by decide) (by decide) fl_X10_154 rfl rfl rfl rfl (fn_10 A _) fs_10_0 dX10_text_2 (fun H locs hw => ?_)
  obtain ⟨M_1, hM_1⟩ : ∃ z : ti_M, z = uI M 60 0 0 := ⟨_, rfl⟩
  have hw := hw.to hM_1.symm
  have iM_1 : mI Tm M_1 := mI_uI hI hM_1 (by decide) (by decide) trivial
  refine lv_iload_n hx hb dX10_text_5 rfl (lv_at hl 1 rfl) ?_
  have hj_17_5 : ∀  (H : Heap) (locs : List Loc) (ls : Array Slot), ((nn.toInt < 0 ∨ (tI M 60 2).toInt < nn.toInt)) → ti_H ti_LM D A cy H0 M_1 H locs → lv_has ls 3 [(0, .ref (A 60 0)), (1, .int nn)] → W p l e (ti_rm 652) s m args below meth c H locs 0 0 Q (F0 m 17 ls []) := by
    intro  H locs ls j_5 hw hl
    refine lv_bipush (v := (-2)) hx hb dX10_text_17 (by decide) ?_
    exact hQ _ _ _ _ _ _ hw rfl (Or.inl ⟨by omega, by decide, mF_qw hF iM_1 (qw_I hM_1 (by decide)), (tI_nE hM_1 (nk (by decide))), ⟨_, hM_1⟩⟩) dX10_text_19
  refine sb_if_lt (tgt := 17) hx hb rfl dX10_text_6 (by decide) (fun c_6_1 => ?_) (fun c_6_1 => ?_)
  · exact hj_17_5  _ _ _ (by first | omega | decide) hw (lv_sub hl [0, 1] rfl)
  · refine lv_iload_n hx hb dX10_text_9 rfl (lv_at hl 1 rfl) ?_
    refine lv_aload_n hx hb dX10_text_10 rfl (lv_at hl 0 rfl) ?_
    refine ti_get (ci := 10) (k := 2) (N := 67) (T := TX10) C hw iw_10 rfl ob_60 (by decide) (by decide) fl_X10_157 rfl rfl dX10_text_11 ?_
    refine lv_topi (fun x_3 ex_3 => ?_)
    have bx_3 : 0 ≤ x_3.toInt ∧ x_3.toInt ≤ 700 := mI_rd iM_1 ex_3
    have ux_3 : (tI M_1 60 2).toInt = x_3.toInt := by rw [ex_3]
    have w2 : (tI M_1 60 2).toInt = (tI M 60 2).toInt := by rw [(tI_nE hM_1 (nk (by decide)))]
    refine sb_icmp_le (tgt := 20) hx hb rfl rfl dX10_text_14 (by decide) (fun c_14_3 => ?_) (fun c_14_3 => ?_)
    · refine lv_aload_n hx hb dX10_text_20 rfl (lv_at hl 0 rfl) ?_
      refine lv_iload_n hx hb dX10_text_21 rfl (lv_at hl 1 rfl) ?_
      refine ti_putI (ci := 10) (k := 20) (N := 67) (T := TX10) C hw iw_10 tyX10 tyX10_ok nmX10 rfl ob_60 (by decide) (by decide) fl_X10_163 rfl rfl rfl rfl (fn_10 A _) fs_10_20 dX10_text_22 (fun H locs hw => ?_)
      obtain ⟨M_6, hM_6⟩ : ∃ z : ti_M, z = uI M_1 60 20 nn := ⟨_, rfl⟩
      have hw := hw.to hM_6.symm
      have iM_6 : mI Tm M_6 := mI_uI iM_1 hM_6 (by decide) (by decide) (ib_mk (lo := 0) (hi := 700) (by omega) (by omega))
      have vM_6 : (tI M_6 60 20).toInt = (nn : Int32).toInt := by rw [tI_uE hM_6]
      refine lv_aload_n hx hb dX10_text_25 rfl (lv_at hl 0 rfl) ?_
      refine lv_iconst (v := 0) hx hb dX10_text_26 (by decide) ?_
      refine ti_putI (ci := 10) (k := 2) (N := 67) (T := TX10) C hw iw_10 tyX10 tyX10_ok nmX10 rfl ob_60 (by decide) (by decide) fl_X10_157 rfl rfl rfl rfl (fn_10 A _) fs_10_2 dX10_text_27 (fun H locs hw => ?_)
      obtain ⟨M_7, hM_7⟩ : ∃ z : ti_M, z = uI M_6 60 2 0 := ⟨_, rfl⟩
      have hw := hw.to hM_7.symm
      have iM_7 : mI Tm M_7 := mI_uI iM_6 hM_7 (by decide) (by decide) (ib_mk (lo := 0) (hi := 700) (by decide) (by decide))
      have vM_7 : (tI M_7 60 2).toInt = 0 := by rw [tI_uE hM_7]; decide
      refine lv_aload_n hx hb dX10_text_30 rfl (lv_at hl 0 rfl) ?_
      refine lv_iconst (v := 0) hx hb dX10_text_31 (by decide) ?_
      refine ti_putI (ci := 10) (k := 21) (N := 67) (T := TX10) C hw iw_10 tyX10 tyX10_ok nmX10 rfl ob_60 (by decide) (by decide) fl_X10_160 rfl rfl rfl rfl (fn_10 A _) fs_10_21 dX10_text_32 (fun H locs hw => ?_)
      obtain ⟨M_8, hM_8⟩ : ∃ z : ti_M, z = uI M_7 60 21 0 := ⟨_, rfl⟩
      have hw := hw.to hM_8.symm
      have iM_8 : mI Tm M_8 := mI_uI iM_7 hM_8 (by decide) (by decide) (ib_mk (lo := 0) (hi := 700) (by decide) (by decide))
      have vM_8 : (tI M_8 60 21).toInt = 0 := by rw [tI_uE hM_8]; decide
      refine lv_aload_n hx hb dX10_text_35 rfl (lv_at hl 0 rfl) ?_
      refine lv_iconst (v := 0) hx hb dX10_text_36 (by decide) ?_
      refine ti_putI (ci := 10) (k := 25) (N := 67) (T := TX10) C hw iw_10 tyX10 tyX10_ok nmX10 rfl ob_60 (by decide) (by decide) fl_X10_208 rfl rfl rfl rfl (fn_10 A _) fs_10_25 dX10_text_37 (fun H locs hw => ?_)
      obtain ⟨M_9, hM_9⟩ : ∃ z : ti_M, z = uI M_8 60 25 0 := ⟨_, rfl⟩
      have hw := hw.to hM_9.symm
      have iM_9 : mI Tm M_9 := mI_uI iM_8 hM_9 (by decide) (by decide) trivial
      refine lv_aload_n hx hb dX10_text_40 rfl (lv_at hl 0 rfl) ?_
      refine lv_iconst (v := (-1)) hx hb dX10_text_41 (by decide) ?_
      refine ti_putI (ci := 10) (k := 26) (N := 67) (T := TX10) C hw iw_10 tyX10 tyX10_ok nmX10 rfl ob_60 (by decide) (by decide) fl_X10_211 rfl rfl rfl rfl (fn_10 A _) fs_10_26 dX10_text_42 (fun H locs hw => ?_)
      obtain ⟨M_10, hM_10⟩ : ∃ z : ti_M, z = uI M_9 60 26 (-1) := ⟨_, rfl⟩
      have hw := hw.to hM_10.symm
      have iM_10 : mI Tm M_10 := mI_uI iM_9 hM_10 (by decide) (by decide) trivial
      refine lv_iconst (v := 0) hx hb dX10_text_45 (by decide) ?_
      refine lv_istore_n (lv' := [(2, .int 0), (0, .ref (A 60 0)), (1, .int nn)]) hx hb dX10_text_46 rfl hl (by decide) rfl (fun ls hl => ?_)
      refine lv_iload_n hx hb dX10_text_47 rfl (lv_at hl 0 rfl) ?_
      refine lv_bipush (v := 11) hx hb dX10_text_48 (by decide) ?_
      refine sb_icmp_ge (tgt := 120) hx hb (by decide : (0 : Int32).toInt = 0) (by decide : (11 : Int32).toInt = 11) dX10_text_50 (by decide) (fun h => absurd h (by decide)) (fun c_50_10 => ?_)
      refine lv_aload_n hx hb dX10_text_53 rfl (lv_at hl 1 rfl) ?_
      refine lv_iload_n hx hb dX10_text_54 rfl (lv_at hl 0 rfl) ?_
      refine lv_iload_n hx hb dX10_text_55 rfl (lv_at hl 0 rfl) ?_
      refine lv_iconst (v := 1) hx hb dX10_text_56 (by decide) ?_
      refine sb_icmp_ne (tgt := 66) hx hb (by decide : (0 : Int32).toInt = 0) (by decide : (1 : Int32).toInt = 1) dX10_text_57 (by decide) (fun c_57_11 => ?_) (fun h => absurd h (by decide))
      refine lv_iload_n hx hb dX10_text_66 rfl (lv_at hl 0 rfl) ?_
      refine lv_iconst (v := 2) hx hb dX10_text_67 (by decide) ?_
      refine sb_icmp_eq (tgt := 77) hx hb (by decide : (0 : Int32).toInt = 0) (by decide : (2 : Int32).toInt = 2) dX10_text_68 (by decide) (fun h => absurd h (by decide)) (fun c_68_12 => ?_)
      refine lv_iload_n hx hb dX10_text_71 rfl (lv_at hl 0 rfl) ?_
      refine lv_bipush (v := 10) hx hb dX10_text_72 (by decide) ?_
      refine sb_icmp_ne (tgt := 81) hx hb (by decide : (0 : Int32).toInt = 0) (by decide : (10 : Int32).toInt = 10) dX10_text_74 (by decide) (fun c_74_13 => ?_) (fun h => absurd h (by decide))
      refine lv_iload_n hx hb dX10_text_81 rfl (lv_at hl 0 rfl) ?_
      refine lv_iconst (v := 3) hx hb dX10_text_82 (by decide) ?_
      refine sb_icmp_ne (tgt := 91) hx hb (by decide : (0 : Int32).toInt = 0) (by decide : (3 : Int32).toInt = 3) dX10_text_83 (by decide) (fun c_83_14 => ?_) (fun h => absurd h (by decide))
      refine lv_iload_n hx hb dX10_text_91 rfl (lv_at hl 0 rfl) ?_
      refine lv_iconst (v := 4) hx hb dX10_text_92 (by decide) ?_
      refine sb_icmp_ne (tgt := 100) hx hb (by decide : (0 : Int32).toInt = 0) (by decide : (4 : Int32).toInt = 4) dX10_text_93 (by decide) (fun c_93_15 => ?_) (fun h => absurd h (by decide))
      refine lv_iload_n hx hb dX10_text_100 rfl (lv_at hl 0 rfl) ?_
      refine lv_bipush (v := 9) hx hb dX10_text_101 (by decide) ?_
      refine sb_icmp_ne (tgt := 110) hx hb (by decide : (0 : Int32).toInt = 0) (by decide : (9 : Int32).toInt = 9) dX10_text_103 (by decide) (fun c_103_16 => ?_) (fun h => absurd h (by decide))
      refine lv_iconst (v := 0) hx hb dX10_text_110 (by decide) ?_
      refine ti_callVv (ci := 10) (av := [.int 0, .int 0]) C hw (s_X10_reads l D A cy hJ M_10 iM_10 0 0 (by decide) (by decide) (by rw [show (11 + (0 : Int32).toInt).toNat = 11 by decide]; exact (ib_mk (lo := 0) (hi := 8) (by decide) (by decide)))) ⟨ml_X10_244, ym_X10_reads, yv_X10_reads, yi_X10_reads, yc_X10_reads⟩ yd_X10_reads ob_60 (by decide) rfl rfl hl.1 (Nat.le_of_ble_eq_true rfl) ⟨by decide, by decide⟩ ⟨Nat.zero_le _, Nat.zero_le _⟩ dX10_text_111 (fun M_19 H locs hp_19 hw => ?_)
      obtain ⟨iM_19, hM_19⟩ := hp_19
      rw [show (11 + (0 : Int32).toInt).toNat = 11 by decide] at hM_19
      refine lv_iinc (v := 1) (lv' := [(2, .int 1), (0, .ref (A 60 0)), (1, .int nn)]) hx hb dX10_text_114 hl (k := 0) rfl (by decide) (by decide) rfl (fun ls hl => ?_)
      refine lv_goto (tgt := 47) hx hb dX10_text_117 (by decide) ?_
      refine lv_iload_n hx hb dX10_text_47 rfl (lv_at hl 0 rfl) ?_
      refine lv_bipush (v := 11) hx hb dX10_text_48 (by decide) ?_
      refine sb_icmp_ge (tgt := 120) hx hb (by decide : (1 : Int32).toInt = 1) (by decide : (11 : Int32).toInt = 11) dX10_text_50 (by decide) (fun h => absurd h (by decide)) (fun c_50_19 => ?_)
      refine lv_aload_n hx hb dX10_text_53 rfl (lv_at hl 1 rfl) ?_
      refine lv_iload_n hx hb dX10_text_54 rfl (lv_at hl 0 rfl) ?_
      refine lv_iload_n hx hb dX10_text_55 rfl (lv_at hl 0 rfl) ?_
      refine lv_iconst (v := 1) hx hb dX10_text_56 (by decide) ?_
      refine sb_icmp_ne (tgt := 66) hx hb (by decide : (1 : Int32).toInt = 1) (by decide : (1 : Int32).toInt = 1) dX10_text_57 (by decide) (fun h => absurd h (by decide)) (fun c_57_20 => ?_)
      refine lv_sipush (v := 200) hx hb dX10_text_60 (by decide) ?_
      refine lv_goto (tgt := 111) hx hb dX10_text_63 (by decide) ?_
      refine ti_callVv (ci := 10) (av := [.int 1, .int 200]) C hw (s_X10_reads l D A cy hJ M_19 iM_19 1 200 (by decide) (by decide) (by rw [show (11 + (1 : Int32).toInt).toNat = 12 by decide]; exact trivial)) ⟨ml_X10_244, ym_X10_reads, yv_X10_reads, yi_X10_reads, yc_X10_reads⟩ yd_X10_reads ob_60 (by decide) rfl rfl hl.1 (Nat.le_of_ble_eq_true rfl) ⟨by decide, by decide⟩ ⟨Nat.zero_le _, Nat.zero_le _⟩ dX10_text_111 (fun M_23 H locs hp_23 hw => ?_)
      obtain ⟨iM_23, hM_23⟩ := hp_23
      rw [show (11 + (1 : Int32).toInt).toNat = 12 by decide] at hM_23
      refine lv_iinc (v := 2) (lv' := [(2, .int 2), (0, .ref (A 60 0)), (1, .int nn)]) hx hb dX10_text_114 hl (k := 0) rfl (by decide) (by decide) rfl (fun ls hl => ?_)
      refine lv_goto (tgt := 47) hx hb dX10_text_117 (by decide) ?_
      refine lv_iload_n hx hb dX10_text_47 rfl (lv_at hl 0 rfl) ?_
      refine lv_bipush (v := 11) hx hb dX10_text_48 (by decide) ?_
      refine sb_icmp_ge (tgt := 120) hx hb (by decide : (2 : Int32).toInt = 2) (by decide : (11 : Int32).toInt = 11) dX10_text_50 (by decide) (fun h => absurd h (by decide)) (fun c_50_23 => ?_)
      refine lv_aload_n hx hb dX10_text_53 rfl (lv_at hl 1 rfl) ?_
      refine lv_iload_n hx hb dX10_text_54 rfl (lv_at hl 0 rfl) ?_
      refine lv_iload_n hx hb dX10_text_55 rfl (lv_at hl 0 rfl) ?_
      refine lv_iconst (v := 1) hx hb dX10_text_56 (by decide) ?_
      refine sb_icmp_ne (tgt := 66) hx hb (by decide : (2 : Int32).toInt = 2) (by decide : (1 : Int32).toInt = 1) dX10_text_57 (by decide) (fun c_57_24 => ?_) (fun h => absurd h (by decide))
      refine lv_iload_n hx hb dX10_text_66 rfl (lv_at hl 0 rfl) ?_
      refine lv_iconst (v := 2) hx hb dX10_text_67 (by decide) ?_
      refine sb_icmp_eq (tgt := 77) hx hb (by decide : (2 : Int32).toInt = 2) (by decide : (2 : Int32).toInt = 2) dX10_text_68 (by decide) (fun c_68_25 => ?_) (fun h => absurd h (by decide))
      refine lv_iconst (v := 2) hx hb dX10_text_77 (by decide) ?_
      refine lv_goto (tgt := 111) hx hb dX10_text_78 (by decide) ?_
      refine ti_callVv (ci := 10) (av := [.int 2, .int 2]) C hw (s_X10_reads l D A cy hJ M_23 iM_23 2 2 (by decide) (by decide) (by rw [show (11 + (2 : Int32).toInt).toNat = 13 by decide]; exact trivial)) ⟨ml_X10_244, ym_X10_reads, yv_X10_reads, yi_X10_reads, yc_X10_reads⟩ yd_X10_reads ob_60 (by decide) rfl rfl hl.1 (Nat.le_of_ble_eq_true rfl) ⟨by decide, by decide⟩ ⟨Nat.zero_le _, Nat.zero_le _⟩ dX10_text_111 (fun M_28 H locs hp_28 hw => ?_)
      obtain ⟨iM_28, hM_28⟩ := hp_28
      rw [show (11 + (2 : Int32).toInt).toNat = 13 by decide] at hM_28
      refine lv_iinc (v := 3) (lv' := [(2, .int 3), (0, .ref (A 60 0)), (1, .int nn)]) hx hb dX10_text_114 hl (k := 0) rfl (by decide) (by decide) rfl (fun ls hl => ?_)
      refine lv_goto (tgt := 47) hx hb dX10_text_117 (by decide) ?_
      refine lv_iload_n hx hb dX10_text_47 rfl (lv_at hl 0 rfl) ?_
      refine lv_bipush (v := 11) hx hb dX10_text_48 (by decide) ?_
      refine sb_icmp_ge (tgt := 120) hx hb (by decide : (3 : Int32).toInt = 3) (by decide : (11 : Int32).toInt = 11) dX10_text_50 (by decide) (fun h => absurd h (by decide)) (fun c_50_28 => ?_)
      refine lv_aload_n hx hb dX10_text_53 rfl (lv_at hl 1 rfl) ?_
      refine lv_iload_n hx hb dX10_text_54 rfl (lv_at hl 0 rfl) ?_
      refine lv_iload_n hx hb dX10_text_55 rfl (lv_at hl 0 rfl) ?_
      refine lv_iconst (v := 1) hx hb dX10_text_56 (by decide) ?_
      refine sb_icmp_ne (tgt := 66) hx hb (by decide : (3 : Int32).toInt = 3) (by decide : (1 : Int32).toInt = 1) dX10_text_57 (by decide) (fun c_57_29 => ?_) (fun h => absurd h (by decide))
      refine lv_iload_n hx hb dX10_text_66 rfl (lv_at hl 0 rfl) ?_
      refine lv_iconst (v := 2) hx hb dX10_text_67 (by decide) ?_
      refine sb_icmp_eq (tgt := 77) hx hb (by decide : (3 : Int32).toInt = 3) (by decide : (2 : Int32).toInt = 2) dX10_text_68 (by decide) (fun h => absurd h (by decide)) (fun c_68_30 => ?_)
      refine lv_iload_n hx hb dX10_text_71 rfl (lv_at hl 0 rfl) ?_
      refine lv_bipush (v := 10) hx hb dX10_text_72 (by decide) ?_
      refine sb_icmp_ne (tgt := 81) hx hb (by decide : (3 : Int32).toInt = 3) (by decide : (10 : Int32).toInt = 10) dX10_text_74 (by decide) (fun c_74_31 => ?_) (fun h => absurd h (by decide))
      refine lv_iload_n hx hb dX10_text_81 rfl (lv_at hl 0 rfl) ?_
      refine lv_iconst (v := 3) hx hb dX10_text_82 (by decide) ?_
      refine sb_icmp_ne (tgt := 91) hx hb (by decide : (3 : Int32).toInt = 3) (by decide : (3 : Int32).toInt = 3) dX10_text_83 (by decide) (fun h => absurd h (by decide)) (fun c_83_32 => ?_)
      refine lv_bipush (v := 10) hx hb dX10_text_86 (by decide) ?_
      refine lv_goto (tgt := 111) hx hb dX10_text_88 (by decide) ?_
      refine ti_callVv (ci := 10) (av := [.int 3, .int 10]) C hw (s_X10_reads l D A cy hJ M_28 iM_28 3 10 (by decide) (by decide) (by rw [show (11 + (3 : Int32).toInt).toNat = 14 by decide]; exact (ib_mk (lo := 1) (hi := 30) (by decide) (by decide)))) ⟨ml_X10_244, ym_X10_reads, yv_X10_reads, yi_X10_reads, yc_X10_reads⟩ yd_X10_reads ob_60 (by decide) rfl rfl hl.1 (Nat.le_of_ble_eq_true rfl) ⟨by decide, by decide⟩ ⟨Nat.zero_le _, Nat.zero_le _⟩ dX10_text_111 (fun M_35 H locs hp_35 hw => ?_)
      obtain ⟨iM_35, hM_35⟩ := hp_35
      rw [show (11 + (3 : Int32).toInt).toNat = 14 by decide] at hM_35
      refine lv_iinc (v := 4) (lv' := [(2, .int 4), (0, .ref (A 60 0)), (1, .int nn)]) hx hb dX10_text_114 hl (k := 0) rfl (by decide) (by decide) rfl (fun ls hl => ?_)
      refine lv_goto (tgt := 47) hx hb dX10_text_117 (by decide) ?_
      refine lv_iload_n hx hb dX10_text_47 rfl (lv_at hl 0 rfl) ?_
      refine lv_bipush (v := 11) hx hb dX10_text_48 (by decide) ?_
      refine sb_icmp_ge (tgt := 120) hx hb (by decide : (4 : Int32).toInt = 4) (by decide : (11 : Int32).toInt = 11) dX10_text_50 (by decide) (fun h => absurd h (by decide)) (fun c_50_35 => ?_)
      refine lv_aload_n hx hb dX10_text_53 rfl (lv_at hl 1 rfl) ?_
      refine lv_iload_n hx hb dX10_text_54 rfl (lv_at hl 0 rfl) ?_
      refine lv_iload_n hx hb dX10_text_55 rfl (lv_at hl 0 rfl) ?_
      refine lv_iconst (v := 1) hx hb dX10_text_56 (by decide) ?_
      refine sb_icmp_ne (tgt := 66) hx hb (by decide : (4 : Int32).toInt = 4) (by decide : (1 : Int32).toInt = 1) dX10_text_57 (by decide) (fun c_57_36 => ?_) (fun h => absurd h (by decide))
      refine lv_iload_n hx hb dX10_text_66 rfl (lv_at hl 0 rfl) ?_
      refine lv_iconst (v := 2) hx hb dX10_text_67 (by decide) ?_
      refine sb_icmp_eq (tgt := 77) hx hb (by decide : (4 : Int32).toInt = 4) (by decide : (2 : Int32).toInt = 2) dX10_text_68 (by decide) (fun h => absurd h (by decide)) (fun c_68_37 => ?_)
      refine lv_iload_n hx hb dX10_text_71 rfl (lv_at hl 0 rfl) ?_
      refine lv_bipush (v := 10) hx hb dX10_text_72 (by decide) ?_
      refine sb_icmp_ne (tgt := 81) hx hb (by decide : (4 : Int32).toInt = 4) (by decide : (10 : Int32).toInt = 10) dX10_text_74 (by decide) (fun c_74_38 => ?_) (fun h => absurd h (by decide))
      refine lv_iload_n hx hb dX10_text_81 rfl (lv_at hl 0 rfl) ?_
      refine lv_iconst (v := 3) hx hb dX10_text_82 (by decide) ?_
      refine sb_icmp_ne (tgt := 91) hx hb (by decide : (4 : Int32).toInt = 4) (by decide : (3 : Int32).toInt = 3) dX10_text_83 (by decide) (fun c_83_39 => ?_) (fun h => absurd h (by decide))
      refine lv_iload_n hx hb dX10_text_91 rfl (lv_at hl 0 rfl) ?_
      refine lv_iconst (v := 4) hx hb dX10_text_92 (by decide) ?_
      refine sb_icmp_ne (tgt := 100) hx hb (by decide : (4 : Int32).toInt = 4) (by decide : (4 : Int32).toInt = 4) dX10_text_93 (by decide) (fun h => absurd h (by decide)) (fun c_93_40 => ?_)
      refine lv_iconst (v := 3) hx hb dX10_text_96 (by decide) ?_
      refine lv_goto (tgt := 111) hx hb dX10_text_97 (by decide) ?_
      refine ti_callVv (ci := 10) (av := [.int 4, .int 3]) C hw (s_X10_reads l D A cy hJ M_35 iM_35 4 3 (by decide) (by decide) (by rw [show (11 + (4 : Int32).toInt).toNat = 15 by decide]; exact trivial)) ⟨ml_X10_244, ym_X10_reads, yv_X10_reads, yi_X10_reads, yc_X10_reads⟩ yd_X10_reads ob_60 (by decide) rfl rfl hl.1 (Nat.le_of_ble_eq_true rfl) ⟨by decide, by decide⟩ ⟨Nat.zero_le _, Nat.zero_le _⟩ dX10_text_111 (fun M_43 H locs hp_43 hw => ?_)
      obtain ⟨iM_43, hM_43⟩ := hp_43
      rw [show (11 + (4 : Int32).toInt).toNat = 15 by decide] at hM_43
      refine lv_iinc (v := 5) (lv' := [(2, .int 5), (0, .ref (A 60 0)), (1, .int nn)]) hx hb dX10_text_114 hl (k := 0) rfl (by decide) (by decide) rfl (fun ls hl => ?_)
      refine lv_goto (tgt := 47) hx hb dX10_text_117 (by decide) ?_
      refine lv_iload_n hx hb dX10_text_47 rfl (lv_at hl 0 rfl) ?_
      refine lv_bipush (v := 11) hx hb dX10_text_48 (by decide) ?_
      refine sb_icmp_ge (tgt := 120) hx hb (by decide : (5 : Int32).toInt = 5) (by decide : (11 : Int32).toInt = 11) dX10_text_50 (by decide) (fun h => absurd h (by decide)) (fun c_50_43 => ?_)
      refine lv_aload_n hx hb dX10_text_53 rfl (lv_at hl 1 rfl) ?_
      refine lv_iload_n hx hb dX10_text_54 rfl (lv_at hl 0 rfl) ?_
      refine lv_iload_n hx hb dX10_text_55 rfl (lv_at hl 0 rfl) ?_
      refine lv_iconst (v := 1) hx hb dX10_text_56 (by decide) ?_
      refine sb_icmp_ne (tgt := 66) hx hb (by decide : (5 : Int32).toInt = 5) (by decide : (1 : Int32).toInt = 1) dX10_text_57 (by decide) (fun c_57_44 => ?_) (fun h => absurd h (by decide))
      refine lv_iload_n hx hb dX10_text_66 rfl (lv_at hl 0 rfl) ?_
      refine lv_iconst (v := 2) hx hb dX10_text_67 (by decide) ?_
      refine sb_icmp_eq (tgt := 77) hx hb (by decide : (5 : Int32).toInt = 5) (by decide : (2 : Int32).toInt = 2) dX10_text_68 (by decide) (fun h => absurd h (by decide)) (fun c_68_45 => ?_)
      refine lv_iload_n hx hb dX10_text_71 rfl (lv_at hl 0 rfl) ?_
      refine lv_bipush (v := 10) hx hb dX10_text_72 (by decide) ?_
      refine sb_icmp_ne (tgt := 81) hx hb (by decide : (5 : Int32).toInt = 5) (by decide : (10 : Int32).toInt = 10) dX10_text_74 (by decide) (fun c_74_46 => ?_) (fun h => absurd h (by decide))
      refine lv_iload_n hx hb dX10_text_81 rfl (lv_at hl 0 rfl) ?_
      refine lv_iconst (v := 3) hx hb dX10_text_82 (by decide) ?_
      refine sb_icmp_ne (tgt := 91) hx hb (by decide : (5 : Int32).toInt = 5) (by decide : (3 : Int32).toInt = 3) dX10_text_83 (by decide) (fun c_83_47 => ?_) (fun h => absurd h (by decide))
      refine lv_iload_n hx hb dX10_text_91 rfl (lv_at hl 0 rfl) ?_
      refine lv_iconst (v := 4) hx hb dX10_text_92 (by decide) ?_
      refine sb_icmp_ne (tgt := 100) hx hb (by decide : (5 : Int32).toInt = 5) (by decide : (4 : Int32).toInt = 4) dX10_text_93 (by decide) (fun c_93_48 => ?_) (fun h => absurd h (by decide))
      refine lv_iload_n hx hb dX10_text_100 rfl (lv_at hl 0 rfl) ?_
      refine lv_bipush (v := 9) hx hb dX10_text_101 (by decide) ?_
      refine sb_icmp_ne (tgt := 110) hx hb (by decide : (5 : Int32).toInt = 5) (by decide : (9 : Int32).toInt = 9) dX10_text_103 (by decide) (fun c_103_49 => ?_) (fun h => absurd h (by decide))
      refine lv_iconst (v := 0) hx hb dX10_text_110 (by decide) ?_
      refine ti_callVv (ci := 10) (av := [.int 5, .int 0]) C hw (s_X10_reads l D A cy hJ M_43 iM_43 5 0 (by decide) (by decide) (by rw [show (11 + (5 : Int32).toInt).toNat = 16 by decide]; exact trivial)) ⟨ml_X10_244, ym_X10_reads, yv_X10_reads, yi_X10_reads, yc_X10_reads⟩ yd_X10_reads ob_60 (by decide) rfl rfl hl.1 (Nat.le_of_ble_eq_true rfl) ⟨by decide, by decide⟩ ⟨Nat.zero_le _, Nat.zero_le _⟩ dX10_text_111 (fun M_52 H locs hp_52 hw => ?_)
      obtain ⟨iM_52, hM_52⟩ := hp_52
      rw [show (11 + (5 : Int32).toInt).toNat = 16 by decide] at hM_52
      refine lv_iinc (v := 6) (lv' := [(2, .int 6), (0, .ref (A 60 0)), (1, .int nn)]) hx hb dX10_text_114 hl (k := 0) rfl (by decide) (by decide) rfl (fun ls hl => ?_)
      refine lv_goto (tgt := 47) hx hb dX10_text_117 (by decide) ?_
      refine lv_iload_n hx hb dX10_text_47 rfl (lv_at hl 0 rfl) ?_
      refine lv_bipush (v := 11) hx hb dX10_text_48 (by decide) ?_
      refine sb_icmp_ge (tgt := 120) hx hb (by decide : (6 : Int32).toInt = 6) (by decide : (11 : Int32).toInt = 11) dX10_text_50 (by decide) (fun h => absurd h (by decide)) (fun c_50_52 => ?_)
      refine lv_aload_n hx hb dX10_text_53 rfl (lv_at hl 1 rfl) ?_
      refine lv_iload_n hx hb dX10_text_54 rfl (lv_at hl 0 rfl) ?_
      refine lv_iload_n hx hb dX10_text_55 rfl (lv_at hl 0 rfl) ?_
      refine lv_iconst (v := 1) hx hb dX10_text_56 (by decide) ?_
      refine sb_icmp_ne (tgt := 66) hx hb (by decide : (6 : Int32).toInt = 6) (by decide : (1 : Int32).toInt = 1) dX10_text_57 (by decide) (fun c_57_53 => ?_) (fun h => absurd h (by decide))
      refine lv_iload_n hx hb dX10_text_66 rfl (lv_at hl 0 rfl) ?_
      refine lv_iconst (v := 2) hx hb dX10_text_67 (by decide) ?_
      refine sb_icmp_eq (tgt := 77) hx hb (by decide : (6 : Int32).toInt = 6) (by decide : (2 : Int32).toInt = 2) dX10_text_68 (by decide) (fun h => absurd h (by decide)) (fun c_68_54 => ?_)
      refine lv_iload_n hx hb dX10_text_71 rfl (lv_at hl 0 rfl) ?_
      refine lv_bipush (v := 10) hx hb dX10_text_72 (by decide) ?_
      refine sb_icmp_ne (tgt := 81) hx hb (by decide : (6 : Int32).toInt = 6) (by decide : (10 : Int32).toInt = 10) dX10_text_74 (by decide) (fun c_74_55 => ?_) (fun h => absurd h (by decide))
      refine lv_iload_n hx hb dX10_text_81 rfl (lv_at hl 0 rfl) ?_
      refine lv_iconst (v := 3) hx hb dX10_text_82 (by decide) ?_
      refine sb_icmp_ne (tgt := 91) hx hb (by decide : (6 : Int32).toInt = 6) (by decide : (3 : Int32).toInt = 3) dX10_text_83 (by decide) (fun c_83_56 => ?_) (fun h => absurd h (by decide))
      refine lv_iload_n hx hb dX10_text_91 rfl (lv_at hl 0 rfl) ?_
      refine lv_iconst (v := 4) hx hb dX10_text_92 (by decide) ?_
      refine sb_icmp_ne (tgt := 100) hx hb (by decide : (6 : Int32).toInt = 6) (by decide : (4 : Int32).toInt = 4) dX10_text_93 (by decide) (fun c_93_57 => ?_) (fun h => absurd h (by decide))
      refine lv_iload_n hx hb dX10_text_100 rfl (lv_at hl 0 rfl) ?_
      refine lv_bipush (v := 9) hx hb dX10_text_101 (by decide) ?_
      refine sb_icmp_ne (tgt := 110) hx hb (by decide : (6 : Int32).toInt = 6) (by decide : (9 : Int32).toInt = 9) dX10_text_103 (by decide) (fun c_103_58 => ?_) (fun h => absurd h (by decide))
      refine lv_iconst (v := 0) hx hb dX10_text_110 (by decide) ?_
      refine ti_callVv (ci := 10) (av := [.int 6, .int 0]) C hw (s_X10_reads l D A cy hJ M_52 iM_52 6 0 (by decide) (by decide) (by rw [show (11 + (6 : Int32).toInt).toNat = 17 by decide]; exact trivial)) ⟨ml_X10_244, ym_X10_reads, yv_X10_reads, yi_X10_reads, yc_X10_reads⟩ yd_X10_reads ob_60 (by decide) rfl rfl hl.1 (Nat.le_of_ble_eq_true rfl) ⟨by decide, by decide⟩ ⟨Nat.zero_le _, Nat.zero_le _⟩ dX10_text_111 (fun M_61 H locs hp_61 hw => ?_)
      obtain ⟨iM_61, hM_61⟩ := hp_61
      rw [show (11 + (6 : Int32).toInt).toNat = 17 by decide] at hM_61
      refine lv_iinc (v := 7) (lv' := [(2, .int 7), (0, .ref (A 60 0)), (1, .int nn)]) hx hb dX10_text_114 hl (k := 0) rfl (by decide) (by decide) rfl (fun ls hl => ?_)
      refine lv_goto (tgt := 47) hx hb dX10_text_117 (by decide) ?_
      refine lv_iload_n hx hb dX10_text_47 rfl (lv_at hl 0 rfl) ?_
      refine lv_bipush (v := 11) hx hb dX10_text_48 (by decide) ?_
      refine sb_icmp_ge (tgt := 120) hx hb (by decide : (7 : Int32).toInt = 7) (by decide : (11 : Int32).toInt = 11) dX10_text_50 (by decide) (fun h => absurd h (by decide)) (fun c_50_61 => ?_)
      refine lv_aload_n hx hb dX10_text_53 rfl (lv_at hl 1 rfl) ?_
      refine lv_iload_n hx hb dX10_text_54 rfl (lv_at hl 0 rfl) ?_
      refine lv_iload_n hx hb dX10_text_55 rfl (lv_at hl 0 rfl) ?_
      refine lv_iconst (v := 1) hx hb dX10_text_56 (by decide) ?_
      refine sb_icmp_ne (tgt := 66) hx hb (by decide : (7 : Int32).toInt = 7) (by decide : (1 : Int32).toInt = 1) dX10_text_57 (by decide) (fun c_57_62 => ?_) (fun h => absurd h (by decide))
      refine lv_iload_n hx hb dX10_text_66 rfl (lv_at hl 0 rfl) ?_
      refine lv_iconst (v := 2) hx hb dX10_text_67 (by decide) ?_
      refine sb_icmp_eq (tgt := 77) hx hb (by decide : (7 : Int32).toInt = 7) (by decide : (2 : Int32).toInt = 2) dX10_text_68 (by decide) (fun h => absurd h (by decide)) (fun c_68_63 => ?_)
      refine lv_iload_n hx hb dX10_text_71 rfl (lv_at hl 0 rfl) ?_
      refine lv_bipush (v := 10) hx hb dX10_text_72 (by decide) ?_
      refine sb_icmp_ne (tgt := 81) hx hb (by decide : (7 : Int32).toInt = 7) (by decide : (10 : Int32).toInt = 10) dX10_text_74 (by decide) (fun c_74_64 => ?_) (fun h => absurd h (by decide))
      refine lv_iload_n hx hb dX10_text_81 rfl (lv_at hl 0 rfl) ?_
      refine lv_iconst (v := 3) hx hb dX10_text_82 (by decide) ?_
      refine sb_icmp_ne (tgt := 91) hx hb (by decide : (7 : Int32).toInt = 7) (by decide : (3 : Int32).toInt = 3) dX10_text_83 (by decide) (fun c_83_65 => ?_) (fun h => absurd h (by decide))
      refine lv_iload_n hx hb dX10_text_91 rfl (lv_at hl 0 rfl) ?_
      refine lv_iconst (v := 4) hx hb dX10_text_92 (by decide) ?_
      refine sb_icmp_ne (tgt := 100) hx hb (by decide : (7 : Int32).toInt = 7) (by decide : (4 : Int32).toInt = 4) dX10_text_93 (by decide) (fun c_93_66 => ?_) (fun h => absurd h (by decide))
      refine lv_iload_n hx hb dX10_text_100 rfl (lv_at hl 0 rfl) ?_
      refine lv_bipush (v := 9) hx hb dX10_text_101 (by decide) ?_
      refine sb_icmp_ne (tgt := 110) hx hb (by decide : (7 : Int32).toInt = 7) (by decide : (9 : Int32).toInt = 9) dX10_text_103 (by decide) (fun c_103_67 => ?_) (fun h => absurd h (by decide))
      refine lv_iconst (v := 0) hx hb dX10_text_110 (by decide) ?_
      refine ti_callVv (ci := 10) (av := [.int 7, .int 0]) C hw (s_X10_reads l D A cy hJ M_61 iM_61 7 0 (by decide) (by decide) (by rw [show (11 + (7 : Int32).toInt).toNat = 18 by decide]; exact (ib_mk (lo := 0) (hi := 64) (by decide) (by decide)))) ⟨ml_X10_244, ym_X10_reads, yv_X10_reads, yi_X10_reads, yc_X10_reads⟩ yd_X10_reads ob_60 (by decide) rfl rfl hl.1 (Nat.le_of_ble_eq_true rfl) ⟨by decide, by decide⟩ ⟨Nat.zero_le _, Nat.zero_le _⟩ dX10_text_111 (fun M_70 H locs hp_70 hw => ?_)
      obtain ⟨iM_70, hM_70⟩ := hp_70
      rw [show (11 + (7 : Int32).toInt).toNat = 18 by decide] at hM_70
      refine lv_iinc (v := 8) (lv' := [(2, .int 8), (0, .ref (A 60 0)), (1, .int nn)]) hx hb dX10_text_114 hl (k := 0) rfl (by decide) (by decide) rfl (fun ls hl => ?_)
      refine lv_goto (tgt := 47) hx hb dX10_text_117 (by decide) ?_
      refine lv_iload_n hx hb dX10_text_47 rfl (lv_at hl 0 rfl) ?_
      refine lv_bipush (v := 11) hx hb dX10_text_48 (by decide) ?_
      refine sb_icmp_ge (tgt := 120) hx hb (by decide : (8 : Int32).toInt = 8) (by decide : (11 : Int32).toInt = 11) dX10_text_50 (by decide) (fun h => absurd h (by decide)) (fun c_50_70 => ?_)
      refine lv_aload_n hx hb dX10_text_53 rfl (lv_at hl 1 rfl) ?_
      refine lv_iload_n hx hb dX10_text_54 rfl (lv_at hl 0 rfl) ?_
      refine lv_iload_n hx hb dX10_text_55 rfl (lv_at hl 0 rfl) ?_
      refine lv_iconst (v := 1) hx hb dX10_text_56 (by decide) ?_
      refine sb_icmp_ne (tgt := 66) hx hb (by decide : (8 : Int32).toInt = 8) (by decide : (1 : Int32).toInt = 1) dX10_text_57 (by decide) (fun c_57_71 => ?_) (fun h => absurd h (by decide))
      refine lv_iload_n hx hb dX10_text_66 rfl (lv_at hl 0 rfl) ?_
      refine lv_iconst (v := 2) hx hb dX10_text_67 (by decide) ?_
      refine sb_icmp_eq (tgt := 77) hx hb (by decide : (8 : Int32).toInt = 8) (by decide : (2 : Int32).toInt = 2) dX10_text_68 (by decide) (fun h => absurd h (by decide)) (fun c_68_72 => ?_)
      refine lv_iload_n hx hb dX10_text_71 rfl (lv_at hl 0 rfl) ?_
      refine lv_bipush (v := 10) hx hb dX10_text_72 (by decide) ?_
      refine sb_icmp_ne (tgt := 81) hx hb (by decide : (8 : Int32).toInt = 8) (by decide : (10 : Int32).toInt = 10) dX10_text_74 (by decide) (fun c_74_73 => ?_) (fun h => absurd h (by decide))
      refine lv_iload_n hx hb dX10_text_81 rfl (lv_at hl 0 rfl) ?_
      refine lv_iconst (v := 3) hx hb dX10_text_82 (by decide) ?_
      refine sb_icmp_ne (tgt := 91) hx hb (by decide : (8 : Int32).toInt = 8) (by decide : (3 : Int32).toInt = 3) dX10_text_83 (by decide) (fun c_83_74 => ?_) (fun h => absurd h (by decide))
      refine lv_iload_n hx hb dX10_text_91 rfl (lv_at hl 0 rfl) ?_
      refine lv_iconst (v := 4) hx hb dX10_text_92 (by decide) ?_
      refine sb_icmp_ne (tgt := 100) hx hb (by decide : (8 : Int32).toInt = 8) (by decide : (4 : Int32).toInt = 4) dX10_text_93 (by decide) (fun c_93_75 => ?_) (fun h => absurd h (by decide))
      refine lv_iload_n hx hb dX10_text_100 rfl (lv_at hl 0 rfl) ?_
      refine lv_bipush (v := 9) hx hb dX10_text_101 (by decide) ?_
      refine sb_icmp_ne (tgt := 110) hx hb (by decide : (8 : Int32).toInt = 8) (by decide : (9 : Int32).toInt = 9) dX10_text_103 (by decide) (fun c_103_76 => ?_) (fun h => absurd h (by decide))
      refine lv_iconst (v := 0) hx hb dX10_text_110 (by decide) ?_
      refine ti_callVv (ci := 10) (av := [.int 8, .int 0]) C hw (s_X10_reads l D A cy hJ M_70 iM_70 8 0 (by decide) (by decide) (by rw [show (11 + (8 : Int32).toInt).toNat = 19 by decide]; exact (ib_mk (lo := 0) (hi := 7) (by decide) (by decide)))) ⟨ml_X10_244, ym_X10_reads, yv_X10_reads, yi_X10_reads, yc_X10_reads⟩ yd_X10_reads ob_60 (by decide) rfl rfl hl.1 (Nat.le_of_ble_eq_true rfl) ⟨by decide, by decide⟩ ⟨Nat.zero_le _, Nat.zero_le _⟩ dX10_text_111 (fun M_79 H locs hp_79 hw => ?_)
      obtain ⟨iM_79, hM_79⟩ := hp_79
      rw [show (11 + (8 : Int32).toInt).toNat = 19 by decide] at hM_79
      refine lv_iinc (v := 9) (lv' := [(2, .int 9), (0, .ref (A 60 0)), (1, .int nn)]) hx hb dX10_text_114 hl (k := 0) rfl (by decide) (by decide) rfl (fun ls hl => ?_)
      refine lv_goto (tgt := 47) hx hb dX10_text_117 (by decide) ?_
      refine lv_iload_n hx hb dX10_text_47 rfl (lv_at hl 0 rfl) ?_
      refine lv_bipush (v := 11) hx hb dX10_text_48 (by decide) ?_
      refine sb_icmp_ge (tgt := 120) hx hb (by decide : (9 : Int32).toInt = 9) (by decide : (11 : Int32).toInt = 11) dX10_text_50 (by decide) (fun h => absurd h (by decide)) (fun c_50_79 => ?_)
      refine lv_aload_n hx hb dX10_text_53 rfl (lv_at hl 1 rfl) ?_
      refine lv_iload_n hx hb dX10_text_54 rfl (lv_at hl 0 rfl) ?_
      refine lv_iload_n hx hb dX10_text_55 rfl (lv_at hl 0 rfl) ?_
      refine lv_iconst (v := 1) hx hb dX10_text_56 (by decide) ?_
      refine sb_icmp_ne (tgt := 66) hx hb (by decide : (9 : Int32).toInt = 9) (by decide : (1 : Int32).toInt = 1) dX10_text_57 (by decide) (fun c_57_80 => ?_) (fun h => absurd h (by decide))
      refine lv_iload_n hx hb dX10_text_66 rfl (lv_at hl 0 rfl) ?_
      refine lv_iconst (v := 2) hx hb dX10_text_67 (by decide) ?_
      refine sb_icmp_eq (tgt := 77) hx hb (by decide : (9 : Int32).toInt = 9) (by decide : (2 : Int32).toInt = 2) dX10_text_68 (by decide) (fun h => absurd h (by decide)) (fun c_68_81 => ?_)
      refine lv_iload_n hx hb dX10_text_71 rfl (lv_at hl 0 rfl) ?_
      refine lv_bipush (v := 10) hx hb dX10_text_72 (by decide) ?_
      refine sb_icmp_ne (tgt := 81) hx hb (by decide : (9 : Int32).toInt = 9) (by decide : (10 : Int32).toInt = 10) dX10_text_74 (by decide) (fun c_74_82 => ?_) (fun h => absurd h (by decide))
      refine lv_iload_n hx hb dX10_text_81 rfl (lv_at hl 0 rfl) ?_
      refine lv_iconst (v := 3) hx hb dX10_text_82 (by decide) ?_
      refine sb_icmp_ne (tgt := 91) hx hb (by decide : (9 : Int32).toInt = 9) (by decide : (3 : Int32).toInt = 3) dX10_text_83 (by decide) (fun c_83_83 => ?_) (fun h => absurd h (by decide))
      refine lv_iload_n hx hb dX10_text_91 rfl (lv_at hl 0 rfl) ?_
      refine lv_iconst (v := 4) hx hb dX10_text_92 (by decide) ?_
      refine sb_icmp_ne (tgt := 100) hx hb (by decide : (9 : Int32).toInt = 9) (by decide : (4 : Int32).toInt = 4) dX10_text_93 (by decide) (fun c_93_84 => ?_) (fun h => absurd h (by decide))
      refine lv_iload_n hx hb dX10_text_100 rfl (lv_at hl 0 rfl) ?_
      refine lv_bipush (v := 9) hx hb dX10_text_101 (by decide) ?_
      refine sb_icmp_ne (tgt := 110) hx hb (by decide : (9 : Int32).toInt = 9) (by decide : (9 : Int32).toInt = 9) dX10_text_103 (by decide) (fun h => absurd h (by decide)) (fun c_103_85 => ?_)
      refine lv_iconst (v := 1) hx hb dX10_text_106 (by decide) ?_
      refine lv_goto (tgt := 111) hx hb dX10_text_107 (by decide) ?_
      refine ti_callVv (ci := 10) (av := [.int 9, .int 1]) C hw (s_X10_reads l D A cy hJ M_79 iM_79 9 1 (by decide) (by decide) (by rw [show (11 + (9 : Int32).toInt).toNat = 20 by decide]; exact (ib_mk (lo := 0) (hi := 7) (by decide) (by decide)))) ⟨ml_X10_244, ym_X10_reads, yv_X10_reads, yi_X10_reads, yc_X10_reads⟩ yd_X10_reads ob_60 (by decide) rfl rfl hl.1 (Nat.le_of_ble_eq_true rfl) ⟨by decide, by decide⟩ ⟨Nat.zero_le _, Nat.zero_le _⟩ dX10_text_111 (fun M_88 H locs hp_88 hw => ?_)
      obtain ⟨iM_88, hM_88⟩ := hp_88
      rw [show (11 + (9 : Int32).toInt).toNat = 20 by decide] at hM_88
      refine lv_iinc (v := 10) (lv' := [(2, .int 10), (0, .ref (A 60 0)), (1, .int nn)]) hx hb dX10_text_114 hl (k := 0) rfl (by decide) (by decide) rfl (fun ls hl => ?_)
      refine lv_goto (tgt := 47) hx hb dX10_text_117 (by decide) ?_
      refine lv_iload_n hx hb dX10_text_47 rfl (lv_at hl 0 rfl) ?_
      refine lv_bipush (v := 11) hx hb dX10_text_48 (by decide) ?_
      refine sb_icmp_ge (tgt := 120) hx hb (by decide : (10 : Int32).toInt = 10) (by decide : (11 : Int32).toInt = 11) dX10_text_50 (by decide) (fun h => absurd h (by decide)) (fun c_50_88 => ?_)
      refine lv_aload_n hx hb dX10_text_53 rfl (lv_at hl 1 rfl) ?_
      refine lv_iload_n hx hb dX10_text_54 rfl (lv_at hl 0 rfl) ?_
      refine lv_iload_n hx hb dX10_text_55 rfl (lv_at hl 0 rfl) ?_
      refine lv_iconst (v := 1) hx hb dX10_text_56 (by decide) ?_
      refine sb_icmp_ne (tgt := 66) hx hb (by decide : (10 : Int32).toInt = 10) (by decide : (1 : Int32).toInt = 1) dX10_text_57 (by decide) (fun c_57_89 => ?_) (fun h => absurd h (by decide))
      refine lv_iload_n hx hb dX10_text_66 rfl (lv_at hl 0 rfl) ?_
      refine lv_iconst (v := 2) hx hb dX10_text_67 (by decide) ?_
      refine sb_icmp_eq (tgt := 77) hx hb (by decide : (10 : Int32).toInt = 10) (by decide : (2 : Int32).toInt = 2) dX10_text_68 (by decide) (fun h => absurd h (by decide)) (fun c_68_90 => ?_)
      refine lv_iload_n hx hb dX10_text_71 rfl (lv_at hl 0 rfl) ?_
      refine lv_bipush (v := 10) hx hb dX10_text_72 (by decide) ?_
      refine sb_icmp_ne (tgt := 81) hx hb (by decide : (10 : Int32).toInt = 10) (by decide : (10 : Int32).toInt = 10) dX10_text_74 (by decide) (fun h => absurd h (by decide)) (fun c_74_91 => ?_)
      refine lv_iconst (v := 2) hx hb dX10_text_77 (by decide) ?_
      refine lv_goto (tgt := 111) hx hb dX10_text_78 (by decide) ?_
      refine ti_callVv (ci := 10) (av := [.int 10, .int 2]) C hw (s_X10_reads l D A cy hJ M_88 iM_88 10 2 (by decide) (by decide) (by rw [show (11 + (10 : Int32).toInt).toNat = 21 by decide]; exact (ib_mk (lo := 0) (hi := 7) (by decide) (by decide)))) ⟨ml_X10_244, ym_X10_reads, yv_X10_reads, yi_X10_reads, yc_X10_reads⟩ yd_X10_reads ob_60 (by decide) rfl rfl hl.1 (Nat.le_of_ble_eq_true rfl) ⟨by decide, by decide⟩ ⟨Nat.zero_le _, Nat.zero_le _⟩ dX10_text_111 (fun M_94 H locs hp_94 hw => ?_)
      obtain ⟨iM_94, hM_94⟩ := hp_94
      rw [show (11 + (10 : Int32).toInt).toNat = 21 by decide] at hM_94
      refine lv_iinc (v := 11) (lv' := [(2, .int 11), (0, .ref (A 60 0)), (1, .int nn)]) hx hb dX10_text_114 hl (k := 0) rfl (by decide) (by decide) rfl (fun ls hl => ?_)
      refine lv_goto (tgt := 47) hx hb dX10_text_117 (by decide) ?_
      refine lv_iload_n hx hb dX10_text_47 rfl (lv_at hl 0 rfl) ?_
      refine lv_bipush (v := 11) hx hb dX10_text_48 (by decide) ?_
      refine sb_icmp_ge (tgt := 120) hx hb (by decide : (11 : Int32).toInt = 11) (by decide : (11 : Int32).toInt = 11) dX10_text_50 (by decide) (fun c_50_94 => ?_) (fun h => absurd h (by decide))
      refine lv_iconst (v := 3) hx hb dX10_text_120 (by decide) ?_
      refine lv_istore_n (lv' := [(2, .int 3), (0, .ref (A 60 0)), (1, .int nn)]) hx hb dX10_text_121 rfl hl (by decide) rfl (fun ls hl => ?_)
      refine lv_iload_n hx hb dX10_text_122 rfl (lv_at hl 0 rfl) ?_
      refine lv_bipush (v := 6) hx hb dX10_text_123 (by decide) ?_
      refine sb_icmp_ge (tgt := 148) hx hb (by decide : (3 : Int32).toInt = 3) (by decide : (6 : Int32).toInt = 6) dX10_text_125 (by decide) (fun h => absurd h (by decide)) (fun c_125_95 => ?_)
      refine lv_aload_n hx hb dX10_text_128 rfl (lv_at hl 1 rfl) ?_
      refine ti_get (ci := 10) (k := 14) (N := 67) (T := TX10) (v := .ref (A 60 15)) C hw iw_10 rfl ob_60 (by decide) (by decide) fl_X10_46 rfl rfl dX10_text_129 ?_
      refine lv_iload_n hx hb dX10_text_132 rfl (lv_at hl 0 rfl) ?_
      refine lv_iconst (v := 0) hx hb dX10_text_133 (by decide) ?_
      refine ti_iast (ci := 10) (k := 14) (n := 6) C hw ob_60 (by decide) (fun _ _ => rfl) (by unfold vp_in; decide) dX10_text_134 (fun H locs hw => ?_)
      obtain ⟨M_97, hM_97⟩ : ∃ z : ti_M, z = uY M_94 60 14 (upd (tY M_94 60 14) (3 : Int32).toNatClampNeg 0) := ⟨_, rfl⟩
      have hw := hw.to hM_97.symm
      have iM_97 : mI Tm M_97 := mI_up (i := 3) iM_94 hM_97 (ib_mk (lo := 0) (hi := 64) (by decide) (by decide))
      refine lv_aload_n hx hb dX10_text_135 rfl (lv_at hl 1 rfl) ?_
      refine ti_get (ci := 10) (k := 15) (N := 67) (T := TX10) (v := .ref (A 60 16)) C hw iw_10 rfl ob_60 (by decide) (by decide) fl_X10_49 rfl rfl dX10_text_136 ?_
      refine lv_iload_n hx hb dX10_text_139 rfl (lv_at hl 0 rfl) ?_
      refine lv_iconst (v := 0) hx hb dX10_text_140 (by decide) ?_
      refine ti_iast (ci := 10) (k := 15) (n := 6) C hw ob_60 (by decide) (fun _ _ => rfl) (by unfold vp_in; decide) dX10_text_141 (fun H locs hw => ?_)
      obtain ⟨M_98, hM_98⟩ : ∃ z : ti_M, z = uY M_97 60 15 (upd (tY M_97 60 15) (3 : Int32).toNatClampNeg 0) := ⟨_, rfl⟩
      have hw := hw.to hM_98.symm
      have iM_98 : mI Tm M_98 := mI_up (i := 3) iM_97 hM_98 (ib_mk (lo := 0) (hi := 64) (by decide) (by decide))
      refine lv_iinc (v := 4) (lv' := [(2, .int 4), (0, .ref (A 60 0)), (1, .int nn)]) hx hb dX10_text_142 hl (k := 0) rfl (by decide) (by decide) rfl (fun ls hl => ?_)
      refine lv_goto (tgt := 122) hx hb dX10_text_145 (by decide) ?_
      refine lv_iload_n hx hb dX10_text_122 rfl (lv_at hl 0 rfl) ?_
      refine lv_bipush (v := 6) hx hb dX10_text_123 (by decide) ?_
      refine sb_icmp_ge (tgt := 148) hx hb (by decide : (4 : Int32).toInt = 4) (by decide : (6 : Int32).toInt = 6) dX10_text_125 (by decide) (fun h => absurd h (by decide)) (fun c_125_98 => ?_)
      refine lv_aload_n hx hb dX10_text_128 rfl (lv_at hl 1 rfl) ?_
      refine ti_get (ci := 10) (k := 14) (N := 67) (T := TX10) (v := .ref (A 60 15)) C hw iw_10 rfl ob_60 (by decide) (by decide) fl_X10_46 rfl rfl dX10_text_129 ?_
      refine lv_iload_n hx hb dX10_text_132 rfl (lv_at hl 0 rfl) ?_
      refine lv_iconst (v := 0) hx hb dX10_text_133 (by decide) ?_
      refine ti_iast (ci := 10) (k := 14) (n := 6) C hw ob_60 (by decide) (fun _ _ => rfl) (by unfold vp_in; decide) dX10_text_134 (fun H locs hw => ?_)
      obtain ⟨M_100, hM_100⟩ : ∃ z : ti_M, z = uY M_98 60 14 (upd (tY M_98 60 14) (4 : Int32).toNatClampNeg 0) := ⟨_, rfl⟩
      have hw := hw.to hM_100.symm
      have iM_100 : mI Tm M_100 := mI_up (i := 4) iM_98 hM_100 (ib_mk (lo := 0) (hi := 64) (by decide) (by decide))
      refine lv_aload_n hx hb dX10_text_135 rfl (lv_at hl 1 rfl) ?_
      refine ti_get (ci := 10) (k := 15) (N := 67) (T := TX10) (v := .ref (A 60 16)) C hw iw_10 rfl ob_60 (by decide) (by decide) fl_X10_49 rfl rfl dX10_text_136 ?_
      refine lv_iload_n hx hb dX10_text_139 rfl (lv_at hl 0 rfl) ?_
      refine lv_iconst (v := 0) hx hb dX10_text_140 (by decide) ?_
      refine ti_iast (ci := 10) (k := 15) (n := 6) C hw ob_60 (by decide) (fun _ _ => rfl) (by unfold vp_in; decide) dX10_text_141 (fun H locs hw => ?_)
      obtain ⟨M_101, hM_101⟩ : ∃ z : ti_M, z = uY M_100 60 15 (upd (tY M_100 60 15) (4 : Int32).toNatClampNeg 0) := ⟨_, rfl⟩
      have hw := hw.to hM_101.symm
      have iM_101 : mI Tm M_101 := mI_up (i := 4) iM_100 hM_101 (ib_mk (lo := 0) (hi := 64) (by decide) (by decide))
      refine lv_iinc (v := 5) (lv' := [(2, .int 5), (0, .ref (A 60 0)), (1, .int nn)]) hx hb dX10_text_142 hl (k := 0) rfl (by decide) (by decide) rfl (fun ls hl => ?_)
      refine lv_goto (tgt := 122) hx hb dX10_text_145 (by decide) ?_
      refine lv_iload_n hx hb dX10_text_122 rfl (lv_at hl 0 rfl) ?_
      refine lv_bipush (v := 6) hx hb dX10_text_123 (by decide) ?_
      refine sb_icmp_ge (tgt := 148) hx hb (by decide : (5 : Int32).toInt = 5) (by decide : (6 : Int32).toInt = 6) dX10_text_125 (by decide) (fun h => absurd h (by decide)) (fun c_125_101 => ?_)
      refine lv_aload_n hx hb dX10_text_128 rfl (lv_at hl 1 rfl) ?_
      refine ti_get (ci := 10) (k := 14) (N := 67) (T := TX10) (v := .ref (A 60 15)) C hw iw_10 rfl ob_60 (by decide) (by decide) fl_X10_46 rfl rfl dX10_text_129 ?_
      refine lv_iload_n hx hb dX10_text_132 rfl (lv_at hl 0 rfl) ?_
      refine lv_iconst (v := 0) hx hb dX10_text_133 (by decide) ?_
      refine ti_iast (ci := 10) (k := 14) (n := 6) C hw ob_60 (by decide) (fun _ _ => rfl) (by unfold vp_in; decide) dX10_text_134 (fun H locs hw => ?_)
      obtain ⟨M_103, hM_103⟩ : ∃ z : ti_M, z = uY M_101 60 14 (upd (tY M_101 60 14) (5 : Int32).toNatClampNeg 0) := ⟨_, rfl⟩
      have hw := hw.to hM_103.symm
      have iM_103 : mI Tm M_103 := mI_up (i := 5) iM_101 hM_103 (ib_mk (lo := 0) (hi := 64) (by decide) (by decide))
      refine lv_aload_n hx hb dX10_text_135 rfl (lv_at hl 1 rfl) ?_
      refine ti_get (ci := 10) (k := 15) (N := 67) (T := TX10) (v := .ref (A 60 16)) C hw iw_10 rfl ob_60 (by decide) (by decide) fl_X10_49 rfl rfl dX10_text_136 ?_
      refine lv_iload_n hx hb dX10_text_139 rfl (lv_at hl 0 rfl) ?_
      refine lv_iconst (v := 0) hx hb dX10_text_140 (by decide) ?_
      refine ti_iast (ci := 10) (k := 15) (n := 6) C hw ob_60 (by decide) (fun _ _ => rfl) (by unfold vp_in; decide) dX10_text_141 (fun H locs hw => ?_)
      obtain ⟨M_104, hM_104⟩ : ∃ z : ti_M, z = uY M_103 60 15 (upd (tY M_103 60 15) (5 : Int32).toNatClampNeg 0) := ⟨_, rfl⟩
      have hw := hw.to hM_104.symm
      have iM_104 : mI Tm M_104 := mI_up (i := 5) iM_103 hM_104 (ib_mk (lo := 0) (hi := 64) (by decide) (by decide))
      refine lv_iinc (v := 6) (lv' := [(2, .int 6), (0, .ref (A 60 0)), (1, .int nn)]) hx hb dX10_text_142 hl (k := 0) rfl (by decide) (by decide) rfl (fun ls hl => ?_)
      refine lv_goto (tgt := 122) hx hb dX10_text_145 (by decide) ?_
      refine lv_iload_n hx hb dX10_text_122 rfl (lv_at hl 0 rfl) ?_
      refine lv_bipush (v := 6) hx hb dX10_text_123 (by decide) ?_
      refine sb_icmp_ge (tgt := 148) hx hb (by decide : (6 : Int32).toInt = 6) (by decide : (6 : Int32).toInt = 6) dX10_text_125 (by decide) (fun c_125_104 => ?_) (fun h => absurd h (by decide))
      refine lv_aload_n hx hb dX10_text_148 rfl (lv_at hl 1 rfl) ?_
      refine lv_iconst (v := 0) hx hb dX10_text_149 (by decide) ?_
      refine ti_putI (ci := 10) (k := 18) (N := 67) (T := TX10) C hw iw_10 tyX10 tyX10_ok nmX10 rfl ob_60 (by decide) (by decide) fl_X10_228 rfl rfl rfl rfl (fn_10 A _) fs_10_18 dX10_text_150 (fun H locs hw => ?_)
      obtain ⟨M_106, hM_106⟩ : ∃ z : ti_M, z = uI M_104 60 18 0 := ⟨_, rfl⟩
      have hw := hw.to hM_106.symm
      have iM_106 : mI Tm M_106 := mI_uI iM_104 hM_106 (by decide) (by decide) trivial
      refine lv_aload_n hx hb dX10_text_153 rfl (lv_at hl 1 rfl) ?_
      refine lv_iconst (v := 0) hx hb dX10_text_154 (by decide) ?_
      refine ti_putI (ci := 10) (k := 19) (N := 67) (T := TX10) C hw iw_10 tyX10 tyX10_ok nmX10 rfl ob_60 (by decide) (by decide) fl_X10_254 rfl rfl rfl rfl (fn_10 A _) fs_10_19 dX10_text_155 (fun H locs hw => ?_)
      obtain ⟨M_107, hM_107⟩ : ∃ z : ti_M, z = uI M_106 60 19 0 := ⟨_, rfl⟩
      have hw := hw.to hM_107.symm
      have iM_107 : mI Tm M_107 := mI_uI iM_106 hM_107 (by decide) (by decide) trivial
      refine lv_aload_n hx hb dX10_text_158 rfl (lv_at hl 1 rfl) ?_
      refine lv_iconst (v := 0) hx hb dX10_text_159 (by decide) ?_
      refine ti_putI (ci := 10) (k := 29) (N := 67) (T := TX10) C hw iw_10 tyX10 tyX10_ok nmX10 rfl ob_60 (by decide) (by decide) fl_X10_297 rfl rfl rfl rfl (fn_10 A _) fs_10_29 dX10_text_160 (fun H locs hw => ?_)
      obtain ⟨M_108, hM_108⟩ : ∃ z : ti_M, z = uI M_107 60 29 0 := ⟨_, rfl⟩
      have hw := hw.to hM_108.symm
      have iM_108 : mI Tm M_108 := mI_uI iM_107 hM_108 (by decide) (by decide) (ib_mk (lo := 0) (hi := 8) (by decide) (by decide))
      have vM_108 : (tI M_108 60 29).toInt = 0 := by rw [tI_uE hM_108]; decide
      refine lv_aload_n hx hb dX10_text_163 rfl (lv_at hl 1 rfl) ?_
      refine lv_iconst (v := 0) hx hb dX10_text_164 (by decide) ?_
      refine ti_putI (ci := 10) (k := 30) (N := 67) (T := TX10) C hw iw_10 tyX10 tyX10_ok nmX10 rfl ob_60 (by decide) (by decide) fl_X10_273 rfl rfl rfl rfl (fn_10 A _) fs_10_30 dX10_text_165 (fun H locs hw => ?_)
      obtain ⟨M_109, hM_109⟩ : ∃ z : ti_M, z = uI M_108 60 30 0 := ⟨_, rfl⟩
      have hw := hw.to hM_109.symm
      have iM_109 : mI Tm M_109 := mI_uI iM_108 hM_109 (by decide) (by decide) (ib_mk (lo := 0) (hi := 64) (by decide) (by decide))
      have vM_109 : (tI M_109 60 30).toInt = 0 := by rw [tI_uE hM_109]; decide
      have hB := hB0 (by omega)
      have f1 : ff M_109 = 1 := ff_1 (by rw [((tI_nE hM_109 (nk (by decide))).trans ((tI_nE hM_108 (nk (by decide))).trans ((tI_nE hM_107 (nk (by decide))).trans ((tI_nE hM_106 (nk (by decide))).trans ((tI_uYE hM_104).trans ((tI_uYE hM_103).trans ((tI_uYE hM_101).trans ((tI_uYE hM_100).trans ((tI_uYE hM_98).trans ((tI_uYE hM_97).trans ((tI_uYE hM_94).trans ((tI_uYE hM_88).trans ((tI_uYE hM_79).trans ((tI_uYE hM_70).trans ((tI_uYE hM_61).trans ((tI_uYE hM_52).trans ((tI_uYE hM_43).trans ((tI_uYE hM_35).trans ((tI_uYE hM_28).trans ((tI_uYE hM_23).trans ((tI_uYE hM_19).trans ((tI_nE hM_10 (nk (by decide))).trans (tI_uE hM_9)))))))))))))))))))))))]; decide)
      have f29 : (tI M_109 60 29).toInt = 0 := by rw [((tI_nE hM_109 (nk (by decide))).trans (tI_uE hM_108))]; decide
      have f30 : (tI M_109 60 30).toInt = 0 := by rw [(tI_uE hM_109)]; decide
      have f18 : (tY M_109 60 3 18).toInt = 0 := by rw [((cg (tY_uIE hM_109) 18).trans ((cg (tY_uIE hM_108) 18).trans ((cg (tY_uIE hM_107) 18).trans ((cg (tY_uIE hM_106) 18).trans ((cg (tY_nE hM_104 (nk (by decide))) 18).trans ((cg (tY_nE hM_103 (nk (by decide))) 18).trans ((cg (tY_nE hM_101 (nk (by decide))) 18).trans ((cg (tY_nE hM_100 (nk (by decide))) 18).trans ((cg (tY_nE hM_98 (nk (by decide))) 18).trans ((cg (tY_nE hM_97 (nk (by decide))) 18).trans (((cg (tY_uE hM_94) 18).trans (pk_un (by decide))).trans (((cg (tY_uE hM_88) 18).trans (pk_un (by decide))).trans (((cg (tY_uE hM_79) 18).trans (pk_un (by decide))).trans ((cg (tY_uE hM_70) 18).trans (upl (by decide))))))))))))))))]; decide
      have fu : um M_109 := um_0 iM_109 ((cg (tY_uIE hM_109) 3).trans ((cg (tY_uIE hM_108) 3).trans ((cg (tY_uIE hM_107) 3).trans ((cg (tY_uIE hM_106) 3).trans ((cg (tY_nE hM_104 (nk (by decide))) 3).trans (((cg (tY_uE hM_103) 3).trans (pk_un (by decide))).trans ((cg (tY_nE hM_101 (nk (by decide))) 3).trans (((cg (tY_uE hM_100) 3).trans (pk_un (by decide))).trans ((cg (tY_nE hM_98 (nk (by decide))) 3).trans ((cg (tY_uE hM_97) 3).trans (upl (by decide)))))))))))) ((cg (tY_uIE hM_109) 4).trans ((cg (tY_uIE hM_108) 4).trans ((cg (tY_uIE hM_107) 4).trans ((cg (tY_uIE hM_106) 4).trans ((cg (tY_nE hM_104 (nk (by decide))) 4).trans (((cg (tY_uE hM_103) 4).trans (pk_un (by decide))).trans ((cg (tY_nE hM_101 (nk (by decide))) 4).trans ((cg (tY_uE hM_100) 4).trans (upl (by decide)))))))))) ((cg (tY_uIE hM_109) 5).trans ((cg (tY_uIE hM_108) 5).trans ((cg (tY_uIE hM_107) 5).trans ((cg (tY_uIE hM_106) 5).trans ((cg (tY_nE hM_104 (nk (by decide))) 5).trans ((cg (tY_uE hM_103) 5).trans (upl (by decide)))))))) ((cg (tY_uIE hM_109) 3).trans ((cg (tY_uIE hM_108) 3).trans ((cg (tY_uIE hM_107) 3).trans ((cg (tY_uIE hM_106) 3).trans (((cg (tY_uE hM_104) 3).trans (pk_un (by decide))).trans ((cg (tY_nE hM_103 (nk (by decide))) 3).trans (((cg (tY_uE hM_101) 3).trans (pk_un (by decide))).trans ((cg (tY_nE hM_100 (nk (by decide))) 3).trans ((cg (tY_uE hM_98) 3).trans (upl (by decide))))))))))) ((cg (tY_uIE hM_109) 4).trans ((cg (tY_uIE hM_108) 4).trans ((cg (tY_uIE hM_107) 4).trans ((cg (tY_uIE hM_106) 4).trans (((cg (tY_uE hM_104) 4).trans (pk_un (by decide))).trans ((cg (tY_nE hM_103 (nk (by decide))) 4).trans ((cg (tY_uE hM_101) 4).trans (upl (by decide))))))))) ((cg (tY_uIE hM_109) 5).trans ((cg (tY_uIE hM_108) 5).trans ((cg (tY_uIE hM_107) 5).trans ((cg (tY_uIE hM_106) 5).trans ((cg (tY_uE hM_104) 5).trans (upl (by decide)))))))
      have tl0 : qL (qq_cl K0) M_109 := qL_0 ((cg (tY_uIE hM_109) 11).trans ((cg (tY_uIE hM_108) 11).trans ((cg (tY_uIE hM_107) 11).trans ((cg (tY_uIE hM_106) 11).trans ((cg (tY_nE hM_104 (nk (by decide))) 11).trans ((cg (tY_nE hM_103 (nk (by decide))) 11).trans ((cg (tY_nE hM_101 (nk (by decide))) 11).trans ((cg (tY_nE hM_100 (nk (by decide))) 11).trans ((cg (tY_nE hM_98 (nk (by decide))) 11).trans ((cg (tY_nE hM_97 (nk (by decide))) 11).trans (((cg (tY_uE hM_94) 11).trans (pk_un (by decide))).trans (((cg (tY_uE hM_88) 11).trans (pk_un (by decide))).trans (((cg (tY_uE hM_79) 11).trans (pk_un (by decide))).trans (((cg (tY_uE hM_70) 11).trans (pk_un (by decide))).trans (((cg (tY_uE hM_61) 11).trans (pk_un (by decide))).trans (((cg (tY_uE hM_52) 11).trans (pk_un (by decide))).trans (((cg (tY_uE hM_43) 11).trans (pk_un (by decide))).trans (((cg (tY_uE hM_35) 11).trans (pk_un (by decide))).trans (((cg (tY_uE hM_28) 11).trans (pk_un (by decide))).trans (((cg (tY_uE hM_23) 11).trans (pk_un (by decide))).trans ((cg (tY_uE hM_19) 11).trans (upl (by decide))))))))))))))))))))))) ((cg (tY_uIE hM_109) 12).trans ((cg (tY_uIE hM_108) 12).trans ((cg (tY_uIE hM_107) 12).trans ((cg (tY_uIE hM_106) 12).trans ((cg (tY_nE hM_104 (nk (by decide))) 12).trans ((cg (tY_nE hM_103 (nk (by decide))) 12).trans ((cg (tY_nE hM_101 (nk (by decide))) 12).trans ((cg (tY_nE hM_100 (nk (by decide))) 12).trans ((cg (tY_nE hM_98 (nk (by decide))) 12).trans ((cg (tY_nE hM_97 (nk (by decide))) 12).trans (((cg (tY_uE hM_94) 12).trans (pk_un (by decide))).trans (((cg (tY_uE hM_88) 12).trans (pk_un (by decide))).trans (((cg (tY_uE hM_79) 12).trans (pk_un (by decide))).trans (((cg (tY_uE hM_70) 12).trans (pk_un (by decide))).trans (((cg (tY_uE hM_61) 12).trans (pk_un (by decide))).trans (((cg (tY_uE hM_52) 12).trans (pk_un (by decide))).trans (((cg (tY_uE hM_43) 12).trans (pk_un (by decide))).trans (((cg (tY_uE hM_35) 12).trans (pk_un (by decide))).trans (((cg (tY_uE hM_28) 12).trans (pk_un (by decide))).trans ((cg (tY_uE hM_23) 12).trans (upl (by decide)))))))))))))))))))))) ((cg (tY_uIE hM_109) 13).trans ((cg (tY_uIE hM_108) 13).trans ((cg (tY_uIE hM_107) 13).trans ((cg (tY_uIE hM_106) 13).trans ((cg (tY_nE hM_104 (nk (by decide))) 13).trans ((cg (tY_nE hM_103 (nk (by decide))) 13).trans ((cg (tY_nE hM_101 (nk (by decide))) 13).trans ((cg (tY_nE hM_100 (nk (by decide))) 13).trans ((cg (tY_nE hM_98 (nk (by decide))) 13).trans ((cg (tY_nE hM_97 (nk (by decide))) 13).trans (((cg (tY_uE hM_94) 13).trans (pk_un (by decide))).trans (((cg (tY_uE hM_88) 13).trans (pk_un (by decide))).trans (((cg (tY_uE hM_79) 13).trans (pk_un (by decide))).trans (((cg (tY_uE hM_70) 13).trans (pk_un (by decide))).trans (((cg (tY_uE hM_61) 13).trans (pk_un (by decide))).trans (((cg (tY_uE hM_52) 13).trans (pk_un (by decide))).trans (((cg (tY_uE hM_43) 13).trans (pk_un (by decide))).trans (((cg (tY_uE hM_35) 13).trans (pk_un (by decide))).trans ((cg (tY_uE hM_28) 13).trans (upl (by decide))))))))))))))))))))) ((cg (tY_uIE hM_109) 14).trans ((cg (tY_uIE hM_108) 14).trans ((cg (tY_uIE hM_107) 14).trans ((cg (tY_uIE hM_106) 14).trans ((cg (tY_nE hM_104 (nk (by decide))) 14).trans ((cg (tY_nE hM_103 (nk (by decide))) 14).trans ((cg (tY_nE hM_101 (nk (by decide))) 14).trans ((cg (tY_nE hM_100 (nk (by decide))) 14).trans ((cg (tY_nE hM_98 (nk (by decide))) 14).trans ((cg (tY_nE hM_97 (nk (by decide))) 14).trans (((cg (tY_uE hM_94) 14).trans (pk_un (by decide))).trans (((cg (tY_uE hM_88) 14).trans (pk_un (by decide))).trans (((cg (tY_uE hM_79) 14).trans (pk_un (by decide))).trans (((cg (tY_uE hM_70) 14).trans (pk_un (by decide))).trans (((cg (tY_uE hM_61) 14).trans (pk_un (by decide))).trans (((cg (tY_uE hM_52) 14).trans (pk_un (by decide))).trans (((cg (tY_uE hM_43) 14).trans (pk_un (by decide))).trans ((cg (tY_uE hM_35) 14).trans (upl (by decide)))))))))))))))))))) ((cg (tY_uIE hM_109) 15).trans ((cg (tY_uIE hM_108) 15).trans ((cg (tY_uIE hM_107) 15).trans ((cg (tY_uIE hM_106) 15).trans ((cg (tY_nE hM_104 (nk (by decide))) 15).trans ((cg (tY_nE hM_103 (nk (by decide))) 15).trans ((cg (tY_nE hM_101 (nk (by decide))) 15).trans ((cg (tY_nE hM_100 (nk (by decide))) 15).trans ((cg (tY_nE hM_98 (nk (by decide))) 15).trans ((cg (tY_nE hM_97 (nk (by decide))) 15).trans (((cg (tY_uE hM_94) 15).trans (pk_un (by decide))).trans (((cg (tY_uE hM_88) 15).trans (pk_un (by decide))).trans (((cg (tY_uE hM_79) 15).trans (pk_un (by decide))).trans (((cg (tY_uE hM_70) 15).trans (pk_un (by decide))).trans (((cg (tY_uE hM_61) 15).trans (pk_un (by decide))).trans (((cg (tY_uE hM_52) 15).trans (pk_un (by decide))).trans ((cg (tY_uE hM_43) 15).trans (upl (by decide))))))))))))))))))) ((cg (tY_uIE hM_109) 16).trans ((cg (tY_uIE hM_108) 16).trans ((cg (tY_uIE hM_107) 16).trans ((cg (tY_uIE hM_106) 16).trans ((cg (tY_nE hM_104 (nk (by decide))) 16).trans ((cg (tY_nE hM_103 (nk (by decide))) 16).trans ((cg (tY_nE hM_101 (nk (by decide))) 16).trans ((cg (tY_nE hM_100 (nk (by decide))) 16).trans ((cg (tY_nE hM_98 (nk (by decide))) 16).trans ((cg (tY_nE hM_97 (nk (by decide))) 16).trans (((cg (tY_uE hM_94) 16).trans (pk_un (by decide))).trans (((cg (tY_uE hM_88) 16).trans (pk_un (by decide))).trans (((cg (tY_uE hM_79) 16).trans (pk_un (by decide))).trans (((cg (tY_uE hM_70) 16).trans (pk_un (by decide))).trans (((cg (tY_uE hM_61) 16).trans (pk_un (by decide))).trans ((cg (tY_uE hM_52) 16).trans (upl (by decide)))))))))))))))))) ((cg (tY_uIE hM_109) 17).trans ((cg (tY_uIE hM_108) 17).trans ((cg (tY_uIE hM_107) 17).trans ((cg (tY_uIE hM_106) 17).trans ((cg (tY_nE hM_104 (nk (by decide))) 17).trans ((cg (tY_nE hM_103 (nk (by decide))) 17).trans ((cg (tY_nE hM_101 (nk (by decide))) 17).trans ((cg (tY_nE hM_100 (nk (by decide))) 17).trans ((cg (tY_nE hM_98 (nk (by decide))) 17).trans ((cg (tY_nE hM_97 (nk (by decide))) 17).trans (((cg (tY_uE hM_94) 17).trans (pk_un (by decide))).trans (((cg (tY_uE hM_88) 17).trans (pk_un (by decide))).trans (((cg (tY_uE hM_79) 17).trans (pk_un (by decide))).trans (((cg (tY_uE hM_70) 17).trans (pk_un (by decide))).trans ((cg (tY_uE hM_61) 17).trans (upl (by decide))))))))))))))))) ((cg (tY_uIE hM_109) 18).trans ((cg (tY_uIE hM_108) 18).trans ((cg (tY_uIE hM_107) 18).trans ((cg (tY_uIE hM_106) 18).trans ((cg (tY_nE hM_104 (nk (by decide))) 18).trans ((cg (tY_nE hM_103 (nk (by decide))) 18).trans ((cg (tY_nE hM_101 (nk (by decide))) 18).trans ((cg (tY_nE hM_100 (nk (by decide))) 18).trans ((cg (tY_nE hM_98 (nk (by decide))) 18).trans ((cg (tY_nE hM_97 (nk (by decide))) 18).trans (((cg (tY_uE hM_94) 18).trans (pk_un (by decide))).trans (((cg (tY_uE hM_88) 18).trans (pk_un (by decide))).trans (((cg (tY_uE hM_79) 18).trans (pk_un (by decide))).trans ((cg (tY_uE hM_70) 18).trans (upl (by decide)))))))))))))))) ((cg (tY_uIE hM_109) 19).trans ((cg (tY_uIE hM_108) 19).trans ((cg (tY_uIE hM_107) 19).trans ((cg (tY_uIE hM_106) 19).trans ((cg (tY_nE hM_104 (nk (by decide))) 19).trans ((cg (tY_nE hM_103 (nk (by decide))) 19).trans ((cg (tY_nE hM_101 (nk (by decide))) 19).trans ((cg (tY_nE hM_100 (nk (by decide))) 19).trans ((cg (tY_nE hM_98 (nk (by decide))) 19).trans ((cg (tY_nE hM_97 (nk (by decide))) 19).trans (((cg (tY_uE hM_94) 19).trans (pk_un (by decide))).trans (((cg (tY_uE hM_88) 19).trans (pk_un (by decide))).trans ((cg (tY_uE hM_79) 19).trans (upl (by decide))))))))))))))) ((cg (tY_uIE hM_109) 20).trans ((cg (tY_uIE hM_108) 20).trans ((cg (tY_uIE hM_107) 20).trans ((cg (tY_uIE hM_106) 20).trans ((cg (tY_nE hM_104 (nk (by decide))) 20).trans ((cg (tY_nE hM_103 (nk (by decide))) 20).trans ((cg (tY_nE hM_101 (nk (by decide))) 20).trans ((cg (tY_nE hM_100 (nk (by decide))) 20).trans ((cg (tY_nE hM_98 (nk (by decide))) 20).trans ((cg (tY_nE hM_97 (nk (by decide))) 20).trans (((cg (tY_uE hM_94) 20).trans (pk_un (by decide))).trans ((cg (tY_uE hM_88) 20).trans (upl (by decide)))))))))))))) ((cg (tY_uIE hM_109) 21).trans ((cg (tY_uIE hM_108) 21).trans ((cg (tY_uIE hM_107) 21).trans ((cg (tY_uIE hM_106) 21).trans ((cg (tY_nE hM_104 (nk (by decide))) 21).trans ((cg (tY_nE hM_103 (nk (by decide))) 21).trans ((cg (tY_nE hM_101 (nk (by decide))) 21).trans ((cg (tY_nE hM_100 (nk (by decide))) 21).trans ((cg (tY_nE hM_98 (nk (by decide))) 21).trans ((cg (tY_nE hM_97 (nk (by decide))) 21).trans ((cg (tY_uE hM_94) 21).trans (upl (by decide))))))))))))) ((cg (tY_uIE hM_109) 3).trans ((cg (tY_uIE hM_108) 3).trans ((cg (tY_uIE hM_107) 3).trans ((cg (tY_uIE hM_106) 3).trans ((cg (tY_nE hM_104 (nk (by decide))) 3).trans (((cg (tY_uE hM_103) 3).trans (pk_un (by decide))).trans ((cg (tY_nE hM_101 (nk (by decide))) 3).trans (((cg (tY_uE hM_100) 3).trans (pk_un (by decide))).trans ((cg (tY_nE hM_98 (nk (by decide))) 3).trans ((cg (tY_uE hM_97) 3).trans (upl (by decide)))))))))))) ((cg (tY_uIE hM_109) 4).trans ((cg (tY_uIE hM_108) 4).trans ((cg (tY_uIE hM_107) 4).trans ((cg (tY_uIE hM_106) 4).trans ((cg (tY_nE hM_104 (nk (by decide))) 4).trans (((cg (tY_uE hM_103) 4).trans (pk_un (by decide))).trans ((cg (tY_nE hM_101 (nk (by decide))) 4).trans ((cg (tY_uE hM_100) 4).trans (upl (by decide)))))))))) ((cg (tY_uIE hM_109) 5).trans ((cg (tY_uIE hM_108) 5).trans ((cg (tY_uIE hM_107) 5).trans ((cg (tY_uIE hM_106) 5).trans ((cg (tY_nE hM_104 (nk (by decide))) 5).trans ((cg (tY_uE hM_103) 5).trans (upl (by decide)))))))) ((cg (tY_uIE hM_109) 3).trans ((cg (tY_uIE hM_108) 3).trans ((cg (tY_uIE hM_107) 3).trans ((cg (tY_uIE hM_106) 3).trans (((cg (tY_uE hM_104) 3).trans (pk_un (by decide))).trans ((cg (tY_nE hM_103 (nk (by decide))) 3).trans (((cg (tY_uE hM_101) 3).trans (pk_un (by decide))).trans ((cg (tY_nE hM_100 (nk (by decide))) 3).trans ((cg (tY_uE hM_98) 3).trans (upl (by decide))))))))))) ((cg (tY_uIE hM_109) 4).trans ((cg (tY_uIE hM_108) 4).trans ((cg (tY_uIE hM_107) 4).trans ((cg (tY_uIE hM_106) 4).trans (((cg (tY_uE hM_104) 4).trans (pk_un (by decide))).trans ((cg (tY_nE hM_103 (nk (by decide))) 4).trans ((cg (tY_uE hM_101) 4).trans (upl (by decide))))))))) ((cg (tY_uIE hM_109) 5).trans ((cg (tY_uIE hM_108) 5).trans ((cg (tY_uIE hM_107) 5).trans ((cg (tY_uIE hM_106) 5).trans ((cg (tY_uE hM_104) 5).trans (upl (by decide))))))) (tI_uE hM_109)
      refine lv_aload_n hx hb dX10_text_168 rfl (lv_at hl 1 rfl) ?_
      refine ti_callVvE (ci := 10) (av := []) C hE hw (x_X10_token l D A cy hJ M_109 iM_109 ) ⟨ml_X10_214, ym_X10_token, yv_X10_token, yi_X10_token, yc_X10_token⟩ yd_X10_token ob_60 (by decide) rfl rfl hl.1 (Nat.le_of_ble_eq_true rfl) ⟨by decide, by decide⟩ ⟨Nat.zero_le _, Nat.zero_le _⟩ dX10_text_169 (fun M_111 H locs hp_111 hw => ?_)
      obtain ⟨iM_111, q_114, z_112, z_113, k2M_111, k3M_111, k4M_111⟩ := hp_111
      have hs0 := rQ_st (J := J) (fun i hi => (congrArg Int32.toInt (congrFun (show tY M_109 60 1 = tY M 60 1 from ((tY_uIE hM_109).trans ((tY_uIE hM_108).trans ((tY_uIE hM_107).trans ((tY_uIE hM_106).trans ((tY_nE hM_104 (nk (by decide))).trans ((tY_nE hM_103 (nk (by decide))).trans ((tY_nE hM_101 (nk (by decide))).trans ((tY_nE hM_100 (nk (by decide))).trans ((tY_nE hM_98 (nk (by decide))).trans ((tY_nE hM_97 (nk (by decide))).trans ((tY_nE hM_94 (nk (by decide))).trans ((tY_nE hM_88 (nk (by decide))).trans ((tY_nE hM_79 (nk (by decide))).trans ((tY_nE hM_70 (nk (by decide))).trans ((tY_nE hM_61 (nk (by decide))).trans ((tY_nE hM_52 (nk (by decide))).trans ((tY_nE hM_43 (nk (by decide))).trans ((tY_nE hM_35 (nk (by decide))).trans ((tY_nE hM_28 (nk (by decide))).trans ((tY_nE hM_23 (nk (by decide))).trans ((tY_nE hM_19 (nk (by decide))).trans ((tY_uIE hM_10).trans ((tY_uIE hM_9).trans ((tY_uIE hM_8).trans ((tY_uIE hM_7).trans ((tY_uIE hM_6).trans (tY_uIE hM_1)))))))))))))))))))))))))))) i)).trans (hB i hi)) (by rw [((tI_nE hM_109 (nk (by decide))).trans ((tI_nE hM_108 (nk (by decide))).trans ((tI_nE hM_107 (nk (by decide))).trans ((tI_nE hM_106 (nk (by decide))).trans ((tI_uYE hM_104).trans ((tI_uYE hM_103).trans ((tI_uYE hM_101).trans ((tI_uYE hM_100).trans ((tI_uYE hM_98).trans ((tI_uYE hM_97).trans ((tI_uYE hM_94).trans ((tI_uYE hM_88).trans ((tI_uYE hM_79).trans ((tI_uYE hM_70).trans ((tI_uYE hM_61).trans ((tI_uYE hM_52).trans ((tI_uYE hM_43).trans ((tI_uYE hM_35).trans ((tI_uYE hM_28).trans ((tI_uYE hM_23).trans ((tI_uYE hM_19).trans ((tI_nE hM_10 (nk (by decide))).trans ((tI_nE hM_9 (nk (by decide))).trans ((tI_nE hM_8 (nk (by decide))).trans ((tI_nE hM_7 (nk (by decide))).trans (tI_uE hM_6))))))))))))))))))))))))))]) (by rw [((tI_nE hM_109 (nk (by decide))).trans ((tI_nE hM_108 (nk (by decide))).trans ((tI_nE hM_107 (nk (by decide))).trans ((tI_nE hM_106 (nk (by decide))).trans ((tI_uYE hM_104).trans ((tI_uYE hM_103).trans ((tI_uYE hM_101).trans ((tI_uYE hM_100).trans ((tI_uYE hM_98).trans ((tI_uYE hM_97).trans ((tI_uYE hM_94).trans ((tI_uYE hM_88).trans ((tI_uYE hM_79).trans ((tI_uYE hM_70).trans ((tI_uYE hM_61).trans ((tI_uYE hM_52).trans ((tI_uYE hM_43).trans ((tI_uYE hM_35).trans ((tI_uYE hM_28).trans ((tI_uYE hM_23).trans ((tI_uYE hM_19).trans ((tI_nE hM_10 (nk (by decide))).trans ((tI_nE hM_9 (nk (by decide))).trans (tI_uE hM_8))))))))))))))))))))))))]; decide) q_114 k2M_111 k3M_111 k4M_111 (by rw [((tI_nE hM_109 (nk (by decide))).trans ((tI_nE hM_108 (nk (by decide))).trans ((tI_nE hM_107 (nk (by decide))).trans ((tI_nE hM_106 (nk (by decide))).trans ((tI_uYE hM_104).trans ((tI_uYE hM_103).trans ((tI_uYE hM_101).trans ((tI_uYE hM_100).trans ((tI_uYE hM_98).trans ((tI_uYE hM_97).trans ((tI_uYE hM_94).trans ((tI_uYE hM_88).trans ((tI_uYE hM_79).trans ((tI_uYE hM_70).trans ((tI_uYE hM_61).trans ((tI_uYE hM_52).trans ((tI_uYE hM_43).trans ((tI_uYE hM_35).trans ((tI_uYE hM_28).trans ((tI_uYE hM_23).trans ((tI_uYE hM_19).trans ((tI_nE hM_10 (nk (by decide))).trans (tI_uE hM_9)))))))))))))))))))))))]; decide) (by rw [((tI_nE hM_109 (nk (by decide))).trans ((tI_nE hM_108 (nk (by decide))).trans ((tI_nE hM_107 (nk (by decide))).trans ((tI_nE hM_106 (nk (by decide))).trans ((tI_uYE hM_104).trans ((tI_uYE hM_103).trans ((tI_uYE hM_101).trans ((tI_uYE hM_100).trans ((tI_uYE hM_98).trans ((tI_uYE hM_97).trans ((tI_uYE hM_94).trans ((tI_uYE hM_88).trans ((tI_uYE hM_79).trans ((tI_uYE hM_70).trans ((tI_uYE hM_61).trans ((tI_uYE hM_52).trans ((tI_uYE hM_43).trans ((tI_uYE hM_35).trans ((tI_uYE hM_28).trans ((tI_uYE hM_23).trans ((tI_uYE hM_19).trans (tI_uE hM_10))))))))))))))))))))))]; decide) (by rw [((tI_nE hM_109 (nk (by decide))).trans ((tI_nE hM_108 (nk (by decide))).trans (tI_uE hM_107)))]; decide) (by rw [(tI_uE hM_109)]; decide) (((tI_nE hM_109 (nk (by decide))).trans ((tI_nE hM_108 (nk (by decide))).trans ((tI_nE hM_107 (nk (by decide))).trans (tI_uE hM_106))))) (by rw [((cg (tY_uIE hM_109) 11).trans ((cg (tY_uIE hM_108) 11).trans ((cg (tY_uIE hM_107) 11).trans ((cg (tY_uIE hM_106) 11).trans ((cg (tY_nE hM_104 (nk (by decide))) 11).trans ((cg (tY_nE hM_103 (nk (by decide))) 11).trans ((cg (tY_nE hM_101 (nk (by decide))) 11).trans ((cg (tY_nE hM_100 (nk (by decide))) 11).trans ((cg (tY_nE hM_98 (nk (by decide))) 11).trans ((cg (tY_nE hM_97 (nk (by decide))) 11).trans (((cg (tY_uE hM_94) 11).trans (pk_un (by decide))).trans (((cg (tY_uE hM_88) 11).trans (pk_un (by decide))).trans (((cg (tY_uE hM_79) 11).trans (pk_un (by decide))).trans (((cg (tY_uE hM_70) 11).trans (pk_un (by decide))).trans (((cg (tY_uE hM_61) 11).trans (pk_un (by decide))).trans (((cg (tY_uE hM_52) 11).trans (pk_un (by decide))).trans (((cg (tY_uE hM_43) 11).trans (pk_un (by decide))).trans (((cg (tY_uE hM_35) 11).trans (pk_un (by decide))).trans (((cg (tY_uE hM_28) 11).trans (pk_un (by decide))).trans (((cg (tY_uE hM_23) 11).trans (pk_un (by decide))).trans ((cg (tY_uE hM_19) 11).trans (upl (by decide)))))))))))))))))))))))]; decide)
      obtain ⟨-, -, z_115, z_116, z_117, z_118, z_119, z_120⟩ := l_tk ⟨iM_111, q_114, z_112, z_113⟩
      clear z_112 z_113 k2M_111 k3M_111 k4M_111
      obtain ⟨g_121, eg_121⟩ : ∃ z : Nat → Int, z = pp_r0 B nn.toInt.toNat J := ⟨_, rfl⟩
      rw [← eg_121] at hs0
      have n0 : g_121 9 = 0 := by rw [eg_121]; exact r0_9
      have gb0 := pg_b M_111
      have gc0 := b21 iM_111
      have fb0 := ff_b M_111
      have tl_122 : qL (qq_cl K0) M_111 := qL_fr tl0 q_114.1 (q_114.2 18 (by decide)) (q_114.2 30 (by decide)) (by omega)
      have hl_172_144 : ∀ (n_145 : Nat) (M_123 : ti_M) (g_127 : Nat → Int) (d_129 : Nat → Int) (H : Heap) (locs : List Loc) (ls : Array Slot), (1401 - pg M_123 + ff M_123 : Int).toNat < n_145 → (mI Tm M_123) → (lx M_123 M) → (gU M_123 M) → (tI M_123 60 2 = 0) → (rQ B nn.toInt.toNat g_127 M_123) → (qL d_129 M_123) → (pp_tx B nn.toInt.toNat J = pp_rd B nn.toInt.toNat (nn.toInt.toNat + 1 - (g_127 9).toNat) g_127) → (qq_tx B nn.toInt.toNat J K0 = qq_rd B nn.toInt.toNat (nn.toInt.toNat + 1 - (g_127 9).toNat) g_127 d_129) → (0 ≤ g_127 9 ∧ 2 * g_127 9 ≤ pg M_123 + 2 - 2 * ff M_123) → (0 ≤ ff M_123) → (ff M_123 ≤ 1) → ((tY M_123 60 3 18).toInt ≤ (tI M_123 60 30).toInt + 64 - 64 * ff M_123) → ((tI M_123 60 29).toInt ≤ 8 - 8 * ff M_123) → (0 ≤ (tY M_123 60 3 18).toInt) → ((tY M_123 60 3 18).toInt ≤ 64) → (0 ≤ (tI M_123 60 29).toInt) → ((tI M_123 60 29).toInt ≤ 8) → (0 ≤ (tI M_123 60 30).toInt) → ((tI M_123 60 30).toInt ≤ 64) → (um M_123) → ti_H ti_LM D A cy H0 M_123 H locs → lv_has ls 3 [(2, .int 6), (0, .ref (A 60 0)), (1, .int nn)] → W p l e (ti_rm 652) s m args below meth c H locs 0 0 Q (F0 m 172 ls []) := by
        intro n_145
        induction n_145 with
        | zero => intro M_123 g_127 d_129 H locs ls hf_145; exact absurd hf_145 (Nat.not_lt_zero _)
        | succ n_145 ih_145 =>
          intro M_123 g_127 d_129 H locs ls hf_145 iM_123 f_124 f_125 f_126 hs_128 tl_130 j_131 j_132 j_133 j_134 j_135 j_136 j_137 j_138 j_139 j_140 j_141 j_142 j_143 j_144 hw hl
          have gb := pg_b M_123
          have gc := b21 iM_123
          refine lv_aload_n hx hb dX10_text_172 rfl (lv_at hl 1 rfl) ?_
          refine ti_get (ci := 10) (k := 25) (N := 67) (T := TX10) C hw iw_10 rfl ob_60 (by decide) (by decide) fl_X10_208 rfl rfl dX10_text_173 ?_
          refine lv_topi (fun x_146 ex_146 => ?_)
          have u_147 : (tI M_123 60 25).toInt = x_146.toInt := by rw [ex_146]
          have ufx_146 : (tI M_123 60 25).toInt = x_146.toInt := by rw [ex_146]
          refine sb_if_ne (tgt := 194) hx hb rfl dX10_text_176 (by decide) (fun c_176_147 => ?_) (fun c_176_147 => ?_)
          · have z_149 : ff M_123 = 0 := ff_0 (fun h => c_176_147 (ufx_146.symm.trans h))
            clear c_176_147
            have h4 := rQ_g1 hs_128 (by omega)
            have E9 : pp_tx B nn.toInt.toNat J = g_127 := (j_131).trans (rd_end (Or.inr (Or.inr h4)))
            have EQ9 : qq_tx B nn.toInt.toNat J K0 = d_129 := (j_132).trans (qrd_end (Or.inr (Or.inr h4)))
            refine lv_aload_n hx hb dX10_text_194 rfl (lv_at hl 1 rfl) ?_
            refine lv_aload_n hx hb dX10_text_195 rfl (lv_at hl 1 rfl) ?_
            refine ti_get (ci := 10) (k := 25) (N := 67) (T := TX10) C hw iw_10 rfl ob_60 (by decide) (by decide) fl_X10_208 rfl rfl dX10_text_196 ?_
            refine ti_top (y := x_146) (ex_146.symm) ?_
            refine ti_putI (ci := 10) (k := 27) (N := 67) (T := TX10) C hw iw_10 tyX10 tyX10_ok nmX10 rfl ob_60 (by decide) (by decide) fl_X10_303 rfl rfl rfl rfl (fn_10 A _) fs_10_27 dX10_text_199 (fun H locs hw => ?_)
            obtain ⟨M_174, hM_174⟩ : ∃ z : ti_M, z = uI M_123 60 27 x_146 := ⟨_, rfl⟩
            have hw := hw.to hM_174.symm
            have iM_174 : mI (mG M_174) M_174 := mI_lf iM_123 hM_174 (Or.inl rfl) trivial
            have z_175 : ff M_174 = ff M_123 := ff_I hM_174 (by decide)
            have z_176 : pg M_174 = pg M_123 := pg_I hM_174 (by decide)
            have tl_177 : qL d_129 M_174 := qL_fr tl_130 (ry_I hM_174) (tI_nE hM_174 (nk (by decide))) (tI_nE hM_174 (nk (by decide))) (by omega)
            refine lv_aload_n hx hb dX10_text_202 rfl (lv_at hl 1 rfl) ?_
            refine lv_aload_n hx hb dX10_text_203 rfl (lv_at hl 1 rfl) ?_
            refine ti_get (ci := 10) (k := 26) (N := 67) (T := TX10) C hw iw_10 rfl ob_60 (by decide) (by decide) fl_X10_211 rfl rfl dX10_text_204 ?_
            refine lv_topi (fun x_178 ex_178 => ?_)
            refine ti_putI (ci := 10) (k := 28) (N := 67) (T := TX10) C hw iw_10 tyX10 tyX10_ok nmX10 rfl ob_60 (by decide) (by decide) fl_X10_58 rfl rfl rfl rfl (fn_10 A _) fs_10_28 dX10_text_207 (fun H locs hw => ?_)
            obtain ⟨M_179, hM_179⟩ : ∃ z : ti_M, z = uI M_174 60 28 x_178 := ⟨_, rfl⟩
            have hw := hw.to hM_179.symm
            have iM_179 : mI (mG M_179) M_179 := mI_lf iM_174 hM_179 (Or.inr rfl) trivial
            have z_180 : ff M_179 = ff M_174 := ff_I hM_179 (by decide)
            have z_181 : pg M_179 = pg M_174 := pg_I hM_179 (by decide)
            have tl_182 : qL d_129 M_179 := qL_fr tl_177 (ry_I hM_179) (tI_nE hM_179 (nk (by decide))) (tI_nE hM_179 (nk (by decide))) (by omega)
            refine lv_aload_n hx hb dX10_text_210 rfl (lv_at hl 1 rfl) ?_
            refine ti_get (ci := 10) (k := 25) (N := 67) (T := TX10) C hw iw_10 rfl ob_60 (by decide) (by decide) fl_X10_208 rfl rfl dX10_text_211 ?_
            refine ti_top (y := x_146) ((tI_nE hM_179 (nk (by decide))).trans ((tI_nE hM_174 (nk (by decide))).trans ex_146.symm)) ?_
            refine sb_if_eq (tgt := 219) hx hb rfl dX10_text_214 (by decide) (fun c_214_182 => by have z_184 : ff M_123 = 1 := ff_1 (ufx_146.trans c_214_182); omega) (fun c_214_182 => ?_)
            have z_184 : ff M_123 = 0 := ff_0 (fun h => c_214_182 (ufx_146.symm.trans h))
            clear c_214_182
            refine lv_iconst (v := (-1)) hx hb dX10_text_217 (by decide) ?_
            exact hQ _ _ _ _ _ _ hw rfl (Or.inr ⟨by omega, ((tI_nE hM_179 (nk (by decide))).trans ((tI_nE hM_174 (nk (by decide))).trans f_126)), mF_self (mF_lx hF iM_179 (lx.trans (lx_I hM_179 (by decide)) (lx.trans (lx_I hM_174 (by decide)) f_124))), (by rw [E9]; unfold pp_an; rw [if_neg h4]; decide), ((congrArg Int32.toInt ((tI_nE hM_179 (nk (by decide))).trans (tI_uE hM_174))).trans ((congrArg Int32.toInt (ex_146.symm)).symm.trans (by rw [E9]; exact hs_128.2.1.symm))), ((congrArg Int32.toInt (tI_uE hM_179)).trans ((congrArg Int32.toInt (ex_178.symm)).symm.trans (by rw [tI_nE hM_174 (nk (by decide)), E9]; exact hs_128.2.2.1.1.symm))), (fun _ => ⟨(lx.trans (lx_I hM_179 (by decide)) (lx.trans (lx_I hM_174 (by decide)) f_124)), (gU.trans (gU_e (ry_I hM_179)) (gU.trans (gU_e (ry_I hM_174)) f_125))⟩), (fun q => absurd ((congrFun E9 4).symm.trans q) h4)⟩) dX10_text_218
          · have z_149 : ff M_123 = 1 := ff_1 (ufx_146.trans c_176_147)
            clear c_176_147
            refine lv_aload_n hx hb dX10_text_179 rfl (lv_at hl 1 rfl) ?_
            refine ti_get (ci := 10) (k := 23) (N := 67) (T := TX10) C hw iw_10 rfl ob_60 (by decide) (by decide) fl_X10_173 rfl rfl dX10_text_180 ?_
            refine lv_topi (fun x_150 ex_150 => ?_)
            refine lv_iconst (v := 4) hx hb dX10_text_183 (by decide) ?_
            refine sb_icmp_eq (tgt := 194) hx hb rfl (by decide : (4 : Int32).toInt = 4) dX10_text_184 (by decide) (fun c_184_150 => ?_) (fun c_184_150 => ?_)
            · have h4 := rQ_g0 hs_128 (show ff M_123 = 1 by omega)
              have h27 : g_127 0 = 27 := (pt_Tnm (rQ_T hs_128 (by omega))).2.2.2.2.1 (by rw [(ex_150.symm)]; exact c_184_150)
              have E9 : pp_tx B nn.toInt.toNat J = g_127 := (j_131).trans (rd_end (Or.inr (Or.inl h27)))
              have EQ9 : qq_tx B nn.toInt.toNat J K0 = d_129 := (j_132).trans (qrd_end (Or.inr (Or.inl h27)))
              refine lv_aload_n hx hb dX10_text_194 rfl (lv_at hl 1 rfl) ?_
              refine lv_aload_n hx hb dX10_text_195 rfl (lv_at hl 1 rfl) ?_
              refine ti_get (ci := 10) (k := 25) (N := 67) (T := TX10) C hw iw_10 rfl ob_60 (by decide) (by decide) fl_X10_208 rfl rfl dX10_text_196 ?_
              refine ti_top (y := x_146) (ex_146.symm) ?_
              refine ti_putI (ci := 10) (k := 27) (N := 67) (T := TX10) C hw iw_10 tyX10 tyX10_ok nmX10 rfl ob_60 (by decide) (by decide) fl_X10_303 rfl rfl rfl rfl (fn_10 A _) fs_10_27 dX10_text_199 (fun H locs hw => ?_)
              obtain ⟨M_185, hM_185⟩ : ∃ z : ti_M, z = uI M_123 60 27 x_146 := ⟨_, rfl⟩
              have hw := hw.to hM_185.symm
              have iM_185 : mI (mG M_185) M_185 := mI_lf iM_123 hM_185 (Or.inl rfl) trivial
              have z_186 : ff M_185 = ff M_123 := ff_I hM_185 (by decide)
              have z_187 : pg M_185 = pg M_123 := pg_I hM_185 (by decide)
              have tl_188 : qL d_129 M_185 := qL_fr tl_130 (ry_I hM_185) (tI_nE hM_185 (nk (by decide))) (tI_nE hM_185 (nk (by decide))) (by omega)
              refine lv_aload_n hx hb dX10_text_202 rfl (lv_at hl 1 rfl) ?_
              refine lv_aload_n hx hb dX10_text_203 rfl (lv_at hl 1 rfl) ?_
              refine ti_get (ci := 10) (k := 26) (N := 67) (T := TX10) C hw iw_10 rfl ob_60 (by decide) (by decide) fl_X10_211 rfl rfl dX10_text_204 ?_
              refine lv_topi (fun x_189 ex_189 => ?_)
              refine ti_putI (ci := 10) (k := 28) (N := 67) (T := TX10) C hw iw_10 tyX10 tyX10_ok nmX10 rfl ob_60 (by decide) (by decide) fl_X10_58 rfl rfl rfl rfl (fn_10 A _) fs_10_28 dX10_text_207 (fun H locs hw => ?_)
              obtain ⟨M_190, hM_190⟩ : ∃ z : ti_M, z = uI M_185 60 28 x_189 := ⟨_, rfl⟩
              have hw := hw.to hM_190.symm
              have iM_190 : mI (mG M_190) M_190 := mI_lf iM_185 hM_190 (Or.inr rfl) trivial
              have z_191 : ff M_190 = ff M_185 := ff_I hM_190 (by decide)
              have z_192 : pg M_190 = pg M_185 := pg_I hM_190 (by decide)
              have tl_193 : qL d_129 M_190 := qL_fr tl_188 (ry_I hM_190) (tI_nE hM_190 (nk (by decide))) (tI_nE hM_190 (nk (by decide))) (by omega)
              refine lv_aload_n hx hb dX10_text_210 rfl (lv_at hl 1 rfl) ?_
              refine ti_get (ci := 10) (k := 25) (N := 67) (T := TX10) C hw iw_10 rfl ob_60 (by decide) (by decide) fl_X10_208 rfl rfl dX10_text_211 ?_
              refine ti_top (y := x_146) ((tI_nE hM_190 (nk (by decide))).trans ((tI_nE hM_185 (nk (by decide))).trans ex_146.symm)) ?_
              refine sb_if_eq (tgt := 219) hx hb rfl dX10_text_214 (by decide) (fun c_214_193 => ?_) (fun c_214_193 => by have z_195 : ff M_123 = 0 := ff_0 (fun h => c_214_193 (ufx_146.symm.trans h)); omega)
              have z_195 : ff M_123 = 1 := ff_1 (ufx_146.trans c_214_193)
              clear c_214_193
              refine lv_aload_n hx hb dX10_text_219 rfl (lv_at hl 1 rfl) ?_
              refine ti_get (ci := 10) (k := 3) (N := 67) (T := TX10) (v := .ref (A 60 4)) C hw iw_10 rfl ob_60 (by decide) (by decide) fl_X10_13 rfl rfl dX10_text_220 ?_
              refine ti_callSv (av := [.ref (A 60 4)]) C hw (s_X10_half_3 l D A cy hJ M_190 iM_190 ) ⟨ml_X10_306, ys_X10_half, yi_X10_half, yc_X10_half⟩ yd_X10_half rfl hl.1 (Nat.le_of_ble_eq_true rfl) ⟨by decide, by decide⟩ ⟨Nat.zero_le _, Nat.zero_le _⟩ dX10_text_223 (fun M_197 H locs hp_197 hw => ?_)
              obtain ⟨iM_197, q_198⟩ := hp_197
              refine lv_aload_n hx hb dX10_text_226 rfl (lv_at hl 1 rfl) ?_
              refine ti_get (ci := 10) (k := 4) (N := 67) (T := TX10) (v := .ref (A 60 5)) C hw iw_10 rfl ob_60 (by decide) (by decide) fl_X10_16 rfl rfl dX10_text_227 ?_
              refine ti_callSv (av := [.ref (A 60 5)]) C hw (s_X10_half_4 l D A cy hJ M_197 iM_197 ) ⟨ml_X10_306, ys_X10_half, yi_X10_half, yc_X10_half⟩ yd_X10_half rfl hl.1 (Nat.le_of_ble_eq_true rfl) ⟨by decide, by decide⟩ ⟨Nat.zero_le _, Nat.zero_le _⟩ dX10_text_230 (fun M_200 H locs hp_200 hw => ?_)
              obtain ⟨iM_200, q_201⟩ := hp_200
              refine lv_aload_n hx hb dX10_text_233 rfl (lv_at hl 1 rfl) ?_
              refine ti_get (ci := 10) (k := 5) (N := 67) (T := TX10) (v := .ref (A 60 6)) C hw iw_10 rfl ob_60 (by decide) (by decide) fl_X10_19 rfl rfl dX10_text_234 ?_
              refine ti_callSv (av := [.ref (A 60 6)]) C hw (s_X10_half_5 l D A cy hJ M_200 iM_200 ) ⟨ml_X10_306, ys_X10_half, yi_X10_half, yc_X10_half⟩ yd_X10_half rfl hl.1 (Nat.le_of_ble_eq_true rfl) ⟨by decide, by decide⟩ ⟨Nat.zero_le _, Nat.zero_le _⟩ dX10_text_237 (fun M_203 H locs hp_203 hw => ?_)
              obtain ⟨iM_203, q_204⟩ := hp_203
              refine lv_aload_n hx hb dX10_text_240 rfl (lv_at hl 1 rfl) ?_
              refine ti_get (ci := 10) (k := 6) (N := 67) (T := TX10) (v := .ref (A 60 7)) C hw iw_10 rfl ob_60 (by decide) (by decide) fl_X10_22 rfl rfl dX10_text_241 ?_
              refine ti_callSv (av := [.ref (A 60 7)]) C hw (s_X10_half_6 l D A cy hJ M_203 iM_203 ) ⟨ml_X10_306, ys_X10_half, yi_X10_half, yc_X10_half⟩ yd_X10_half rfl hl.1 (Nat.le_of_ble_eq_true rfl) ⟨by decide, by decide⟩ ⟨Nat.zero_le _, Nat.zero_le _⟩ dX10_text_244 (fun M_206 H locs hp_206 hw => ?_)
              obtain ⟨iM_206, q_207⟩ := hp_206
              refine lv_aload_n hx hb dX10_text_247 rfl (lv_at hl 1 rfl) ?_
              refine ti_get (ci := 10) (k := 7) (N := 67) (T := TX10) (v := .ref (A 60 8)) C hw iw_10 rfl ob_60 (by decide) (by decide) fl_X10_25 rfl rfl dX10_text_248 ?_
              refine ti_callSv (av := [.ref (A 60 8)]) C hw (s_X10_half_7 l D A cy hJ M_206 iM_206 ) ⟨ml_X10_306, ys_X10_half, yi_X10_half, yc_X10_half⟩ yd_X10_half rfl hl.1 (Nat.le_of_ble_eq_true rfl) ⟨by decide, by decide⟩ ⟨Nat.zero_le _, Nat.zero_le _⟩ dX10_text_251 (fun M_209 H locs hp_209 hw => ?_)
              obtain ⟨iM_209, q_210⟩ := hp_209
              refine lv_aload_n hx hb dX10_text_254 rfl (lv_at hl 1 rfl) ?_
              refine ti_get (ci := 10) (k := 8) (N := 67) (T := TX10) (v := .ref (A 60 9)) C hw iw_10 rfl ob_60 (by decide) (by decide) fl_X10_28 rfl rfl dX10_text_255 ?_
              refine ti_callSv (av := [.ref (A 60 9)]) C hw (s_X10_half_8 l D A cy hJ M_209 iM_209 ) ⟨ml_X10_306, ys_X10_half, yi_X10_half, yc_X10_half⟩ yd_X10_half rfl hl.1 (Nat.le_of_ble_eq_true rfl) ⟨by decide, by decide⟩ ⟨Nat.zero_le _, Nat.zero_le _⟩ dX10_text_258 (fun M_212 H locs hp_212 hw => ?_)
              obtain ⟨iM_212, q_213⟩ := hp_212
              refine lv_aload_n hx hb dX10_text_261 rfl (lv_at hl 1 rfl) ?_
              refine ti_get (ci := 10) (k := 9) (N := 67) (T := TX10) (v := .ref (A 60 10)) C hw iw_10 rfl ob_60 (by decide) (by decide) fl_X10_31 rfl rfl dX10_text_262 ?_
              refine ti_callSv (av := [.ref (A 60 10)]) C hw (s_X10_half_9 l D A cy hJ M_212 iM_212 ) ⟨ml_X10_306, ys_X10_half, yi_X10_half, yc_X10_half⟩ yd_X10_half rfl hl.1 (Nat.le_of_ble_eq_true rfl) ⟨by decide, by decide⟩ ⟨Nat.zero_le _, Nat.zero_le _⟩ dX10_text_265 (fun M_215 H locs hp_215 hw => ?_)
              obtain ⟨iM_215, q_216⟩ := hp_215
              refine lv_aload_n hx hb dX10_text_268 rfl (lv_at hl 1 rfl) ?_
              refine ti_get (ci := 10) (k := 10) (N := 67) (T := TX10) (v := .ref (A 60 11)) C hw iw_10 rfl ob_60 (by decide) (by decide) fl_X10_34 rfl rfl dX10_text_269 ?_
              refine ti_callSv (av := [.ref (A 60 11)]) C hw (s_X10_half_10 l D A cy hJ M_215 iM_215 ) ⟨ml_X10_306, ys_X10_half, yi_X10_half, yc_X10_half⟩ yd_X10_half rfl hl.1 (Nat.le_of_ble_eq_true rfl) ⟨by decide, by decide⟩ ⟨Nat.zero_le _, Nat.zero_le _⟩ dX10_text_272 (fun M_218 H locs hp_218 hw => ?_)
              obtain ⟨iM_218, q_219⟩ := hp_218
              refine lv_aload_n hx hb dX10_text_275 rfl (lv_at hl 1 rfl) ?_
              refine ti_get (ci := 10) (k := 11) (N := 67) (T := TX10) (v := .ref (A 60 12)) C hw iw_10 rfl ob_60 (by decide) (by decide) fl_X10_37 rfl rfl dX10_text_276 ?_
              refine ti_callSv (av := [.ref (A 60 12)]) C hw (s_X10_half_11 l D A cy hJ M_218 iM_218 ) ⟨ml_X10_306, ys_X10_half, yi_X10_half, yc_X10_half⟩ yd_X10_half rfl hl.1 (Nat.le_of_ble_eq_true rfl) ⟨by decide, by decide⟩ ⟨Nat.zero_le _, Nat.zero_le _⟩ dX10_text_279 (fun M_221 H locs hp_221 hw => ?_)
              obtain ⟨iM_221, q_222⟩ := hp_221
              refine lv_aload_n hx hb dX10_text_282 rfl (lv_at hl 1 rfl) ?_
              refine ti_get (ci := 10) (k := 12) (N := 67) (T := TX10) (v := .ref (A 60 13)) C hw iw_10 rfl ob_60 (by decide) (by decide) fl_X10_40 rfl rfl dX10_text_283 ?_
              refine ti_callSv (av := [.ref (A 60 13)]) C hw (s_X10_half_12 l D A cy hJ M_221 iM_221 ) ⟨ml_X10_306, ys_X10_half, yi_X10_half, yc_X10_half⟩ yd_X10_half rfl hl.1 (Nat.le_of_ble_eq_true rfl) ⟨by decide, by decide⟩ ⟨Nat.zero_le _, Nat.zero_le _⟩ dX10_text_286 (fun M_224 H locs hp_224 hw => ?_)
              obtain ⟨iM_224, q_225⟩ := hp_224
              refine lv_aload_n hx hb dX10_text_289 rfl (lv_at hl 1 rfl) ?_
              refine ti_get (ci := 10) (k := 13) (N := 67) (T := TX10) (v := .ref (A 60 14)) C hw iw_10 rfl ob_60 (by decide) (by decide) fl_X10_43 rfl rfl dX10_text_290 ?_
              refine ti_callSv (av := [.ref (A 60 14)]) C hw (s_X10_half_13 l D A cy hJ M_224 iM_224 ) ⟨ml_X10_306, ys_X10_half, yi_X10_half, yc_X10_half⟩ yd_X10_half rfl hl.1 (Nat.le_of_ble_eq_true rfl) ⟨by decide, by decide⟩ ⟨Nat.zero_le _, Nat.zero_le _⟩ dX10_text_293 (fun M_227 H locs hp_227 hw => ?_)
              obtain ⟨iM_227, q_228⟩ := hp_227
              refine lv_aload_n hx hb dX10_text_296 rfl (lv_at hl 1 rfl) ?_
              refine ti_get (ci := 10) (k := 14) (N := 67) (T := TX10) (v := .ref (A 60 15)) C hw iw_10 rfl ob_60 (by decide) (by decide) fl_X10_46 rfl rfl dX10_text_297 ?_
              refine ti_callSv (av := [.ref (A 60 15)]) C hw (s_X10_half_14 l D A cy hJ M_227 iM_227 ) ⟨ml_X10_306, ys_X10_half, yi_X10_half, yc_X10_half⟩ yd_X10_half rfl hl.1 (Nat.le_of_ble_eq_true rfl) ⟨by decide, by decide⟩ ⟨Nat.zero_le _, Nat.zero_le _⟩ dX10_text_300 (fun M_230 H locs hp_230 hw => ?_)
              obtain ⟨iM_230, q_231⟩ := hp_230
              refine lv_aload_n hx hb dX10_text_303 rfl (lv_at hl 1 rfl) ?_
              refine ti_get (ci := 10) (k := 15) (N := 67) (T := TX10) (v := .ref (A 60 16)) C hw iw_10 rfl ob_60 (by decide) (by decide) fl_X10_49 rfl rfl dX10_text_304 ?_
              refine ti_callSv (av := [.ref (A 60 16)]) C hw (s_X10_half_15 l D A cy hJ M_230 iM_230 ) ⟨ml_X10_306, ys_X10_half, yi_X10_half, yc_X10_half⟩ yd_X10_half rfl hl.1 (Nat.le_of_ble_eq_true rfl) ⟨by decide, by decide⟩ ⟨Nat.zero_le _, Nat.zero_le _⟩ dX10_text_307 (fun M_233 H locs hp_233 hw => ?_)
              obtain ⟨iM_233, q_234⟩ := hp_233
              refine lv_aload_n hx hb dX10_text_310 rfl (lv_at hl 1 rfl) ?_
              refine ti_get (ci := 10) (k := 16) (N := 67) (T := TX10) (v := .ref (A 60 17)) C hw iw_10 rfl ob_60 (by decide) (by decide) fl_X10_52 rfl rfl dX10_text_311 ?_
              refine ti_callSv (av := [.ref (A 60 17)]) C hw (s_X10_half_16 l D A cy hJ M_233 iM_233 ) ⟨ml_X10_306, ys_X10_half, yi_X10_half, yc_X10_half⟩ yd_X10_half rfl hl.1 (Nat.le_of_ble_eq_true rfl) ⟨by decide, by decide⟩ ⟨Nat.zero_le _, Nat.zero_le _⟩ dX10_text_314 (fun M_236 H locs hp_236 hw => ?_)
              obtain ⟨iM_236, q_237⟩ := hp_236
              refine lv_aload_n hx hb dX10_text_317 rfl (lv_at hl 1 rfl) ?_
              refine ti_get (ci := 10) (k := 17) (N := 67) (T := TX10) (v := .ref (A 60 18)) C hw iw_10 rfl ob_60 (by decide) (by decide) fl_X10_55 rfl rfl dX10_text_318 ?_
              refine ti_callSv (av := [.ref (A 60 18)]) C hw (s_X10_half_17 l D A cy hJ M_236 iM_236 ) ⟨ml_X10_306, ys_X10_half, yi_X10_half, yc_X10_half⟩ yd_X10_half rfl hl.1 (Nat.le_of_ble_eq_true rfl) ⟨by decide, by decide⟩ ⟨Nat.zero_le _, Nat.zero_le _⟩ dX10_text_321 (fun M_239 H locs hp_239 hw => ?_)
              obtain ⟨iM_239, q_240⟩ := hp_239
              refine lv_aload_n hx hb dX10_text_324 rfl (lv_at hl 1 rfl) ?_
              refine lv_iconst (v := 0) hx hb dX10_text_325 (by decide) ?_
              refine ti_putI (ci := 10) (k := 58) (N := 67) (T := TX10) C hw iw_10 tyX10 tyX10_ok nmX10 rfl ob_60 (by decide) (by decide) fl_X10_310 rfl rfl rfl rfl (fn_10 A _) fs_10_58 dX10_text_326 (fun H locs hw => ?_)
              obtain ⟨M_241, hM_241⟩ : ∃ z : ti_M, z = uI M_239 60 58 0 := ⟨_, rfl⟩
              have hw := hw.to hM_241.symm
              have iM_241 : mI (mG M_241) M_241 := mI_ls iM_239 hM_241 (Or.inl rfl) (by first | trivial | exact ⟨by decide, by decide⟩)
              refine lv_aload_n hx hb dX10_text_329 rfl (lv_at hl 1 rfl) ?_
              refine lv_iconst (v := (-1)) hx hb dX10_text_330 (by decide) ?_
              refine ti_putI (ci := 10) (k := 59) (N := 67) (T := TX10) C hw iw_10 tyX10 tyX10_ok nmX10 rfl ob_60 (by decide) (by decide) fl_X10_132 rfl rfl rfl rfl (fn_10 A _) fs_10_59 dX10_text_331 (fun H locs hw => ?_)
              obtain ⟨M_242, hM_242⟩ : ∃ z : ti_M, z = uI M_241 60 59 (-1) := ⟨_, rfl⟩
              have hw := hw.to hM_242.symm
              have iM_242 : mI (mG M_242) M_242 := mI_ls iM_241 hM_242 (Or.inr rfl) (by first | trivial | exact ⟨by decide, by decide⟩)
              refine lv_aload_n hx hb dX10_text_334 rfl (lv_at hl 1 rfl) ?_
              refine lv_iconst (v := 0) hx hb dX10_text_335 (by decide) ?_
              refine ti_putI (ci := 10) (k := 51) (N := 67) (T := TX10) C hw iw_10 tyX10 tyX10_ok nmX10 rfl ob_60 (by decide) (by decide) fl_X10_313 rfl rfl rfl rfl (fn_10 A _) fs_10_51 dX10_text_336 (fun H locs hw => ?_)
              obtain ⟨M_243, hM_243⟩ : ∃ z : ti_M, z = uI M_242 60 51 0 := ⟨_, rfl⟩
              have hw := hw.to hM_243.symm
              have iM_243 : mI (mG M_242) M_243 := mI_uI iM_242 hM_243 (by decide) (by decide) trivial
              refine lv_aload_n hx hb dX10_text_339 rfl (lv_at hl 1 rfl) ?_
              refine lv_iconst (v := 0) hx hb dX10_text_340 (by decide) ?_
              refine ti_putI (ci := 10) (k := 52) (N := 67) (T := TX10) C hw iw_10 tyX10 tyX10_ok nmX10 rfl ob_60 (by decide) (by decide) fl_X10_317 rfl rfl rfl rfl (fn_10 A _) fs_10_52 dX10_text_341 (fun H locs hw => ?_)
              obtain ⟨M_244, hM_244⟩ : ∃ z : ti_M, z = uI M_243 60 52 0 := ⟨_, rfl⟩
              have hw := hw.to hM_244.symm
              have iM_244 : mI (mG M_242) M_244 := mI_uI iM_243 hM_244 (by decide) (by decide) (ib_mk (lo := 0) (hi := 20) (by decide) (by decide))
              have vM_244 : (tI M_244 60 52).toInt = 0 := by rw [tI_uE hM_244]; decide
              refine lv_aload_n hx hb dX10_text_344 rfl (lv_at hl 1 rfl) ?_
              have h4b := rQ_g0 hs_128 (show ff M_123 = 1 by omega)
              have tR9 : tR (tX (pp_tx B nn.toInt.toNat J) (qq_tx B nn.toInt.toNat J K0)) M_244 := by rw [E9, EQ9]; exact tR_hv tl_130 hs_128 h4b iM_123 (fun i hi => ((cg (tY_uIE hM_244) i).trans ((cg (tY_uIE hM_243) i).trans ((cg (tY_uIE hM_242) i).trans ((cg (tY_uIE hM_241) i).trans ((cg (q_240.1 3 (by decide)) i).trans ((cg (q_237.1 3 (by decide)) i).trans ((cg (q_234.1 3 (by decide)) i).trans ((cg (q_231.1 3 (by decide)) i).trans ((cg (q_228.1 3 (by decide)) i).trans ((cg (q_225.1 3 (by decide)) i).trans ((cg (q_222.1 3 (by decide)) i).trans ((cg (q_219.1 3 (by decide)) i).trans ((cg (q_216.1 3 (by decide)) i).trans ((cg (q_213.1 3 (by decide)) i).trans ((cg (q_210.1 3 (by decide)) i).trans ((cg (q_207.1 3 (by decide)) i).trans ((cg (q_204.1 3 (by decide)) i).trans ((cg (q_201.1 3 (by decide)) i).trans ((q_198.2.1 i hi).trans ((cg (tY_uIE hM_190) _).trans (cg (tY_uIE hM_185) _)))))))))))))))))))))) (fun i hi => ((cg (tY_uIE hM_244) i).trans ((cg (tY_uIE hM_243) i).trans ((cg (tY_uIE hM_242) i).trans ((cg (tY_uIE hM_241) i).trans ((cg (q_240.1 5 (by decide)) i).trans ((cg (q_237.1 5 (by decide)) i).trans ((cg (q_234.1 5 (by decide)) i).trans ((cg (q_231.1 5 (by decide)) i).trans ((cg (q_228.1 5 (by decide)) i).trans ((cg (q_225.1 5 (by decide)) i).trans ((cg (q_222.1 5 (by decide)) i).trans ((cg (q_219.1 5 (by decide)) i).trans ((cg (q_216.1 5 (by decide)) i).trans ((cg (q_213.1 5 (by decide)) i).trans ((cg (q_210.1 5 (by decide)) i).trans ((cg (q_207.1 5 (by decide)) i).trans ((q_204.2.1 i hi).trans ((cg (q_201.1 5 (by decide)) _).trans ((cg (q_198.1 5 (by decide)) _).trans ((cg (tY_uIE hM_190) _).trans (cg (tY_uIE hM_185) _)))))))))))))))))))))) (fun i hi => ((cg (tY_uIE hM_244) i).trans ((cg (tY_uIE hM_243) i).trans ((cg (tY_uIE hM_242) i).trans ((cg (tY_uIE hM_241) i).trans ((cg (q_240.1 6 (by decide)) i).trans ((cg (q_237.1 6 (by decide)) i).trans ((cg (q_234.1 6 (by decide)) i).trans ((cg (q_231.1 6 (by decide)) i).trans ((cg (q_228.1 6 (by decide)) i).trans ((cg (q_225.1 6 (by decide)) i).trans ((cg (q_222.1 6 (by decide)) i).trans ((cg (q_219.1 6 (by decide)) i).trans ((cg (q_216.1 6 (by decide)) i).trans ((cg (q_213.1 6 (by decide)) i).trans ((cg (q_210.1 6 (by decide)) i).trans ((q_207.2.1 i hi).trans ((cg (q_204.1 6 (by decide)) _).trans ((cg (q_201.1 6 (by decide)) _).trans ((cg (q_198.1 6 (by decide)) _).trans ((cg (tY_uIE hM_190) _).trans (cg (tY_uIE hM_185) _)))))))))))))))))))))) (fun i hi => ((cg (tY_uIE hM_244) i).trans ((cg (tY_uIE hM_243) i).trans ((cg (tY_uIE hM_242) i).trans ((cg (tY_uIE hM_241) i).trans ((cg (q_240.1 7 (by decide)) i).trans ((cg (q_237.1 7 (by decide)) i).trans ((cg (q_234.1 7 (by decide)) i).trans ((cg (q_231.1 7 (by decide)) i).trans ((cg (q_228.1 7 (by decide)) i).trans ((cg (q_225.1 7 (by decide)) i).trans ((cg (q_222.1 7 (by decide)) i).trans ((cg (q_219.1 7 (by decide)) i).trans ((cg (q_216.1 7 (by decide)) i).trans ((cg (q_213.1 7 (by decide)) i).trans ((q_210.2.1 i hi).trans ((cg (q_207.1 7 (by decide)) _).trans ((cg (q_204.1 7 (by decide)) _).trans ((cg (q_201.1 7 (by decide)) _).trans ((cg (q_198.1 7 (by decide)) _).trans ((cg (tY_uIE hM_190) _).trans (cg (tY_uIE hM_185) _)))))))))))))))))))))) (fun i hi => ((cg (tY_uIE hM_244) i).trans ((cg (tY_uIE hM_243) i).trans ((cg (tY_uIE hM_242) i).trans ((cg (tY_uIE hM_241) i).trans ((cg (q_240.1 8 (by decide)) i).trans ((cg (q_237.1 8 (by decide)) i).trans ((cg (q_234.1 8 (by decide)) i).trans ((cg (q_231.1 8 (by decide)) i).trans ((cg (q_228.1 8 (by decide)) i).trans ((cg (q_225.1 8 (by decide)) i).trans ((cg (q_222.1 8 (by decide)) i).trans ((cg (q_219.1 8 (by decide)) i).trans ((cg (q_216.1 8 (by decide)) i).trans ((q_213.2.1 i hi).trans ((cg (q_210.1 8 (by decide)) _).trans ((cg (q_207.1 8 (by decide)) _).trans ((cg (q_204.1 8 (by decide)) _).trans ((cg (q_201.1 8 (by decide)) _).trans ((cg (q_198.1 8 (by decide)) _).trans ((cg (tY_uIE hM_190) _).trans (cg (tY_uIE hM_185) _)))))))))))))))))))))) (fun i hi => ((cg (tY_uIE hM_244) i).trans ((cg (tY_uIE hM_243) i).trans ((cg (tY_uIE hM_242) i).trans ((cg (tY_uIE hM_241) i).trans ((cg (q_240.1 9 (by decide)) i).trans ((cg (q_237.1 9 (by decide)) i).trans ((cg (q_234.1 9 (by decide)) i).trans ((cg (q_231.1 9 (by decide)) i).trans ((cg (q_228.1 9 (by decide)) i).trans ((cg (q_225.1 9 (by decide)) i).trans ((cg (q_222.1 9 (by decide)) i).trans ((cg (q_219.1 9 (by decide)) i).trans ((q_216.2.1 i hi).trans ((cg (q_213.1 9 (by decide)) _).trans ((cg (q_210.1 9 (by decide)) _).trans ((cg (q_207.1 9 (by decide)) _).trans ((cg (q_204.1 9 (by decide)) _).trans ((cg (q_201.1 9 (by decide)) _).trans ((cg (q_198.1 9 (by decide)) _).trans ((cg (tY_uIE hM_190) _).trans (cg (tY_uIE hM_185) _)))))))))))))))))))))) (fun i hi => ((cg (tY_uIE hM_244) i).trans ((cg (tY_uIE hM_243) i).trans ((cg (tY_uIE hM_242) i).trans ((cg (tY_uIE hM_241) i).trans ((cg (q_240.1 10 (by decide)) i).trans ((cg (q_237.1 10 (by decide)) i).trans ((cg (q_234.1 10 (by decide)) i).trans ((cg (q_231.1 10 (by decide)) i).trans ((cg (q_228.1 10 (by decide)) i).trans ((cg (q_225.1 10 (by decide)) i).trans ((cg (q_222.1 10 (by decide)) i).trans ((q_219.2.1 i hi).trans ((cg (q_216.1 10 (by decide)) _).trans ((cg (q_213.1 10 (by decide)) _).trans ((cg (q_210.1 10 (by decide)) _).trans ((cg (q_207.1 10 (by decide)) _).trans ((cg (q_204.1 10 (by decide)) _).trans ((cg (q_201.1 10 (by decide)) _).trans ((cg (q_198.1 10 (by decide)) _).trans ((cg (tY_uIE hM_190) _).trans (cg (tY_uIE hM_185) _)))))))))))))))))))))) (fun i hi => ((cg (tY_uIE hM_244) i).trans ((cg (tY_uIE hM_243) i).trans ((cg (tY_uIE hM_242) i).trans ((cg (tY_uIE hM_241) i).trans ((cg (q_240.1 11 (by decide)) i).trans ((cg (q_237.1 11 (by decide)) i).trans ((cg (q_234.1 11 (by decide)) i).trans ((cg (q_231.1 11 (by decide)) i).trans ((cg (q_228.1 11 (by decide)) i).trans ((cg (q_225.1 11 (by decide)) i).trans ((q_222.2.1 i hi).trans ((cg (q_219.1 11 (by decide)) _).trans ((cg (q_216.1 11 (by decide)) _).trans ((cg (q_213.1 11 (by decide)) _).trans ((cg (q_210.1 11 (by decide)) _).trans ((cg (q_207.1 11 (by decide)) _).trans ((cg (q_204.1 11 (by decide)) _).trans ((cg (q_201.1 11 (by decide)) _).trans ((cg (q_198.1 11 (by decide)) _).trans ((cg (tY_uIE hM_190) _).trans (cg (tY_uIE hM_185) _)))))))))))))))))))))) (fun i hi => ((cg (tY_uIE hM_244) i).trans ((cg (tY_uIE hM_243) i).trans ((cg (tY_uIE hM_242) i).trans ((cg (tY_uIE hM_241) i).trans ((cg (q_240.1 12 (by decide)) i).trans ((cg (q_237.1 12 (by decide)) i).trans ((cg (q_234.1 12 (by decide)) i).trans ((cg (q_231.1 12 (by decide)) i).trans ((cg (q_228.1 12 (by decide)) i).trans ((q_225.2.1 i hi).trans ((cg (q_222.1 12 (by decide)) _).trans ((cg (q_219.1 12 (by decide)) _).trans ((cg (q_216.1 12 (by decide)) _).trans ((cg (q_213.1 12 (by decide)) _).trans ((cg (q_210.1 12 (by decide)) _).trans ((cg (q_207.1 12 (by decide)) _).trans ((cg (q_204.1 12 (by decide)) _).trans ((cg (q_201.1 12 (by decide)) _).trans ((cg (q_198.1 12 (by decide)) _).trans ((cg (tY_uIE hM_190) _).trans (cg (tY_uIE hM_185) _)))))))))))))))))))))) (fun i hi => ((cg (tY_uIE hM_244) i).trans ((cg (tY_uIE hM_243) i).trans ((cg (tY_uIE hM_242) i).trans ((cg (tY_uIE hM_241) i).trans ((cg (q_240.1 13 (by decide)) i).trans ((cg (q_237.1 13 (by decide)) i).trans ((cg (q_234.1 13 (by decide)) i).trans ((cg (q_231.1 13 (by decide)) i).trans ((q_228.2.1 i hi).trans ((cg (q_225.1 13 (by decide)) _).trans ((cg (q_222.1 13 (by decide)) _).trans ((cg (q_219.1 13 (by decide)) _).trans ((cg (q_216.1 13 (by decide)) _).trans ((cg (q_213.1 13 (by decide)) _).trans ((cg (q_210.1 13 (by decide)) _).trans ((cg (q_207.1 13 (by decide)) _).trans ((cg (q_204.1 13 (by decide)) _).trans ((cg (q_201.1 13 (by decide)) _).trans ((cg (q_198.1 13 (by decide)) _).trans ((cg (tY_uIE hM_190) _).trans (cg (tY_uIE hM_185) _)))))))))))))))))))))) (fun i hi => ((cg (tY_uIE hM_244) i).trans ((cg (tY_uIE hM_243) i).trans ((cg (tY_uIE hM_242) i).trans ((cg (tY_uIE hM_241) i).trans ((cg (q_240.1 14 (by decide)) i).trans ((cg (q_237.1 14 (by decide)) i).trans ((cg (q_234.1 14 (by decide)) i).trans ((q_231.2.1 i hi).trans ((cg (q_228.1 14 (by decide)) _).trans ((cg (q_225.1 14 (by decide)) _).trans ((cg (q_222.1 14 (by decide)) _).trans ((cg (q_219.1 14 (by decide)) _).trans ((cg (q_216.1 14 (by decide)) _).trans ((cg (q_213.1 14 (by decide)) _).trans ((cg (q_210.1 14 (by decide)) _).trans ((cg (q_207.1 14 (by decide)) _).trans ((cg (q_204.1 14 (by decide)) _).trans ((cg (q_201.1 14 (by decide)) _).trans ((cg (q_198.1 14 (by decide)) _).trans ((cg (tY_uIE hM_190) _).trans (cg (tY_uIE hM_185) _)))))))))))))))))))))) (fun i hi => ((cg (tY_uIE hM_244) i).trans ((cg (tY_uIE hM_243) i).trans ((cg (tY_uIE hM_242) i).trans ((cg (tY_uIE hM_241) i).trans ((cg (q_240.1 15 (by decide)) i).trans ((cg (q_237.1 15 (by decide)) i).trans ((q_234.2.1 i hi).trans ((cg (q_231.1 15 (by decide)) _).trans ((cg (q_228.1 15 (by decide)) _).trans ((cg (q_225.1 15 (by decide)) _).trans ((cg (q_222.1 15 (by decide)) _).trans ((cg (q_219.1 15 (by decide)) _).trans ((cg (q_216.1 15 (by decide)) _).trans ((cg (q_213.1 15 (by decide)) _).trans ((cg (q_210.1 15 (by decide)) _).trans ((cg (q_207.1 15 (by decide)) _).trans ((cg (q_204.1 15 (by decide)) _).trans ((cg (q_201.1 15 (by decide)) _).trans ((cg (q_198.1 15 (by decide)) _).trans ((cg (tY_uIE hM_190) _).trans (cg (tY_uIE hM_185) _)))))))))))))))))))))) (fun i hi => ((cg (tY_uIE hM_244) i).trans ((cg (tY_uIE hM_243) i).trans ((cg (tY_uIE hM_242) i).trans ((cg (tY_uIE hM_241) i).trans ((cg (q_240.1 16 (by decide)) i).trans ((q_237.2.1 i hi).trans ((cg (q_234.1 16 (by decide)) _).trans ((cg (q_231.1 16 (by decide)) _).trans ((cg (q_228.1 16 (by decide)) _).trans ((cg (q_225.1 16 (by decide)) _).trans ((cg (q_222.1 16 (by decide)) _).trans ((cg (q_219.1 16 (by decide)) _).trans ((cg (q_216.1 16 (by decide)) _).trans ((cg (q_213.1 16 (by decide)) _).trans ((cg (q_210.1 16 (by decide)) _).trans ((cg (q_207.1 16 (by decide)) _).trans ((cg (q_204.1 16 (by decide)) _).trans ((cg (q_201.1 16 (by decide)) _).trans ((cg (q_198.1 16 (by decide)) _).trans ((cg (tY_uIE hM_190) _).trans (cg (tY_uIE hM_185) _)))))))))))))))))))))) (fun i hi => ((cg (tY_uIE hM_244) i).trans ((cg (tY_uIE hM_243) i).trans ((cg (tY_uIE hM_242) i).trans ((cg (tY_uIE hM_241) i).trans ((q_240.2.1 i hi).trans ((cg (q_237.1 17 (by decide)) _).trans ((cg (q_234.1 17 (by decide)) _).trans ((cg (q_231.1 17 (by decide)) _).trans ((cg (q_228.1 17 (by decide)) _).trans ((cg (q_225.1 17 (by decide)) _).trans ((cg (q_222.1 17 (by decide)) _).trans ((cg (q_219.1 17 (by decide)) _).trans ((cg (q_216.1 17 (by decide)) _).trans ((cg (q_213.1 17 (by decide)) _).trans ((cg (q_210.1 17 (by decide)) _).trans ((cg (q_207.1 17 (by decide)) _).trans ((cg (q_204.1 17 (by decide)) _).trans ((cg (q_201.1 17 (by decide)) _).trans ((cg (q_198.1 17 (by decide)) _).trans ((cg (tY_uIE hM_190) _).trans (cg (tY_uIE hM_185) _))))))))))))))))))))))
              have tW9 : tW (tX (pp_tx B nn.toInt.toNat J) (qq_tx B nn.toInt.toNat J K0)) := by rw [E9, EQ9]; exact tW_hv tl_130 hs_128 h4b iM_123
              have tX4 : 0 ≤ (tX (pp_tx B nn.toInt.toNat J) (qq_tx B nn.toInt.toNat J K0)) 4 ∧ (tX (pp_tx B nn.toInt.toNat J) (qq_tx B nn.toInt.toNat J K0)) 4 ≤ 8 := tR_4 tR9 (iM_244)
              refine ti_callVv (ci := 10) (av := []) C hw (z_X10_begins l D A cy hJ M_244 iM_244 (tX (pp_tx B nn.toInt.toNat J) (qq_tx B nn.toInt.toNat J K0)) J2 tR9 tX4) ⟨ml_X10_151, ym_X10_begins, yv_X10_begins, yi_X10_begins, yc_X10_begins⟩ yd_X10_begins ob_60 (by decide) rfl rfl hl.1 (Nat.le_of_ble_eq_true rfl) ⟨by decide, by decide⟩ ⟨Nat.zero_le _, Nat.zero_le _⟩ dX10_text_345 (fun M_246 H locs hp_246 hw => ?_)
              obtain ⟨q_247, q_248, q_249, iM_246, q_250, q_251, q_252⟩ := hp_246
              have y19 : tI M_246 60 19 = tI M_123 60 19 := (((q_247.1 19 (by decide))).trans ((tI_nE hM_244 (nk (by decide))).trans ((tI_nE hM_243 (nk (by decide))).trans ((tI_nE hM_242 (nk (by decide))).trans ((tI_nE hM_241 (nk (by decide))).trans ((q_240.2.2 19).trans ((q_237.2.2 19).trans ((q_234.2.2 19).trans ((q_231.2.2 19).trans ((q_228.2.2 19).trans ((q_225.2.2 19).trans ((q_222.2.2 19).trans ((q_219.2.2 19).trans ((q_216.2.2 19).trans ((q_213.2.2 19).trans ((q_210.2.2 19).trans ((q_207.2.2 19).trans ((q_204.2.2 19).trans ((q_201.2.2 19).trans ((q_198.2.2 19).trans ((tI_nE hM_190 (nk (by decide))).trans (tI_nE hM_185 (nk (by decide))))))))))))))))))))))))
              refine lv_aload_n hx hb dX10_text_348 rfl (lv_at hl 1 rfl) ?_
              refine ti_get (ci := 10) (k := 19) (N := 67) (T := TX10) C hw iw_10 rfl ob_60 (by decide) (by decide) fl_X10_254 rfl rfl dX10_text_349 ?_
              refine lv_topi (fun x_253 ex_253 => ?_)
              have um9 : mU M_190 := ((um_l0 j_144 (l0.trans (l0_I hM_190 (by decide)) (l0_I hM_185 (by decide))) (by omega))).resolve_left (by omega)
              have mL9 : mL M_244 := mL_hv iM_190 um9 (fun i hi => ((cg (tY_uIE hM_244) i).trans ((cg (tY_uIE hM_243) i).trans ((cg (tY_uIE hM_242) i).trans ((cg (tY_uIE hM_241) i).trans ((cg (q_240.1 14 (by decide)) i).trans ((cg (q_237.1 14 (by decide)) i).trans ((cg (q_234.1 14 (by decide)) i).trans ((q_231.2.1 i hi).trans ((cg (q_228.1 14 (by decide)) _).trans ((cg (q_225.1 14 (by decide)) _).trans ((cg (q_222.1 14 (by decide)) _).trans ((cg (q_219.1 14 (by decide)) _).trans ((cg (q_216.1 14 (by decide)) _).trans ((cg (q_213.1 14 (by decide)) _).trans ((cg (q_210.1 14 (by decide)) _).trans ((cg (q_207.1 14 (by decide)) _).trans ((cg (q_204.1 14 (by decide)) _).trans ((cg (q_201.1 14 (by decide)) _).trans (cg (q_198.1 14 (by decide)) _)))))))))))))))))))) (fun i hi => ((cg (tY_uIE hM_244) i).trans ((cg (tY_uIE hM_243) i).trans ((cg (tY_uIE hM_242) i).trans ((cg (tY_uIE hM_241) i).trans ((cg (q_240.1 15 (by decide)) i).trans ((cg (q_237.1 15 (by decide)) i).trans ((q_234.2.1 i hi).trans ((cg (q_231.1 15 (by decide)) _).trans ((cg (q_228.1 15 (by decide)) _).trans ((cg (q_225.1 15 (by decide)) _).trans ((cg (q_222.1 15 (by decide)) _).trans ((cg (q_219.1 15 (by decide)) _).trans ((cg (q_216.1 15 (by decide)) _).trans ((cg (q_213.1 15 (by decide)) _).trans ((cg (q_210.1 15 (by decide)) _).trans ((cg (q_207.1 15 (by decide)) _).trans ((cg (q_204.1 15 (by decide)) _).trans ((cg (q_201.1 15 (by decide)) _).trans (cg (q_198.1 15 (by decide)) _)))))))))))))))))))) (fun i hi => ((cg (tY_uIE hM_244) i).trans ((cg (tY_uIE hM_243) i).trans ((cg (tY_uIE hM_242) i).trans ((cg (tY_uIE hM_241) i).trans ((cg (q_240.1 16 (by decide)) i).trans ((q_237.2.1 i hi).trans ((cg (q_234.1 16 (by decide)) _).trans ((cg (q_231.1 16 (by decide)) _).trans ((cg (q_228.1 16 (by decide)) _).trans ((cg (q_225.1 16 (by decide)) _).trans ((cg (q_222.1 16 (by decide)) _).trans ((cg (q_219.1 16 (by decide)) _).trans ((cg (q_216.1 16 (by decide)) _).trans ((cg (q_213.1 16 (by decide)) _).trans ((cg (q_210.1 16 (by decide)) _).trans ((cg (q_207.1 16 (by decide)) _).trans ((cg (q_204.1 16 (by decide)) _).trans ((cg (q_201.1 16 (by decide)) _).trans (cg (q_198.1 16 (by decide)) _)))))))))))))))))))) (fun i hi => ((cg (tY_uIE hM_244) i).trans ((cg (tY_uIE hM_243) i).trans ((cg (tY_uIE hM_242) i).trans ((cg (tY_uIE hM_241) i).trans ((q_240.2.1 i hi).trans ((cg (q_237.1 17 (by decide)) _).trans ((cg (q_234.1 17 (by decide)) _).trans ((cg (q_231.1 17 (by decide)) _).trans ((cg (q_228.1 17 (by decide)) _).trans ((cg (q_225.1 17 (by decide)) _).trans ((cg (q_222.1 17 (by decide)) _).trans ((cg (q_219.1 17 (by decide)) _).trans ((cg (q_216.1 17 (by decide)) _).trans ((cg (q_213.1 17 (by decide)) _).trans ((cg (q_210.1 17 (by decide)) _).trans ((cg (q_207.1 17 (by decide)) _).trans ((cg (q_204.1 17 (by decide)) _).trans ((cg (q_201.1 17 (by decide)) _).trans (cg (q_198.1 17 (by decide)) _))))))))))))))))))))
              exact hQ _ _ _ _ _ _ hw rfl (Or.inr ⟨by omega, ((q_247.1 2 (by decide)).trans ((tI_nE hM_244 (nk (by decide))).trans ((tI_nE hM_243 (nk (by decide))).trans ((tI_nE hM_242 (nk (by decide))).trans ((tI_nE hM_241 (nk (by decide))).trans ((q_240.2.2 2).trans ((q_237.2.2 2).trans ((q_234.2.2 2).trans ((q_231.2.2 2).trans ((q_228.2.2 2).trans ((q_225.2.2 2).trans ((q_222.2.2 2).trans ((q_219.2.2 2).trans ((q_216.2.2 2).trans ((q_213.2.2 2).trans ((q_210.2.2 2).trans ((q_207.2.2 2).trans ((q_204.2.2 2).trans ((q_201.2.2 2).trans ((q_198.2.2 2).trans ((tI_nE hM_190 (nk (by decide))).trans ((tI_nE hM_185 (nk (by decide))).trans f_126)))))))))))))))))))))), mF_self (mF_st iM_246 mL9 q_250 q_251 q_252 ((tI_nE hM_244 (nk (by decide))).trans (tI_uE hM_243)) (tI_uE hM_244)), (by rw [E9]; unfold pp_an; rw [if_pos h4]; exact (congrArg Int32.toInt (ex_253.symm)).symm.trans ((congrArg Int32.toInt y19).trans ((hs_128.2.2.2 h4).2.2.1.2.2).symm)), ((congrArg Int32.toInt ((q_247.1 27 (by decide)).trans ((tI_nE hM_244 (nk (by decide))).trans ((tI_nE hM_243 (nk (by decide))).trans ((tI_nE hM_242 (nk (by decide))).trans ((tI_nE hM_241 (nk (by decide))).trans ((q_240.2.2 27).trans ((q_237.2.2 27).trans ((q_234.2.2 27).trans ((q_231.2.2 27).trans ((q_228.2.2 27).trans ((q_225.2.2 27).trans ((q_222.2.2 27).trans ((q_219.2.2 27).trans ((q_216.2.2 27).trans ((q_213.2.2 27).trans ((q_210.2.2 27).trans ((q_207.2.2 27).trans ((q_204.2.2 27).trans ((q_201.2.2 27).trans ((q_198.2.2 27).trans ((tI_nE hM_190 (nk (by decide))).trans (tI_uE hM_185))))))))))))))))))))))).trans ((congrArg Int32.toInt (ex_146.symm)).symm.trans (by rw [E9]; exact hs_128.2.1.symm))), ((congrArg Int32.toInt ((q_247.1 28 (by decide)).trans ((tI_nE hM_244 (nk (by decide))).trans ((tI_nE hM_243 (nk (by decide))).trans ((tI_nE hM_242 (nk (by decide))).trans ((tI_nE hM_241 (nk (by decide))).trans ((q_240.2.2 28).trans ((q_237.2.2 28).trans ((q_234.2.2 28).trans ((q_231.2.2 28).trans ((q_228.2.2 28).trans ((q_225.2.2 28).trans ((q_222.2.2 28).trans ((q_219.2.2 28).trans ((q_216.2.2 28).trans ((q_213.2.2 28).trans ((q_210.2.2 28).trans ((q_207.2.2 28).trans ((q_204.2.2 28).trans ((q_201.2.2 28).trans ((q_198.2.2 28).trans (tI_uE hM_190)))))))))))))))))))))).trans ((congrArg Int32.toInt (ex_189.symm)).symm.trans (by rw [tI_nE hM_185 (nk (by decide)), E9]; exact hs_128.2.2.1.1.symm))), (fun q => absurd ((congrFun E9 4).trans h4) q), (fun _ => ⟨by rw [E9]; exact ⟨(hs_128.2.2.2 h4).2.2.1.1.trans (congrArg Int32.toInt ((cg (q_250.1 3 (by decide) (by decide)) 0).trans ((cg (tY_uIE hM_244) 0).trans ((cg (tY_uIE hM_243) 0).trans ((cg (tY_uIE hM_242) 0).trans ((cg (tY_uIE hM_241) 0).trans ((cg (q_240.1 3 (by decide)) 0).trans ((cg (q_237.1 3 (by decide)) 0).trans ((cg (q_234.1 3 (by decide)) 0).trans ((cg (q_231.1 3 (by decide)) 0).trans ((cg (q_228.1 3 (by decide)) 0).trans ((cg (q_225.1 3 (by decide)) 0).trans ((cg (q_222.1 3 (by decide)) 0).trans ((cg (q_219.1 3 (by decide)) 0).trans ((cg (q_216.1 3 (by decide)) 0).trans ((cg (q_213.1 3 (by decide)) 0).trans ((cg (q_210.1 3 (by decide)) 0).trans ((cg (q_207.1 3 (by decide)) 0).trans ((cg (q_204.1 3 (by decide)) 0).trans ((cg (q_201.1 3 (by decide)) 0).trans ((q_198.2.1 0 (by decide)).trans ((cg (tY_uIE hM_190) _).trans (cg (tY_uIE hM_185) _))))))))))))))))))))))).symm, fun i hi hl => ((hs_128.2.2.2 h4).2.2.2.1 i hi hl).1.trans (congrArg Int32.toInt ((cg (q_250.1 4 (by decide) (by decide)) i).trans ((cg (tY_uIE hM_244) i).trans ((cg (tY_uIE hM_243) i).trans ((cg (tY_uIE hM_242) i).trans ((cg (tY_uIE hM_241) i).trans ((cg (q_240.1 4 (by decide)) i).trans ((cg (q_237.1 4 (by decide)) i).trans ((cg (q_234.1 4 (by decide)) i).trans ((cg (q_231.1 4 (by decide)) i).trans ((cg (q_228.1 4 (by decide)) i).trans ((cg (q_225.1 4 (by decide)) i).trans ((cg (q_222.1 4 (by decide)) i).trans ((cg (q_219.1 4 (by decide)) i).trans ((cg (q_216.1 4 (by decide)) i).trans ((cg (q_213.1 4 (by decide)) i).trans ((cg (q_210.1 4 (by decide)) i).trans ((cg (q_207.1 4 (by decide)) i).trans ((cg (q_204.1 4 (by decide)) i).trans ((q_201.2.1 i hi).trans ((cg (q_198.1 4 (by decide)) _).trans ((cg (tY_uIE hM_190) _).trans (cg (tY_uIE hM_185) _))))))))))))))))))))))).symm⟩, tW9, tR_lw tR9 (eR_lw q_247), q_248, q_249, ((q_247.1 51 (by decide)).trans ((tI_nE hM_244 (nk (by decide))).trans (tI_uE hM_243))), ((q_247.1 52 (by decide)).trans (tI_uE hM_244)), ((q_247.1 53 (by decide)).trans ((tI_nE hM_244 (nk (by decide))).trans ((tI_nE hM_243 (nk (by decide))).trans ((tI_nE hM_242 (nk (by decide))).trans ((tI_nE hM_241 (nk (by decide))).trans ((q_240.2.2 53).trans ((q_237.2.2 53).trans ((q_234.2.2 53).trans ((q_231.2.2 53).trans ((q_228.2.2 53).trans ((q_225.2.2 53).trans ((q_222.2.2 53).trans ((q_219.2.2 53).trans ((q_216.2.2 53).trans ((q_213.2.2 53).trans ((q_210.2.2 53).trans ((q_207.2.2 53).trans ((q_204.2.2 53).trans ((q_201.2.2 53).trans ((q_198.2.2 53).trans ((tI_nE hM_190 (nk (by decide))).trans ((tI_nE hM_185 (nk (by decide))).trans (f_124.2.2.2.2 53 (by decide)))))))))))))))))))))))), ((q_247.1 58 (by decide)).trans ((tI_nE hM_244 (nk (by decide))).trans ((tI_nE hM_243 (nk (by decide))).trans ((tI_nE hM_242 (nk (by decide))).trans (tI_uE hM_241))))), ((q_247.1 59 (by decide)).trans ((tI_nE hM_244 (nk (by decide))).trans ((tI_nE hM_243 (nk (by decide))).trans (tI_uE hM_242))))⟩)⟩) dX10_text_352
            · have hs : pg M_123 = 2 * (tI M_123 60 21).toInt := pg_3 (by rw [(ex_150.symm)]; exact c_184_150)
              have rr0 := rQ_g0 hs_128 (show ff M_123 = 1 by omega)
              have n27 : g_127 0 ≠ 27 := fun q => by have e := (pt_Tnm (rQ_T hs_128 (by omega))).2.2.2.2.2 q; rw [(ex_150.symm)] at e; exact c_184_150 e
              have a3 := (hs_128.2.2.2 rr0).2.1
              refine lv_aload_n hx hb dX10_text_187 rfl (lv_at hl 1 rfl) ?_
              refine ti_callVvE (ci := 10) (av := []) C hE hw (x_X10_line l D A cy hJ M_123 iM_123 (by omega) j_144 (by omega) (by omega) hs B nn.toInt.toNat g_127 hs_128 (by omega) d_129 tl_130) ⟨ml_X10_300, ym_X10_line, yv_X10_line, yi_X10_line, yc_X10_line⟩ yd_X10_line ob_60 (by decide) rfl rfl hl.1 (Nat.le_of_ble_eq_true rfl) ⟨by decide, by decide⟩ ⟨Nat.zero_le _, Nat.zero_le _⟩ dX10_text_188 (fun M_153 H locs hp_153 hw => ?_)
              obtain ⟨gu_156, tl_154, hp_155⟩ := hp_153
              obtain ⟨hs_157, hp_158⟩ := hp_155
              obtain ⟨iM_153, q_159, z_160, z_161, z_162, z_163, z_164, z_165, z_166, z_167, z_168, z_169, z_170, u_171⟩ := hp_158
              obtain ⟨g_172, eg_172⟩ : ∃ z : Nat → Int, z = pp_ln B nn.toInt.toNat g_127 := ⟨_, rfl⟩
              rw [← eg_172] at hs_157
              have n9 : g_172 9 = g_127 9 + 1 := by rw [eg_172]; exact ln_9
              obtain ⟨d_173, ed_173⟩ : ∃ z : Nat → Int, z = qq_lb B nn.toInt.toNat g_127 d_129 := ⟨_, rfl⟩
              rw [← ed_173] at tl_154
              refine lv_goto (tgt := 172) hx hb dX10_text_191 (by decide) ?_
              exact ih_145 M_153 g_172 d_173 _ _ _ (by omega) iM_153 (lx.trans (lx_ln q_159) f_124) (gU.trans gu_156 f_125) ((q_159.2.2.2.2 2 (by decide)).trans f_126) hs_157 tl_154 (j_131.trans (rd_step ⟨n27, rr0⟩ eg_172 (by omega))) (j_132.trans (qrd_step ⟨n27, rr0⟩ eg_172 ed_173 (by omega))) (by first | omega | decide) (by first | omega | decide) (by first | omega | decide) (by first | omega | decide) (by first | omega | decide) (by first | omega | decide) (by first | omega | decide) (by first | omega | decide) (by first | omega | decide) (by first | omega | decide) (by first | omega | decide) u_171 hw (lv_sub hl [0, 1, 2] rfl)
      exact hl_172_144 ((1401 - pg M_111 + ff M_111 : Int).toNat + 1) M_111 g_121 (qq_cl K0) _ _ _ (Nat.lt_succ_self _) iM_111 (lx.trans (lx_ln (ln_l0 (l0_pr q_114 (by decide) (by decide)))) (lx.trans (lx_I hM_109 (by decide)) (lx.trans (lx_I hM_108 (by decide)) (lx.trans (lx_I hM_107 (by decide)) (lx.trans (lx_I hM_106 (by decide)) (lx.trans (lx_ln (ln_15 hM_104 (by decide))) (lx.trans (lx_ln (ln_14 hM_103 (by decide))) (lx.trans (lx_ln (ln_15 hM_101 (by decide))) (lx.trans (lx_ln (ln_14 hM_100 (by decide))) (lx.trans (lx_ln (ln_15 hM_98 (by decide))) (lx.trans (lx_ln (ln_14 hM_97 (by decide))) (lx.trans (lx_3 hM_94 (by decide)) (lx.trans (lx_3 hM_88 (by decide)) (lx.trans (lx_3 hM_79 (by decide)) (lx.trans (lx_3 hM_70 (by decide)) (lx.trans (lx_3 hM_61 (by decide)) (lx.trans (lx_3 hM_52 (by decide)) (lx.trans (lx_3 hM_43 (by decide)) (lx.trans (lx_3 hM_35 (by decide)) (lx.trans (lx_3 hM_28 (by decide)) (lx.trans (lx_3 hM_23 (by decide)) (lx.trans (lx_3 hM_19 (by decide)) (lx.trans (lx_I hM_10 (by decide)) (lx.trans (lx_I hM_9 (by decide)) (lx.trans (lx_I hM_8 (by decide)) (lx.trans (lx_I hM_7 (by decide)) (lx.trans (lx_I hM_6 (by decide)) (lx_I hM_1 (by decide))))))))))))))))))))))))))))) (gU.trans (gU_e q_114.1) (gU.trans (gU_e (ry_I hM_109)) (gU.trans (gU_e (ry_I hM_108)) (gU.trans (gU_e (ry_I hM_107)) (gU.trans (gU_e (ry_I hM_106)) (gU.trans (gU_Yx hM_104 (by decide)) (gU.trans (gU_Yx hM_103 (by decide)) (gU.trans (gU_Yx hM_101 (by decide)) (gU.trans (gU_Yx hM_100 (by decide)) (gU.trans (gU_Yx hM_98 (by decide)) (gU.trans (gU_Yx hM_97 (by decide)) (gU.trans (gU_Yx hM_94 (by decide)) (gU.trans (gU_Yx hM_88 (by decide)) (gU.trans (gU_Yx hM_79 (by decide)) (gU.trans (gU_Yx hM_70 (by decide)) (gU.trans (gU_Yx hM_61 (by decide)) (gU.trans (gU_Yx hM_52 (by decide)) (gU.trans (gU_Yx hM_43 (by decide)) (gU.trans (gU_Yx hM_35 (by decide)) (gU.trans (gU_Yx hM_28 (by decide)) (gU.trans (gU_Yx hM_23 (by decide)) (gU.trans (gU_Yx hM_19 (by decide)) (gU.trans (gU_e (ry_I hM_10)) (gU.trans (gU_e (ry_I hM_9)) (gU.trans (gU_e (ry_I hM_8)) (gU.trans (gU_e (ry_I hM_7)) (gU.trans (gU_e (ry_I hM_6)) (gU_e (ry_I hM_1))))))))))))))))))))))))))))) ((q_114.2 2 (by decide)).trans ((tI_nE hM_109 (nk (by decide))).trans ((tI_nE hM_108 (nk (by decide))).trans ((tI_nE hM_107 (nk (by decide))).trans ((tI_nE hM_106 (nk (by decide))).trans ((tI_uYE hM_104).trans ((tI_uYE hM_103).trans ((tI_uYE hM_101).trans ((tI_uYE hM_100).trans ((tI_uYE hM_98).trans ((tI_uYE hM_97).trans ((tI_uYE hM_94).trans ((tI_uYE hM_88).trans ((tI_uYE hM_79).trans ((tI_uYE hM_70).trans ((tI_uYE hM_61).trans ((tI_uYE hM_52).trans ((tI_uYE hM_43).trans ((tI_uYE hM_35).trans ((tI_uYE hM_28).trans ((tI_uYE hM_23).trans ((tI_uYE hM_19).trans ((tI_nE hM_10 (nk (by decide))).trans ((tI_nE hM_9 (nk (by decide))).trans ((tI_nE hM_8 (nk (by decide))).trans (tI_uE hM_7)))))))))))))))))))))))))) hs0 tl_122 (by unfold pp_tx; rw [← eg_121, n0]; rfl) (by unfold qq_tx; rw [← eg_121, n0]; rfl) (by first | omega | decide) (by first | omega | decide) (by first | omega | decide) (by first | omega | decide) (by first | omega | decide) (by first | omega | decide) (by first | omega | decide) (by first | omega | decide) (by first | omega | decide) (by first | omega | decide) (by first | omega | decide) (um_l0 fu (l0_pr q_114 (by decide) (by decide)) (by omega)) hw (lv_sub hl [0, 1, 2] rfl)
    · exact hj_17_5  _ _ _ (by first | omega | decide) hw (lv_sub hl [0, 1] rfl)

theorem lx_3 {i : Nat} {N M : ti_M} {v : Int32} (e : N = uY M 60 3 (upd (tY M 60 3) i v)) (h : 11 ≤ i) : lx N M := ⟨fun k2 h2 => tY_nE e (nk (by omega)), fun j hj => by rw [tY_uE e, pk_un (by omega)], fun j hj => ⟨by rw [tY_nE e (nk (by decide))], by rw [tY_nE e (nk (by decide))]⟩, fun j hj => ⟨by rw [tY_nE e (nk (by decide))], by rw [tY_nE e (nk (by decide))]⟩, fun k2 _ => tI_uYE e⟩
set_option maxHeartbeats 4000000 in
set_option maxRecDepth 100000 in
theorem s_X10_text (l : Launch) (D : va_G) (A : Nat → Nat → Nat) (cy : Nat → ClassId) (hJ : ti_inj ti_LM A) (M : ti_M) (hI : mI M) (hF : mF M) (nn : Int32) : ti_KiE l yX10_text cX10_text 3 (some .int) 652 ti_LM D A cy M [.ref (A 60 0), .int nn] (fun r M2 => mF M2 ∧ (((nn.toInt < 0 ∨ (tI M 60 2).toInt < nn.toInt) ∧ tI M2 60 2 = tI M 60 2) ∨ (¬ (nn.toInt < 0 ∨ (tI M 60 2).toInt < nn.toInt) ∧ tI M2 60 2 = 0))) := by
  refine ti_eIE yp_X10_text hJ ti_LM_nd (Nat.le_of_ble_eq_true rfl) ?_
  intro p e s m args below meth c Q H0 C hE hQ hw ls hl
  have hx := C.1
  have hb := C.2.1
  have hl : lv_has ls 3 [(0, .ref (A 60 0)), (1, .int nn)] := hl
  refine lv_aload_n hx hb dX10_text_0 rfl (lv_at hl 0 rfl) ?_
  refine lv_iconst (v := 0) hx hb dX10_text_1 (by decide) ?_
  refine ti_putI (ci := 10) (k := 0) (N := 67) (T := TX10) C hw iw_10 tyX10 tyX10_ok nmX10 rfl ob_60 (by decide) (by decide) fl_X10_154 rfl rfl rfl rfl (fn_10 A _) fs_10_0 dX10_text_2 (fun H locs hw => ?_)
  obtain ⟨M_1, hM_1⟩ : ∃ z : ti_M, z = uI M 60 0 0 := ⟨_, rfl⟩
  have hw := hw.to hM_1.symm
  have iM_1 : mI M_1 := mI_uI hI hM_1 (by decide) (by decide) trivial
  refine lv_iload_n hx hb dX10_text_5 rfl (lv_at hl 1 rfl) ?_
  have hj_17_5 : ∀  (H : Heap) (locs : List Loc) (ls : Array Slot), ((nn.toInt < 0 ∨ (tI M 60 2).toInt < nn.toInt)) → ti_H ti_LM D A cy H0 M_1 H locs → lv_has ls 3 [(0, .ref (A 60 0)), (1, .int nn)] → W p l e (ti_rm 652) s m args below meth c H locs 0 0 Q (F0 m 17 ls []) := by
    intro  H locs ls j_5 hw hl
    refine lv_bipush (v := (-2)) hx hb dX10_text_17 (by decide) ?_
    exact hQ _ _ _ _ _ _ hw rfl (⟨mF_qw hF iM_1 (qw_I hM_1 (by decide)), Or.inl ⟨by omega, (tI_nE hM_1 (nk (by decide)))⟩⟩) dX10_text_19
  refine sb_if_lt (tgt := 17) hx hb rfl dX10_text_6 (by decide) (fun c_6_1 => ?_) (fun c_6_1 => ?_)
  · exact hj_17_5  _ _ _ (by first | omega | decide) hw (lv_sub hl [0, 1] rfl)
  · refine lv_iload_n hx hb dX10_text_9 rfl (lv_at hl 1 rfl) ?_
    refine lv_aload_n hx hb dX10_text_10 rfl (lv_at hl 0 rfl) ?_
    refine ti_get (ci := 10) (k := 2) (N := 67) (T := TX10) C hw iw_10 rfl ob_60 (by decide) (by decide) fl_X10_157 rfl rfl dX10_text_11 ?_
    refine lv_topi (fun x_3 ex_3 => ?_)
    have bx_3 : 0 ≤ x_3.toInt ∧ x_3.toInt ≤ 700 := mI_rd iM_1 ex_3
    have ux_3 : (tI M_1 60 2).toInt = x_3.toInt := by rw [ex_3]
    have w2 : (tI M_1 60 2).toInt = (tI M 60 2).toInt := by rw [(tI_nE hM_1 (nk (by decide)))]
    refine sb_icmp_le (tgt := 20) hx hb rfl rfl dX10_text_14 (by decide) (fun c_14_3 => ?_) (fun c_14_3 => ?_)
    · refine lv_aload_n hx hb dX10_text_20 rfl (lv_at hl 0 rfl) ?_
      refine lv_iload_n hx hb dX10_text_21 rfl (lv_at hl 1 rfl) ?_
      refine ti_putI (ci := 10) (k := 20) (N := 67) (T := TX10) C hw iw_10 tyX10 tyX10_ok nmX10 rfl ob_60 (by decide) (by decide) fl_X10_163 rfl rfl rfl rfl (fn_10 A _) fs_10_20 dX10_text_22 (fun H locs hw => ?_)
      obtain ⟨M_6, hM_6⟩ : ∃ z : ti_M, z = uI M_1 60 20 nn := ⟨_, rfl⟩
      have hw := hw.to hM_6.symm
      have iM_6 : mI M_6 := mI_uI iM_1 hM_6 (by decide) (by decide) (ib_mk (lo := 0) (hi := 700) (by omega) (by omega))
      have vM_6 : (tI M_6 60 20).toInt = (nn : Int32).toInt := by rw [tI_uE hM_6]
      refine lv_aload_n hx hb dX10_text_25 rfl (lv_at hl 0 rfl) ?_
      refine lv_iconst (v := 0) hx hb dX10_text_26 (by decide) ?_
      refine ti_putI (ci := 10) (k := 2) (N := 67) (T := TX10) C hw iw_10 tyX10 tyX10_ok nmX10 rfl ob_60 (by decide) (by decide) fl_X10_157 rfl rfl rfl rfl (fn_10 A _) fs_10_2 dX10_text_27 (fun H locs hw => ?_)
      obtain ⟨M_7, hM_7⟩ : ∃ z : ti_M, z = uI M_6 60 2 0 := ⟨_, rfl⟩
      have hw := hw.to hM_7.symm
      have iM_7 : mI M_7 := mI_uI iM_6 hM_7 (by decide) (by decide) (ib_mk (lo := 0) (hi := 700) (by decide) (by decide))
      have vM_7 : (tI M_7 60 2).toInt = 0 := by rw [tI_uE hM_7]; decide
      refine lv_aload_n hx hb dX10_text_30 rfl (lv_at hl 0 rfl) ?_
      refine lv_iconst (v := 0) hx hb dX10_text_31 (by decide) ?_
      refine ti_putI (ci := 10) (k := 21) (N := 67) (T := TX10) C hw iw_10 tyX10 tyX10_ok nmX10 rfl ob_60 (by decide) (by decide) fl_X10_160 rfl rfl rfl rfl (fn_10 A _) fs_10_21 dX10_text_32 (fun H locs hw => ?_)
      obtain ⟨M_8, hM_8⟩ : ∃ z : ti_M, z = uI M_7 60 21 0 := ⟨_, rfl⟩
      have hw := hw.to hM_8.symm
      have iM_8 : mI M_8 := mI_uI iM_7 hM_8 (by decide) (by decide) (ib_mk (lo := 0) (hi := 700) (by decide) (by decide))
      have vM_8 : (tI M_8 60 21).toInt = 0 := by rw [tI_uE hM_8]; decide
      refine lv_aload_n hx hb dX10_text_35 rfl (lv_at hl 0 rfl) ?_
      refine lv_iconst (v := 0) hx hb dX10_text_36 (by decide) ?_
      refine ti_putI (ci := 10) (k := 25) (N := 67) (T := TX10) C hw iw_10 tyX10 tyX10_ok nmX10 rfl ob_60 (by decide) (by decide) fl_X10_208 rfl rfl rfl rfl (fn_10 A _) fs_10_25 dX10_text_37 (fun H locs hw => ?_)
      obtain ⟨M_9, hM_9⟩ : ∃ z : ti_M, z = uI M_8 60 25 0 := ⟨_, rfl⟩
      have hw := hw.to hM_9.symm
      have iM_9 : mI M_9 := mI_uI iM_8 hM_9 (by decide) (by decide) trivial
      refine lv_aload_n hx hb dX10_text_40 rfl (lv_at hl 0 rfl) ?_
      refine lv_iconst (v := (-1)) hx hb dX10_text_41 (by decide) ?_
      refine ti_putI (ci := 10) (k := 26) (N := 67) (T := TX10) C hw iw_10 tyX10 tyX10_ok nmX10 rfl ob_60 (by decide) (by decide) fl_X10_211 rfl rfl rfl rfl (fn_10 A _) fs_10_26 dX10_text_42 (fun H locs hw => ?_)
      obtain ⟨M_10, hM_10⟩ : ∃ z : ti_M, z = uI M_9 60 26 (-1) := ⟨_, rfl⟩
      have hw := hw.to hM_10.symm
      have iM_10 : mI M_10 := mI_uI iM_9 hM_10 (by decide) (by decide) trivial
      refine lv_iconst (v := 0) hx hb dX10_text_45 (by decide) ?_
      refine lv_istore_n (lv' := [(2, .int 0), (0, .ref (A 60 0)), (1, .int nn)]) hx hb dX10_text_46 rfl hl (by decide) rfl (fun ls hl => ?_)
      refine lv_iload_n hx hb dX10_text_47 rfl (lv_at hl 0 rfl) ?_
      refine lv_bipush (v := 11) hx hb dX10_text_48 (by decide) ?_
      refine sb_icmp_ge (tgt := 120) hx hb (by decide : (0 : Int32).toInt = 0) (by decide : (11 : Int32).toInt = 11) dX10_text_50 (by decide) (fun h => absurd h (by decide)) (fun c_50_10 => ?_)
      refine lv_aload_n hx hb dX10_text_53 rfl (lv_at hl 1 rfl) ?_
      refine lv_iload_n hx hb dX10_text_54 rfl (lv_at hl 0 rfl) ?_
      refine lv_iload_n hx hb dX10_text_55 rfl (lv_at hl 0 rfl) ?_
      refine lv_iconst (v := 1) hx hb dX10_text_56 (by decide) ?_
      refine sb_icmp_ne (tgt := 66) hx hb (by decide : (0 : Int32).toInt = 0) (by decide : (1 : Int32).toInt = 1) dX10_text_57 (by decide) (fun c_57_11 => ?_) (fun h => absurd h (by decide))
      refine lv_iload_n hx hb dX10_text_66 rfl (lv_at hl 0 rfl) ?_
      refine lv_iconst (v := 2) hx hb dX10_text_67 (by decide) ?_
      refine sb_icmp_eq (tgt := 77) hx hb (by decide : (0 : Int32).toInt = 0) (by decide : (2 : Int32).toInt = 2) dX10_text_68 (by decide) (fun h => absurd h (by decide)) (fun c_68_12 => ?_)
      refine lv_iload_n hx hb dX10_text_71 rfl (lv_at hl 0 rfl) ?_
      refine lv_bipush (v := 10) hx hb dX10_text_72 (by decide) ?_
      refine sb_icmp_ne (tgt := 81) hx hb (by decide : (0 : Int32).toInt = 0) (by decide : (10 : Int32).toInt = 10) dX10_text_74 (by decide) (fun c_74_13 => ?_) (fun h => absurd h (by decide))
      refine lv_iload_n hx hb dX10_text_81 rfl (lv_at hl 0 rfl) ?_
      refine lv_iconst (v := 3) hx hb dX10_text_82 (by decide) ?_
      refine sb_icmp_ne (tgt := 91) hx hb (by decide : (0 : Int32).toInt = 0) (by decide : (3 : Int32).toInt = 3) dX10_text_83 (by decide) (fun c_83_14 => ?_) (fun h => absurd h (by decide))
      refine lv_iload_n hx hb dX10_text_91 rfl (lv_at hl 0 rfl) ?_
      refine lv_iconst (v := 4) hx hb dX10_text_92 (by decide) ?_
      refine sb_icmp_ne (tgt := 100) hx hb (by decide : (0 : Int32).toInt = 0) (by decide : (4 : Int32).toInt = 4) dX10_text_93 (by decide) (fun c_93_15 => ?_) (fun h => absurd h (by decide))
      refine lv_iload_n hx hb dX10_text_100 rfl (lv_at hl 0 rfl) ?_
      refine lv_bipush (v := 9) hx hb dX10_text_101 (by decide) ?_
      refine sb_icmp_ne (tgt := 110) hx hb (by decide : (0 : Int32).toInt = 0) (by decide : (9 : Int32).toInt = 9) dX10_text_103 (by decide) (fun c_103_16 => ?_) (fun h => absurd h (by decide))
      refine lv_iconst (v := 0) hx hb dX10_text_110 (by decide) ?_
      refine ti_callVv (ci := 10) (av := [.int 0, .int 0]) C hw (s_X10_reads l D A cy hJ M_10 iM_10 0 0 (by decide) (by decide) (by rw [show (11 + (0 : Int32).toInt).toNat = 11 by decide]; exact (ib_mk (lo := 0) (hi := 8) (by decide) (by decide)))) ⟨ml_X10_244, ym_X10_reads, yv_X10_reads, yi_X10_reads, yc_X10_reads⟩ yd_X10_reads ob_60 (by decide) rfl rfl hl.1 (Nat.le_of_ble_eq_true rfl) ⟨by decide, by decide⟩ ⟨Nat.zero_le _, Nat.zero_le _⟩ dX10_text_111 (fun M_19 H locs hp_19 hw => ?_)
      obtain ⟨iM_19, hM_19⟩ := hp_19
      rw [show (11 + (0 : Int32).toInt).toNat = 11 by decide] at hM_19
      refine lv_iinc (v := 1) (lv' := [(2, .int 1), (0, .ref (A 60 0)), (1, .int nn)]) hx hb dX10_text_114 hl (k := 0) rfl (by decide) (by decide) rfl (fun ls hl => ?_)
      refine lv_goto (tgt := 47) hx hb dX10_text_117 (by decide) ?_
      refine lv_iload_n hx hb dX10_text_47 rfl (lv_at hl 0 rfl) ?_
      refine lv_bipush (v := 11) hx hb dX10_text_48 (by decide) ?_
      refine sb_icmp_ge (tgt := 120) hx hb (by decide : (1 : Int32).toInt = 1) (by decide : (11 : Int32).toInt = 11) dX10_text_50 (by decide) (fun h => absurd h (by decide)) (fun c_50_19 => ?_)
      refine lv_aload_n hx hb dX10_text_53 rfl (lv_at hl 1 rfl) ?_
      refine lv_iload_n hx hb dX10_text_54 rfl (lv_at hl 0 rfl) ?_
      refine lv_iload_n hx hb dX10_text_55 rfl (lv_at hl 0 rfl) ?_
      refine lv_iconst (v := 1) hx hb dX10_text_56 (by decide) ?_
      refine sb_icmp_ne (tgt := 66) hx hb (by decide : (1 : Int32).toInt = 1) (by decide : (1 : Int32).toInt = 1) dX10_text_57 (by decide) (fun h => absurd h (by decide)) (fun c_57_20 => ?_)
      refine lv_sipush (v := 200) hx hb dX10_text_60 (by decide) ?_
      refine lv_goto (tgt := 111) hx hb dX10_text_63 (by decide) ?_
      refine ti_callVv (ci := 10) (av := [.int 1, .int 200]) C hw (s_X10_reads l D A cy hJ M_19 iM_19 1 200 (by decide) (by decide) (by rw [show (11 + (1 : Int32).toInt).toNat = 12 by decide]; exact trivial)) ⟨ml_X10_244, ym_X10_reads, yv_X10_reads, yi_X10_reads, yc_X10_reads⟩ yd_X10_reads ob_60 (by decide) rfl rfl hl.1 (Nat.le_of_ble_eq_true rfl) ⟨by decide, by decide⟩ ⟨Nat.zero_le _, Nat.zero_le _⟩ dX10_text_111 (fun M_23 H locs hp_23 hw => ?_)
      obtain ⟨iM_23, hM_23⟩ := hp_23
      rw [show (11 + (1 : Int32).toInt).toNat = 12 by decide] at hM_23
      refine lv_iinc (v := 2) (lv' := [(2, .int 2), (0, .ref (A 60 0)), (1, .int nn)]) hx hb dX10_text_114 hl (k := 0) rfl (by decide) (by decide) rfl (fun ls hl => ?_)
      refine lv_goto (tgt := 47) hx hb dX10_text_117 (by decide) ?_
      refine lv_iload_n hx hb dX10_text_47 rfl (lv_at hl 0 rfl) ?_
      refine lv_bipush (v := 11) hx hb dX10_text_48 (by decide) ?_
      refine sb_icmp_ge (tgt := 120) hx hb (by decide : (2 : Int32).toInt = 2) (by decide : (11 : Int32).toInt = 11) dX10_text_50 (by decide) (fun h => absurd h (by decide)) (fun c_50_23 => ?_)
      refine lv_aload_n hx hb dX10_text_53 rfl (lv_at hl 1 rfl) ?_
      refine lv_iload_n hx hb dX10_text_54 rfl (lv_at hl 0 rfl) ?_
      refine lv_iload_n hx hb dX10_text_55 rfl (lv_at hl 0 rfl) ?_
      refine lv_iconst (v := 1) hx hb dX10_text_56 (by decide) ?_
      refine sb_icmp_ne (tgt := 66) hx hb (by decide : (2 : Int32).toInt = 2) (by decide : (1 : Int32).toInt = 1) dX10_text_57 (by decide) (fun c_57_24 => ?_) (fun h => absurd h (by decide))
      refine lv_iload_n hx hb dX10_text_66 rfl (lv_at hl 0 rfl) ?_
      refine lv_iconst (v := 2) hx hb dX10_text_67 (by decide) ?_
      refine sb_icmp_eq (tgt := 77) hx hb (by decide : (2 : Int32).toInt = 2) (by decide : (2 : Int32).toInt = 2) dX10_text_68 (by decide) (fun c_68_25 => ?_) (fun h => absurd h (by decide))
      refine lv_iconst (v := 2) hx hb dX10_text_77 (by decide) ?_
      refine lv_goto (tgt := 111) hx hb dX10_text_78 (by decide) ?_
      refine ti_callVv (ci := 10) (av := [.int 2, .int 2]) C hw (s_X10_reads l D A cy hJ M_23 iM_23 2 2 (by decide) (by decide) (by rw [show (11 + (2 : Int32).toInt).toNat = 13 by decide]; exact trivial)) ⟨ml_X10_244, ym_X10_reads, yv_X10_reads, yi_X10_reads, yc_X10_reads⟩ yd_X10_reads ob_60 (by decide) rfl rfl hl.1 (Nat.le_of_ble_eq_true rfl) ⟨by decide, by decide⟩ ⟨Nat.zero_le _, Nat.zero_le _⟩ dX10_text_111 (fun M_28 H locs hp_28 hw => ?_)
      obtain ⟨iM_28, hM_28⟩ := hp_28
      rw [show (11 + (2 : Int32).toInt).toNat = 13 by decide] at hM_28
      refine lv_iinc (v := 3) (lv' := [(2, .int 3), (0, .ref (A 60 0)), (1, .int nn)]) hx hb dX10_text_114 hl (k := 0) rfl (by decide) (by decide) rfl (fun ls hl => ?_)
      refine lv_goto (tgt := 47) hx hb dX10_text_117 (by decide) ?_
      refine lv_iload_n hx hb dX10_text_47 rfl (lv_at hl 0 rfl) ?_
      refine lv_bipush (v := 11) hx hb dX10_text_48 (by decide) ?_
      refine sb_icmp_ge (tgt := 120) hx hb (by decide : (3 : Int32).toInt = 3) (by decide : (11 : Int32).toInt = 11) dX10_text_50 (by decide) (fun h => absurd h (by decide)) (fun c_50_28 => ?_)
      refine lv_aload_n hx hb dX10_text_53 rfl (lv_at hl 1 rfl) ?_
      refine lv_iload_n hx hb dX10_text_54 rfl (lv_at hl 0 rfl) ?_
      refine lv_iload_n hx hb dX10_text_55 rfl (lv_at hl 0 rfl) ?_
      refine lv_iconst (v := 1) hx hb dX10_text_56 (by decide) ?_
      refine sb_icmp_ne (tgt := 66) hx hb (by decide : (3 : Int32).toInt = 3) (by decide : (1 : Int32).toInt = 1) dX10_text_57 (by decide) (fun c_57_29 => ?_) (fun h => absurd h (by decide))
      refine lv_iload_n hx hb dX10_text_66 rfl (lv_at hl 0 rfl) ?_
      refine lv_iconst (v := 2) hx hb dX10_text_67 (by decide) ?_
      refine sb_icmp_eq (tgt := 77) hx hb (by decide : (3 : Int32).toInt = 3) (by decide : (2 : Int32).toInt = 2) dX10_text_68 (by decide) (fun h => absurd h (by decide)) (fun c_68_30 => ?_)
      refine lv_iload_n hx hb dX10_text_71 rfl (lv_at hl 0 rfl) ?_
      refine lv_bipush (v := 10) hx hb dX10_text_72 (by decide) ?_
      refine sb_icmp_ne (tgt := 81) hx hb (by decide : (3 : Int32).toInt = 3) (by decide : (10 : Int32).toInt = 10) dX10_text_74 (by decide) (fun c_74_31 => ?_) (fun h => absurd h (by decide))
      refine lv_iload_n hx hb dX10_text_81 rfl (lv_at hl 0 rfl) ?_
      refine lv_iconst (v := 3) hx hb dX10_text_82 (by decide) ?_
      refine sb_icmp_ne (tgt := 91) hx hb (by decide : (3 : Int32).toInt = 3) (by decide : (3 : Int32).toInt = 3) dX10_text_83 (by decide) (fun h => absurd h (by decide)) (fun c_83_32 => ?_)
      refine lv_bipush (v := 10) hx hb dX10_text_86 (by decide) ?_
      refine lv_goto (tgt := 111) hx hb dX10_text_88 (by decide) ?_
      refine ti_callVv (ci := 10) (av := [.int 3, .int 10]) C hw (s_X10_reads l D A cy hJ M_28 iM_28 3 10 (by decide) (by decide) (by rw [show (11 + (3 : Int32).toInt).toNat = 14 by decide]; exact (ib_mk (lo := 1) (hi := 30) (by decide) (by decide)))) ⟨ml_X10_244, ym_X10_reads, yv_X10_reads, yi_X10_reads, yc_X10_reads⟩ yd_X10_reads ob_60 (by decide) rfl rfl hl.1 (Nat.le_of_ble_eq_true rfl) ⟨by decide, by decide⟩ ⟨Nat.zero_le _, Nat.zero_le _⟩ dX10_text_111 (fun M_35 H locs hp_35 hw => ?_)
      obtain ⟨iM_35, hM_35⟩ := hp_35
      rw [show (11 + (3 : Int32).toInt).toNat = 14 by decide] at hM_35
      refine lv_iinc (v := 4) (lv' := [(2, .int 4), (0, .ref (A 60 0)), (1, .int nn)]) hx hb dX10_text_114 hl (k := 0) rfl (by decide) (by decide) rfl (fun ls hl => ?_)
      refine lv_goto (tgt := 47) hx hb dX10_text_117 (by decide) ?_
      refine lv_iload_n hx hb dX10_text_47 rfl (lv_at hl 0 rfl) ?_
      refine lv_bipush (v := 11) hx hb dX10_text_48 (by decide) ?_
      refine sb_icmp_ge (tgt := 120) hx hb (by decide : (4 : Int32).toInt = 4) (by decide : (11 : Int32).toInt = 11) dX10_text_50 (by decide) (fun h => absurd h (by decide)) (fun c_50_35 => ?_)
      refine lv_aload_n hx hb dX10_text_53 rfl (lv_at hl 1 rfl) ?_
      refine lv_iload_n hx hb dX10_text_54 rfl (lv_at hl 0 rfl) ?_
      refine lv_iload_n hx hb dX10_text_55 rfl (lv_at hl 0 rfl) ?_
      refine lv_iconst (v := 1) hx hb dX10_text_56 (by decide) ?_
      refine sb_icmp_ne (tgt := 66) hx hb (by decide : (4 : Int32).toInt = 4) (by decide : (1 : Int32).toInt = 1) dX10_text_57 (by decide) (fun c_57_36 => ?_) (fun h => absurd h (by decide))
      refine lv_iload_n hx hb dX10_text_66 rfl (lv_at hl 0 rfl) ?_
      refine lv_iconst (v := 2) hx hb dX10_text_67 (by decide) ?_
      refine sb_icmp_eq (tgt := 77) hx hb (by decide : (4 : Int32).toInt = 4) (by decide : (2 : Int32).toInt = 2) dX10_text_68 (by decide) (fun h => absurd h (by decide)) (fun c_68_37 => ?_)
      refine lv_iload_n hx hb dX10_text_71 rfl (lv_at hl 0 rfl) ?_
      refine lv_bipush (v := 10) hx hb dX10_text_72 (by decide) ?_
      refine sb_icmp_ne (tgt := 81) hx hb (by decide : (4 : Int32).toInt = 4) (by decide : (10 : Int32).toInt = 10) dX10_text_74 (by decide) (fun c_74_38 => ?_) (fun h => absurd h (by decide))
      refine lv_iload_n hx hb dX10_text_81 rfl (lv_at hl 0 rfl) ?_
      refine lv_iconst (v := 3) hx hb dX10_text_82 (by decide) ?_
      refine sb_icmp_ne (tgt := 91) hx hb (by decide : (4 : Int32).toInt = 4) (by decide : (3 : Int32).toInt = 3) dX10_text_83 (by decide) (fun c_83_39 => ?_) (fun h => absurd h (by decide))
      refine lv_iload_n hx hb dX10_text_91 rfl (lv_at hl 0 rfl) ?_
      refine lv_iconst (v := 4) hx hb dX10_text_92 (by decide) ?_
      refine sb_icmp_ne (tgt := 100) hx hb (by decide : (4 : Int32).toInt = 4) (by decide : (4 : Int32).toInt = 4) dX10_text_93 (by decide) (fun h => absurd h (by decide)) (fun c_93_40 => ?_)
      refine lv_iconst (v := 3) hx hb dX10_text_96 (by decide) ?_
      refine lv_goto (tgt := 111) hx hb dX10_text_97 (by decide) ?_
      refine ti_callVv (ci := 10) (av := [.int 4, .int 3]) C hw (s_X10_reads l D A cy hJ M_35 iM_35 4 3 (by decide) (by decide) (by rw [show (11 + (4 : Int32).toInt).toNat = 15 by decide]; exact trivial)) ⟨ml_X10_244, ym_X10_reads, yv_X10_reads, yi_X10_reads, yc_X10_reads⟩ yd_X10_reads ob_60 (by decide) rfl rfl hl.1 (Nat.le_of_ble_eq_true rfl) ⟨by decide, by decide⟩ ⟨Nat.zero_le _, Nat.zero_le _⟩ dX10_text_111 (fun M_43 H locs hp_43 hw => ?_)
      obtain ⟨iM_43, hM_43⟩ := hp_43
      rw [show (11 + (4 : Int32).toInt).toNat = 15 by decide] at hM_43
      refine lv_iinc (v := 5) (lv' := [(2, .int 5), (0, .ref (A 60 0)), (1, .int nn)]) hx hb dX10_text_114 hl (k := 0) rfl (by decide) (by decide) rfl (fun ls hl => ?_)
      refine lv_goto (tgt := 47) hx hb dX10_text_117 (by decide) ?_
      refine lv_iload_n hx hb dX10_text_47 rfl (lv_at hl 0 rfl) ?_
      refine lv_bipush (v := 11) hx hb dX10_text_48 (by decide) ?_
      refine sb_icmp_ge (tgt := 120) hx hb (by decide : (5 : Int32).toInt = 5) (by decide : (11 : Int32).toInt = 11) dX10_text_50 (by decide) (fun h => absurd h (by decide)) (fun c_50_43 => ?_)
      refine lv_aload_n hx hb dX10_text_53 rfl (lv_at hl 1 rfl) ?_
      refine lv_iload_n hx hb dX10_text_54 rfl (lv_at hl 0 rfl) ?_
      refine lv_iload_n hx hb dX10_text_55 rfl (lv_at hl 0 rfl) ?_
      refine lv_iconst (v := 1) hx hb dX10_text_56 (by decide) ?_
      refine sb_icmp_ne (tgt := 66) hx hb (by decide : (5 : Int32).toInt = 5) (by decide : (1 : Int32).toInt = 1) dX10_text_57 (by decide) (fun c_57_44 => ?_) (fun h => absurd h (by decide))
      refine lv_iload_n hx hb dX10_text_66 rfl (lv_at hl 0 rfl) ?_
      refine lv_iconst (v := 2) hx hb dX10_text_67 (by decide) ?_
      refine sb_icmp_eq (tgt := 77) hx hb (by decide : (5 : Int32).toInt = 5) (by decide : (2 : Int32).toInt = 2) dX10_text_68 (by decide) (fun h => absurd h (by decide)) (fun c_68_45 => ?_)
      refine lv_iload_n hx hb dX10_text_71 rfl (lv_at hl 0 rfl) ?_
      refine lv_bipush (v := 10) hx hb dX10_text_72 (by decide) ?_
      refine sb_icmp_ne (tgt := 81) hx hb (by decide : (5 : Int32).toInt = 5) (by decide : (10 : Int32).toInt = 10) dX10_text_74 (by decide) (fun c_74_46 => ?_) (fun h => absurd h (by decide))
      refine lv_iload_n hx hb dX10_text_81 rfl (lv_at hl 0 rfl) ?_
      refine lv_iconst (v := 3) hx hb dX10_text_82 (by decide) ?_
      refine sb_icmp_ne (tgt := 91) hx hb (by decide : (5 : Int32).toInt = 5) (by decide : (3 : Int32).toInt = 3) dX10_text_83 (by decide) (fun c_83_47 => ?_) (fun h => absurd h (by decide))
      refine lv_iload_n hx hb dX10_text_91 rfl (lv_at hl 0 rfl) ?_
      refine lv_iconst (v := 4) hx hb dX10_text_92 (by decide) ?_
      refine sb_icmp_ne (tgt := 100) hx hb (by decide : (5 : Int32).toInt = 5) (by decide : (4 : Int32).toInt = 4) dX10_text_93 (by decide) (fun c_93_48 => ?_) (fun h => absurd h (by decide))
      refine lv_iload_n hx hb dX10_text_100 rfl (lv_at hl 0 rfl) ?_
      refine lv_bipush (v := 9) hx hb dX10_text_101 (by decide) ?_
      refine sb_icmp_ne (tgt := 110) hx hb (by decide : (5 : Int32).toInt = 5) (by decide : (9 : Int32).toInt = 9) dX10_text_103 (by decide) (fun c_103_49 => ?_) (fun h => absurd h (by decide))
      refine lv_iconst (v := 0) hx hb dX10_text_110 (by decide) ?_
      refine ti_callVv (ci := 10) (av := [.int 5, .int 0]) C hw (s_X10_reads l D A cy hJ M_43 iM_43 5 0 (by decide) (by decide) (by rw [show (11 + (5 : Int32).toInt).toNat = 16 by decide]; exact trivial)) ⟨ml_X10_244, ym_X10_reads, yv_X10_reads, yi_X10_reads, yc_X10_reads⟩ yd_X10_reads ob_60 (by decide) rfl rfl hl.1 (Nat.le_of_ble_eq_true rfl) ⟨by decide, by decide⟩ ⟨Nat.zero_le _, Nat.zero_le _⟩ dX10_text_111 (fun M_52 H locs hp_52 hw => ?_)
      obtain ⟨iM_52, hM_52⟩ := hp_52
      rw [show (11 + (5 : Int32).toInt).toNat = 16 by decide] at hM_52
      refine lv_iinc (v := 6) (lv' := [(2, .int 6), (0, .ref (A 60 0)), (1, .int nn)]) hx hb dX10_text_114 hl (k := 0) rfl (by decide) (by decide) rfl (fun ls hl => ?_)
      refine lv_goto (tgt := 47) hx hb dX10_text_117 (by decide) ?_
      refine lv_iload_n hx hb dX10_text_47 rfl (lv_at hl 0 rfl) ?_
      refine lv_bipush (v := 11) hx hb dX10_text_48 (by decide) ?_
      refine sb_icmp_ge (tgt := 120) hx hb (by decide : (6 : Int32).toInt = 6) (by decide : (11 : Int32).toInt = 11) dX10_text_50 (by decide) (fun h => absurd h (by decide)) (fun c_50_52 => ?_)
      refine lv_aload_n hx hb dX10_text_53 rfl (lv_at hl 1 rfl) ?_
      refine lv_iload_n hx hb dX10_text_54 rfl (lv_at hl 0 rfl) ?_
      refine lv_iload_n hx hb dX10_text_55 rfl (lv_at hl 0 rfl) ?_
      refine lv_iconst (v := 1) hx hb dX10_text_56 (by decide) ?_
      refine sb_icmp_ne (tgt := 66) hx hb (by decide : (6 : Int32).toInt = 6) (by decide : (1 : Int32).toInt = 1) dX10_text_57 (by decide) (fun c_57_53 => ?_) (fun h => absurd h (by decide))
      refine lv_iload_n hx hb dX10_text_66 rfl (lv_at hl 0 rfl) ?_
      refine lv_iconst (v := 2) hx hb dX10_text_67 (by decide) ?_
      refine sb_icmp_eq (tgt := 77) hx hb (by decide : (6 : Int32).toInt = 6) (by decide : (2 : Int32).toInt = 2) dX10_text_68 (by decide) (fun h => absurd h (by decide)) (fun c_68_54 => ?_)
      refine lv_iload_n hx hb dX10_text_71 rfl (lv_at hl 0 rfl) ?_
      refine lv_bipush (v := 10) hx hb dX10_text_72 (by decide) ?_
      refine sb_icmp_ne (tgt := 81) hx hb (by decide : (6 : Int32).toInt = 6) (by decide : (10 : Int32).toInt = 10) dX10_text_74 (by decide) (fun c_74_55 => ?_) (fun h => absurd h (by decide))
      refine lv_iload_n hx hb dX10_text_81 rfl (lv_at hl 0 rfl) ?_
      refine lv_iconst (v := 3) hx hb dX10_text_82 (by decide) ?_
      refine sb_icmp_ne (tgt := 91) hx hb (by decide : (6 : Int32).toInt = 6) (by decide : (3 : Int32).toInt = 3) dX10_text_83 (by decide) (fun c_83_56 => ?_) (fun h => absurd h (by decide))
      refine lv_iload_n hx hb dX10_text_91 rfl (lv_at hl 0 rfl) ?_
      refine lv_iconst (v := 4) hx hb dX10_text_92 (by decide) ?_
      refine sb_icmp_ne (tgt := 100) hx hb (by decide : (6 : Int32).toInt = 6) (by decide : (4 : Int32).toInt = 4) dX10_text_93 (by decide) (fun c_93_57 => ?_) (fun h => absurd h (by decide))
      refine lv_iload_n hx hb dX10_text_100 rfl (lv_at hl 0 rfl) ?_
      refine lv_bipush (v := 9) hx hb dX10_text_101 (by decide) ?_
      refine sb_icmp_ne (tgt := 110) hx hb (by decide : (6 : Int32).toInt = 6) (by decide : (9 : Int32).toInt = 9) dX10_text_103 (by decide) (fun c_103_58 => ?_) (fun h => absurd h (by decide))
      refine lv_iconst (v := 0) hx hb dX10_text_110 (by decide) ?_
      refine ti_callVv (ci := 10) (av := [.int 6, .int 0]) C hw (s_X10_reads l D A cy hJ M_52 iM_52 6 0 (by decide) (by decide) (by rw [show (11 + (6 : Int32).toInt).toNat = 17 by decide]; exact trivial)) ⟨ml_X10_244, ym_X10_reads, yv_X10_reads, yi_X10_reads, yc_X10_reads⟩ yd_X10_reads ob_60 (by decide) rfl rfl hl.1 (Nat.le_of_ble_eq_true rfl) ⟨by decide, by decide⟩ ⟨Nat.zero_le _, Nat.zero_le _⟩ dX10_text_111 (fun M_61 H locs hp_61 hw => ?_)
      obtain ⟨iM_61, hM_61⟩ := hp_61
      rw [show (11 + (6 : Int32).toInt).toNat = 17 by decide] at hM_61
      refine lv_iinc (v := 7) (lv' := [(2, .int 7), (0, .ref (A 60 0)), (1, .int nn)]) hx hb dX10_text_114 hl (k := 0) rfl (by decide) (by decide) rfl (fun ls hl => ?_)
      refine lv_goto (tgt := 47) hx hb dX10_text_117 (by decide) ?_
      refine lv_iload_n hx hb dX10_text_47 rfl (lv_at hl 0 rfl) ?_
      refine lv_bipush (v := 11) hx hb dX10_text_48 (by decide) ?_
      refine sb_icmp_ge (tgt := 120) hx hb (by decide : (7 : Int32).toInt = 7) (by decide : (11 : Int32).toInt = 11) dX10_text_50 (by decide) (fun h => absurd h (by decide)) (fun c_50_61 => ?_)
      refine lv_aload_n hx hb dX10_text_53 rfl (lv_at hl 1 rfl) ?_
      refine lv_iload_n hx hb dX10_text_54 rfl (lv_at hl 0 rfl) ?_
      refine lv_iload_n hx hb dX10_text_55 rfl (lv_at hl 0 rfl) ?_
      refine lv_iconst (v := 1) hx hb dX10_text_56 (by decide) ?_
      refine sb_icmp_ne (tgt := 66) hx hb (by decide : (7 : Int32).toInt = 7) (by decide : (1 : Int32).toInt = 1) dX10_text_57 (by decide) (fun c_57_62 => ?_) (fun h => absurd h (by decide))
      refine lv_iload_n hx hb dX10_text_66 rfl (lv_at hl 0 rfl) ?_
      refine lv_iconst (v := 2) hx hb dX10_text_67 (by decide) ?_
      refine sb_icmp_eq (tgt := 77) hx hb (by decide : (7 : Int32).toInt = 7) (by decide : (2 : Int32).toInt = 2) dX10_text_68 (by decide) (fun h => absurd h (by decide)) (fun c_68_63 => ?_)
      refine lv_iload_n hx hb dX10_text_71 rfl (lv_at hl 0 rfl) ?_
      refine lv_bipush (v := 10) hx hb dX10_text_72 (by decide) ?_
      refine sb_icmp_ne (tgt := 81) hx hb (by decide : (7 : Int32).toInt = 7) (by decide : (10 : Int32).toInt = 10) dX10_text_74 (by decide) (fun c_74_64 => ?_) (fun h => absurd h (by decide))
      refine lv_iload_n hx hb dX10_text_81 rfl (lv_at hl 0 rfl) ?_
      refine lv_iconst (v := 3) hx hb dX10_text_82 (by decide) ?_
      refine sb_icmp_ne (tgt := 91) hx hb (by decide : (7 : Int32).toInt = 7) (by decide : (3 : Int32).toInt = 3) dX10_text_83 (by decide) (fun c_83_65 => ?_) (fun h => absurd h (by decide))
      refine lv_iload_n hx hb dX10_text_91 rfl (lv_at hl 0 rfl) ?_
      refine lv_iconst (v := 4) hx hb dX10_text_92 (by decide) ?_
      refine sb_icmp_ne (tgt := 100) hx hb (by decide : (7 : Int32).toInt = 7) (by decide : (4 : Int32).toInt = 4) dX10_text_93 (by decide) (fun c_93_66 => ?_) (fun h => absurd h (by decide))
      refine lv_iload_n hx hb dX10_text_100 rfl (lv_at hl 0 rfl) ?_
      refine lv_bipush (v := 9) hx hb dX10_text_101 (by decide) ?_
      refine sb_icmp_ne (tgt := 110) hx hb (by decide : (7 : Int32).toInt = 7) (by decide : (9 : Int32).toInt = 9) dX10_text_103 (by decide) (fun c_103_67 => ?_) (fun h => absurd h (by decide))
      refine lv_iconst (v := 0) hx hb dX10_text_110 (by decide) ?_
      refine ti_callVv (ci := 10) (av := [.int 7, .int 0]) C hw (s_X10_reads l D A cy hJ M_61 iM_61 7 0 (by decide) (by decide) (by rw [show (11 + (7 : Int32).toInt).toNat = 18 by decide]; exact (ib_mk (lo := 0) (hi := 64) (by decide) (by decide)))) ⟨ml_X10_244, ym_X10_reads, yv_X10_reads, yi_X10_reads, yc_X10_reads⟩ yd_X10_reads ob_60 (by decide) rfl rfl hl.1 (Nat.le_of_ble_eq_true rfl) ⟨by decide, by decide⟩ ⟨Nat.zero_le _, Nat.zero_le _⟩ dX10_text_111 (fun M_70 H locs hp_70 hw => ?_)
      obtain ⟨iM_70, hM_70⟩ := hp_70
      rw [show (11 + (7 : Int32).toInt).toNat = 18 by decide] at hM_70
      refine lv_iinc (v := 8) (lv' := [(2, .int 8), (0, .ref (A 60 0)), (1, .int nn)]) hx hb dX10_text_114 hl (k := 0) rfl (by decide) (by decide) rfl (fun ls hl => ?_)
      refine lv_goto (tgt := 47) hx hb dX10_text_117 (by decide) ?_
      refine lv_iload_n hx hb dX10_text_47 rfl (lv_at hl 0 rfl) ?_
      refine lv_bipush (v := 11) hx hb dX10_text_48 (by decide) ?_
      refine sb_icmp_ge (tgt := 120) hx hb (by decide : (8 : Int32).toInt = 8) (by decide : (11 : Int32).toInt = 11) dX10_text_50 (by decide) (fun h => absurd h (by decide)) (fun c_50_70 => ?_)
      refine lv_aload_n hx hb dX10_text_53 rfl (lv_at hl 1 rfl) ?_
      refine lv_iload_n hx hb dX10_text_54 rfl (lv_at hl 0 rfl) ?_
      refine lv_iload_n hx hb dX10_text_55 rfl (lv_at hl 0 rfl) ?_
      refine lv_iconst (v := 1) hx hb dX10_text_56 (by decide) ?_
      refine sb_icmp_ne (tgt := 66) hx hb (by decide : (8 : Int32).toInt = 8) (by decide : (1 : Int32).toInt = 1) dX10_text_57 (by decide) (fun c_57_71 => ?_) (fun h => absurd h (by decide))
      refine lv_iload_n hx hb dX10_text_66 rfl (lv_at hl 0 rfl) ?_
      refine lv_iconst (v := 2) hx hb dX10_text_67 (by decide) ?_
      refine sb_icmp_eq (tgt := 77) hx hb (by decide : (8 : Int32).toInt = 8) (by decide : (2 : Int32).toInt = 2) dX10_text_68 (by decide) (fun h => absurd h (by decide)) (fun c_68_72 => ?_)
      refine lv_iload_n hx hb dX10_text_71 rfl (lv_at hl 0 rfl) ?_
      refine lv_bipush (v := 10) hx hb dX10_text_72 (by decide) ?_
      refine sb_icmp_ne (tgt := 81) hx hb (by decide : (8 : Int32).toInt = 8) (by decide : (10 : Int32).toInt = 10) dX10_text_74 (by decide) (fun c_74_73 => ?_) (fun h => absurd h (by decide))
      refine lv_iload_n hx hb dX10_text_81 rfl (lv_at hl 0 rfl) ?_
      refine lv_iconst (v := 3) hx hb dX10_text_82 (by decide) ?_
      refine sb_icmp_ne (tgt := 91) hx hb (by decide : (8 : Int32).toInt = 8) (by decide : (3 : Int32).toInt = 3) dX10_text_83 (by decide) (fun c_83_74 => ?_) (fun h => absurd h (by decide))
      refine lv_iload_n hx hb dX10_text_91 rfl (lv_at hl 0 rfl) ?_
      refine lv_iconst (v := 4) hx hb dX10_text_92 (by decide) ?_
      refine sb_icmp_ne (tgt := 100) hx hb (by decide : (8 : Int32).toInt = 8) (by decide : (4 : Int32).toInt = 4) dX10_text_93 (by decide) (fun c_93_75 => ?_) (fun h => absurd h (by decide))
      refine lv_iload_n hx hb dX10_text_100 rfl (lv_at hl 0 rfl) ?_
      refine lv_bipush (v := 9) hx hb dX10_text_101 (by decide) ?_
      refine sb_icmp_ne (tgt := 110) hx hb (by decide : (8 : Int32).toInt = 8) (by decide : (9 : Int32).toInt = 9) dX10_text_103 (by decide) (fun c_103_76 => ?_) (fun h => absurd h (by decide))
      refine lv_iconst (v := 0) hx hb dX10_text_110 (by decide) ?_
      refine ti_callVv (ci := 10) (av := [.int 8, .int 0]) C hw (s_X10_reads l D A cy hJ M_70 iM_70 8 0 (by decide) (by decide) (by rw [show (11 + (8 : Int32).toInt).toNat = 19 by decide]; exact (ib_mk (lo := 0) (hi := 7) (by decide) (by decide)))) ⟨ml_X10_244, ym_X10_reads, yv_X10_reads, yi_X10_reads, yc_X10_reads⟩ yd_X10_reads ob_60 (by decide) rfl rfl hl.1 (Nat.le_of_ble_eq_true rfl) ⟨by decide, by decide⟩ ⟨Nat.zero_le _, Nat.zero_le _⟩ dX10_text_111 (fun M_79 H locs hp_79 hw => ?_)
      obtain ⟨iM_79, hM_79⟩ := hp_79
      rw [show (11 + (8 : Int32).toInt).toNat = 19 by decide] at hM_79
      refine lv_iinc (v := 9) (lv' := [(2, .int 9), (0, .ref (A 60 0)), (1, .int nn)]) hx hb dX10_text_114 hl (k := 0) rfl (by decide) (by decide) rfl (fun ls hl => ?_)
      refine lv_goto (tgt := 47) hx hb dX10_text_117 (by decide) ?_
      refine lv_iload_n hx hb dX10_text_47 rfl (lv_at hl 0 rfl) ?_
      refine lv_bipush (v := 11) hx hb dX10_text_48 (by decide) ?_
      refine sb_icmp_ge (tgt := 120) hx hb (by decide : (9 : Int32).toInt = 9) (by decide : (11 : Int32).toInt = 11) dX10_text_50 (by decide) (fun h => absurd h (by decide)) (fun c_50_79 => ?_)
      refine lv_aload_n hx hb dX10_text_53 rfl (lv_at hl 1 rfl) ?_
      refine lv_iload_n hx hb dX10_text_54 rfl (lv_at hl 0 rfl) ?_
      refine lv_iload_n hx hb dX10_text_55 rfl (lv_at hl 0 rfl) ?_
      refine lv_iconst (v := 1) hx hb dX10_text_56 (by decide) ?_
      refine sb_icmp_ne (tgt := 66) hx hb (by decide : (9 : Int32).toInt = 9) (by decide : (1 : Int32).toInt = 1) dX10_text_57 (by decide) (fun c_57_80 => ?_) (fun h => absurd h (by decide))
      refine lv_iload_n hx hb dX10_text_66 rfl (lv_at hl 0 rfl) ?_
      refine lv_iconst (v := 2) hx hb dX10_text_67 (by decide) ?_
      refine sb_icmp_eq (tgt := 77) hx hb (by decide : (9 : Int32).toInt = 9) (by decide : (2 : Int32).toInt = 2) dX10_text_68 (by decide) (fun h => absurd h (by decide)) (fun c_68_81 => ?_)
      refine lv_iload_n hx hb dX10_text_71 rfl (lv_at hl 0 rfl) ?_
      refine lv_bipush (v := 10) hx hb dX10_text_72 (by decide) ?_
      refine sb_icmp_ne (tgt := 81) hx hb (by decide : (9 : Int32).toInt = 9) (by decide : (10 : Int32).toInt = 10) dX10_text_74 (by decide) (fun c_74_82 => ?_) (fun h => absurd h (by decide))
      refine lv_iload_n hx hb dX10_text_81 rfl (lv_at hl 0 rfl) ?_
      refine lv_iconst (v := 3) hx hb dX10_text_82 (by decide) ?_
      refine sb_icmp_ne (tgt := 91) hx hb (by decide : (9 : Int32).toInt = 9) (by decide : (3 : Int32).toInt = 3) dX10_text_83 (by decide) (fun c_83_83 => ?_) (fun h => absurd h (by decide))
      refine lv_iload_n hx hb dX10_text_91 rfl (lv_at hl 0 rfl) ?_
      refine lv_iconst (v := 4) hx hb dX10_text_92 (by decide) ?_
      refine sb_icmp_ne (tgt := 100) hx hb (by decide : (9 : Int32).toInt = 9) (by decide : (4 : Int32).toInt = 4) dX10_text_93 (by decide) (fun c_93_84 => ?_) (fun h => absurd h (by decide))
      refine lv_iload_n hx hb dX10_text_100 rfl (lv_at hl 0 rfl) ?_
      refine lv_bipush (v := 9) hx hb dX10_text_101 (by decide) ?_
      refine sb_icmp_ne (tgt := 110) hx hb (by decide : (9 : Int32).toInt = 9) (by decide : (9 : Int32).toInt = 9) dX10_text_103 (by decide) (fun h => absurd h (by decide)) (fun c_103_85 => ?_)
      refine lv_iconst (v := 1) hx hb dX10_text_106 (by decide) ?_
      refine lv_goto (tgt := 111) hx hb dX10_text_107 (by decide) ?_
      refine ti_callVv (ci := 10) (av := [.int 9, .int 1]) C hw (s_X10_reads l D A cy hJ M_79 iM_79 9 1 (by decide) (by decide) (by rw [show (11 + (9 : Int32).toInt).toNat = 20 by decide]; exact (ib_mk (lo := 0) (hi := 7) (by decide) (by decide)))) ⟨ml_X10_244, ym_X10_reads, yv_X10_reads, yi_X10_reads, yc_X10_reads⟩ yd_X10_reads ob_60 (by decide) rfl rfl hl.1 (Nat.le_of_ble_eq_true rfl) ⟨by decide, by decide⟩ ⟨Nat.zero_le _, Nat.zero_le _⟩ dX10_text_111 (fun M_88 H locs hp_88 hw => ?_)
      obtain ⟨iM_88, hM_88⟩ := hp_88
      rw [show (11 + (9 : Int32).toInt).toNat = 20 by decide] at hM_88
      refine lv_iinc (v := 10) (lv' := [(2, .int 10), (0, .ref (A 60 0)), (1, .int nn)]) hx hb dX10_text_114 hl (k := 0) rfl (by decide) (by decide) rfl (fun ls hl => ?_)
      refine lv_goto (tgt := 47) hx hb dX10_text_117 (by decide) ?_
      refine lv_iload_n hx hb dX10_text_47 rfl (lv_at hl 0 rfl) ?_
      refine lv_bipush (v := 11) hx hb dX10_text_48 (by decide) ?_
      refine sb_icmp_ge (tgt := 120) hx hb (by decide : (10 : Int32).toInt = 10) (by decide : (11 : Int32).toInt = 11) dX10_text_50 (by decide) (fun h => absurd h (by decide)) (fun c_50_88 => ?_)
      refine lv_aload_n hx hb dX10_text_53 rfl (lv_at hl 1 rfl) ?_
      refine lv_iload_n hx hb dX10_text_54 rfl (lv_at hl 0 rfl) ?_
      refine lv_iload_n hx hb dX10_text_55 rfl (lv_at hl 0 rfl) ?_
      refine lv_iconst (v := 1) hx hb dX10_text_56 (by decide) ?_
      refine sb_icmp_ne (tgt := 66) hx hb (by decide : (10 : Int32).toInt = 10) (by decide : (1 : Int32).toInt = 1) dX10_text_57 (by decide) (fun c_57_89 => ?_) (fun h => absurd h (by decide))
      refine lv_iload_n hx hb dX10_text_66 rfl (lv_at hl 0 rfl) ?_
      refine lv_iconst (v := 2) hx hb dX10_text_67 (by decide) ?_
      refine sb_icmp_eq (tgt := 77) hx hb (by decide : (10 : Int32).toInt = 10) (by decide : (2 : Int32).toInt = 2) dX10_text_68 (by decide) (fun h => absurd h (by decide)) (fun c_68_90 => ?_)
      refine lv_iload_n hx hb dX10_text_71 rfl (lv_at hl 0 rfl) ?_
      refine lv_bipush (v := 10) hx hb dX10_text_72 (by decide) ?_
      refine sb_icmp_ne (tgt := 81) hx hb (by decide : (10 : Int32).toInt = 10) (by decide : (10 : Int32).toInt = 10) dX10_text_74 (by decide) (fun h => absurd h (by decide)) (fun c_74_91 => ?_)
      refine lv_iconst (v := 2) hx hb dX10_text_77 (by decide) ?_
      refine lv_goto (tgt := 111) hx hb dX10_text_78 (by decide) ?_
      refine ti_callVv (ci := 10) (av := [.int 10, .int 2]) C hw (s_X10_reads l D A cy hJ M_88 iM_88 10 2 (by decide) (by decide) (by rw [show (11 + (10 : Int32).toInt).toNat = 21 by decide]; exact (ib_mk (lo := 0) (hi := 7) (by decide) (by decide)))) ⟨ml_X10_244, ym_X10_reads, yv_X10_reads, yi_X10_reads, yc_X10_reads⟩ yd_X10_reads ob_60 (by decide) rfl rfl hl.1 (Nat.le_of_ble_eq_true rfl) ⟨by decide, by decide⟩ ⟨Nat.zero_le _, Nat.zero_le _⟩ dX10_text_111 (fun M_94 H locs hp_94 hw => ?_)
      obtain ⟨iM_94, hM_94⟩ := hp_94
      rw [show (11 + (10 : Int32).toInt).toNat = 21 by decide] at hM_94
      refine lv_iinc (v := 11) (lv' := [(2, .int 11), (0, .ref (A 60 0)), (1, .int nn)]) hx hb dX10_text_114 hl (k := 0) rfl (by decide) (by decide) rfl (fun ls hl => ?_)
      refine lv_goto (tgt := 47) hx hb dX10_text_117 (by decide) ?_
      refine lv_iload_n hx hb dX10_text_47 rfl (lv_at hl 0 rfl) ?_
      refine lv_bipush (v := 11) hx hb dX10_text_48 (by decide) ?_
      refine sb_icmp_ge (tgt := 120) hx hb (by decide : (11 : Int32).toInt = 11) (by decide : (11 : Int32).toInt = 11) dX10_text_50 (by decide) (fun c_50_94 => ?_) (fun h => absurd h (by decide))
      refine lv_iconst (v := 3) hx hb dX10_text_120 (by decide) ?_
      refine lv_istore_n (lv' := [(2, .int 3), (0, .ref (A 60 0)), (1, .int nn)]) hx hb dX10_text_121 rfl hl (by decide) rfl (fun ls hl => ?_)
      refine lv_iload_n hx hb dX10_text_122 rfl (lv_at hl 0 rfl) ?_
      refine lv_bipush (v := 6) hx hb dX10_text_123 (by decide) ?_
      refine sb_icmp_ge (tgt := 148) hx hb (by decide : (3 : Int32).toInt = 3) (by decide : (6 : Int32).toInt = 6) dX10_text_125 (by decide) (fun h => absurd h (by decide)) (fun c_125_95 => ?_)
      refine lv_aload_n hx hb dX10_text_128 rfl (lv_at hl 1 rfl) ?_
      refine ti_get (ci := 10) (k := 14) (N := 67) (T := TX10) (v := .ref (A 60 15)) C hw iw_10 rfl ob_60 (by decide) (by decide) fl_X10_46 rfl rfl dX10_text_129 ?_
      refine lv_iload_n hx hb dX10_text_132 rfl (lv_at hl 0 rfl) ?_
      refine lv_iconst (v := 0) hx hb dX10_text_133 (by decide) ?_
      refine ti_iast (ci := 10) (k := 14) (n := 6) C hw ob_60 (by decide) (fun _ _ => rfl) (by unfold vp_in; decide) dX10_text_134 (fun H locs hw => ?_)
      obtain ⟨M_97, hM_97⟩ : ∃ z : ti_M, z = uY M_94 60 14 (upd (tY M_94 60 14) (3 : Int32).toNatClampNeg 0) := ⟨_, rfl⟩
      have hw := hw.to hM_97.symm
      have iM_97 : mI M_97 := mI_up (i := 3) iM_94 hM_97 (ib_mk (lo := 0) (hi := 64) (by decide) (by decide))
      refine lv_aload_n hx hb dX10_text_135 rfl (lv_at hl 1 rfl) ?_
      refine ti_get (ci := 10) (k := 15) (N := 67) (T := TX10) (v := .ref (A 60 16)) C hw iw_10 rfl ob_60 (by decide) (by decide) fl_X10_49 rfl rfl dX10_text_136 ?_
      refine lv_iload_n hx hb dX10_text_139 rfl (lv_at hl 0 rfl) ?_
      refine lv_iconst (v := 0) hx hb dX10_text_140 (by decide) ?_
      refine ti_iast (ci := 10) (k := 15) (n := 6) C hw ob_60 (by decide) (fun _ _ => rfl) (by unfold vp_in; decide) dX10_text_141 (fun H locs hw => ?_)
      obtain ⟨M_98, hM_98⟩ : ∃ z : ti_M, z = uY M_97 60 15 (upd (tY M_97 60 15) (3 : Int32).toNatClampNeg 0) := ⟨_, rfl⟩
      have hw := hw.to hM_98.symm
      have iM_98 : mI M_98 := mI_up (i := 3) iM_97 hM_98 (ib_mk (lo := 0) (hi := 64) (by decide) (by decide))
      refine lv_iinc (v := 4) (lv' := [(2, .int 4), (0, .ref (A 60 0)), (1, .int nn)]) hx hb dX10_text_142 hl (k := 0) rfl (by decide) (by decide) rfl (fun ls hl => ?_)
      refine lv_goto (tgt := 122) hx hb dX10_text_145 (by decide) ?_
      refine lv_iload_n hx hb dX10_text_122 rfl (lv_at hl 0 rfl) ?_
      refine lv_bipush (v := 6) hx hb dX10_text_123 (by decide) ?_
      refine sb_icmp_ge (tgt := 148) hx hb (by decide : (4 : Int32).toInt = 4) (by decide : (6 : Int32).toInt = 6) dX10_text_125 (by decide) (fun h => absurd h (by decide)) (fun c_125_98 => ?_)
      refine lv_aload_n hx hb dX10_text_128 rfl (lv_at hl 1 rfl) ?_
      refine ti_get (ci := 10) (k := 14) (N := 67) (T := TX10) (v := .ref (A 60 15)) C hw iw_10 rfl ob_60 (by decide) (by decide) fl_X10_46 rfl rfl dX10_text_129 ?_
      refine lv_iload_n hx hb dX10_text_132 rfl (lv_at hl 0 rfl) ?_
      refine lv_iconst (v := 0) hx hb dX10_text_133 (by decide) ?_
      refine ti_iast (ci := 10) (k := 14) (n := 6) C hw ob_60 (by decide) (fun _ _ => rfl) (by unfold vp_in; decide) dX10_text_134 (fun H locs hw => ?_)
      obtain ⟨M_100, hM_100⟩ : ∃ z : ti_M, z = uY M_98 60 14 (upd (tY M_98 60 14) (4 : Int32).toNatClampNeg 0) := ⟨_, rfl⟩
      have hw := hw.to hM_100.symm
      have iM_100 : mI M_100 := mI_up (i := 4) iM_98 hM_100 (ib_mk (lo := 0) (hi := 64) (by decide) (by decide))
      refine lv_aload_n hx hb dX10_text_135 rfl (lv_at hl 1 rfl) ?_
      refine ti_get (ci := 10) (k := 15) (N := 67) (T := TX10) (v := .ref (A 60 16)) C hw iw_10 rfl ob_60 (by decide) (by decide) fl_X10_49 rfl rfl dX10_text_136 ?_
      refine lv_iload_n hx hb dX10_text_139 rfl (lv_at hl 0 rfl) ?_
      refine lv_iconst (v := 0) hx hb dX10_text_140 (by decide) ?_
      refine ti_iast (ci := 10) (k := 15) (n := 6) C hw ob_60 (by decide) (fun _ _ => rfl) (by unfold vp_in; decide) dX10_text_141 (fun H locs hw => ?_)
      obtain ⟨M_101, hM_101⟩ : ∃ z : ti_M, z = uY M_100 60 15 (upd (tY M_100 60 15) (4 : Int32).toNatClampNeg 0) := ⟨_, rfl⟩
      have hw := hw.to hM_101.symm
      have iM_101 : mI M_101 := mI_up (i := 4) iM_100 hM_101 (ib_mk (lo := 0) (hi := 64) (by decide) (by decide))
      refine lv_iinc (v := 5) (lv' := [(2, .int 5), (0, .ref (A 60 0)), (1, .int nn)]) hx hb dX10_text_142 hl (k := 0) rfl (by decide) (by decide) rfl (fun ls hl => ?_)
      refine lv_goto (tgt := 122) hx hb dX10_text_145 (by decide) ?_
      refine lv_iload_n hx hb dX10_text_122 rfl (lv_at hl 0 rfl) ?_
      refine lv_bipush (v := 6) hx hb dX10_text_123 (by decide) ?_
      refine sb_icmp_ge (tgt := 148) hx hb (by decide : (5 : Int32).toInt = 5) (by decide : (6 : Int32).toInt = 6) dX10_text_125 (by decide) (fun h => absurd h (by decide)) (fun c_125_101 => ?_)
      refine lv_aload_n hx hb dX10_text_128 rfl (lv_at hl 1 rfl) ?_
      refine ti_get (ci := 10) (k := 14) (N := 67) (T := TX10) (v := .ref (A 60 15)) C hw iw_10 rfl ob_60 (by decide) (by decide) fl_X10_46 rfl rfl dX10_text_129 ?_
      refine lv_iload_n hx hb dX10_text_132 rfl (lv_at hl 0 rfl) ?_
      refine lv_iconst (v := 0) hx hb dX10_text_133 (by decide) ?_
      refine ti_iast (ci := 10) (k := 14) (n := 6) C hw ob_60 (by decide) (fun _ _ => rfl) (by unfold vp_in; decide) dX10_text_134 (fun H locs hw => ?_)
      obtain ⟨M_103, hM_103⟩ : ∃ z : ti_M, z = uY M_101 60 14 (upd (tY M_101 60 14) (5 : Int32).toNatClampNeg 0) := ⟨_, rfl⟩
      have hw := hw.to hM_103.symm
      have iM_103 : mI M_103 := mI_up (i := 5) iM_101 hM_103 (ib_mk (lo := 0) (hi := 64) (by decide) (by decide))
      refine lv_aload_n hx hb dX10_text_135 rfl (lv_at hl 1 rfl) ?_
      refine ti_get (ci := 10) (k := 15) (N := 67) (T := TX10) (v := .ref (A 60 16)) C hw iw_10 rfl ob_60 (by decide) (by decide) fl_X10_49 rfl rfl dX10_text_136 ?_
      refine lv_iload_n hx hb dX10_text_139 rfl (lv_at hl 0 rfl) ?_
      refine lv_iconst (v := 0) hx hb dX10_text_140 (by decide) ?_
      refine ti_iast (ci := 10) (k := 15) (n := 6) C hw ob_60 (by decide) (fun _ _ => rfl) (by unfold vp_in; decide) dX10_text_141 (fun H locs hw => ?_)
      obtain ⟨M_104, hM_104⟩ : ∃ z : ti_M, z = uY M_103 60 15 (upd (tY M_103 60 15) (5 : Int32).toNatClampNeg 0) := ⟨_, rfl⟩
      have hw := hw.to hM_104.symm
      have iM_104 : mI M_104 := mI_up (i := 5) iM_103 hM_104 (ib_mk (lo := 0) (hi := 64) (by decide) (by decide))
      refine lv_iinc (v := 6) (lv' := [(2, .int 6), (0, .ref (A 60 0)), (1, .int nn)]) hx hb dX10_text_142 hl (k := 0) rfl (by decide) (by decide) rfl (fun ls hl => ?_)
      refine lv_goto (tgt := 122) hx hb dX10_text_145 (by decide) ?_
      refine lv_iload_n hx hb dX10_text_122 rfl (lv_at hl 0 rfl) ?_
      refine lv_bipush (v := 6) hx hb dX10_text_123 (by decide) ?_
      refine sb_icmp_ge (tgt := 148) hx hb (by decide : (6 : Int32).toInt = 6) (by decide : (6 : Int32).toInt = 6) dX10_text_125 (by decide) (fun c_125_104 => ?_) (fun h => absurd h (by decide))
      refine lv_aload_n hx hb dX10_text_148 rfl (lv_at hl 1 rfl) ?_
      refine lv_iconst (v := 0) hx hb dX10_text_149 (by decide) ?_
      refine ti_putI (ci := 10) (k := 18) (N := 67) (T := TX10) C hw iw_10 tyX10 tyX10_ok nmX10 rfl ob_60 (by decide) (by decide) fl_X10_228 rfl rfl rfl rfl (fn_10 A _) fs_10_18 dX10_text_150 (fun H locs hw => ?_)
      obtain ⟨M_106, hM_106⟩ : ∃ z : ti_M, z = uI M_104 60 18 0 := ⟨_, rfl⟩
      have hw := hw.to hM_106.symm
      have iM_106 : mI M_106 := mI_uI iM_104 hM_106 (by decide) (by decide) trivial
      refine lv_aload_n hx hb dX10_text_153 rfl (lv_at hl 1 rfl) ?_
      refine lv_iconst (v := 0) hx hb dX10_text_154 (by decide) ?_
      refine ti_putI (ci := 10) (k := 19) (N := 67) (T := TX10) C hw iw_10 tyX10 tyX10_ok nmX10 rfl ob_60 (by decide) (by decide) fl_X10_254 rfl rfl rfl rfl (fn_10 A _) fs_10_19 dX10_text_155 (fun H locs hw => ?_)
      obtain ⟨M_107, hM_107⟩ : ∃ z : ti_M, z = uI M_106 60 19 0 := ⟨_, rfl⟩
      have hw := hw.to hM_107.symm
      have iM_107 : mI M_107 := mI_uI iM_106 hM_107 (by decide) (by decide) trivial
      refine lv_aload_n hx hb dX10_text_158 rfl (lv_at hl 1 rfl) ?_
      refine lv_iconst (v := 0) hx hb dX10_text_159 (by decide) ?_
      refine ti_putI (ci := 10) (k := 29) (N := 67) (T := TX10) C hw iw_10 tyX10 tyX10_ok nmX10 rfl ob_60 (by decide) (by decide) fl_X10_297 rfl rfl rfl rfl (fn_10 A _) fs_10_29 dX10_text_160 (fun H locs hw => ?_)
      obtain ⟨M_108, hM_108⟩ : ∃ z : ti_M, z = uI M_107 60 29 0 := ⟨_, rfl⟩
      have hw := hw.to hM_108.symm
      have iM_108 : mI M_108 := mI_uI iM_107 hM_108 (by decide) (by decide) (ib_mk (lo := 0) (hi := 8) (by decide) (by decide))
      have vM_108 : (tI M_108 60 29).toInt = 0 := by rw [tI_uE hM_108]; decide
      refine lv_aload_n hx hb dX10_text_163 rfl (lv_at hl 1 rfl) ?_
      refine lv_iconst (v := 0) hx hb dX10_text_164 (by decide) ?_
      refine ti_putI (ci := 10) (k := 30) (N := 67) (T := TX10) C hw iw_10 tyX10 tyX10_ok nmX10 rfl ob_60 (by decide) (by decide) fl_X10_273 rfl rfl rfl rfl (fn_10 A _) fs_10_30 dX10_text_165 (fun H locs hw => ?_)
      obtain ⟨M_109, hM_109⟩ : ∃ z : ti_M, z = uI M_108 60 30 0 := ⟨_, rfl⟩
      have hw := hw.to hM_109.symm
      have iM_109 : mI M_109 := mI_uI iM_108 hM_109 (by decide) (by decide) (ib_mk (lo := 0) (hi := 64) (by decide) (by decide))
      have vM_109 : (tI M_109 60 30).toInt = 0 := by rw [tI_uE hM_109]; decide
      have f1 : ff M_109 = 1 := ff_1 (by rw [((tI_nE hM_109 (nk (by decide))).trans ((tI_nE hM_108 (nk (by decide))).trans ((tI_nE hM_107 (nk (by decide))).trans ((tI_nE hM_106 (nk (by decide))).trans ((tI_uYE hM_104).trans ((tI_uYE hM_103).trans ((tI_uYE hM_101).trans ((tI_uYE hM_100).trans ((tI_uYE hM_98).trans ((tI_uYE hM_97).trans ((tI_uYE hM_94).trans ((tI_uYE hM_88).trans ((tI_uYE hM_79).trans ((tI_uYE hM_70).trans ((tI_uYE hM_61).trans ((tI_uYE hM_52).trans ((tI_uYE hM_43).trans ((tI_uYE hM_35).trans ((tI_uYE hM_28).trans ((tI_uYE hM_23).trans ((tI_uYE hM_19).trans ((tI_nE hM_10 (nk (by decide))).trans (tI_uE hM_9)))))))))))))))))))))))]; decide)
      have f29 : (tI M_109 60 29).toInt = 0 := by rw [((tI_nE hM_109 (nk (by decide))).trans (tI_uE hM_108))]; decide
      have f30 : (tI M_109 60 30).toInt = 0 := by rw [(tI_uE hM_109)]; decide
      have f18 : (tY M_109 60 3 18).toInt = 0 := by rw [((cg (tY_uIE hM_109) 18).trans ((cg (tY_uIE hM_108) 18).trans ((cg (tY_uIE hM_107) 18).trans ((cg (tY_uIE hM_106) 18).trans ((cg (tY_nE hM_104 (nk (by decide))) 18).trans ((cg (tY_nE hM_103 (nk (by decide))) 18).trans ((cg (tY_nE hM_101 (nk (by decide))) 18).trans ((cg (tY_nE hM_100 (nk (by decide))) 18).trans ((cg (tY_nE hM_98 (nk (by decide))) 18).trans ((cg (tY_nE hM_97 (nk (by decide))) 18).trans (((cg (tY_uE hM_94) 18).trans (pk_un (by decide))).trans (((cg (tY_uE hM_88) 18).trans (pk_un (by decide))).trans (((cg (tY_uE hM_79) 18).trans (pk_un (by decide))).trans ((cg (tY_uE hM_70) 18).trans (upl (by decide))))))))))))))))]; decide
      have fu : um M_109 := um_0 iM_109 ((cg (tY_uIE hM_109) 3).trans ((cg (tY_uIE hM_108) 3).trans ((cg (tY_uIE hM_107) 3).trans ((cg (tY_uIE hM_106) 3).trans ((cg (tY_nE hM_104 (nk (by decide))) 3).trans (((cg (tY_uE hM_103) 3).trans (pk_un (by decide))).trans ((cg (tY_nE hM_101 (nk (by decide))) 3).trans (((cg (tY_uE hM_100) 3).trans (pk_un (by decide))).trans ((cg (tY_nE hM_98 (nk (by decide))) 3).trans ((cg (tY_uE hM_97) 3).trans (upl (by decide)))))))))))) ((cg (tY_uIE hM_109) 4).trans ((cg (tY_uIE hM_108) 4).trans ((cg (tY_uIE hM_107) 4).trans ((cg (tY_uIE hM_106) 4).trans ((cg (tY_nE hM_104 (nk (by decide))) 4).trans (((cg (tY_uE hM_103) 4).trans (pk_un (by decide))).trans ((cg (tY_nE hM_101 (nk (by decide))) 4).trans ((cg (tY_uE hM_100) 4).trans (upl (by decide)))))))))) ((cg (tY_uIE hM_109) 5).trans ((cg (tY_uIE hM_108) 5).trans ((cg (tY_uIE hM_107) 5).trans ((cg (tY_uIE hM_106) 5).trans ((cg (tY_nE hM_104 (nk (by decide))) 5).trans ((cg (tY_uE hM_103) 5).trans (upl (by decide)))))))) ((cg (tY_uIE hM_109) 3).trans ((cg (tY_uIE hM_108) 3).trans ((cg (tY_uIE hM_107) 3).trans ((cg (tY_uIE hM_106) 3).trans (((cg (tY_uE hM_104) 3).trans (pk_un (by decide))).trans ((cg (tY_nE hM_103 (nk (by decide))) 3).trans (((cg (tY_uE hM_101) 3).trans (pk_un (by decide))).trans ((cg (tY_nE hM_100 (nk (by decide))) 3).trans ((cg (tY_uE hM_98) 3).trans (upl (by decide))))))))))) ((cg (tY_uIE hM_109) 4).trans ((cg (tY_uIE hM_108) 4).trans ((cg (tY_uIE hM_107) 4).trans ((cg (tY_uIE hM_106) 4).trans (((cg (tY_uE hM_104) 4).trans (pk_un (by decide))).trans ((cg (tY_nE hM_103 (nk (by decide))) 4).trans ((cg (tY_uE hM_101) 4).trans (upl (by decide))))))))) ((cg (tY_uIE hM_109) 5).trans ((cg (tY_uIE hM_108) 5).trans ((cg (tY_uIE hM_107) 5).trans ((cg (tY_uIE hM_106) 5).trans ((cg (tY_uE hM_104) 5).trans (upl (by decide)))))))
      refine lv_aload_n hx hb dX10_text_168 rfl (lv_at hl 1 rfl) ?_
      refine ti_callVvE (ci := 10) (av := []) C hE hw (s_X10_token l D A cy hJ M_109 iM_109 ) ⟨ml_X10_214, ym_X10_token, yv_X10_token, yi_X10_token, yc_X10_token⟩ yd_X10_token ob_60 (by decide) rfl rfl hl.1 (Nat.le_of_ble_eq_true rfl) ⟨by decide, by decide⟩ ⟨Nat.zero_le _, Nat.zero_le _⟩ dX10_text_169 (fun M_111 H locs hp_111 hw => ?_)
      obtain ⟨iM_111, q_112, z_113, z_114, z_115, z_116, z_117, z_118⟩ := l_tk hp_111
      clear hp_111
      have hl_172_132 : ∀ (n_133 : Nat) (M_119 : ti_M) (H : Heap) (locs : List Loc) (ls : Array Slot), (1401 - pg M_119 + ff M_119 : Int).toNat < n_133 → (mI M_119) → (lx M_119 M) → (tI M_119 60 2 = 0) → (0 ≤ ff M_119) → (ff M_119 ≤ 1) → ((tY M_119 60 3 18).toInt ≤ (tI M_119 60 30).toInt + 64 - 64 * ff M_119) → ((tI M_119 60 29).toInt ≤ 8 - 8 * ff M_119) → (0 ≤ (tY M_119 60 3 18).toInt) → ((tY M_119 60 3 18).toInt ≤ 64) → (0 ≤ (tI M_119 60 29).toInt) → ((tI M_119 60 29).toInt ≤ 8) → (0 ≤ (tI M_119 60 30).toInt) → ((tI M_119 60 30).toInt ≤ 64) → (um M_119) → ti_H ti_LM D A cy H0 M_119 H locs → lv_has ls 3 [(2, .int 6), (0, .ref (A 60 0)), (1, .int nn)] → W p l e (ti_rm 652) s m args below meth c H locs 0 0 Q (F0 m 172 ls []) := by
        intro n_133
        induction n_133 with
        | zero => intro M_119 H locs ls hf_133; exact absurd hf_133 (Nat.not_lt_zero _)
        | succ n_133 ih_133 =>
          intro M_119 H locs ls hf_133 iM_119 f_120 f_121 j_122 j_123 j_124 j_125 j_126 j_127 j_128 j_129 j_130 j_131 j_132 hw hl
          have gb := pg_b M_119
          have gc := b21 iM_119
          refine lv_aload_n hx hb dX10_text_172 rfl (lv_at hl 1 rfl) ?_
          refine ti_get (ci := 10) (k := 25) (N := 67) (T := TX10) C hw iw_10 rfl ob_60 (by decide) (by decide) fl_X10_208 rfl rfl dX10_text_173 ?_
          refine lv_topi (fun x_134 ex_134 => ?_)
          have u_135 : (tI M_119 60 25).toInt = x_134.toInt := by rw [ex_134]
          have ufx_134 : (tI M_119 60 25).toInt = x_134.toInt := by rw [ex_134]
          refine sb_if_ne (tgt := 194) hx hb rfl dX10_text_176 (by decide) (fun c_176_135 => ?_) (fun c_176_135 => ?_)
          · have z_137 : ff M_119 = 0 := ff_0 (fun h => c_176_135 (ufx_134.symm.trans h))
            clear c_176_135
            refine lv_aload_n hx hb dX10_text_194 rfl (lv_at hl 1 rfl) ?_
            refine lv_aload_n hx hb dX10_text_195 rfl (lv_at hl 1 rfl) ?_
            refine ti_get (ci := 10) (k := 25) (N := 67) (T := TX10) C hw iw_10 rfl ob_60 (by decide) (by decide) fl_X10_208 rfl rfl dX10_text_196 ?_
            refine ti_top (y := x_134) (ex_134.symm) ?_
            refine ti_putI (ci := 10) (k := 27) (N := 67) (T := TX10) C hw iw_10 tyX10 tyX10_ok nmX10 rfl ob_60 (by decide) (by decide) fl_X10_303 rfl rfl rfl rfl (fn_10 A _) fs_10_27 dX10_text_199 (fun H locs hw => ?_)
            obtain ⟨M_155, hM_155⟩ : ∃ z : ti_M, z = uI M_119 60 27 x_134 := ⟨_, rfl⟩
            have hw := hw.to hM_155.symm
            have iM_155 : mI M_155 := mI_uI iM_119 hM_155 (by decide) (by decide) trivial
            have z_156 : ff M_155 = ff M_119 := ff_I hM_155 (by decide)
            have z_157 : pg M_155 = pg M_119 := pg_I hM_155 (by decide)
            have z_158 : (tI M_155 60 29).toInt = (tI M_119 60 29).toInt := by rw [tI_nE hM_155 (nk (by decide))]
            have z_159 : (tI M_155 60 30).toInt = (tI M_119 60 30).toInt := by rw [tI_nE hM_155 (nk (by decide))]
            have z_160 : (tY M_155 60 3 18).toInt = (tY M_119 60 3 18).toInt := by rw [tY_uIE hM_155]
            refine lv_aload_n hx hb dX10_text_202 rfl (lv_at hl 1 rfl) ?_
            refine lv_aload_n hx hb dX10_text_203 rfl (lv_at hl 1 rfl) ?_
            refine ti_get (ci := 10) (k := 26) (N := 67) (T := TX10) C hw iw_10 rfl ob_60 (by decide) (by decide) fl_X10_211 rfl rfl dX10_text_204 ?_
            refine lv_topi (fun x_161 ex_161 => ?_)
            refine ti_putI (ci := 10) (k := 28) (N := 67) (T := TX10) C hw iw_10 tyX10 tyX10_ok nmX10 rfl ob_60 (by decide) (by decide) fl_X10_58 rfl rfl rfl rfl (fn_10 A _) fs_10_28 dX10_text_207 (fun H locs hw => ?_)
            obtain ⟨M_162, hM_162⟩ : ∃ z : ti_M, z = uI M_155 60 28 x_161 := ⟨_, rfl⟩
            have hw := hw.to hM_162.symm
            have iM_162 : mI M_162 := mI_uI iM_155 hM_162 (by decide) (by decide) trivial
            have z_163 : ff M_162 = ff M_155 := ff_I hM_162 (by decide)
            have z_164 : pg M_162 = pg M_155 := pg_I hM_162 (by decide)
            have z_165 : (tI M_162 60 29).toInt = (tI M_155 60 29).toInt := by rw [tI_nE hM_162 (nk (by decide))]
            have z_166 : (tI M_162 60 30).toInt = (tI M_155 60 30).toInt := by rw [tI_nE hM_162 (nk (by decide))]
            have z_167 : (tY M_162 60 3 18).toInt = (tY M_155 60 3 18).toInt := by rw [tY_uIE hM_162]
            refine lv_aload_n hx hb dX10_text_210 rfl (lv_at hl 1 rfl) ?_
            refine ti_get (ci := 10) (k := 25) (N := 67) (T := TX10) C hw iw_10 rfl ob_60 (by decide) (by decide) fl_X10_208 rfl rfl dX10_text_211 ?_
            refine ti_top (y := x_134) ((tI_nE hM_162 (nk (by decide))).trans ((tI_nE hM_155 (nk (by decide))).trans ex_134.symm)) ?_
            refine sb_if_eq (tgt := 219) hx hb rfl dX10_text_214 (by decide) (fun c_214_167 => by have z_169 : ff M_119 = 1 := ff_1 (ufx_134.trans c_214_167); omega) (fun c_214_167 => ?_)
            have z_169 : ff M_119 = 0 := ff_0 (fun h => c_214_167 (ufx_134.symm.trans h))
            clear c_214_167
            refine lv_iconst (v := (-1)) hx hb dX10_text_217 (by decide) ?_
            exact hQ _ _ _ _ _ _ hw rfl (⟨mF_lx hF iM_162 (lx.trans (lx_I hM_162 (by decide)) (lx.trans (lx_I hM_155 (by decide)) f_120)), Or.inr ⟨by omega, ((tI_nE hM_162 (nk (by decide))).trans ((tI_nE hM_155 (nk (by decide))).trans f_121))⟩⟩) dX10_text_218
          · have z_137 : ff M_119 = 1 := ff_1 (ufx_134.trans c_176_135)
            clear c_176_135
            refine lv_aload_n hx hb dX10_text_179 rfl (lv_at hl 1 rfl) ?_
            refine ti_get (ci := 10) (k := 23) (N := 67) (T := TX10) C hw iw_10 rfl ob_60 (by decide) (by decide) fl_X10_173 rfl rfl dX10_text_180 ?_
            refine lv_topi (fun x_138 ex_138 => ?_)
            refine lv_iconst (v := 4) hx hb dX10_text_183 (by decide) ?_
            refine sb_icmp_eq (tgt := 194) hx hb rfl (by decide : (4 : Int32).toInt = 4) dX10_text_184 (by decide) (fun c_184_138 => ?_) (fun c_184_138 => ?_)
            · refine lv_aload_n hx hb dX10_text_194 rfl (lv_at hl 1 rfl) ?_
              refine lv_aload_n hx hb dX10_text_195 rfl (lv_at hl 1 rfl) ?_
              refine ti_get (ci := 10) (k := 25) (N := 67) (T := TX10) C hw iw_10 rfl ob_60 (by decide) (by decide) fl_X10_208 rfl rfl dX10_text_196 ?_
              refine ti_top (y := x_134) (ex_134.symm) ?_
              refine ti_putI (ci := 10) (k := 27) (N := 67) (T := TX10) C hw iw_10 tyX10 tyX10_ok nmX10 rfl ob_60 (by decide) (by decide) fl_X10_303 rfl rfl rfl rfl (fn_10 A _) fs_10_27 dX10_text_199 (fun H locs hw => ?_)
              obtain ⟨M_170, hM_170⟩ : ∃ z : ti_M, z = uI M_119 60 27 x_134 := ⟨_, rfl⟩
              have hw := hw.to hM_170.symm
              have iM_170 : mI M_170 := mI_uI iM_119 hM_170 (by decide) (by decide) trivial
              have z_171 : ff M_170 = ff M_119 := ff_I hM_170 (by decide)
              have z_172 : pg M_170 = pg M_119 := pg_I hM_170 (by decide)
              have z_173 : (tI M_170 60 29).toInt = (tI M_119 60 29).toInt := by rw [tI_nE hM_170 (nk (by decide))]
              have z_174 : (tI M_170 60 30).toInt = (tI M_119 60 30).toInt := by rw [tI_nE hM_170 (nk (by decide))]
              have z_175 : (tY M_170 60 3 18).toInt = (tY M_119 60 3 18).toInt := by rw [tY_uIE hM_170]
              refine lv_aload_n hx hb dX10_text_202 rfl (lv_at hl 1 rfl) ?_
              refine lv_aload_n hx hb dX10_text_203 rfl (lv_at hl 1 rfl) ?_
              refine ti_get (ci := 10) (k := 26) (N := 67) (T := TX10) C hw iw_10 rfl ob_60 (by decide) (by decide) fl_X10_211 rfl rfl dX10_text_204 ?_
              refine lv_topi (fun x_176 ex_176 => ?_)
              refine ti_putI (ci := 10) (k := 28) (N := 67) (T := TX10) C hw iw_10 tyX10 tyX10_ok nmX10 rfl ob_60 (by decide) (by decide) fl_X10_58 rfl rfl rfl rfl (fn_10 A _) fs_10_28 dX10_text_207 (fun H locs hw => ?_)
              obtain ⟨M_177, hM_177⟩ : ∃ z : ti_M, z = uI M_170 60 28 x_176 := ⟨_, rfl⟩
              have hw := hw.to hM_177.symm
              have iM_177 : mI M_177 := mI_uI iM_170 hM_177 (by decide) (by decide) trivial
              have z_178 : ff M_177 = ff M_170 := ff_I hM_177 (by decide)
              have z_179 : pg M_177 = pg M_170 := pg_I hM_177 (by decide)
              have z_180 : (tI M_177 60 29).toInt = (tI M_170 60 29).toInt := by rw [tI_nE hM_177 (nk (by decide))]
              have z_181 : (tI M_177 60 30).toInt = (tI M_170 60 30).toInt := by rw [tI_nE hM_177 (nk (by decide))]
              have z_182 : (tY M_177 60 3 18).toInt = (tY M_170 60 3 18).toInt := by rw [tY_uIE hM_177]
              refine lv_aload_n hx hb dX10_text_210 rfl (lv_at hl 1 rfl) ?_
              refine ti_get (ci := 10) (k := 25) (N := 67) (T := TX10) C hw iw_10 rfl ob_60 (by decide) (by decide) fl_X10_208 rfl rfl dX10_text_211 ?_
              refine ti_top (y := x_134) ((tI_nE hM_177 (nk (by decide))).trans ((tI_nE hM_170 (nk (by decide))).trans ex_134.symm)) ?_
              refine sb_if_eq (tgt := 219) hx hb rfl dX10_text_214 (by decide) (fun c_214_182 => ?_) (fun c_214_182 => by have z_184 : ff M_119 = 0 := ff_0 (fun h => c_214_182 (ufx_134.symm.trans h)); omega)
              have z_184 : ff M_119 = 1 := ff_1 (ufx_134.trans c_214_182)
              clear c_214_182
              refine lv_aload_n hx hb dX10_text_219 rfl (lv_at hl 1 rfl) ?_
              refine ti_get (ci := 10) (k := 3) (N := 67) (T := TX10) (v := .ref (A 60 4)) C hw iw_10 rfl ob_60 (by decide) (by decide) fl_X10_13 rfl rfl dX10_text_220 ?_
              refine ti_callSv (av := [.ref (A 60 4)]) C hw (s_X10_half_3 l D A cy hJ M_177 iM_177 ) ⟨ml_X10_306, ys_X10_half, yi_X10_half, yc_X10_half⟩ yd_X10_half rfl hl.1 (Nat.le_of_ble_eq_true rfl) ⟨by decide, by decide⟩ ⟨Nat.zero_le _, Nat.zero_le _⟩ dX10_text_223 (fun M_186 H locs hp_186 hw => ?_)
              obtain ⟨iM_186, q_187⟩ := hp_186
              refine lv_aload_n hx hb dX10_text_226 rfl (lv_at hl 1 rfl) ?_
              refine ti_get (ci := 10) (k := 4) (N := 67) (T := TX10) (v := .ref (A 60 5)) C hw iw_10 rfl ob_60 (by decide) (by decide) fl_X10_16 rfl rfl dX10_text_227 ?_
              refine ti_callSv (av := [.ref (A 60 5)]) C hw (s_X10_half_4 l D A cy hJ M_186 iM_186 ) ⟨ml_X10_306, ys_X10_half, yi_X10_half, yc_X10_half⟩ yd_X10_half rfl hl.1 (Nat.le_of_ble_eq_true rfl) ⟨by decide, by decide⟩ ⟨Nat.zero_le _, Nat.zero_le _⟩ dX10_text_230 (fun M_189 H locs hp_189 hw => ?_)
              obtain ⟨iM_189, q_190⟩ := hp_189
              refine lv_aload_n hx hb dX10_text_233 rfl (lv_at hl 1 rfl) ?_
              refine ti_get (ci := 10) (k := 5) (N := 67) (T := TX10) (v := .ref (A 60 6)) C hw iw_10 rfl ob_60 (by decide) (by decide) fl_X10_19 rfl rfl dX10_text_234 ?_
              refine ti_callSv (av := [.ref (A 60 6)]) C hw (s_X10_half_5 l D A cy hJ M_189 iM_189 ) ⟨ml_X10_306, ys_X10_half, yi_X10_half, yc_X10_half⟩ yd_X10_half rfl hl.1 (Nat.le_of_ble_eq_true rfl) ⟨by decide, by decide⟩ ⟨Nat.zero_le _, Nat.zero_le _⟩ dX10_text_237 (fun M_192 H locs hp_192 hw => ?_)
              obtain ⟨iM_192, q_193⟩ := hp_192
              refine lv_aload_n hx hb dX10_text_240 rfl (lv_at hl 1 rfl) ?_
              refine ti_get (ci := 10) (k := 6) (N := 67) (T := TX10) (v := .ref (A 60 7)) C hw iw_10 rfl ob_60 (by decide) (by decide) fl_X10_22 rfl rfl dX10_text_241 ?_
              refine ti_callSv (av := [.ref (A 60 7)]) C hw (s_X10_half_6 l D A cy hJ M_192 iM_192 ) ⟨ml_X10_306, ys_X10_half, yi_X10_half, yc_X10_half⟩ yd_X10_half rfl hl.1 (Nat.le_of_ble_eq_true rfl) ⟨by decide, by decide⟩ ⟨Nat.zero_le _, Nat.zero_le _⟩ dX10_text_244 (fun M_195 H locs hp_195 hw => ?_)
              obtain ⟨iM_195, q_196⟩ := hp_195
              refine lv_aload_n hx hb dX10_text_247 rfl (lv_at hl 1 rfl) ?_
              refine ti_get (ci := 10) (k := 7) (N := 67) (T := TX10) (v := .ref (A 60 8)) C hw iw_10 rfl ob_60 (by decide) (by decide) fl_X10_25 rfl rfl dX10_text_248 ?_
              refine ti_callSv (av := [.ref (A 60 8)]) C hw (s_X10_half_7 l D A cy hJ M_195 iM_195 ) ⟨ml_X10_306, ys_X10_half, yi_X10_half, yc_X10_half⟩ yd_X10_half rfl hl.1 (Nat.le_of_ble_eq_true rfl) ⟨by decide, by decide⟩ ⟨Nat.zero_le _, Nat.zero_le _⟩ dX10_text_251 (fun M_198 H locs hp_198 hw => ?_)
              obtain ⟨iM_198, q_199⟩ := hp_198
              refine lv_aload_n hx hb dX10_text_254 rfl (lv_at hl 1 rfl) ?_
              refine ti_get (ci := 10) (k := 8) (N := 67) (T := TX10) (v := .ref (A 60 9)) C hw iw_10 rfl ob_60 (by decide) (by decide) fl_X10_28 rfl rfl dX10_text_255 ?_
              refine ti_callSv (av := [.ref (A 60 9)]) C hw (s_X10_half_8 l D A cy hJ M_198 iM_198 ) ⟨ml_X10_306, ys_X10_half, yi_X10_half, yc_X10_half⟩ yd_X10_half rfl hl.1 (Nat.le_of_ble_eq_true rfl) ⟨by decide, by decide⟩ ⟨Nat.zero_le _, Nat.zero_le _⟩ dX10_text_258 (fun M_201 H locs hp_201 hw => ?_)
              obtain ⟨iM_201, q_202⟩ := hp_201
              refine lv_aload_n hx hb dX10_text_261 rfl (lv_at hl 1 rfl) ?_
              refine ti_get (ci := 10) (k := 9) (N := 67) (T := TX10) (v := .ref (A 60 10)) C hw iw_10 rfl ob_60 (by decide) (by decide) fl_X10_31 rfl rfl dX10_text_262 ?_
              refine ti_callSv (av := [.ref (A 60 10)]) C hw (s_X10_half_9 l D A cy hJ M_201 iM_201 ) ⟨ml_X10_306, ys_X10_half, yi_X10_half, yc_X10_half⟩ yd_X10_half rfl hl.1 (Nat.le_of_ble_eq_true rfl) ⟨by decide, by decide⟩ ⟨Nat.zero_le _, Nat.zero_le _⟩ dX10_text_265 (fun M_204 H locs hp_204 hw => ?_)
              obtain ⟨iM_204, q_205⟩ := hp_204
              refine lv_aload_n hx hb dX10_text_268 rfl (lv_at hl 1 rfl) ?_
              refine ti_get (ci := 10) (k := 10) (N := 67) (T := TX10) (v := .ref (A 60 11)) C hw iw_10 rfl ob_60 (by decide) (by decide) fl_X10_34 rfl rfl dX10_text_269 ?_
              refine ti_callSv (av := [.ref (A 60 11)]) C hw (s_X10_half_10 l D A cy hJ M_204 iM_204 ) ⟨ml_X10_306, ys_X10_half, yi_X10_half, yc_X10_half⟩ yd_X10_half rfl hl.1 (Nat.le_of_ble_eq_true rfl) ⟨by decide, by decide⟩ ⟨Nat.zero_le _, Nat.zero_le _⟩ dX10_text_272 (fun M_207 H locs hp_207 hw => ?_)
              obtain ⟨iM_207, q_208⟩ := hp_207
              refine lv_aload_n hx hb dX10_text_275 rfl (lv_at hl 1 rfl) ?_
              refine ti_get (ci := 10) (k := 11) (N := 67) (T := TX10) (v := .ref (A 60 12)) C hw iw_10 rfl ob_60 (by decide) (by decide) fl_X10_37 rfl rfl dX10_text_276 ?_
              refine ti_callSv (av := [.ref (A 60 12)]) C hw (s_X10_half_11 l D A cy hJ M_207 iM_207 ) ⟨ml_X10_306, ys_X10_half, yi_X10_half, yc_X10_half⟩ yd_X10_half rfl hl.1 (Nat.le_of_ble_eq_true rfl) ⟨by decide, by decide⟩ ⟨Nat.zero_le _, Nat.zero_le _⟩ dX10_text_279 (fun M_210 H locs hp_210 hw => ?_)
              obtain ⟨iM_210, q_211⟩ := hp_210
              refine lv_aload_n hx hb dX10_text_282 rfl (lv_at hl 1 rfl) ?_
              refine ti_get (ci := 10) (k := 12) (N := 67) (T := TX10) (v := .ref (A 60 13)) C hw iw_10 rfl ob_60 (by decide) (by decide) fl_X10_40 rfl rfl dX10_text_283 ?_
              refine ti_callSv (av := [.ref (A 60 13)]) C hw (s_X10_half_12 l D A cy hJ M_210 iM_210 ) ⟨ml_X10_306, ys_X10_half, yi_X10_half, yc_X10_half⟩ yd_X10_half rfl hl.1 (Nat.le_of_ble_eq_true rfl) ⟨by decide, by decide⟩ ⟨Nat.zero_le _, Nat.zero_le _⟩ dX10_text_286 (fun M_213 H locs hp_213 hw => ?_)
              obtain ⟨iM_213, q_214⟩ := hp_213
              refine lv_aload_n hx hb dX10_text_289 rfl (lv_at hl 1 rfl) ?_
              refine ti_get (ci := 10) (k := 13) (N := 67) (T := TX10) (v := .ref (A 60 14)) C hw iw_10 rfl ob_60 (by decide) (by decide) fl_X10_43 rfl rfl dX10_text_290 ?_
              refine ti_callSv (av := [.ref (A 60 14)]) C hw (s_X10_half_13 l D A cy hJ M_213 iM_213 ) ⟨ml_X10_306, ys_X10_half, yi_X10_half, yc_X10_half⟩ yd_X10_half rfl hl.1 (Nat.le_of_ble_eq_true rfl) ⟨by decide, by decide⟩ ⟨Nat.zero_le _, Nat.zero_le _⟩ dX10_text_293 (fun M_216 H locs hp_216 hw => ?_)
              obtain ⟨iM_216, q_217⟩ := hp_216
              refine lv_aload_n hx hb dX10_text_296 rfl (lv_at hl 1 rfl) ?_
              refine ti_get (ci := 10) (k := 14) (N := 67) (T := TX10) (v := .ref (A 60 15)) C hw iw_10 rfl ob_60 (by decide) (by decide) fl_X10_46 rfl rfl dX10_text_297 ?_
              refine ti_callSv (av := [.ref (A 60 15)]) C hw (s_X10_half_14 l D A cy hJ M_216 iM_216 ) ⟨ml_X10_306, ys_X10_half, yi_X10_half, yc_X10_half⟩ yd_X10_half rfl hl.1 (Nat.le_of_ble_eq_true rfl) ⟨by decide, by decide⟩ ⟨Nat.zero_le _, Nat.zero_le _⟩ dX10_text_300 (fun M_219 H locs hp_219 hw => ?_)
              obtain ⟨iM_219, q_220⟩ := hp_219
              refine lv_aload_n hx hb dX10_text_303 rfl (lv_at hl 1 rfl) ?_
              refine ti_get (ci := 10) (k := 15) (N := 67) (T := TX10) (v := .ref (A 60 16)) C hw iw_10 rfl ob_60 (by decide) (by decide) fl_X10_49 rfl rfl dX10_text_304 ?_
              refine ti_callSv (av := [.ref (A 60 16)]) C hw (s_X10_half_15 l D A cy hJ M_219 iM_219 ) ⟨ml_X10_306, ys_X10_half, yi_X10_half, yc_X10_half⟩ yd_X10_half rfl hl.1 (Nat.le_of_ble_eq_true rfl) ⟨by decide, by decide⟩ ⟨Nat.zero_le _, Nat.zero_le _⟩ dX10_text_307 (fun M_222 H locs hp_222 hw => ?_)
              obtain ⟨iM_222, q_223⟩ := hp_222
              refine lv_aload_n hx hb dX10_text_310 rfl (lv_at hl 1 rfl) ?_
              refine ti_get (ci := 10) (k := 16) (N := 67) (T := TX10) (v := .ref (A 60 17)) C hw iw_10 rfl ob_60 (by decide) (by decide) fl_X10_52 rfl rfl dX10_text_311 ?_
              refine ti_callSv (av := [.ref (A 60 17)]) C hw (s_X10_half_16 l D A cy hJ M_222 iM_222 ) ⟨ml_X10_306, ys_X10_half, yi_X10_half, yc_X10_half⟩ yd_X10_half rfl hl.1 (Nat.le_of_ble_eq_true rfl) ⟨by decide, by decide⟩ ⟨Nat.zero_le _, Nat.zero_le _⟩ dX10_text_314 (fun M_225 H locs hp_225 hw => ?_)
              obtain ⟨iM_225, q_226⟩ := hp_225
              refine lv_aload_n hx hb dX10_text_317 rfl (lv_at hl 1 rfl) ?_
              refine ti_get (ci := 10) (k := 17) (N := 67) (T := TX10) (v := .ref (A 60 18)) C hw iw_10 rfl ob_60 (by decide) (by decide) fl_X10_55 rfl rfl dX10_text_318 ?_
              refine ti_callSv (av := [.ref (A 60 18)]) C hw (s_X10_half_17 l D A cy hJ M_225 iM_225 ) ⟨ml_X10_306, ys_X10_half, yi_X10_half, yc_X10_half⟩ yd_X10_half rfl hl.1 (Nat.le_of_ble_eq_true rfl) ⟨by decide, by decide⟩ ⟨Nat.zero_le _, Nat.zero_le _⟩ dX10_text_321 (fun M_228 H locs hp_228 hw => ?_)
              obtain ⟨iM_228, q_229⟩ := hp_228
              refine lv_aload_n hx hb dX10_text_324 rfl (lv_at hl 1 rfl) ?_
              refine lv_iconst (v := 0) hx hb dX10_text_325 (by decide) ?_
              refine ti_putI (ci := 10) (k := 58) (N := 67) (T := TX10) C hw iw_10 tyX10 tyX10_ok nmX10 rfl ob_60 (by decide) (by decide) fl_X10_310 rfl rfl rfl rfl (fn_10 A _) fs_10_58 dX10_text_326 (fun H locs hw => ?_)
              obtain ⟨M_230, hM_230⟩ : ∃ z : ti_M, z = uI M_228 60 58 0 := ⟨_, rfl⟩
              have hw := hw.to hM_230.symm
              have iM_230 : mI M_230 := mI_uI iM_228 hM_230 (by decide) (by decide) (ib_mk (lo := 0) (hi := 24) (by decide) (by decide))
              have vM_230 : (tI M_230 60 58).toInt = 0 := by rw [tI_uE hM_230]; decide
              refine lv_aload_n hx hb dX10_text_329 rfl (lv_at hl 1 rfl) ?_
              refine lv_iconst (v := (-1)) hx hb dX10_text_330 (by decide) ?_
              refine ti_putI (ci := 10) (k := 59) (N := 67) (T := TX10) C hw iw_10 tyX10 tyX10_ok nmX10 rfl ob_60 (by decide) (by decide) fl_X10_132 rfl rfl rfl rfl (fn_10 A _) fs_10_59 dX10_text_331 (fun H locs hw => ?_)
              obtain ⟨M_231, hM_231⟩ : ∃ z : ti_M, z = uI M_230 60 59 (-1) := ⟨_, rfl⟩
              have hw := hw.to hM_231.symm
              have iM_231 : mI M_231 := mI_uI iM_230 hM_231 (by decide) (by decide) (ib_mk (lo := (-1)) (hi := 24) (by decide) (by decide))
              have vM_231 : (tI M_231 60 59).toInt = (-1) := by rw [tI_uE hM_231]; decide
              refine lv_aload_n hx hb dX10_text_334 rfl (lv_at hl 1 rfl) ?_
              refine lv_iconst (v := 0) hx hb dX10_text_335 (by decide) ?_
              refine ti_putI (ci := 10) (k := 51) (N := 67) (T := TX10) C hw iw_10 tyX10 tyX10_ok nmX10 rfl ob_60 (by decide) (by decide) fl_X10_313 rfl rfl rfl rfl (fn_10 A _) fs_10_51 dX10_text_336 (fun H locs hw => ?_)
              obtain ⟨M_232, hM_232⟩ : ∃ z : ti_M, z = uI M_231 60 51 0 := ⟨_, rfl⟩
              have hw := hw.to hM_232.symm
              have iM_232 : mI M_232 := mI_uI iM_231 hM_232 (by decide) (by decide) trivial
              refine lv_aload_n hx hb dX10_text_339 rfl (lv_at hl 1 rfl) ?_
              refine lv_iconst (v := 0) hx hb dX10_text_340 (by decide) ?_
              refine ti_putI (ci := 10) (k := 52) (N := 67) (T := TX10) C hw iw_10 tyX10 tyX10_ok nmX10 rfl ob_60 (by decide) (by decide) fl_X10_317 rfl rfl rfl rfl (fn_10 A _) fs_10_52 dX10_text_341 (fun H locs hw => ?_)
              obtain ⟨M_233, hM_233⟩ : ∃ z : ti_M, z = uI M_232 60 52 0 := ⟨_, rfl⟩
              have hw := hw.to hM_233.symm
              have iM_233 : mI M_233 := mI_uI iM_232 hM_233 (by decide) (by decide) (ib_mk (lo := 0) (hi := 20) (by decide) (by decide))
              have vM_233 : (tI M_233 60 52).toInt = 0 := by rw [tI_uE hM_233]; decide
              refine lv_aload_n hx hb dX10_text_344 rfl (lv_at hl 1 rfl) ?_
              refine ti_callVv (ci := 10) (av := []) C hw (s_X10_begins l D A cy hJ M_233 iM_233 ) ⟨ml_X10_151, ym_X10_begins, yv_X10_begins, yi_X10_begins, yc_X10_begins⟩ yd_X10_begins ob_60 (by decide) rfl rfl hl.1 (Nat.le_of_ble_eq_true rfl) ⟨by decide, by decide⟩ ⟨Nat.zero_le _, Nat.zero_le _⟩ dX10_text_345 (fun M_235 H locs hp_235 hw => ?_)
              obtain ⟨iM_235, q_236, q_237, q_238⟩ := hp_235
              refine lv_aload_n hx hb dX10_text_348 rfl (lv_at hl 1 rfl) ?_
              refine ti_get (ci := 10) (k := 19) (N := 67) (T := TX10) C hw iw_10 rfl ob_60 (by decide) (by decide) fl_X10_254 rfl rfl dX10_text_349 ?_
              refine lv_topi (fun x_239 ex_239 => ?_)
              have um9 : mU M_177 := ((um_l0 j_132 (l0.trans (l0_I hM_177 (by decide)) (l0_I hM_170 (by decide))) (by omega))).resolve_left (by omega)
              have mL9 : mL M_233 := mL_hv iM_177 um9 (fun i hi => ((cg (tY_uIE hM_233) i).trans ((cg (tY_uIE hM_232) i).trans ((cg (tY_uIE hM_231) i).trans ((cg (tY_uIE hM_230) i).trans ((cg (q_229.1 14 (by decide)) i).trans ((cg (q_226.1 14 (by decide)) i).trans ((cg (q_223.1 14 (by decide)) i).trans ((q_220.2.1 i hi).trans ((cg (q_217.1 14 (by decide)) _).trans ((cg (q_214.1 14 (by decide)) _).trans ((cg (q_211.1 14 (by decide)) _).trans ((cg (q_208.1 14 (by decide)) _).trans ((cg (q_205.1 14 (by decide)) _).trans ((cg (q_202.1 14 (by decide)) _).trans ((cg (q_199.1 14 (by decide)) _).trans ((cg (q_196.1 14 (by decide)) _).trans ((cg (q_193.1 14 (by decide)) _).trans ((cg (q_190.1 14 (by decide)) _).trans (cg (q_187.1 14 (by decide)) _)))))))))))))))))))) (fun i hi => ((cg (tY_uIE hM_233) i).trans ((cg (tY_uIE hM_232) i).trans ((cg (tY_uIE hM_231) i).trans ((cg (tY_uIE hM_230) i).trans ((cg (q_229.1 15 (by decide)) i).trans ((cg (q_226.1 15 (by decide)) i).trans ((q_223.2.1 i hi).trans ((cg (q_220.1 15 (by decide)) _).trans ((cg (q_217.1 15 (by decide)) _).trans ((cg (q_214.1 15 (by decide)) _).trans ((cg (q_211.1 15 (by decide)) _).trans ((cg (q_208.1 15 (by decide)) _).trans ((cg (q_205.1 15 (by decide)) _).trans ((cg (q_202.1 15 (by decide)) _).trans ((cg (q_199.1 15 (by decide)) _).trans ((cg (q_196.1 15 (by decide)) _).trans ((cg (q_193.1 15 (by decide)) _).trans ((cg (q_190.1 15 (by decide)) _).trans (cg (q_187.1 15 (by decide)) _)))))))))))))))))))) (fun i hi => ((cg (tY_uIE hM_233) i).trans ((cg (tY_uIE hM_232) i).trans ((cg (tY_uIE hM_231) i).trans ((cg (tY_uIE hM_230) i).trans ((cg (q_229.1 16 (by decide)) i).trans ((q_226.2.1 i hi).trans ((cg (q_223.1 16 (by decide)) _).trans ((cg (q_220.1 16 (by decide)) _).trans ((cg (q_217.1 16 (by decide)) _).trans ((cg (q_214.1 16 (by decide)) _).trans ((cg (q_211.1 16 (by decide)) _).trans ((cg (q_208.1 16 (by decide)) _).trans ((cg (q_205.1 16 (by decide)) _).trans ((cg (q_202.1 16 (by decide)) _).trans ((cg (q_199.1 16 (by decide)) _).trans ((cg (q_196.1 16 (by decide)) _).trans ((cg (q_193.1 16 (by decide)) _).trans ((cg (q_190.1 16 (by decide)) _).trans (cg (q_187.1 16 (by decide)) _)))))))))))))))))))) (fun i hi => ((cg (tY_uIE hM_233) i).trans ((cg (tY_uIE hM_232) i).trans ((cg (tY_uIE hM_231) i).trans ((cg (tY_uIE hM_230) i).trans ((q_229.2.1 i hi).trans ((cg (q_226.1 17 (by decide)) _).trans ((cg (q_223.1 17 (by decide)) _).trans ((cg (q_220.1 17 (by decide)) _).trans ((cg (q_217.1 17 (by decide)) _).trans ((cg (q_214.1 17 (by decide)) _).trans ((cg (q_211.1 17 (by decide)) _).trans ((cg (q_208.1 17 (by decide)) _).trans ((cg (q_205.1 17 (by decide)) _).trans ((cg (q_202.1 17 (by decide)) _).trans ((cg (q_199.1 17 (by decide)) _).trans ((cg (q_196.1 17 (by decide)) _).trans ((cg (q_193.1 17 (by decide)) _).trans ((cg (q_190.1 17 (by decide)) _).trans (cg (q_187.1 17 (by decide)) _))))))))))))))))))))
              exact hQ _ _ _ _ _ _ hw rfl (⟨mF_st iM_235 mL9 q_236 q_237 q_238 ((tI_nE hM_233 (nk (by decide))).trans (tI_uE hM_232)) (tI_uE hM_233), Or.inr ⟨by omega, ((q_236.2.1.1).trans ((tI_nE hM_233 (nk (by decide))).trans ((tI_nE hM_232 (nk (by decide))).trans ((tI_nE hM_231 (nk (by decide))).trans ((tI_nE hM_230 (nk (by decide))).trans ((q_229.2.2 2).trans ((q_226.2.2 2).trans ((q_223.2.2 2).trans ((q_220.2.2 2).trans ((q_217.2.2 2).trans ((q_214.2.2 2).trans ((q_211.2.2 2).trans ((q_208.2.2 2).trans ((q_205.2.2 2).trans ((q_202.2.2 2).trans ((q_199.2.2 2).trans ((q_196.2.2 2).trans ((q_193.2.2 2).trans ((q_190.2.2 2).trans ((q_187.2.2 2).trans ((tI_nE hM_177 (nk (by decide))).trans ((tI_nE hM_170 (nk (by decide))).trans f_121))))))))))))))))))))))⟩⟩) dX10_text_352
            · have hs : pg M_119 = 2 * (tI M_119 60 21).toInt := pg_3 (by rw [(ex_138.symm)]; exact c_184_138)
              refine lv_aload_n hx hb dX10_text_187 rfl (lv_at hl 1 rfl) ?_
              refine ti_callVvE (ci := 10) (av := []) C hE hw (s_X10_line l D A cy hJ M_119 iM_119 (by omega) j_132 (by omega) (by omega) hs) ⟨ml_X10_300, ym_X10_line, yv_X10_line, yi_X10_line, yc_X10_line⟩ yd_X10_line ob_60 (by decide) rfl rfl hl.1 (Nat.le_of_ble_eq_true rfl) ⟨by decide, by decide⟩ ⟨Nat.zero_le _, Nat.zero_le _⟩ dX10_text_188 (fun M_141 H locs hp_141 hw => ?_)
              obtain ⟨iM_141, q_142, z_143, z_144, z_145, z_146, z_147, z_148, z_149, z_150, z_151, z_152, z_153, u_154⟩ := hp_141
              refine lv_goto (tgt := 172) hx hb dX10_text_191 (by decide) ?_
              exact ih_133 M_141 _ _ _ (by omega) iM_141 (lx.trans (lx_ln q_142) f_120) ((q_142.2.2.2.2 2 (by decide)).trans f_121) (by first | omega | decide) (by first | omega | decide) (by first | omega | decide) (by first | omega | decide) (by first | omega | decide) (by first | omega | decide) (by first | omega | decide) (by first | omega | decide) (by first | omega | decide) (by first | omega | decide) u_154 hw (lv_sub hl [0, 1, 2] rfl)
      exact hl_172_132 ((1401 - pg M_111 + ff M_111 : Int).toNat + 1) M_111 _ _ _ (Nat.lt_succ_self _) iM_111 (lx.trans (lx_ln (ln_l0 (l0_pr q_112 (by decide) (by decide)))) (lx.trans (lx_I hM_109 (by decide)) (lx.trans (lx_I hM_108 (by decide)) (lx.trans (lx_I hM_107 (by decide)) (lx.trans (lx_I hM_106 (by decide)) (lx.trans (lx_ln (ln_15 hM_104 (by decide))) (lx.trans (lx_ln (ln_14 hM_103 (by decide))) (lx.trans (lx_ln (ln_15 hM_101 (by decide))) (lx.trans (lx_ln (ln_14 hM_100 (by decide))) (lx.trans (lx_ln (ln_15 hM_98 (by decide))) (lx.trans (lx_ln (ln_14 hM_97 (by decide))) (lx.trans (lx_3 hM_94 (by decide)) (lx.trans (lx_3 hM_88 (by decide)) (lx.trans (lx_3 hM_79 (by decide)) (lx.trans (lx_3 hM_70 (by decide)) (lx.trans (lx_3 hM_61 (by decide)) (lx.trans (lx_3 hM_52 (by decide)) (lx.trans (lx_3 hM_43 (by decide)) (lx.trans (lx_3 hM_35 (by decide)) (lx.trans (lx_3 hM_28 (by decide)) (lx.trans (lx_3 hM_23 (by decide)) (lx.trans (lx_3 hM_19 (by decide)) (lx.trans (lx_I hM_10 (by decide)) (lx.trans (lx_I hM_9 (by decide)) (lx.trans (lx_I hM_8 (by decide)) (lx.trans (lx_I hM_7 (by decide)) (lx.trans (lx_I hM_6 (by decide)) (lx_I hM_1 (by decide))))))))))))))))))))))))))))) ((q_112.2 2 (by decide)).trans ((tI_nE hM_109 (nk (by decide))).trans ((tI_nE hM_108 (nk (by decide))).trans ((tI_nE hM_107 (nk (by decide))).trans ((tI_nE hM_106 (nk (by decide))).trans ((tI_uYE hM_104).trans ((tI_uYE hM_103).trans ((tI_uYE hM_101).trans ((tI_uYE hM_100).trans ((tI_uYE hM_98).trans ((tI_uYE hM_97).trans ((tI_uYE hM_94).trans ((tI_uYE hM_88).trans ((tI_uYE hM_79).trans ((tI_uYE hM_70).trans ((tI_uYE hM_61).trans ((tI_uYE hM_52).trans ((tI_uYE hM_43).trans ((tI_uYE hM_35).trans ((tI_uYE hM_28).trans ((tI_uYE hM_23).trans ((tI_uYE hM_19).trans ((tI_nE hM_10 (nk (by decide))).trans ((tI_nE hM_9 (nk (by decide))).trans ((tI_nE hM_8 (nk (by decide))).trans (tI_uE hM_7)))))))))))))))))))))))))) (by first | omega | decide) (by first | omega | decide) (by first | omega | decide) (by first | omega | decide) (by first | omega | decide) (by first | omega | decide) (by first | omega | decide) (by first | omega | decide) (by first | omega | decide) (by first | omega | decide) (um_l0 fu (l0_pr q_112 (by decide) (by decide)) (by omega)) hw (lv_sub hl [0, 1, 2] rfl)
    · exact hj_17_5  _ _ _ (by first | omega | decide) hw (lv_sub hl [0, 1] rfl)

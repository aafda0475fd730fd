variable {Tc : gC} {Tm : gM}
set_option maxHeartbeats 4000000 in
set_option maxRecDepth 100000 in
theorem s_X7_isLetter (l : Launch) (D : va_G) (A : Nat → Nat → Nat) (cy : Nat → ClassId) (hJ : ti_inj ti_LT A) (M : ti_M) (hI : cI Tc M) (z : Int32) : ti_Ki l yX7_isLetter cX7_isLetter 1 (some .boolean) 0 ti_LT D A cy M [.int z] (fun r M2 => M2 = M ∧ ((r = 1 ∧ 97 ≤ z.toInt ∧ z.toInt ≤ 122) ∨ r = 0)) := by
  refine ti_eI yp_X7_isLetter hJ ti_LT_nd (Nat.le_of_ble_eq_true rfl) ?_
  intro p e s m args below meth c Q H0 C hQ hw ls hl
  have hx := C.1
  have hb := C.2.1
  have hl : lv_has ls 1 [(0, .int z)] := hl
  refine lv_iload_n hx hb dX7_isLetter_0 rfl (lv_at hl 0 rfl) ?_
  refine lv_bipush (v := 97) hx hb dX7_isLetter_1 (by decide) ?_
  have hj_16_2 : ∀  (H : Heap) (locs : List Loc) (ls : Array Slot), ti_H ti_LT D A cy H0 M H locs → lv_has ls 1 [(0, .int z)] → W p l e (ti_rm 0) s m args below meth c H locs 0 0 Q (F0 m 16 ls []) := by
    intro  H locs ls  hw hl
    refine lv_iconst (v := 0) hx hb dX7_isLetter_16 (by decide) ?_
    exact hQ _ _ _ _ _ _ hw rfl (⟨rfl, Or.inr rfl⟩) dX7_isLetter_17
  refine sb_icmp_lt (tgt := 16) hx hb rfl (by decide : (97 : Int32).toInt = 97) dX7_isLetter_3 (by decide) (fun c_3_0 => ?_) (fun c_3_0 => ?_)
  · exact hj_16_2  _ _ _  hw (lv_sub hl [0] rfl)
  · refine lv_iload_n hx hb dX7_isLetter_6 rfl (lv_at hl 0 rfl) ?_
    refine lv_bipush (v := 122) hx hb dX7_isLetter_7 (by decide) ?_
    refine sb_icmp_gt (tgt := 16) hx hb rfl (by decide : (122 : Int32).toInt = 122) dX7_isLetter_9 (by decide) (fun c_9_1 => ?_) (fun c_9_1 => ?_)
    · exact hj_16_2  _ _ _  hw (lv_sub hl [0] rfl)
    · refine lv_iconst (v := 1) hx hb dX7_isLetter_12 (by decide) ?_
      refine lv_goto (tgt := 17) hx hb dX7_isLetter_13 (by decide) ?_
      exact hQ _ _ _ _ _ _ hw rfl (⟨rfl, Or.inl ⟨rfl, by omega, by omega⟩⟩) dX7_isLetter_17
set_option maxHeartbeats 4000000 in
set_option maxRecDepth 100000 in
theorem s_X7_isDigit (l : Launch) (D : va_G) (A : Nat → Nat → Nat) (cy : Nat → ClassId) (hJ : ti_inj ti_LT A) (M : ti_M) (hI : cI Tc M) (z : Int32) : ti_Ki l yX7_isDigit cX7_isDigit 1 (some .boolean) 0 ti_LT D A cy M [.int z] (fun r M2 => M2 = M ∧ ((r = 1 ∧ 48 ≤ z.toInt ∧ z.toInt ≤ 57) ∨ r = 0)) := by
  refine ti_eI yp_X7_isDigit hJ ti_LT_nd (Nat.le_of_ble_eq_true rfl) ?_
  intro p e s m args below meth c Q H0 C hQ hw ls hl
  have hx := C.1
  have hb := C.2.1
  have hl : lv_has ls 1 [(0, .int z)] := hl
  refine lv_iload_n hx hb dX7_isDigit_0 rfl (lv_at hl 0 rfl) ?_
  refine lv_bipush (v := 48) hx hb dX7_isDigit_1 (by decide) ?_
  have hj_16_2 : ∀  (H : Heap) (locs : List Loc) (ls : Array Slot), ti_H ti_LT D A cy H0 M H locs → lv_has ls 1 [(0, .int z)] → W p l e (ti_rm 0) s m args below meth c H locs 0 0 Q (F0 m 16 ls []) := by
    intro  H locs ls  hw hl
    refine lv_iconst (v := 0) hx hb dX7_isDigit_16 (by decide) ?_
    exact hQ _ _ _ _ _ _ hw rfl (⟨rfl, Or.inr rfl⟩) dX7_isDigit_17
  refine sb_icmp_lt (tgt := 16) hx hb rfl (by decide : (48 : Int32).toInt = 48) dX7_isDigit_3 (by decide) (fun c_3_0 => ?_) (fun c_3_0 => ?_)
  · exact hj_16_2  _ _ _  hw (lv_sub hl [0] rfl)
  · refine lv_iload_n hx hb dX7_isDigit_6 rfl (lv_at hl 0 rfl) ?_
    refine lv_bipush (v := 57) hx hb dX7_isDigit_7 (by decide) ?_
    refine sb_icmp_gt (tgt := 16) hx hb rfl (by decide : (57 : Int32).toInt = 57) dX7_isDigit_9 (by decide) (fun c_9_1 => ?_) (fun c_9_1 => ?_)
    · exact hj_16_2  _ _ _  hw (lv_sub hl [0] rfl)
    · refine lv_iconst (v := 1) hx hb dX7_isDigit_12 (by decide) ?_
      refine lv_goto (tgt := 17) hx hb dX7_isDigit_13 (by decide) ?_
      exact hQ _ _ _ _ _ _ hw rfl (⟨rfl, Or.inl ⟨rfl, by omega, by omega⟩⟩) dX7_isDigit_17
set_option maxHeartbeats 4000000 in
set_option maxRecDepth 100000 in
theorem s_X7_peek (l : Launch) (D : va_G) (A : Nat → Nat → Nat) (cy : Nat → ClassId) (hJ : ti_inj ti_LT A) (M : ti_M) (hI : cI Tc M)  : ti_Ki l yX7_peek cX7_peek 1 (some .int) 0 ti_LT D A cy M [.ref (A 2 0)] (fun r M2 => M2 = M ∧ (-1) ≤ r.toInt ∧ r.toInt ≤ 255 ∧ (r.toInt = -1 ∨ (tI M 2 3).toInt < 700) ∧ r.toInt = (s_pk M).toInt) := by
  refine ti_eI yp_X7_peek hJ ti_LT_nd (Nat.le_of_ble_eq_true rfl) ?_
  intro p e s m args below meth c Q H0 C hQ hw ls hl
  have hx := C.1
  have hb := C.2.1
  have hl : lv_has ls 1 [(0, .ref (A 2 0))] := hl
  refine lv_aload_n hx hb dX7_peek_0 rfl (lv_at hl 0 rfl) ?_
  refine ti_get (ci := 7) (k := 3) (N := 7) (T := TX7) C hw iw_7 rfl ob_2 (by decide) (by decide) fl_X7_22 rfl rfl dX7_peek_1 ?_
  refine lv_topi (fun x_1 ex_1 => ?_)
  have bx_1 : 0 ≤ x_1.toInt ∧ x_1.toInt ≤ 700 := cI_rd hI ob_2.1 ex_1
  have ux_1 : (tI M 2 3).toInt = x_1.toInt := by rw [ex_1]
  refine lv_aload_n hx hb dX7_peek_4 rfl (lv_at hl 0 rfl) ?_
  refine ti_get (ci := 7) (k := 2) (N := 7) (T := TX7) C hw iw_7 rfl ob_2 (by decide) (by decide) fl_X7_19 rfl rfl dX7_peek_5 ?_
  refine lv_topi (fun x_2 ex_2 => ?_)
  have bx_2 : 0 ≤ x_2.toInt ∧ x_2.toInt ≤ 700 := cI_rd hI ob_2.1 ex_2
  have ux_2 : (tI M 2 2).toInt = x_2.toInt := by rw [ex_2]
  refine sb_icmp_ge (tgt := 27) hx hb rfl rfl dX7_peek_8 (by decide) (fun c_8_2 => ?_) (fun c_8_2 => ?_)
  · refine lv_iconst (v := (-1)) hx hb dX7_peek_27 (by decide) ?_
    exact hQ _ _ _ _ _ _ hw rfl (⟨rfl, by decide, by decide, Or.inl (by decide), by unfold s_pk; rw [if_neg (by omega)]⟩) dX7_peek_28
  · refine lv_aload_n hx hb dX7_peek_11 rfl (lv_at hl 0 rfl) ?_
    refine ti_get (ci := 7) (k := 0) (N := 7) (T := TX7) (v := .ref (A 2 1)) C hw iw_7 rfl ob_2 (by decide) (by decide) fl_X7_9 rfl rfl dX7_peek_12 ?_
    refine lv_aload_n hx hb dX7_peek_15 rfl (lv_at hl 0 rfl) ?_
    refine ti_get (ci := 7) (k := 3) (N := 7) (T := TX7) C hw iw_7 rfl ob_2 (by decide) (by decide) fl_X7_22 rfl rfl dX7_peek_16 ?_
    refine ti_top (y := x_1) (ex_1.symm) ?_
    have u_4 : (tI M 2 3).toInt = (x_1 : Int32).toInt := by rw [(ex_1.symm)]
    refine ti_bald (ci := 7) (k := 0) (n := 700) C hw ob_2 (by decide) (fun _ _ => rfl) (vp_in_iff.mpr (by omega)) dX7_peek_19 ?_
    refine lv_topi (fun x_5 ex_5 => ?_)
    refine lv_sipush (v := 255) hx hb dX7_peek_20 (by decide) ?_
    refine lv_iand hx hb dX7_peek_23 ?_
    refine lv_topi (fun x_6 ex_6 => ?_)
    have bx_6 := i_and 8 ex_6 (by decide) (by decide)
    refine lv_goto (tgt := 28) hx hb dX7_peek_24 (by decide) ?_
    exact hQ _ _ _ _ _ _ hw rfl (⟨rfl, by omega, by omega, by omega, by unfold s_pk; rw [if_pos (by omega), ex_6, ex_5, (ex_1.symm)]⟩) dX7_peek_28
set_option maxHeartbeats 4000000 in
set_option maxRecDepth 100000 in
theorem s_X7_belongs (l : Launch) (D : va_G) (A : Nat → Nat → Nat) (cy : Nat → ClassId) (hJ : ti_inj ti_LT A) (M : ti_M) (hI : cI Tc M) (sg : Int32) (h1 : 0 ≤ sg.toInt) : ti_Ki l yX7_belongs cX7_belongs 2 (some .boolean) 1 ti_LT D A cy M [.ref (A 2 0), .int sg] (fun r M2 => cI Tc M2 ∧ M2.2.2.2 = M.2.2.2 ∧ o12 M2 M ∧ tI M2 2 1 = tI M 2 1 ∧ 0 ≤ r.toInt ∧ r.toInt ≤ 1) := by
  refine ti_eI yp_X7_belongs hJ ti_LT_nd (Nat.le_of_ble_eq_true rfl) ?_
  intro p e s m args below meth c Q H0 C hQ hw ls hl
  have hx := C.1
  have hb := C.2.1
  have hl : lv_has ls 2 [(0, .ref (A 2 0)), (1, .int sg)] := hl
  refine lv_aload_n hx hb dX7_belongs_0 rfl (lv_at hl 0 rfl) ?_
  refine ti_callVi (ci := 7) (av := []) C hw (s_X7_peek l D A cy hJ M hI ) ⟨ml_X7_34, ym_X7_peek, yv_X7_peek, yi_X7_peek, yc_X7_peek⟩ yd_X7_peek ob_2 (by decide) rfl rfl hl.1 (Nat.le_of_ble_eq_true rfl) ⟨by decide, by decide⟩ ⟨Nat.zero_le _, Nat.zero_le _⟩ dX7_belongs_1 (fun r_1 M_2 H locs hp_2 hw => ?_)
  obtain ⟨hm, b0r_1, b1r_1, p0r_1, p1r_1⟩ := hp_2
  have hw := hw.to hm
  refine lv_iload_n hx hb dX7_belongs_4 rfl (lv_at hl 1 rfl) ?_
  refine sb_icmp_eq (tgt := 10) hx hb rfl rfl dX7_belongs_5 (by decide) (fun c_5_2 => ?_) (fun c_5_2 => ?_)
  · refine lv_aload_n hx hb dX7_belongs_10 rfl (lv_at hl 0 rfl) ?_
    refine lv_dup hx hb dX7_belongs_11 rfl ?_
    refine ti_get (ci := 7) (k := 3) (N := 7) (T := TX7) C hw iw_7 rfl ob_2 (by decide) (by decide) fl_X7_22 rfl rfl dX7_belongs_12 ?_
    refine lv_topi (fun x_4 ex_4 => ?_)
    have bx_4 : 0 ≤ x_4.toInt ∧ x_4.toInt ≤ 700 := cI_rd hI ob_2.1 ex_4
    have ux_4 : (tI M 2 3).toInt = x_4.toInt := by rw [ex_4]
    refine lv_iconst (v := 1) hx hb dX7_belongs_15 (by decide) ?_
    refine lv_iadd hx hb dX7_belongs_16 ?_
    refine lv_topi (fun x_5 ex_5 => ?_)
    have tx_5 : x_5.toInt = x_4.toInt + 1 := i_add ex_5 rfl (by decide : (1 : Int32).toInt = 1) (by omega) (by omega)
    refine ti_putI (ci := 7) (k := 3) (N := 7) (T := TX7) C hw iw_7 tyX7 tyX7_ok nmX7 rfl ob_2 (by decide) (by decide) fl_X7_22 rfl rfl rfl rfl (fn_7 A _) fs_7_3 dX7_belongs_17 (fun H locs hw => ?_)
    obtain ⟨M_6, hM_6⟩ : ∃ z : ti_M, z = uI M 2 3 x_5 := ⟨_, rfl⟩
    have hw := hw.to hM_6.symm
    have iM_6 : cI Tc M_6 := cI_uI hI hM_6 ob_2.1 (ib_mk (lo := 0) (hi := 700) (by omega) (by omega))
    have vM_6 : (tI M_6 2 3).toInt = (x_5 : Int32).toInt := by rw [tI_uE hM_6]
    refine lv_iconst (v := 1) hx hb dX7_belongs_20 (by decide) ?_
    exact hQ _ _ _ _ _ _ hw rfl (⟨iM_6, (rf_I hM_6), (o12_I hM_6 (by decide)), (tI_nE hM_6 (nk (by decide))), (by first | omega | decide), (by first | omega | decide)⟩) dX7_belongs_21
  · refine lv_iconst (v := 0) hx hb dX7_belongs_8 (by decide) ?_
    exact hQ _ _ _ _ _ _ hw rfl (⟨hI, rfl, o12.refl, rfl, (by first | omega | decide), (by first | omega | decide)⟩) dX7_belongs_9
set_option maxHeartbeats 4000000 in
set_option maxRecDepth 100000 in
theorem s_X7_signKind (l : Launch) (D : va_G) (A : Nat → Nat → Nat) (cy : Nat → ClassId) (hJ : ti_inj ti_LT A) (M : ti_M) (hI : cI Tc M) (sg : Int32) : ti_Ki l yX7_signKind cX7_signKind 2 (some .int) 2 ti_LT D A cy M [.ref (A 2 0), .int sg] (fun r M2 => cI Tc M2 ∧ M2.2.2.2 = M.2.2.2 ∧ o12 M2 M ∧ tI M2 2 1 = tI M 2 1 ∧ 0 ≤ r.toInt ∧ r.toInt ≤ 41) := by
  refine ti_eI yp_X7_signKind hJ ti_LT_nd (Nat.le_of_ble_eq_true rfl) ?_
  intro p e s m args below meth c Q H0 C hQ hw ls hl
  have hx := C.1
  have hb := C.2.1
  have hl : lv_has ls 2 [(0, .ref (A 2 0)), (1, .int sg)] := hl
  refine lv_iload_n hx hb dX7_signKind_0 rfl (lv_at hl 1 rfl) ?_
  by_cases s_1_40 : sg = 40
  · refine lv_tableIn (tgt := 111) (off := 110) hx hb dX7_signKind_1 (by rw [s_1_40]; decide) (by rw [s_1_40]; decide) (by rw [s_1_40]; decide) (by decide) ?_
    refine lv_bipush (v := 30) hx hb dX7_signKind_111 (by decide) ?_
    exact hQ _ _ _ _ _ _ hw rfl (⟨hI, rfl, o12.refl, rfl, (by first | omega | decide), (by first | omega | decide)⟩) dX7_signKind_113
  · by_cases s_1_41 : sg = 41
    · refine lv_tableIn (tgt := 114) (off := 113) hx hb dX7_signKind_1 (by rw [s_1_41]; decide) (by rw [s_1_41]; decide) (by rw [s_1_41]; decide) (by decide) ?_
      refine lv_bipush (v := 31) hx hb dX7_signKind_114 (by decide) ?_
      exact hQ _ _ _ _ _ _ hw rfl (⟨hI, rfl, o12.refl, rfl, (by first | omega | decide), (by first | omega | decide)⟩) dX7_signKind_116
    · by_cases s_1_42 : sg = 42
      · refine lv_tableIn (tgt := 123) (off := 122) hx hb dX7_signKind_1 (by rw [s_1_42]; decide) (by rw [s_1_42]; decide) (by rw [s_1_42]; decide) (by decide) ?_
        refine lv_bipush (v := 40) hx hb dX7_signKind_123 (by decide) ?_
        exact hQ _ _ _ _ _ _ hw rfl (⟨hI, rfl, o12.refl, rfl, (by first | omega | decide), (by first | omega | decide)⟩) dX7_signKind_125
      · by_cases s_1_43 : sg = 43
        · refine lv_tableIn (tgt := 117) (off := 116) hx hb dX7_signKind_1 (by rw [s_1_43]; decide) (by rw [s_1_43]; decide) (by rw [s_1_43]; decide) (by decide) ?_
          refine lv_bipush (v := 38) hx hb dX7_signKind_117 (by decide) ?_
          exact hQ _ _ _ _ _ _ hw rfl (⟨hI, rfl, o12.refl, rfl, (by first | omega | decide), (by first | omega | decide)⟩) dX7_signKind_119
        · have hj_180_19 : ∀  (H : Heap) (locs : List Loc) (ls : Array Slot), ti_H ti_LT D A cy H0 M H locs → lv_has ls 2 [(0, .ref (A 2 0)), (1, .int sg)] → W p l e (ti_rm 2) s m args below meth c H locs 0 0 Q (F0 m 180 ls []) := by
            intro  H locs ls  hw hl
            refine lv_bipush (v := 28) hx hb dX7_signKind_180 (by decide) ?_
            exact hQ _ _ _ _ _ _ hw rfl (⟨hI, rfl, o12.refl, rfl, (by first | omega | decide), (by first | omega | decide)⟩) dX7_signKind_182
          by_cases s_1_44 : sg = 44
          · refine lv_tableIn (tgt := 180) (off := 179) hx hb dX7_signKind_1 (by rw [s_1_44]; decide) (by rw [s_1_44]; decide) (by rw [s_1_44]; decide) (by decide) ?_
            exact hj_180_19  _ _ _  hw (lv_sub hl [0, 1] rfl)
          · by_cases s_1_45 : sg = 45
            · refine lv_tableIn (tgt := 120) (off := 119) hx hb dX7_signKind_1 (by rw [s_1_45]; decide) (by rw [s_1_45]; decide) (by rw [s_1_45]; decide) (by decide) ?_
              refine lv_bipush (v := 39) hx hb dX7_signKind_120 (by decide) ?_
              exact hQ _ _ _ _ _ _ hw rfl (⟨hI, rfl, o12.refl, rfl, (by first | omega | decide), (by first | omega | decide)⟩) dX7_signKind_122
            · by_cases s_1_46 : sg = 46
              · refine lv_tableIn (tgt := 180) (off := 179) hx hb dX7_signKind_1 (by rw [s_1_46]; decide) (by rw [s_1_46]; decide) (by rw [s_1_46]; decide) (by decide) ?_
                exact hj_180_19  _ _ _  hw (lv_sub hl [0, 1] rfl)
              · by_cases s_1_47 : sg = 47
                · refine lv_tableIn (tgt := 126) (off := 125) hx hb dX7_signKind_1 (by rw [s_1_47]; decide) (by rw [s_1_47]; decide) (by rw [s_1_47]; decide) (by decide) ?_
                  refine lv_bipush (v := 41) hx hb dX7_signKind_126 (by decide) ?_
                  exact hQ _ _ _ _ _ _ hw rfl (⟨hI, rfl, o12.refl, rfl, (by first | omega | decide), (by first | omega | decide)⟩) dX7_signKind_128
                · by_cases s_1_48 : sg = 48
                  · refine lv_tableIn (tgt := 180) (off := 179) hx hb dX7_signKind_1 (by rw [s_1_48]; decide) (by rw [s_1_48]; decide) (by rw [s_1_48]; decide) (by decide) ?_
                    exact hj_180_19  _ _ _  hw (lv_sub hl [0, 1] rfl)
                  · by_cases s_1_49 : sg = 49
                    · refine lv_tableIn (tgt := 180) (off := 179) hx hb dX7_signKind_1 (by rw [s_1_49]; decide) (by rw [s_1_49]; decide) (by rw [s_1_49]; decide) (by decide) ?_
                      exact hj_180_19  _ _ _  hw (lv_sub hl [0, 1] rfl)
                    · by_cases s_1_50 : sg = 50
                      · refine lv_tableIn (tgt := 180) (off := 179) hx hb dX7_signKind_1 (by rw [s_1_50]; decide) (by rw [s_1_50]; decide) (by rw [s_1_50]; decide) (by decide) ?_
                        exact hj_180_19  _ _ _  hw (lv_sub hl [0, 1] rfl)
                      · by_cases s_1_51 : sg = 51
                        · refine lv_tableIn (tgt := 180) (off := 179) hx hb dX7_signKind_1 (by rw [s_1_51]; decide) (by rw [s_1_51]; decide) (by rw [s_1_51]; decide) (by decide) ?_
                          exact hj_180_19  _ _ _  hw (lv_sub hl [0, 1] rfl)
                        · by_cases s_1_52 : sg = 52
                          · refine lv_tableIn (tgt := 180) (off := 179) hx hb dX7_signKind_1 (by rw [s_1_52]; decide) (by rw [s_1_52]; decide) (by rw [s_1_52]; decide) (by decide) ?_
                            exact hj_180_19  _ _ _  hw (lv_sub hl [0, 1] rfl)
                          · by_cases s_1_53 : sg = 53
                            · refine lv_tableIn (tgt := 180) (off := 179) hx hb dX7_signKind_1 (by rw [s_1_53]; decide) (by rw [s_1_53]; decide) (by rw [s_1_53]; decide) (by decide) ?_
                              exact hj_180_19  _ _ _  hw (lv_sub hl [0, 1] rfl)
                            · by_cases s_1_54 : sg = 54
                              · refine lv_tableIn (tgt := 180) (off := 179) hx hb dX7_signKind_1 (by rw [s_1_54]; decide) (by rw [s_1_54]; decide) (by rw [s_1_54]; decide) (by decide) ?_
                                exact hj_180_19  _ _ _  hw (lv_sub hl [0, 1] rfl)
                              · by_cases s_1_55 : sg = 55
                                · refine lv_tableIn (tgt := 180) (off := 179) hx hb dX7_signKind_1 (by rw [s_1_55]; decide) (by rw [s_1_55]; decide) (by rw [s_1_55]; decide) (by decide) ?_
                                  exact hj_180_19  _ _ _  hw (lv_sub hl [0, 1] rfl)
                                · by_cases s_1_56 : sg = 56
                                  · refine lv_tableIn (tgt := 180) (off := 179) hx hb dX7_signKind_1 (by rw [s_1_56]; decide) (by rw [s_1_56]; decide) (by rw [s_1_56]; decide) (by decide) ?_
                                    exact hj_180_19  _ _ _  hw (lv_sub hl [0, 1] rfl)
                                  · by_cases s_1_57 : sg = 57
                                    · refine lv_tableIn (tgt := 180) (off := 179) hx hb dX7_signKind_1 (by rw [s_1_57]; decide) (by rw [s_1_57]; decide) (by rw [s_1_57]; decide) (by decide) ?_
                                      exact hj_180_19  _ _ _  hw (lv_sub hl [0, 1] rfl)
                                    · by_cases s_1_58 : sg = 58
                                      · refine lv_tableIn (tgt := 180) (off := 179) hx hb dX7_signKind_1 (by rw [s_1_58]; decide) (by rw [s_1_58]; decide) (by rw [s_1_58]; decide) (by decide) ?_
                                        exact hj_180_19  _ _ _  hw (lv_sub hl [0, 1] rfl)
                                      · by_cases s_1_59 : sg = 59
                                        · refine lv_tableIn (tgt := 108) (off := 107) hx hb dX7_signKind_1 (by rw [s_1_59]; decide) (by rw [s_1_59]; decide) (by rw [s_1_59]; decide) (by decide) ?_
                                          refine lv_bipush (v := 29) hx hb dX7_signKind_108 (by decide) ?_
                                          exact hQ _ _ _ _ _ _ hw rfl (⟨hI, rfl, o12.refl, rfl, (by first | omega | decide), (by first | omega | decide)⟩) dX7_signKind_110
                                        · by_cases s_1_60 : sg = 60
                                          · refine lv_tableIn (tgt := 132) (off := 131) hx hb dX7_signKind_1 (by rw [s_1_60]; decide) (by rw [s_1_60]; decide) (by rw [s_1_60]; decide) (by decide) ?_
                                            refine lv_aload_n hx hb dX7_signKind_132 rfl (lv_at hl 0 rfl) ?_
                                            refine lv_bipush (v := 61) hx hb dX7_signKind_133 (by decide) ?_
                                            refine ti_callVi (ci := 7) (av := [.int 61]) C hw (s_X7_belongs l D A cy hJ M hI 61 (by first | omega | decide)) ⟨ml_X7_76, ym_X7_belongs, yv_X7_belongs, yi_X7_belongs, yc_X7_belongs⟩ yd_X7_belongs ob_2 (by decide) rfl rfl hl.1 (Nat.le_of_ble_eq_true rfl) ⟨by decide, by decide⟩ ⟨Nat.zero_le _, Nat.zero_le _⟩ dX7_signKind_135 (fun r_2 M_3 H locs hp_3 hw => ?_)
                                            obtain ⟨iM_3, q_4, q_5, q_6, b0r_2, b1r_2⟩ := hp_3
                                            refine sb_if_eq (tgt := 146) hx hb rfl dX7_signKind_138 (by decide) (fun c_138_6 => ?_) (fun c_138_6 => ?_)
                                            · refine lv_aload_n hx hb dX7_signKind_146 rfl (lv_at hl 0 rfl) ?_
                                              refine lv_bipush (v := 62) hx hb dX7_signKind_147 (by decide) ?_
                                              refine ti_callVi (ci := 7) (av := [.int 62]) C hw (s_X7_belongs l D A cy hJ M_3 iM_3 62 (by first | omega | decide)) ⟨ml_X7_76, ym_X7_belongs, yv_X7_belongs, yi_X7_belongs, yc_X7_belongs⟩ yd_X7_belongs ob_2 (by decide) rfl rfl hl.1 (Nat.le_of_ble_eq_true rfl) ⟨by decide, by decide⟩ ⟨Nat.zero_le _, Nat.zero_le _⟩ dX7_signKind_149 (fun r_8 M_9 H locs hp_9 hw => ?_)
                                              obtain ⟨iM_9, q_10, q_11, q_12, b0r_8, b1r_8⟩ := hp_9
                                              refine sb_if_eq (tgt := 160) hx hb rfl dX7_signKind_152 (by decide) (fun c_152_12 => ?_) (fun c_152_12 => ?_)
                                              · refine lv_bipush (v := 32) hx hb dX7_signKind_160 (by decide) ?_
                                                exact hQ _ _ _ _ _ _ hw rfl (⟨iM_9, ((q_10).trans q_4), (o12.trans q_11 q_5), ((q_12).trans q_6), (by first | omega | decide), (by first | omega | decide)⟩) dX7_signKind_162
                                              · refine lv_bipush (v := 35) hx hb dX7_signKind_155 (by decide) ?_
                                                refine lv_goto (tgt := 162) hx hb dX7_signKind_157 (by decide) ?_
                                                exact hQ _ _ _ _ _ _ hw rfl (⟨iM_9, ((q_10).trans q_4), (o12.trans q_11 q_5), ((q_12).trans q_6), (by first | omega | decide), (by first | omega | decide)⟩) dX7_signKind_162
                                            · refine lv_bipush (v := 33) hx hb dX7_signKind_141 (by decide) ?_
                                              refine lv_goto (tgt := 162) hx hb dX7_signKind_143 (by decide) ?_
                                              exact hQ _ _ _ _ _ _ hw rfl (⟨iM_3, (q_4), q_5, (q_6), (by first | omega | decide), (by first | omega | decide)⟩) dX7_signKind_162
                                          · by_cases s_1_61 : sg = 61
                                            · refine lv_tableIn (tgt := 129) (off := 128) hx hb dX7_signKind_1 (by rw [s_1_61]; decide) (by rw [s_1_61]; decide) (by rw [s_1_61]; decide) (by decide) ?_
                                              refine lv_bipush (v := 34) hx hb dX7_signKind_129 (by decide) ?_
                                              exact hQ _ _ _ _ _ _ hw rfl (⟨hI, rfl, o12.refl, rfl, (by first | omega | decide), (by first | omega | decide)⟩) dX7_signKind_131
                                            · by_cases s_1_62 : sg = 62
                                              · refine lv_tableIn (tgt := 163) (off := 162) hx hb dX7_signKind_1 (by rw [s_1_62]; decide) (by rw [s_1_62]; decide) (by rw [s_1_62]; decide) (by decide) ?_
                                                refine lv_aload_n hx hb dX7_signKind_163 rfl (lv_at hl 0 rfl) ?_
                                                refine lv_bipush (v := 61) hx hb dX7_signKind_164 (by decide) ?_
                                                refine ti_callVi (ci := 7) (av := [.int 61]) C hw (s_X7_belongs l D A cy hJ M hI 61 (by first | omega | decide)) ⟨ml_X7_76, ym_X7_belongs, yv_X7_belongs, yi_X7_belongs, yc_X7_belongs⟩ yd_X7_belongs ob_2 (by decide) rfl rfl hl.1 (Nat.le_of_ble_eq_true rfl) ⟨by decide, by decide⟩ ⟨Nat.zero_le _, Nat.zero_le _⟩ dX7_signKind_166 (fun r_14 M_15 H locs hp_15 hw => ?_)
                                                obtain ⟨iM_15, q_16, q_17, q_18, b0r_14, b1r_14⟩ := hp_15
                                                refine sb_if_eq (tgt := 177) hx hb rfl dX7_signKind_169 (by decide) (fun c_169_18 => ?_) (fun c_169_18 => ?_)
                                                · refine lv_bipush (v := 37) hx hb dX7_signKind_177 (by decide) ?_
                                                  exact hQ _ _ _ _ _ _ hw rfl (⟨iM_15, (q_16), q_17, (q_18), (by first | omega | decide), (by first | omega | decide)⟩) dX7_signKind_179
                                                · refine lv_bipush (v := 36) hx hb dX7_signKind_172 (by decide) ?_
                                                  refine lv_goto (tgt := 179) hx hb dX7_signKind_174 (by decide) ?_
                                                  exact hQ _ _ _ _ _ _ hw rfl (⟨iM_15, (q_16), q_17, (q_18), (by first | omega | decide), (by first | omega | decide)⟩) dX7_signKind_179
                                              · refine lv_tableOut (tgt := 180) hx hb dX7_signKind_1 (ti_out (lo := 40) (hi := 62) sg (fun v h1 h2 => by rcases (show v = 40 ∨ v = 41 ∨ v = 42 ∨ v = 43 ∨ v = 44 ∨ v = 45 ∨ v = 46 ∨ v = 47 ∨ v = 48 ∨ v = 49 ∨ v = 50 ∨ v = 51 ∨ v = 52 ∨ v = 53 ∨ v = 54 ∨ v = 55 ∨ v = 56 ∨ v = 57 ∨ v = 58 ∨ v = 59 ∨ v = 60 ∨ v = 61 ∨ v = 62 by omega) with rfl | rfl | rfl | rfl | rfl | rfl | rfl | rfl | rfl | rfl | rfl | rfl | rfl | rfl | rfl | rfl | rfl | rfl | rfl | rfl | rfl | rfl | rfl <;> first | exact ti_nev 40 s_1_40 (by decide) | exact ti_nev 41 s_1_41 (by decide) | exact ti_nev 42 s_1_42 (by decide) | exact ti_nev 43 s_1_43 (by decide) | exact ti_nev 44 s_1_44 (by decide) | exact ti_nev 45 s_1_45 (by decide) | exact ti_nev 46 s_1_46 (by decide) | exact ti_nev 47 s_1_47 (by decide) | exact ti_nev 48 s_1_48 (by decide) | exact ti_nev 49 s_1_49 (by decide) | exact ti_nev 50 s_1_50 (by decide) | exact ti_nev 51 s_1_51 (by decide) | exact ti_nev 52 s_1_52 (by decide) | exact ti_nev 53 s_1_53 (by decide) | exact ti_nev 54 s_1_54 (by decide) | exact ti_nev 55 s_1_55 (by decide) | exact ti_nev 56 s_1_56 (by decide) | exact ti_nev 57 s_1_57 (by decide) | exact ti_nev 58 s_1_58 (by decide) | exact ti_nev 59 s_1_59 (by decide) | exact ti_nev 60 s_1_60 (by decide) | exact ti_nev 61 s_1_61 (by decide) | exact ti_nev 62 s_1_62 (by decide))) (by decide) ?_
                                                exact hj_180_19  _ _ _  hw (lv_sub hl [0, 1] rfl)
set_option maxHeartbeats 4000000 in
set_option maxRecDepth 100000 in
theorem s_X7_readNumber (l : Launch) (D : va_G) (A : Nat → Nat → Nat) (cy : Nat → ClassId) (hJ : ti_inj ti_LT A) (M : ti_M) (hI : cI Tc M) (hv : (tI M 2 6).toInt ≤ 1000000) : ti_Kv l yX7_readNumber cX7_readNumber 1 1 ti_LT D A cy M [.ref (A 2 0)] (fun M2 => cI Tc M2 ∧ M2.2.2.2 = M.2.2.2 ∧ o12 M2 M ∧ tI M2 2 1 = tI M 2 1) := by
  refine ti_eV yp_X7_readNumber hJ ti_LT_nd (Nat.le_of_ble_eq_true rfl) ?_
  intro p e s m args below meth c Q H0 C hQ hw ls hl
  have hx := C.1
  have hb := C.2.1
  have hl : lv_has ls 1 [(0, .ref (A 2 0))] := hl
  refine lv_aload_n hx hb dX7_readNumber_0 rfl (lv_at hl 0 rfl) ?_
  refine lv_bipush (v := 26) hx hb dX7_readNumber_1 (by decide) ?_
  refine ti_putI (ci := 7) (k := 4) (N := 7) (T := TX7) C hw iw_7 tyX7 tyX7_ok nmX7 rfl ob_2 (by decide) (by decide) fl_X7_44 rfl rfl rfl rfl (fn_7 A _) fs_7_4 dX7_readNumber_3 (fun H locs hw => ?_)
  obtain ⟨M_1, hM_1⟩ : ∃ z : ti_M, z = uI M 2 4 26 := ⟨_, rfl⟩
  have hw := hw.to hM_1.symm
  have iM_1 : cI Tc M_1 := cI_uI hI hM_1 ob_2.1 (ib_mk (lo := 0) (hi := 41) (by decide) (by decide))
  have vM_1 : (tI M_1 2 4).toInt = 26 := by rw [tI_uE hM_1]; decide
  have u_8 : (tI M_1 2 3).toInt = (tI M 2 3).toInt := by rw [(tI_nE hM_1 (nk (by decide)))]
  have u_9 : 0 ≤ (tI M_1 2 3).toInt ∧ (tI M_1 2 3).toInt ≤ 700 := cI_rd (x := tI M_1 2 3) (k := 3) iM_1 ob_2.1 rfl
  have u_10 : (tI M_1 2 6).toInt = (tI M 2 6).toInt := by rw [(tI_nE hM_1 (nk (by decide)))]
  have u_11 : 0 ≤ (tI M_1 2 6).toInt ∧ (tI M_1 2 6).toInt ≤ 2147483647 := cI_rd (x := tI M_1 2 6) (k := 6) iM_1 ob_2.1 rfl
  have hl_6_6 : ∀ (n_7 : Nat) (M_2 : ti_M) (H : Heap) (locs : List Loc) (ls : Array Slot), (700 - (tI M_2 2 3).toInt : Int).toNat < n_7 → (cI Tc M_2) → (M_2.2.2.2 = M.2.2.2) → (o12 M_2 M) → (tI M_2 2 1 = tI M 2 1) → ((tI M_2 2 6).toInt ≤ 1000000) → ti_H ti_LT D A cy H0 M_2 H locs → lv_has ls 1 [(0, .ref (A 2 0))] → W p l e (ti_rm 1) s m args below meth c H locs 0 0 Q (F0 m 6 ls []) := by
    intro n_7
    induction n_7 with
    | zero => intro M_2 H locs ls hf_7; exact absurd hf_7 (Nat.not_lt_zero _)
    | succ n_7 ih_7 =>
      intro M_2 H locs ls hf_7 iM_2 f_3 f_4 f_5 j_6 hw hl
      refine lv_aload_n hx hb dX7_readNumber_6 rfl (lv_at hl 0 rfl) ?_
      refine ti_get (ci := 7) (k := 3) (N := 7) (T := TX7) C hw iw_7 rfl ob_2 (by decide) (by decide) fl_X7_22 rfl rfl dX7_readNumber_7 ?_
      refine lv_topi (fun x_12 ex_12 => ?_)
      have bx_12 : 0 ≤ x_12.toInt ∧ x_12.toInt ≤ 700 := cI_rd iM_2 ob_2.1 ex_12
      have ux_12 : (tI M_2 2 3).toInt = x_12.toInt := by rw [ex_12]
      refine lv_aload_n hx hb dX7_readNumber_10 rfl (lv_at hl 0 rfl) ?_
      refine ti_get (ci := 7) (k := 2) (N := 7) (T := TX7) C hw iw_7 rfl ob_2 (by decide) (by decide) fl_X7_19 rfl rfl dX7_readNumber_11 ?_
      refine lv_topi (fun x_13 ex_13 => ?_)
      have bx_13 : 0 ≤ x_13.toInt ∧ x_13.toInt ≤ 700 := cI_rd iM_2 ob_2.1 ex_13
      have ux_13 : (tI M_2 2 2).toInt = x_13.toInt := by rw [ex_13]
      refine sb_icmp_ge (tgt := 64) hx hb rfl rfl dX7_readNumber_14 (by decide) (fun c_14_13 => ?_) (fun c_14_13 => ?_)
      · exact hQ _ _ _ _ _ hw (⟨iM_2, (f_3), f_4, (f_5)⟩) dX7_readNumber_64
      · refine lv_aload_n hx hb dX7_readNumber_17 rfl (lv_at hl 0 rfl) ?_
        refine ti_callVi (ci := 7) (av := []) C hw (s_X7_peek l D A cy hJ M_2 iM_2 ) ⟨ml_X7_34, ym_X7_peek, yv_X7_peek, yi_X7_peek, yc_X7_peek⟩ yd_X7_peek ob_2 (by decide) rfl rfl hl.1 (Nat.le_of_ble_eq_true rfl) ⟨by decide, by decide⟩ ⟨Nat.zero_le _, Nat.zero_le _⟩ dX7_readNumber_18 (fun r_15 M_16 H locs hp_16 hw => ?_)
        obtain ⟨hm, b0r_15, b1r_15, p0r_15, p1r_15⟩ := hp_16
        have hw := hw.to hm
        refine ti_callSi (av := [.int r_15]) C hw (s_X7_isDigit l D A cy hJ M_2 iM_2 r_15) ⟨ml_X7_54, ys_X7_isDigit, yi_X7_isDigit, yc_X7_isDigit⟩ yd_X7_isDigit rfl hl.1 (Nat.le_of_ble_eq_true rfl) ⟨by decide, by decide⟩ ⟨Nat.zero_le _, Nat.zero_le _⟩ dX7_readNumber_21 (fun r_17 M_18 H locs hp_18 hw => ?_)
        obtain ⟨hm, hz⟩ := hp_18
        have hw := hw.to hm
        rcases hz with ⟨rfl, d1_19, d2_19⟩ | rfl
        · refine sb_if_eq (tgt := 64) hx hb (by decide : (1 : Int32).toInt = 1) dX7_readNumber_24 (by decide) (fun h => absurd h (by decide)) (fun c_24_19 => ?_)
          refine lv_aload_n hx hb dX7_readNumber_27 rfl (lv_at hl 0 rfl) ?_
          refine lv_aload_n hx hb dX7_readNumber_28 rfl (lv_at hl 0 rfl) ?_
          refine ti_get (ci := 7) (k := 6) (N := 7) (T := TX7) C hw iw_7 rfl ob_2 (by decide) (by decide) fl_X7_41 rfl rfl dX7_readNumber_29 ?_
          refine lv_topi (fun x_22 ex_22 => ?_)
          have bx_22 : 0 ≤ x_22.toInt ∧ x_22.toInt ≤ 2147483647 := cI_rd iM_2 ob_2.1 ex_22
          have ux_22 : (tI M_2 2 6).toInt = x_22.toInt := by rw [ex_22]
          refine lv_bipush (v := 10) hx hb dX7_readNumber_32 (by decide) ?_
          refine lv_imul hx hb dX7_readNumber_34 ?_
          refine lv_topi (fun x_23 ex_23 => ?_)
          have lox_23x_22 := x_22.le_toInt
          have hix_23x_22 := x_22.toInt_lt
          have tx_23 : x_23.toInt = x_22.toInt * 10 := i_mul ex_23 rfl (by decide : (10 : Int32).toInt = 10) (by omega) (by omega)
          refine lv_aload_n hx hb dX7_readNumber_35 rfl (lv_at hl 0 rfl) ?_
          refine ti_callVi (ci := 7) (av := []) C hw (s_X7_peek l D A cy hJ M_2 iM_2 ) ⟨ml_X7_34, ym_X7_peek, yv_X7_peek, yi_X7_peek, yc_X7_peek⟩ yd_X7_peek ob_2 (by decide) rfl rfl hl.1 (Nat.le_of_ble_eq_true rfl) ⟨by decide, by decide⟩ ⟨Nat.zero_le _, Nat.zero_le _⟩ dX7_readNumber_36 (fun r_24 M_25 H locs hp_25 hw => ?_)
          obtain ⟨hm, b0r_24, b1r_24, p0r_24, p1r_24⟩ := hp_25
          have hw := hw.to hm
          refine lv_iadd hx hb dX7_readNumber_39 ?_
          refine lv_topi (fun x_26 ex_26 => ?_)
          have lox_26x_23 := x_23.le_toInt
          have hix_26x_23 := x_23.toInt_lt
          have lox_26r_24 := r_24.le_toInt
          have hix_26r_24 := r_24.toInt_lt
          have tx_26 : x_26.toInt = x_23.toInt + r_24.toInt := i_add ex_26 rfl rfl (by omega) (by omega)
          refine lv_bipush (v := 48) hx hb dX7_readNumber_40 (by decide) ?_
          refine lv_isub hx hb dX7_readNumber_42 ?_
          refine lv_topi (fun x_27 ex_27 => ?_)
          have lox_27x_26 := x_26.le_toInt
          have hix_27x_26 := x_26.toInt_lt
          have tx_27 : x_27.toInt = x_26.toInt - 48 := i_sub ex_27 rfl (by decide : (48 : Int32).toInt = 48) (by omega) (by omega)
          refine lv_ldc (v := 1000000) hx hb C.2.2.2.1 (C.2.2.1 _ cn_X7_64) dX7_readNumber_43 ?_
          refine ti_min C ml_X7_25 hl.1 (by decide) (Nat.le_of_ble_eq_true rfl) ⟨Nat.zero_le _, Nat.zero_le _⟩ dX7_readNumber_45 ?_
          refine lv_topi (fun x_28 ex_28 => ?_)
          have bx_28 := i_min ex_28 rfl (by decide : (1000000 : Int32).toInt = 1000000)
          refine ti_putI (ci := 7) (k := 6) (N := 7) (T := TX7) C hw iw_7 tyX7 tyX7_ok nmX7 rfl ob_2 (by decide) (by decide) fl_X7_41 rfl rfl rfl rfl (fn_7 A _) fs_7_6 dX7_readNumber_48 (fun H locs hw => ?_)
          obtain ⟨M_29, hM_29⟩ : ∃ z : ti_M, z = uI M_2 2 6 x_28 := ⟨_, rfl⟩
          have hw := hw.to hM_29.symm
          have iM_29 : cI Tc M_29 := cI_uI iM_2 hM_29 ob_2.1 (ib_mk (lo := 0) (hi := 2147483647) (by omega) (by omega))
          have vM_29 : (tI M_29 2 6).toInt = (x_28 : Int32).toInt := by rw [tI_uE hM_29]
          refine lv_aload_n hx hb dX7_readNumber_51 rfl (lv_at hl 0 rfl) ?_
          refine lv_dup hx hb dX7_readNumber_52 rfl ?_
          refine ti_get (ci := 7) (k := 3) (N := 7) (T := TX7) C hw iw_7 rfl ob_2 (by decide) (by decide) fl_X7_22 rfl rfl dX7_readNumber_53 ?_
          refine ti_top (y := x_12) ((tI_nE hM_29 (nk (by decide))).trans ex_12.symm) ?_
          have u_30 : (tI M_29 2 3).toInt = (x_12 : Int32).toInt := by rw [((tI_nE hM_29 (nk (by decide))).trans ex_12.symm)]
          refine lv_iconst (v := 1) hx hb dX7_readNumber_56 (by decide) ?_
          refine lv_iadd hx hb dX7_readNumber_57 ?_
          refine lv_topi (fun x_31 ex_31 => ?_)
          have tx_31 : x_31.toInt = x_12.toInt + 1 := i_add ex_31 rfl (by decide : (1 : Int32).toInt = 1) (by omega) (by omega)
          refine ti_putI (ci := 7) (k := 3) (N := 7) (T := TX7) C hw iw_7 tyX7 tyX7_ok nmX7 rfl ob_2 (by decide) (by decide) fl_X7_22 rfl rfl rfl rfl (fn_7 A _) fs_7_3 dX7_readNumber_58 (fun H locs hw => ?_)
          obtain ⟨M_32, hM_32⟩ : ∃ z : ti_M, z = uI M_29 2 3 x_31 := ⟨_, rfl⟩
          have hw := hw.to hM_32.symm
          have iM_32 : cI Tc M_32 := cI_uI iM_29 hM_32 ob_2.1 (ib_mk (lo := 0) (hi := 700) (by omega) (by omega))
          have vM_32 : (tI M_32 2 3).toInt = (x_31 : Int32).toInt := by rw [tI_uE hM_32]
          refine lv_goto (tgt := 6) hx hb dX7_readNumber_61 (by decide) ?_
          have u_33 : (tI M_32 2 3).toInt = (x_31 : Int32).toInt := by rw [(tI_uE hM_32)]
          have u_34 : (tI M_32 2 6).toInt = (x_28 : Int32).toInt := by rw [((tI_nE hM_32 (nk (by decide))).trans (tI_uE hM_29))]
          exact ih_7 M_32 _ _ _ (by omega) iM_32 ((rf_I hM_32).trans ((rf_I hM_29).trans f_3)) (o12.trans (o12_I hM_32 (by decide)) (o12.trans (o12_I hM_29 (by decide)) f_4)) ((tI_nE hM_32 (nk (by decide))).trans ((tI_nE hM_29 (nk (by decide))).trans f_5)) (by first | omega | decide) hw (lv_sub hl [0] rfl)
        · refine sb_if_eq (tgt := 64) hx hb (by decide : (0 : Int32).toInt = 0) dX7_readNumber_24 (by decide) (fun c_24_20 => ?_) (fun h => absurd h (by decide))
          exact hQ _ _ _ _ _ hw (⟨iM_2, (f_3), f_4, (f_5)⟩) dX7_readNumber_64
  exact hl_6_6 ((700 - (tI M_1 2 3).toInt : Int).toNat + 1) M_1 _ _ _ (Nat.lt_succ_self _) iM_1 (rf_I hM_1) (o12_I hM_1 (by decide)) (tI_nE hM_1 (nk (by decide))) (by first | omega | decide) hw (lv_sub hl [0] rfl)
set_option maxHeartbeats 4000000 in
set_option maxRecDepth 100000 in
theorem s_X7_wordKind (l : Launch) (D : va_G) (A : Nat → Nat → Nat) (cy : Nat → ClassId) (hJ : ti_inj ti_LT A) (M : ti_M) (hI : cI Tc M)  : ti_KiE l yX7_wordKind cX7_wordKind 5 (some .int) 4 ti_LT D A cy M [.ref (A 2 0)] (fun r M2 => M2 = M ∧ 0 ≤ r.toInt ∧ r.toInt ≤ 25) := by
  refine ti_eIE yp_X7_wordKind hJ ti_LT_nd (Nat.le_of_ble_eq_true rfl) ?_
  intro p e s m args below meth c Q H0 C hE hQ hw ls hl
  have hx := C.1
  have hb := C.2.1
  have hl : lv_has ls 5 [(0, .ref (A 2 0))] := hl
  obtain ⟨⟨a1, v1, hR1, hs1⟩, ⟨a2, v2, hR2, hs2⟩, hg1⟩ := id hE
  refine lv_iconst (v := 0) hx hb dX7_wordKind_0 (by decide) ?_
  refine lv_istore_n (lv' := [(1, .int 0), (0, .ref (A 2 0))]) hx hb dX7_wordKind_1 rfl hl (by decide) rfl (fun ls hl => ?_)
  have hl_2_3 : ∀ (n_4 : Nat) (x_1 : Int32) (H : Heap) (locs : List Loc) (ls : Array Slot), (25 - x_1.toInt : Int).toNat < n_4 → (0 ≤ x_1.toInt) → (x_1.toInt ≤ 25) → ti_H ti_LT D A cy H0 M H locs → lv_has ls 5 [(1, .int x_1), (0, .ref (A 2 0))] → W p l e (ti_rm 4) s m args below meth c H locs 0 0 Q (F0 m 2 ls []) := by
    intro n_4
    induction n_4 with
    | zero => intro x_1 H locs ls hf_4; exact absurd hf_4 (Nat.not_lt_zero _)
    | succ n_4 ih_4 =>
      intro x_1 H locs ls hf_4 b_2 b_3 hw hl
      refine lv_iload_n hx hb dX7_wordKind_2 rfl (lv_at hl 0 rfl) ?_
      refine lv_bipush (v := 25) hx hb dX7_wordKind_3 (by decide) ?_
      refine sb_icmp_ge (tgt := 76) hx hb rfl (by decide : (25 : Int32).toInt = 25) dX7_wordKind_5 (by decide) (fun c_5_4 => ?_) (fun c_5_4 => ?_)
      · refine lv_bipush (v := 25) hx hb dX7_wordKind_76 (by decide) ?_
        exact hQ _ _ _ _ _ _ hw rfl (⟨rfl, by first | omega | decide, by first | omega | decide⟩) dX7_wordKind_78
      · refine lv_iconst (v := 0) hx hb dX7_wordKind_8 (by decide) ?_
        refine lv_istore_n (lv' := [(2, .int 0), (1, .int x_1), (0, .ref (A 2 0))]) hx hb dX7_wordKind_9 rfl hl (by decide) rfl (fun ls hl => ?_)
        refine lv_iconst (v := 0) hx hb dX7_wordKind_10 (by decide) ?_
        refine lv_istore_n (lv' := [(3, .int 0), (2, .int 0), (1, .int x_1), (0, .ref (A 2 0))]) hx hb dX7_wordKind_11 rfl hl (by decide) rfl (fun ls hl => ?_)
        have hl_12_9 : ∀ (n_10 : Nat) (x_6 : Int32) (x_9 : Int32) (H : Heap) (locs : List Loc) (ls : Array Slot), (6 - x_6.toInt : Int).toNat < n_10 → (0 ≤ x_6.toInt) → (x_6.toInt ≤ 6) → ti_H ti_LT D A cy H0 M H locs → lv_has ls 5 [(3, .int x_6), (2, .int x_9), (1, .int x_1), (0, .ref (A 2 0))] → W p l e (ti_rm 4) s m args below meth c H locs 0 0 Q (F0 m 12 ls []) := by
          intro n_10
          induction n_10 with
          | zero => intro x_6 x_9 H locs ls hf_10; exact absurd hf_10 (Nat.not_lt_zero _)
          | succ n_10 ih_10 =>
            intro x_6 x_9 H locs ls hf_10 b_7 b_8 hw hl
            refine lv_iload_n hx hb dX7_wordKind_12 rfl (lv_at hl 0 rfl) ?_
            refine lv_bipush (v := 6) hx hb dX7_wordKind_13 (by decide) ?_
            refine sb_icmp_ge (tgt := 60) hx hb rfl (by decide : (6 : Int32).toInt = 6) dX7_wordKind_15 (by decide) (fun c_15_10 => ?_) (fun c_15_10 => ?_)
            · refine lv_iload_n hx hb dX7_wordKind_60 rfl (lv_at hl 1 rfl) ?_
              refine lv_aload_n hx hb dX7_wordKind_61 rfl (lv_at hl 3 rfl) ?_
              refine ti_get (ci := 7) (k := 6) (N := 7) (T := TX7) C hw iw_7 rfl ob_2 (by decide) (by decide) fl_X7_41 rfl rfl dX7_wordKind_62 ?_
              refine lv_topi (fun x_25 ex_25 => ?_)
              have bx_25 : 0 ≤ x_25.toInt ∧ x_25.toInt ≤ 2147483647 := cI_rd hI ob_2.1 ex_25
              have ux_25 : (tI M 2 6).toInt = x_25.toInt := by rw [ex_25]
              refine sb_icmp_ne (tgt := 70) hx hb rfl rfl dX7_wordKind_65 (by decide) (fun c_65_25 => ?_) (fun c_65_25 => ?_)
              · obtain ⟨x_27, ex_27⟩ : ∃ z : Int32, z = x_1 + 1 := ⟨_, rfl⟩
                have tx_27 : x_27.toInt = x_1.toInt + 1 := i_add ex_27 rfl (by decide) (by omega) (by omega)
                refine lv_iinc (v := x_27) (lv' := [(1, .int x_27), (3, .int x_6), (2, .int x_9), (0, .ref (A 2 0))]) hx hb dX7_wordKind_70 hl (k := 2) rfl (by rw [ex_27]; rfl) (by decide) rfl (fun ls hl => ?_)
                refine lv_goto (tgt := 2) hx hb dX7_wordKind_73 (by decide) ?_
                exact ih_4 x_27 _ _ _ (by omega) (by first | omega | decide) (by first | omega | decide) hw (lv_sub hl [0, 3] rfl)
              · refine lv_iload_n hx hb dX7_wordKind_68 rfl (lv_at hl 2 rfl) ?_
                exact hQ _ _ _ _ _ _ hw rfl (⟨rfl, by first | omega | decide, by first | omega | decide⟩) dX7_wordKind_69
            · refine va_ldcS hx hb C.2.2.2.1 hR1 dX7_wordKind_18 ?_
              refine lv_iload_n hx hb dX7_wordKind_20 rfl (lv_at hl 2 rfl) ?_
              refine lv_bipush (v := 6) hx hb dX7_wordKind_21 (by decide) ?_
              refine lv_imul hx hb dX7_wordKind_23 ?_
              refine lv_topi (fun x_12 ex_12 => ?_)
              have tx_12 : x_12.toInt = x_1.toInt * 6 := i_mul ex_12 rfl (by decide : (6 : Int32).toInt = 6) (by omega) (by omega)
              refine lv_iload_n hx hb dX7_wordKind_24 rfl (lv_at hl 0 rfl) ?_
              refine lv_iadd hx hb dX7_wordKind_25 ?_
              refine lv_topi (fun x_13 ex_13 => ?_)
              have tx_13 : x_13.toInt = x_12.toInt + x_6.toInt := i_add ex_13 rfl rfl (by omega) (by omega)
              refine ti_charAt (n := 150) C hs1 hg1 hw ml_X7_70 hl.1 (Nat.le_of_ble_eq_true rfl) ⟨by decide, by decide⟩ ⟨Nat.zero_le _, Nat.zero_le _⟩ (by decide) (by omega) (by omega) dX7_wordKind_26 (fun H locs hw => ?_)
              refine lv_topi (fun x_15 ex_15 => ?_)
              have bx_15 := i_and 8 ex_15 (by decide) (by decide)
              refine lv_istore (lv' := [(4, .int x_15), (3, .int x_6), (2, .int x_9), (1, .int x_1), (0, .ref (A 2 0))]) hx hb dX7_wordKind_29 hl (by decide) rfl (fun ls hl => ?_)
              refine lv_iload_n hx hb dX7_wordKind_31 rfl (lv_at hl 2 rfl) ?_
              refine lv_iconst (v := 5) hx hb dX7_wordKind_32 (by decide) ?_
              refine lv_ishl hx hb dX7_wordKind_33 ?_
              refine lv_topi (fun x_16 ex_16 => ?_)
              refine lv_iload hx hb dX7_wordKind_34 (lv_at hl 0 rfl) ?_
              refine lv_bipush (v := 32) hx hb dX7_wordKind_36 (by decide) ?_
              have hj_52_22 : ∀ (x_20 : Int32) (H : Heap) (locs : List Loc) (ls : Array Slot), ((-96) ≤ x_20.toInt) → (x_20.toInt ≤ 159) → ti_H ti_LT D A cy H0 M H locs → lv_has ls 5 [(4, .int x_15), (3, .int x_6), (2, .int x_9), (1, .int x_1), (0, .ref (A 2 0))] → W p l e (ti_rm 4) s m args below meth c H locs 0 0 Q (F0 m 52 ls [.int x_20, .int x_16]) := by
                intro x_20 H locs ls b_21 b_22 hw hl
                refine lv_ior hx hb dX7_wordKind_52 ?_
                refine lv_topi (fun x_23 ex_23 => ?_)
                refine lv_istore_n (lv' := [(2, .int x_23), (4, .int x_15), (3, .int x_6), (1, .int x_1), (0, .ref (A 2 0))]) hx hb dX7_wordKind_53 rfl hl (by decide) rfl (fun ls hl => ?_)
                obtain ⟨x_24, ex_24⟩ : ∃ z : Int32, z = x_6 + 1 := ⟨_, rfl⟩
                have tx_24 : x_24.toInt = x_6.toInt + 1 := i_add ex_24 rfl (by decide) (by omega) (by omega)
                refine lv_iinc (v := x_24) (lv' := [(3, .int x_24), (2, .int x_23), (4, .int x_15), (1, .int x_1), (0, .ref (A 2 0))]) hx hb dX7_wordKind_54 hl (k := 2) rfl (by rw [ex_24]; rfl) (by decide) rfl (fun ls hl => ?_)
                refine lv_goto (tgt := 12) hx hb dX7_wordKind_57 (by decide) ?_
                exact ih_10 x_24 x_23 _ _ _ (by omega) (by first | omega | decide) (by first | omega | decide) hw (lv_sub hl [0, 1, 3, 4] rfl)
              refine sb_icmp_ne (tgt := 45) hx hb rfl (by decide : (32 : Int32).toInt = 32) dX7_wordKind_38 (by decide) (fun c_38_16 => ?_) (fun c_38_16 => ?_)
              · refine lv_iload hx hb dX7_wordKind_45 (lv_at hl 0 rfl) ?_
                refine lv_bipush (v := 97) hx hb dX7_wordKind_47 (by decide) ?_
                refine lv_isub hx hb dX7_wordKind_49 ?_
                refine lv_topi (fun x_18 ex_18 => ?_)
                have tx_18 : x_18.toInt = x_15.toInt - 97 := i_sub ex_18 rfl (by decide : (97 : Int32).toInt = 97) (by omega) (by omega)
                refine lv_iconst (v := 1) hx hb dX7_wordKind_50 (by decide) ?_
                refine lv_iadd hx hb dX7_wordKind_51 ?_
                refine lv_topi (fun x_19 ex_19 => ?_)
                have tx_19 : x_19.toInt = x_18.toInt + 1 := i_add ex_19 rfl (by decide : (1 : Int32).toInt = 1) (by omega) (by omega)
                exact hj_52_22 x_19 _ _ _ (by first | omega | decide) (by first | omega | decide) hw (lv_sub hl [0, 1, 2, 3, 4] rfl)
              · refine lv_iconst (v := 0) hx hb dX7_wordKind_41 (by decide) ?_
                refine lv_goto (tgt := 52) hx hb dX7_wordKind_42 (by decide) ?_
                exact hj_52_22 0 _ _ _ (by have lt0 : (0 : Int32).toInt = 0 := (by decide); first | omega | decide) (by have lt0 : (0 : Int32).toInt = 0 := (by decide); first | omega | decide) hw (lv_sub hl [0, 1, 2, 3, 4] rfl)
        exact hl_12_9 ((6 - 0 : Int).toNat + 1) 0 0 _ _ _ (Nat.lt_succ_self _) (by have lt0 : (0 : Int32).toInt = 0 := (by decide); first | omega | decide) (by have lt0 : (0 : Int32).toInt = 0 := (by decide); first | omega | decide) hw (lv_sub hl [0, 1, 2, 3] rfl)
  exact hl_2_3 ((25 - 0 : Int).toNat + 1) 0 _ _ _ (Nat.lt_succ_self _) (by have lt0 : (0 : Int32).toInt = 0 := (by decide); first | omega | decide) (by have lt0 : (0 : Int32).toInt = 0 := (by decide); first | omega | decide) hw (lv_sub hl [0, 1] rfl)
set_option maxHeartbeats 4000000 in
set_option maxRecDepth 100000 in
theorem s_X7_readWord (l : Launch) (D : va_G) (A : Nat → Nat → Nat) (cy : Nat → ClassId) (hJ : ti_inj ti_LT A) (M : ti_M) (hI : cI Tc M)  : ti_KvE l yX7_readWord cX7_readWord 2 5 ti_LT D A cy M [.ref (A 2 0)] (fun M2 => cI Tc M2 ∧ M2.2.2.2 = M.2.2.2 ∧ o12 M2 M ∧ tI M2 2 1 = tI M 2 1) := by
  refine ti_eVE yp_X7_readWord hJ ti_LT_nd (Nat.le_of_ble_eq_true rfl) ?_
  intro p e s m args below meth c Q H0 C hE hQ hw ls hl
  have hx := C.1
  have hb := C.2.1
  have hl : lv_has ls 2 [(0, .ref (A 2 0))] := hl
  refine lv_iconst (v := 0) hx hb dX7_readWord_0 (by decide) ?_
  refine lv_istore_n (lv' := [(1, .int 0), (0, .ref (A 2 0))]) hx hb dX7_readWord_1 rfl hl (by decide) rfl (fun ls hl => ?_)
  have u_10 : 0 ≤ (tI M 2 3).toInt ∧ (tI M 2 3).toInt ≤ 700 := cI_rd (x := tI M 2 3) (k := 3) hI ob_2.1 rfl
  have hl_2_8 : ∀ (n_9 : Nat) (x_1 : Int32) (M_4 : ti_M) (H : Heap) (locs : List Loc) (ls : Array Slot), (700 - (tI M_4 2 3).toInt : Int).toNat < n_9 → (0 ≤ x_1.toInt) → (x_1.toInt ≤ 700) → (cI Tc M_4) → (M_4.2.2.2 = M.2.2.2) → (o12 M_4 M) → (tI M_4 2 1 = tI M 2 1) → (x_1.toInt ≤ (tI M_4 2 3).toInt) → ti_H ti_LT D A cy H0 M_4 H locs → lv_has ls 2 [(1, .int x_1), (0, .ref (A 2 0))] → W p l e (ti_rm 5) s m args below meth c H locs 0 0 Q (F0 m 2 ls []) := by
    intro n_9
    induction n_9 with
    | zero => intro x_1 M_4 H locs ls hf_9; exact absurd hf_9 (Nat.not_lt_zero _)
    | succ n_9 ih_9 =>
      intro x_1 M_4 H locs ls hf_9 b_2 b_3 iM_4 f_5 f_6 f_7 j_8 hw hl
      refine lv_aload_n hx hb dX7_readWord_2 rfl (lv_at hl 1 rfl) ?_
      refine ti_get (ci := 7) (k := 3) (N := 7) (T := TX7) C hw iw_7 rfl ob_2 (by decide) (by decide) fl_X7_22 rfl rfl dX7_readWord_3 ?_
      refine lv_topi (fun x_11 ex_11 => ?_)
      have bx_11 : 0 ≤ x_11.toInt ∧ x_11.toInt ≤ 700 := cI_rd iM_4 ob_2.1 ex_11
      have ux_11 : (tI M_4 2 3).toInt = x_11.toInt := by rw [ex_11]
      refine lv_aload_n hx hb dX7_readWord_6 rfl (lv_at hl 1 rfl) ?_
      refine ti_get (ci := 7) (k := 2) (N := 7) (T := TX7) C hw iw_7 rfl ob_2 (by decide) (by decide) fl_X7_19 rfl rfl dX7_readWord_7 ?_
      refine lv_topi (fun x_12 ex_12 => ?_)
      have bx_12 : 0 ≤ x_12.toInt ∧ x_12.toInt ≤ 700 := cI_rd iM_4 ob_2.1 ex_12
      have ux_12 : (tI M_4 2 2).toInt = x_12.toInt := by rw [ex_12]
      have hj_69_42 : ∀  (H : Heap) (locs : List Loc) (ls : Array Slot), ti_H ti_LT D A cy H0 M_4 H locs → lv_has ls 2 [(1, .int x_1), (0, .ref (A 2 0))] → W p l e (ti_rm 5) s m args below meth c H locs 0 0 Q (F0 m 69 ls []) := by
        intro  H locs ls  hw hl
        refine lv_aload_n hx hb dX7_readWord_69 rfl (lv_at hl 1 rfl) ?_
        refine lv_iload_n hx hb dX7_readWord_70 rfl (lv_at hl 0 rfl) ?_
        refine lv_bipush (v := 6) hx hb dX7_readWord_71 (by decide) ?_
        have hj_85_48 : ∀ (x_46 : Int32) (H : Heap) (locs : List Loc) (ls : Array Slot), (0 ≤ x_46.toInt) → (x_46.toInt ≤ 28) → ti_H ti_LT D A cy H0 M_4 H locs → lv_has ls 2 [(1, .int x_1), (0, .ref (A 2 0))] → W p l e (ti_rm 5) s m args below meth c H locs 0 0 Q (F0 m 85 ls [.int x_46, .ref (A 2 0)]) := by
          intro x_46 H locs ls b_47 b_48 hw hl
          refine ti_putI (ci := 7) (k := 4) (N := 7) (T := TX7) C hw iw_7 tyX7 tyX7_ok nmX7 rfl ob_2 (by decide) (by decide) fl_X7_44 rfl rfl rfl rfl (fn_7 A _) fs_7_4 dX7_readWord_85 (fun H locs hw => ?_)
          obtain ⟨M_49, hM_49⟩ : ∃ z : ti_M, z = uI M_4 2 4 x_46 := ⟨_, rfl⟩
          have hw := hw.to hM_49.symm
          have iM_49 : cI Tc M_49 := cI_uI iM_4 hM_49 ob_2.1 (ib_mk (lo := 0) (hi := 41) (by omega) (by omega))
          have vM_49 : (tI M_49 2 4).toInt = (x_46 : Int32).toInt := by rw [tI_uE hM_49]
          exact hQ _ _ _ _ _ hw (⟨iM_49, ((rf_I hM_49).trans f_5), (o12.trans (o12_I hM_49 (by decide)) f_6), ((tI_nE hM_49 (nk (by decide))).trans f_7)⟩) dX7_readWord_88
        refine sb_icmp_le (tgt := 81) hx hb rfl (by decide : (6 : Int32).toInt = 6) dX7_readWord_73 (by decide) (fun c_73_42 => ?_) (fun c_73_42 => ?_)
        · refine lv_aload_n hx hb dX7_readWord_81 rfl (lv_at hl 1 rfl) ?_
          refine ti_callViE (ci := 7) (av := []) C hE hw (s_X7_wordKind l D A cy hJ M_4 iM_4 ) ⟨ml_X7_65, ym_X7_wordKind, yv_X7_wordKind, yi_X7_wordKind, yc_X7_wordKind⟩ yd_X7_wordKind ob_2 (by decide) rfl rfl hl.1 (Nat.le_of_ble_eq_true rfl) ⟨by decide, by decide⟩ ⟨Nat.zero_le _, Nat.zero_le _⟩ dX7_readWord_82 (fun r_44 M_45 H locs hp_45 hw => ?_)
          obtain ⟨hm, b0r_44, b1r_44⟩ := hp_45
          have hw := hw.to hm
          exact hj_85_48 r_44 _ _ _ (by first | omega | decide) (by first | omega | decide) hw (lv_sub hl [0, 1] rfl)
        · refine lv_bipush (v := 28) hx hb dX7_readWord_76 (by decide) ?_
          refine lv_goto (tgt := 85) hx hb dX7_readWord_78 (by decide) ?_
          exact hj_85_48 28 _ _ _ (by have lt0 : (28 : Int32).toInt = 28 := (by decide); first | omega | decide) (by have lt0 : (28 : Int32).toInt = 28 := (by decide); first | omega | decide) hw (lv_sub hl [0, 1] rfl)
      refine sb_icmp_ge (tgt := 69) hx hb rfl rfl dX7_readWord_10 (by decide) (fun c_10_12 => ?_) (fun c_10_12 => ?_)
      · exact hj_69_42  _ _ _  hw (lv_sub hl [0, 1] rfl)
      · refine lv_aload_n hx hb dX7_readWord_13 rfl (lv_at hl 1 rfl) ?_
        refine ti_callVi (ci := 7) (av := []) C hw (s_X7_peek l D A cy hJ M_4 iM_4 ) ⟨ml_X7_34, ym_X7_peek, yv_X7_peek, yi_X7_peek, yc_X7_peek⟩ yd_X7_peek ob_2 (by decide) rfl rfl hl.1 (Nat.le_of_ble_eq_true rfl) ⟨by decide, by decide⟩ ⟨Nat.zero_le _, Nat.zero_le _⟩ dX7_readWord_14 (fun r_14 M_15 H locs hp_15 hw => ?_)
        obtain ⟨hm, b0r_14, b1r_14, p0r_14, p1r_14⟩ := hp_15
        have hw := hw.to hm
        refine ti_callSi (av := [.int r_14]) C hw (s_X7_isLetter l D A cy hJ M_4 iM_4 r_14) ⟨ml_X7_47, ys_X7_isLetter, yi_X7_isLetter, yc_X7_isLetter⟩ yd_X7_isLetter rfl hl.1 (Nat.le_of_ble_eq_true rfl) ⟨by decide, by decide⟩ ⟨Nat.zero_le _, Nat.zero_le _⟩ dX7_readWord_17 (fun r_16 M_17 H locs hp_17 hw => ?_)
        obtain ⟨hm, hz⟩ := hp_17
        have hw := hw.to hm
        rcases hz with ⟨rfl, d1_18, d2_18⟩ | rfl
        · refine sb_if_eq (tgt := 69) hx hb (by decide : (1 : Int32).toInt = 1) dX7_readWord_20 (by decide) (fun h => absurd h (by decide)) (fun c_20_18 => ?_)
          refine lv_iload_n hx hb dX7_readWord_23 rfl (lv_at hl 0 rfl) ?_
          refine lv_bipush (v := 6) hx hb dX7_readWord_24 (by decide) ?_
          have hj_53_37 : ∀ (M_32 : ti_M) (H : Heap) (locs : List Loc) (ls : Array Slot), (cI Tc M_32) → (M_32.2.2.2 = M.2.2.2) → (o12 M_32 M) → (tI M_32 2 1 = tI M 2 1) → (tI M_32 2 3 = x_11) → (tI M_32 2 2 = x_12) → ti_H ti_LT D A cy H0 M_32 H locs → lv_has ls 2 [(1, .int x_1), (0, .ref (A 2 0))] → W p l e (ti_rm 5) s m args below meth c H locs 0 0 Q (F0 m 53 ls []) := by
            intro M_32 H locs ls iM_32 f_33 f_34 f_35 f_36 f_37 hw hl
            obtain ⟨x_38, ex_38⟩ : ∃ z : Int32, z = x_1 + 1 := ⟨_, rfl⟩
            have tx_38 : x_38.toInt = x_1.toInt + 1 := i_add ex_38 rfl (by decide) (by omega) (by omega)
            refine lv_iinc (v := x_38) (lv' := [(1, .int x_38), (0, .ref (A 2 0))]) hx hb dX7_readWord_53 hl (k := 0) rfl (by rw [ex_38]; rfl) (by decide) rfl (fun ls hl => ?_)
            refine lv_aload_n hx hb dX7_readWord_56 rfl (lv_at hl 1 rfl) ?_
            refine lv_dup hx hb dX7_readWord_57 rfl ?_
            refine ti_get (ci := 7) (k := 3) (N := 7) (T := TX7) C hw iw_7 rfl ob_2 (by decide) (by decide) fl_X7_22 rfl rfl dX7_readWord_58 ?_
            refine ti_top (y := x_11) (f_36) ?_
            have u_39 : (tI M_32 2 3).toInt = (x_11 : Int32).toInt := by rw [(f_36)]
            refine lv_iconst (v := 1) hx hb dX7_readWord_61 (by decide) ?_
            refine lv_iadd hx hb dX7_readWord_62 ?_
            refine lv_topi (fun x_40 ex_40 => ?_)
            have tx_40 : x_40.toInt = x_11.toInt + 1 := i_add ex_40 rfl (by decide : (1 : Int32).toInt = 1) (by omega) (by omega)
            refine ti_putI (ci := 7) (k := 3) (N := 7) (T := TX7) C hw iw_7 tyX7 tyX7_ok nmX7 rfl ob_2 (by decide) (by decide) fl_X7_22 rfl rfl rfl rfl (fn_7 A _) fs_7_3 dX7_readWord_63 (fun H locs hw => ?_)
            obtain ⟨M_41, hM_41⟩ : ∃ z : ti_M, z = uI M_32 2 3 x_40 := ⟨_, rfl⟩
            have hw := hw.to hM_41.symm
            have iM_41 : cI Tc M_41 := cI_uI iM_32 hM_41 ob_2.1 (ib_mk (lo := 0) (hi := 700) (by omega) (by omega))
            have vM_41 : (tI M_41 2 3).toInt = (x_40 : Int32).toInt := by rw [tI_uE hM_41]
            refine lv_goto (tgt := 2) hx hb dX7_readWord_66 (by decide) ?_
            have u_42 : (tI M_41 2 3).toInt = (x_40 : Int32).toInt := by rw [(tI_uE hM_41)]
            exact ih_9 x_38 M_41 _ _ _ (by omega) (by first | omega | decide) (by first | omega | decide) iM_41 ((rf_I hM_41).trans f_33) (o12.trans (o12_I hM_41 (by decide)) f_34) ((tI_nE hM_41 (nk (by decide))).trans f_35) (by first | omega | decide) hw (lv_sub hl [0, 1] rfl)
          refine sb_icmp_ge (tgt := 53) hx hb rfl (by decide : (6 : Int32).toInt = 6) dX7_readWord_26 (by decide) (fun c_26_20 => ?_) (fun c_26_20 => ?_)
          · exact hj_53_37 M_4 _ _ _ iM_4 (f_5) f_6 (f_7) (ex_11.symm) (ex_12.symm) hw (lv_sub hl [0, 1] rfl)
          · refine lv_aload_n hx hb dX7_readWord_29 rfl (lv_at hl 1 rfl) ?_
            refine lv_dup hx hb dX7_readWord_30 rfl ?_
            refine ti_get (ci := 7) (k := 6) (N := 7) (T := TX7) C hw iw_7 rfl ob_2 (by decide) (by decide) fl_X7_41 rfl rfl dX7_readWord_31 ?_
            refine lv_topi (fun x_22 ex_22 => ?_)
            have bx_22 : 0 ≤ x_22.toInt ∧ x_22.toInt ≤ 2147483647 := cI_rd iM_4 ob_2.1 ex_22
            have ux_22 : (tI M_4 2 6).toInt = x_22.toInt := by rw [ex_22]
            refine lv_aload_n hx hb dX7_readWord_34 rfl (lv_at hl 1 rfl) ?_
            refine ti_callVi (ci := 7) (av := []) C hw (s_X7_peek l D A cy hJ M_4 iM_4 ) ⟨ml_X7_34, ym_X7_peek, yv_X7_peek, yi_X7_peek, yc_X7_peek⟩ yd_X7_peek ob_2 (by decide) rfl rfl hl.1 (Nat.le_of_ble_eq_true rfl) ⟨by decide, by decide⟩ ⟨Nat.zero_le _, Nat.zero_le _⟩ dX7_readWord_35 (fun r_23 M_24 H locs hp_24 hw => ?_)
            obtain ⟨hm, b0r_23, b1r_23, p0r_23, p1r_23⟩ := hp_24
            have hw := hw.to hm
            refine lv_bipush (v := 97) hx hb dX7_readWord_38 (by decide) ?_
            refine lv_isub hx hb dX7_readWord_40 ?_
            refine lv_topi (fun x_25 ex_25 => ?_)
            have lox_25r_23 := r_23.le_toInt
            have hix_25r_23 := r_23.toInt_lt
            have tx_25 : x_25.toInt = r_23.toInt - 97 := i_sub ex_25 rfl (by decide : (97 : Int32).toInt = 97) (by omega) (by omega)
            refine lv_iconst (v := 1) hx hb dX7_readWord_41 (by decide) ?_
            refine lv_iadd hx hb dX7_readWord_42 ?_
            refine lv_topi (fun x_26 ex_26 => ?_)
            have lox_26x_25 := x_25.le_toInt
            have hix_26x_25 := x_25.toInt_lt
            have tx_26 : x_26.toInt = x_25.toInt + 1 := i_add ex_26 rfl (by decide : (1 : Int32).toInt = 1) (by omega) (by omega)
            refine lv_iconst (v := 5) hx hb dX7_readWord_43 (by decide) ?_
            refine lv_iconst (v := 5) hx hb dX7_readWord_44 (by decide) ?_
            refine lv_iload_n hx hb dX7_readWord_45 rfl (lv_at hl 0 rfl) ?_
            refine lv_isub hx hb dX7_readWord_46 ?_
            refine lv_topi (fun x_27 ex_27 => ?_)
            have tx_27 : x_27.toInt = 5 - x_1.toInt := i_sub ex_27 (by decide : (5 : Int32).toInt = 5) rfl (by omega) (by omega)
            refine lv_imul hx hb dX7_readWord_47 ?_
            refine lv_topi (fun x_28 ex_28 => ?_)
            have tx_28 : x_28.toInt = 5 * x_27.toInt := i_mul ex_28 (by decide : (5 : Int32).toInt = 5) rfl (by omega) (by omega)
            refine lv_ishl hx hb dX7_readWord_48 ?_
            refine lv_topi (fun x_29 ex_29 => ?_)
            have bx_29 : 0 ≤ x_29.toInt := i_shl ex_29 (by omega) (by omega) (b := x_1.toInt) (by omega) (by omega) (by omega)
            refine lv_ior hx hb dX7_readWord_49 ?_
            refine lv_topi (fun x_30 ex_30 => ?_)
            have bx_30 : 0 ≤ x_30.toInt := i_or ex_30 (by omega) (by omega)
            have cx_30 := x_30.toInt_lt
            refine ti_putI (ci := 7) (k := 6) (N := 7) (T := TX7) C hw iw_7 tyX7 tyX7_ok nmX7 rfl ob_2 (by decide) (by decide) fl_X7_41 rfl rfl rfl rfl (fn_7 A _) fs_7_6 dX7_readWord_50 (fun H locs hw => ?_)
            obtain ⟨M_31, hM_31⟩ : ∃ z : ti_M, z = uI M_4 2 6 x_30 := ⟨_, rfl⟩
            have hw := hw.to hM_31.symm
            have iM_31 : cI Tc M_31 := cI_uI iM_4 hM_31 ob_2.1 (ib_mk (lo := 0) (hi := 2147483647) (by omega) (by omega))
            have vM_31 : (tI M_31 2 6).toInt = (x_30 : Int32).toInt := by rw [tI_uE hM_31]
            exact hj_53_37 M_31 _ _ _ iM_31 ((rf_I hM_31).trans f_5) (o12.trans (o12_I hM_31 (by decide)) f_6) ((tI_nE hM_31 (nk (by decide))).trans f_7) ((tI_nE hM_31 (nk (by decide))).trans ex_11.symm) ((tI_nE hM_31 (nk (by decide))).trans ex_12.symm) hw (lv_sub hl [0, 1] rfl)
        · refine sb_if_eq (tgt := 69) hx hb (by decide : (0 : Int32).toInt = 0) dX7_readWord_20 (by decide) (fun c_20_19 => ?_) (fun h => absurd h (by decide))
          exact hj_69_42  _ _ _  hw (lv_sub hl [0, 1] rfl)
  exact hl_2_8 ((700 - (tI M 2 3).toInt : Int).toNat + 1) 0 M _ _ _ (Nat.lt_succ_self _) (by have lt0 : (0 : Int32).toInt = 0 := (by decide); first | omega | decide) (by have lt0 : (0 : Int32).toInt = 0 := (by decide); first | omega | decide) hI rfl o12.refl rfl (by have lt0 : (0 : Int32).toInt = 0 := (by decide); first | omega | decide) hw (lv_sub hl [0, 1] rfl)
set_option maxHeartbeats 4000000 in
set_option maxRecDepth 100000 in
theorem s_X7_advance (l : Launch) (D : va_G) (A : Nat → Nat → Nat) (cy : Nat → ClassId) (hJ : ti_inj ti_LT A) (M : ti_M) (hI : cI Tc M)  : ti_KvE l yX7_advance cX7_advance 2 6 ti_LT D A cy M [.ref (A 2 0)] (fun M2 => cI Tc M2 ∧ M2.2.2.2 = M.2.2.2 ∧ o12 M2 M ∧ tI M2 2 1 = tI M 2 1) := by
  refine ti_eVE yp_X7_advance hJ ti_LT_nd (Nat.le_of_ble_eq_true rfl) ?_
  intro p e s m args below meth c Q H0 C hE hQ hw ls hl
  have hx := C.1
  have hb := C.2.1
  have hl : lv_has ls 2 [(0, .ref (A 2 0))] := hl
  have u_6 : 0 ≤ (tI M 2 3).toInt ∧ (tI M 2 3).toInt ≤ 700 := cI_rd (x := tI M 2 3) (k := 3) hI ob_2.1 rfl
  have hl_0_4 : ∀ (n_5 : Nat) (M_1 : ti_M) (H : Heap) (locs : List Loc) (ls : Array Slot), (700 - (tI M_1 2 3).toInt : Int).toNat < n_5 → (cI Tc M_1) → (M_1.2.2.2 = M.2.2.2) → (o12 M_1 M) → (tI M_1 2 1 = tI M 2 1) → ti_H ti_LT D A cy H0 M_1 H locs → lv_has ls 2 [(0, .ref (A 2 0))] → W p l e (ti_rm 6) s m args below meth c H locs 0 0 Q (F0 m 0 ls []) := by
    intro n_5
    induction n_5 with
    | zero => intro M_1 H locs ls hf_5; exact absurd hf_5 (Nat.not_lt_zero _)
    | succ n_5 ih_5 =>
      intro M_1 H locs ls hf_5 iM_1 f_2 f_3 f_4 hw hl
      refine lv_aload_n hx hb dX7_advance_0 rfl (lv_at hl 0 rfl) ?_
      refine ti_get (ci := 7) (k := 3) (N := 7) (T := TX7) C hw iw_7 rfl ob_2 (by decide) (by decide) fl_X7_22 rfl rfl dX7_advance_1 ?_
      refine lv_topi (fun x_7 ex_7 => ?_)
      have bx_7 : 0 ≤ x_7.toInt ∧ x_7.toInt ≤ 700 := cI_rd iM_1 ob_2.1 ex_7
      have ux_7 : (tI M_1 2 3).toInt = x_7.toInt := by rw [ex_7]
      refine lv_aload_n hx hb dX7_advance_4 rfl (lv_at hl 0 rfl) ?_
      refine ti_get (ci := 7) (k := 2) (N := 7) (T := TX7) C hw iw_7 rfl ob_2 (by decide) (by decide) fl_X7_19 rfl rfl dX7_advance_5 ?_
      refine lv_topi (fun x_8 ex_8 => ?_)
      have bx_8 : 0 ≤ x_8.toInt ∧ x_8.toInt ≤ 700 := cI_rd iM_1 ob_2.1 ex_8
      have ux_8 : (tI M_1 2 2).toInt = x_8.toInt := by rw [ex_8]
      have hj_42_19 : ∀  (H : Heap) (locs : List Loc) (ls : Array Slot), ti_H ti_LT D A cy H0 M_1 H locs → lv_has ls 2 [(0, .ref (A 2 0))] → W p l e (ti_rm 6) s m args below meth c H locs 0 0 Q (F0 m 42 ls []) := by
        intro  H locs ls  hw hl
        refine lv_aload_n hx hb dX7_advance_42 rfl (lv_at hl 0 rfl) ?_
        refine lv_aload_n hx hb dX7_advance_43 rfl (lv_at hl 0 rfl) ?_
        refine ti_get (ci := 7) (k := 3) (N := 7) (T := TX7) C hw iw_7 rfl ob_2 (by decide) (by decide) fl_X7_22 rfl rfl dX7_advance_44 ?_
        refine ti_top (y := x_7) (ex_7.symm) ?_
        have u_20 : (tI M_1 2 3).toInt = (x_7 : Int32).toInt := by rw [(ex_7.symm)]
        refine ti_putI (ci := 7) (k := 5) (N := 7) (T := TX7) C hw iw_7 tyX7 tyX7_ok nmX7 rfl ob_2 (by decide) (by decide) fl_X7_38 rfl rfl rfl rfl (fn_7 A _) fs_7_5 dX7_advance_47 (fun H locs hw => ?_)
        obtain ⟨M_21, hM_21⟩ : ∃ z : ti_M, z = uI M_1 2 5 x_7 := ⟨_, rfl⟩
        have hw := hw.to hM_21.symm
        have iM_21 : cI Tc M_21 := cI_uI iM_1 hM_21 ob_2.1 trivial
        refine lv_aload_n hx hb dX7_advance_50 rfl (lv_at hl 0 rfl) ?_
        refine lv_iconst (v := 0) hx hb dX7_advance_51 (by decide) ?_
        refine ti_putI (ci := 7) (k := 6) (N := 7) (T := TX7) C hw iw_7 tyX7 tyX7_ok nmX7 rfl ob_2 (by decide) (by decide) fl_X7_41 rfl rfl rfl rfl (fn_7 A _) fs_7_6 dX7_advance_52 (fun H locs hw => ?_)
        obtain ⟨M_22, hM_22⟩ : ∃ z : ti_M, z = uI M_21 2 6 0 := ⟨_, rfl⟩
        have hw := hw.to hM_22.symm
        have iM_22 : cI Tc M_22 := cI_uI iM_21 hM_22 ob_2.1 (ib_mk (lo := 0) (hi := 2147483647) (by decide) (by decide))
        have vM_22 : (tI M_22 2 6).toInt = 0 := by rw [tI_uE hM_22]; decide
        refine lv_aload_n hx hb dX7_advance_55 rfl (lv_at hl 0 rfl) ?_
        refine ti_callVi (ci := 7) (av := []) C hw (s_X7_peek l D A cy hJ M_22 iM_22 ) ⟨ml_X7_34, ym_X7_peek, yv_X7_peek, yi_X7_peek, yc_X7_peek⟩ yd_X7_peek ob_2 (by decide) rfl rfl hl.1 (Nat.le_of_ble_eq_true rfl) ⟨by decide, by decide⟩ ⟨Nat.zero_le _, Nat.zero_le _⟩ dX7_advance_56 (fun r_23 M_24 H locs hp_24 hw => ?_)
        obtain ⟨hm, b0r_23, b1r_23, p0r_23, p1r_23⟩ := hp_24
        have hw := hw.to hm
        refine lv_istore_n (lv' := [(1, .int r_23), (0, .ref (A 2 0))]) hx hb dX7_advance_59 rfl hl (by decide) rfl (fun ls hl => ?_)
        refine lv_iload_n hx hb dX7_advance_60 rfl (lv_at hl 0 rfl) ?_
        refine lv_iconst (v := (-1)) hx hb dX7_advance_61 (by decide) ?_
        refine sb_icmp_ne (tgt := 74) hx hb rfl (by decide : ((-1) : Int32).toInt = (-1)) dX7_advance_62 (by decide) (fun c_62_24 => ?_) (fun c_62_24 => ?_)
        · refine lv_iload_n hx hb dX7_advance_74 rfl (lv_at hl 0 rfl) ?_
          refine ti_callSi (av := [.int r_23]) C hw (s_X7_isLetter l D A cy hJ M_22 iM_22 r_23) ⟨ml_X7_47, ys_X7_isLetter, yi_X7_isLetter, yc_X7_isLetter⟩ yd_X7_isLetter rfl hl.1 (Nat.le_of_ble_eq_true rfl) ⟨by decide, by decide⟩ ⟨Nat.zero_le _, Nat.zero_le _⟩ dX7_advance_75 (fun r_27 M_28 H locs hp_28 hw => ?_)
          obtain ⟨hm, hz⟩ := hp_28
          have hw := hw.to hm
          rcases hz with ⟨rfl, d1_29, d2_29⟩ | rfl
          · refine sb_if_eq (tgt := 88) hx hb (by decide : (1 : Int32).toInt = 1) dX7_advance_78 (by decide) (fun h => absurd h (by decide)) (fun c_78_29 => ?_)
            refine lv_aload_n hx hb dX7_advance_81 rfl (lv_at hl 1 rfl) ?_
            refine ti_callVvE (ci := 7) (av := []) C hE hw (s_X7_readWord l D A cy hJ M_22 iM_22 ) ⟨ml_X7_51, ym_X7_readWord, yv_X7_readWord, yi_X7_readWord, yc_X7_readWord⟩ yd_X7_readWord ob_2 (by decide) rfl rfl hl.1 (Nat.le_of_ble_eq_true rfl) ⟨by decide, by decide⟩ ⟨Nat.zero_le _, Nat.zero_le _⟩ dX7_advance_82 (fun M_33 H locs hp_33 hw => ?_)
            obtain ⟨iM_33, q_34, q_35, q_36⟩ := hp_33
            refine lv_goto (tgt := 121) hx hb dX7_advance_85 (by decide) ?_
            exact hQ _ _ _ _ _ hw (⟨iM_33, ((q_34).trans ((rf_I hM_22).trans ((rf_I hM_21).trans f_2))), (o12.trans q_35 (o12.trans (o12_I hM_22 (by decide)) (o12.trans (o12_I hM_21 (by decide)) f_3))), ((q_36).trans ((tI_nE hM_22 (nk (by decide))).trans ((tI_nE hM_21 (nk (by decide))).trans f_4)))⟩) dX7_advance_121
          · refine sb_if_eq (tgt := 88) hx hb (by decide : (0 : Int32).toInt = 0) dX7_advance_78 (by decide) (fun c_78_30 => ?_) (fun h => absurd h (by decide))
            refine lv_iload_n hx hb dX7_advance_88 rfl (lv_at hl 0 rfl) ?_
            refine ti_callSi (av := [.int r_23]) C hw (s_X7_isDigit l D A cy hJ M_22 iM_22 r_23) ⟨ml_X7_54, ys_X7_isDigit, yi_X7_isDigit, yc_X7_isDigit⟩ yd_X7_isDigit rfl hl.1 (Nat.le_of_ble_eq_true rfl) ⟨by decide, by decide⟩ ⟨Nat.zero_le _, Nat.zero_le _⟩ dX7_advance_89 (fun r_37 M_38 H locs hp_38 hw => ?_)
            obtain ⟨hm, hz⟩ := hp_38
            have hw := hw.to hm
            rcases hz with ⟨rfl, d1_39, d2_39⟩ | rfl
            · refine sb_if_eq (tgt := 102) hx hb (by decide : (1 : Int32).toInt = 1) dX7_advance_92 (by decide) (fun h => absurd h (by decide)) (fun c_92_39 => ?_)
              refine lv_aload_n hx hb dX7_advance_95 rfl (lv_at hl 1 rfl) ?_
              refine ti_callVv (ci := 7) (av := []) C hw (s_X7_readNumber l D A cy hJ M_22 iM_22 (by omega)) ⟨ml_X7_57, ym_X7_readNumber, yv_X7_readNumber, yi_X7_readNumber, yc_X7_readNumber⟩ yd_X7_readNumber ob_2 (by decide) rfl rfl hl.1 (Nat.le_of_ble_eq_true rfl) ⟨by decide, by decide⟩ ⟨Nat.zero_le _, Nat.zero_le _⟩ dX7_advance_96 (fun M_43 H locs hp_43 hw => ?_)
              obtain ⟨iM_43, q_44, q_45, q_46⟩ := hp_43
              refine lv_goto (tgt := 121) hx hb dX7_advance_99 (by decide) ?_
              exact hQ _ _ _ _ _ hw (⟨iM_43, ((q_44).trans ((rf_I hM_22).trans ((rf_I hM_21).trans f_2))), (o12.trans q_45 (o12.trans (o12_I hM_22 (by decide)) (o12.trans (o12_I hM_21 (by decide)) f_3))), ((q_46).trans ((tI_nE hM_22 (nk (by decide))).trans ((tI_nE hM_21 (nk (by decide))).trans f_4)))⟩) dX7_advance_121
            · refine sb_if_eq (tgt := 102) hx hb (by decide : (0 : Int32).toInt = 0) dX7_advance_92 (by decide) (fun c_92_40 => ?_) (fun h => absurd h (by decide))
              refine lv_aload_n hx hb dX7_advance_102 rfl (lv_at hl 1 rfl) ?_
              refine lv_dup hx hb dX7_advance_103 rfl ?_
              refine ti_get (ci := 7) (k := 3) (N := 7) (T := TX7) C hw iw_7 rfl ob_2 (by decide) (by decide) fl_X7_22 rfl rfl dX7_advance_104 ?_
              refine ti_top (y := x_7) ((tI_nE hM_22 (nk (by decide))).trans ((tI_nE hM_21 (nk (by decide))).trans ex_7.symm)) ?_
              have u_47 : (tI M_22 2 3).toInt = (x_7 : Int32).toInt := by rw [((tI_nE hM_22 (nk (by decide))).trans ((tI_nE hM_21 (nk (by decide))).trans ex_7.symm))]
              refine lv_iconst (v := 1) hx hb dX7_advance_107 (by decide) ?_
              refine lv_iadd hx hb dX7_advance_108 ?_
              refine lv_topi (fun x_48 ex_48 => ?_)
              have tx_48 : x_48.toInt = x_7.toInt + 1 := i_add ex_48 rfl (by decide : (1 : Int32).toInt = 1) (by omega) (by omega)
              refine ti_putI (ci := 7) (k := 3) (N := 7) (T := TX7) C hw iw_7 tyX7 tyX7_ok nmX7 rfl ob_2 (by decide) (by decide) fl_X7_22 rfl rfl rfl rfl (fn_7 A _) fs_7_3 dX7_advance_109 (fun H locs hw => ?_)
              obtain ⟨M_49, hM_49⟩ : ∃ z : ti_M, z = uI M_22 2 3 x_48 := ⟨_, rfl⟩
              have hw := hw.to hM_49.symm
              have iM_49 : cI Tc M_49 := cI_uI iM_22 hM_49 ob_2.1 (ib_mk (lo := 0) (hi := 700) (by omega) (by omega))
              have vM_49 : (tI M_49 2 3).toInt = (x_48 : Int32).toInt := by rw [tI_uE hM_49]
              refine lv_aload_n hx hb dX7_advance_112 rfl (lv_at hl 1 rfl) ?_
              refine lv_aload_n hx hb dX7_advance_113 rfl (lv_at hl 1 rfl) ?_
              refine lv_iload_n hx hb dX7_advance_114 rfl (lv_at hl 0 rfl) ?_
              refine ti_callVi (ci := 7) (av := [.int r_23]) C hw (s_X7_signKind l D A cy hJ M_49 iM_49 r_23) ⟨ml_X7_60, ym_X7_signKind, yv_X7_signKind, yi_X7_signKind, yc_X7_signKind⟩ yd_X7_signKind ob_2 (by decide) rfl rfl hl.1 (Nat.le_of_ble_eq_true rfl) ⟨by decide, by decide⟩ ⟨Nat.zero_le _, Nat.zero_le _⟩ dX7_advance_115 (fun r_50 M_51 H locs hp_51 hw => ?_)
              obtain ⟨iM_51, q_52, q_53, q_54, b0r_50, b1r_50⟩ := hp_51
              refine ti_putI (ci := 7) (k := 4) (N := 7) (T := TX7) C hw iw_7 tyX7 tyX7_ok nmX7 rfl ob_2 (by decide) (by decide) fl_X7_44 rfl rfl rfl rfl (fn_7 A _) fs_7_4 dX7_advance_118 (fun H locs hw => ?_)
              obtain ⟨M_55, hM_55⟩ : ∃ z : ti_M, z = uI M_51 2 4 r_50 := ⟨_, rfl⟩
              have hw := hw.to hM_55.symm
              have iM_55 : cI Tc M_55 := cI_uI iM_51 hM_55 ob_2.1 (ib_mk (lo := 0) (hi := 41) (by omega) (by omega))
              have vM_55 : (tI M_55 2 4).toInt = (r_50 : Int32).toInt := by rw [tI_uE hM_55]
              exact hQ _ _ _ _ _ hw (⟨iM_55, ((rf_I hM_55).trans ((q_52).trans ((rf_I hM_49).trans ((rf_I hM_22).trans ((rf_I hM_21).trans f_2))))), (o12.trans (o12_I hM_55 (by decide)) (o12.trans q_53 (o12.trans (o12_I hM_49 (by decide)) (o12.trans (o12_I hM_22 (by decide)) (o12.trans (o12_I hM_21 (by decide)) f_3))))), ((tI_nE hM_55 (nk (by decide))).trans ((q_54).trans ((tI_nE hM_49 (nk (by decide))).trans ((tI_nE hM_22 (nk (by decide))).trans ((tI_nE hM_21 (nk (by decide))).trans f_4)))))⟩) dX7_advance_121
        · refine lv_aload_n hx hb dX7_advance_65 rfl (lv_at hl 1 rfl) ?_
          refine lv_bipush (v := 27) hx hb dX7_advance_66 (by decide) ?_
          refine ti_putI (ci := 7) (k := 4) (N := 7) (T := TX7) C hw iw_7 tyX7 tyX7_ok nmX7 rfl ob_2 (by decide) (by decide) fl_X7_44 rfl rfl rfl rfl (fn_7 A _) fs_7_4 dX7_advance_68 (fun H locs hw => ?_)
          obtain ⟨M_26, hM_26⟩ : ∃ z : ti_M, z = uI M_22 2 4 27 := ⟨_, rfl⟩
          have hw := hw.to hM_26.symm
          have iM_26 : cI Tc M_26 := cI_uI iM_22 hM_26 ob_2.1 (ib_mk (lo := 0) (hi := 41) (by decide) (by decide))
          have vM_26 : (tI M_26 2 4).toInt = 27 := by rw [tI_uE hM_26]; decide
          refine lv_goto (tgt := 121) hx hb dX7_advance_71 (by decide) ?_
          exact hQ _ _ _ _ _ hw (⟨iM_26, ((rf_I hM_26).trans ((rf_I hM_22).trans ((rf_I hM_21).trans f_2))), (o12.trans (o12_I hM_26 (by decide)) (o12.trans (o12_I hM_22 (by decide)) (o12.trans (o12_I hM_21 (by decide)) f_3))), ((tI_nE hM_26 (nk (by decide))).trans ((tI_nE hM_22 (nk (by decide))).trans ((tI_nE hM_21 (nk (by decide))).trans f_4)))⟩) dX7_advance_121
      refine sb_icmp_ge (tgt := 42) hx hb rfl rfl dX7_advance_8 (by decide) (fun c_8_8 => ?_) (fun c_8_8 => ?_)
      · exact hj_42_19  _ _ _  hw (lv_sub hl [0] rfl)
      · refine lv_aload_n hx hb dX7_advance_11 rfl (lv_at hl 0 rfl) ?_
        refine ti_callVi (ci := 7) (av := []) C hw (s_X7_peek l D A cy hJ M_1 iM_1 ) ⟨ml_X7_34, ym_X7_peek, yv_X7_peek, yi_X7_peek, yc_X7_peek⟩ yd_X7_peek ob_2 (by decide) rfl rfl hl.1 (Nat.le_of_ble_eq_true rfl) ⟨by decide, by decide⟩ ⟨Nat.zero_le _, Nat.zero_le _⟩ dX7_advance_12 (fun r_10 M_11 H locs hp_11 hw => ?_)
        obtain ⟨hm, b0r_10, b1r_10, p0r_10, p1r_10⟩ := hp_11
        have hw := hw.to hm
        refine lv_bipush (v := 32) hx hb dX7_advance_15 (by decide) ?_
        have hj_29_15 : ∀  (H : Heap) (locs : List Loc) (ls : Array Slot), ti_H ti_LT D A cy H0 M_1 H locs → lv_has ls 2 [(0, .ref (A 2 0))] → W p l e (ti_rm 6) s m args below meth c H locs 0 0 Q (F0 m 29 ls []) := by
          intro  H locs ls  hw hl
          refine lv_aload_n hx hb dX7_advance_29 rfl (lv_at hl 0 rfl) ?_
          refine lv_dup hx hb dX7_advance_30 rfl ?_
          refine ti_get (ci := 7) (k := 3) (N := 7) (T := TX7) C hw iw_7 rfl ob_2 (by decide) (by decide) fl_X7_22 rfl rfl dX7_advance_31 ?_
          refine ti_top (y := x_7) (ex_7.symm) ?_
          have u_16 : (tI M_1 2 3).toInt = (x_7 : Int32).toInt := by rw [(ex_7.symm)]
          refine lv_iconst (v := 1) hx hb dX7_advance_34 (by decide) ?_
          refine lv_iadd hx hb dX7_advance_35 ?_
          refine lv_topi (fun x_17 ex_17 => ?_)
          have tx_17 : x_17.toInt = x_7.toInt + 1 := i_add ex_17 rfl (by decide : (1 : Int32).toInt = 1) (by omega) (by omega)
          refine ti_putI (ci := 7) (k := 3) (N := 7) (T := TX7) C hw iw_7 tyX7 tyX7_ok nmX7 rfl ob_2 (by decide) (by decide) fl_X7_22 rfl rfl rfl rfl (fn_7 A _) fs_7_3 dX7_advance_36 (fun H locs hw => ?_)
          obtain ⟨M_18, hM_18⟩ : ∃ z : ti_M, z = uI M_1 2 3 x_17 := ⟨_, rfl⟩
          have hw := hw.to hM_18.symm
          have iM_18 : cI Tc M_18 := cI_uI iM_1 hM_18 ob_2.1 (ib_mk (lo := 0) (hi := 700) (by omega) (by omega))
          have vM_18 : (tI M_18 2 3).toInt = (x_17 : Int32).toInt := by rw [tI_uE hM_18]
          refine lv_goto (tgt := 0) hx hb dX7_advance_39 (by decide) ?_
          have u_19 : (tI M_18 2 3).toInt = (x_17 : Int32).toInt := by rw [(tI_uE hM_18)]
          exact ih_5 M_18 _ _ _ (by omega) iM_18 ((rf_I hM_18).trans f_2) (o12.trans (o12_I hM_18 (by decide)) f_3) ((tI_nE hM_18 (nk (by decide))).trans f_4) hw (lv_sub hl [0] rfl)
        refine sb_icmp_eq (tgt := 29) hx hb rfl (by decide : (32 : Int32).toInt = 32) dX7_advance_17 (by decide) (fun c_17_11 => ?_) (fun c_17_11 => ?_)
        · exact hj_29_15  _ _ _  hw (lv_sub hl [0] rfl)
        · refine lv_aload_n hx hb dX7_advance_20 rfl (lv_at hl 0 rfl) ?_
          refine ti_callVi (ci := 7) (av := []) C hw (s_X7_peek l D A cy hJ M_1 iM_1 ) ⟨ml_X7_34, ym_X7_peek, yv_X7_peek, yi_X7_peek, yc_X7_peek⟩ yd_X7_peek ob_2 (by decide) rfl rfl hl.1 (Nat.le_of_ble_eq_true rfl) ⟨by decide, by decide⟩ ⟨Nat.zero_le _, Nat.zero_le _⟩ dX7_advance_21 (fun r_13 M_14 H locs hp_14 hw => ?_)
          obtain ⟨hm, b0r_13, b1r_13, p0r_13, p1r_13⟩ := hp_14
          have hw := hw.to hm
          refine lv_bipush (v := 10) hx hb dX7_advance_24 (by decide) ?_
          refine sb_icmp_ne (tgt := 42) hx hb rfl (by decide : (10 : Int32).toInt = 10) dX7_advance_26 (by decide) (fun c_26_14 => ?_) (fun c_26_14 => ?_)
          · exact hj_42_19  _ _ _  hw (lv_sub hl [0] rfl)
          · exact hj_29_15  _ _ _  hw (lv_sub hl [0] rfl)
  exact hl_0_4 ((700 - (tI M 2 3).toInt : Int).toNat + 1) M _ _ _ (Nat.lt_succ_self _) hI rfl o12.refl rfl hw (lv_sub hl [0] rfl)
set_option maxHeartbeats 4000000 in
set_option maxRecDepth 100000 in
theorem s_X7_begin (l : Launch) (D : va_G) (A : Nat → Nat → Nat) (cy : Nat → ClassId) (hJ : ti_inj ti_LT A) (M : ti_M) (hI : cI Tc M) (nn : Int32) (h1 : 0 ≤ nn.toInt) : ti_KvE l yX7_begin cX7_begin 2 7 ti_LT D A cy M [.ref (A 2 0), .int nn] (fun M2 => cI Tc M2 ∧ M2.2.2.2 = M.2.2.2 ∧ o12 M2 M ∧ tI M2 2 1 = tI M 2 1) := by
  refine ti_eVE yp_X7_begin hJ ti_LT_nd (Nat.le_of_ble_eq_true rfl) ?_
  intro p e s m args below meth c Q H0 C hE hQ hw ls hl
  have hx := C.1
  have hb := C.2.1
  have hl : lv_has ls 2 [(0, .ref (A 2 0)), (1, .int nn)] := hl
  refine lv_aload_n hx hb dX7_begin_0 rfl (lv_at hl 0 rfl) ?_
  refine lv_iload_n hx hb dX7_begin_1 rfl (lv_at hl 1 rfl) ?_
  refine lv_sipush (v := 700) hx hb dX7_begin_2 (by decide) ?_
  refine ti_min C ml_X7_25 hl.1 (by decide) (Nat.le_of_ble_eq_true rfl) ⟨Nat.zero_le _, Nat.zero_le _⟩ dX7_begin_5 ?_
  refine lv_topi (fun x_1 ex_1 => ?_)
  have bx_1 := i_min ex_1 rfl (by decide : (700 : Int32).toInt = 700)
  refine ti_putI (ci := 7) (k := 2) (N := 7) (T := TX7) C hw iw_7 tyX7 tyX7_ok nmX7 rfl ob_2 (by decide) (by decide) fl_X7_19 rfl rfl rfl rfl (fn_7 A _) fs_7_2 dX7_begin_8 (fun H locs hw => ?_)
  obtain ⟨M_2, hM_2⟩ : ∃ z : ti_M, z = uI M 2 2 x_1 := ⟨_, rfl⟩
  have hw := hw.to hM_2.symm
  have iM_2 : cI Tc M_2 := cI_uI hI hM_2 ob_2.1 (ib_mk (lo := 0) (hi := 700) (by omega) (by omega))
  have vM_2 : (tI M_2 2 2).toInt = (x_1 : Int32).toInt := by rw [tI_uE hM_2]
  refine lv_aload_n hx hb dX7_begin_11 rfl (lv_at hl 0 rfl) ?_
  refine lv_iconst (v := 0) hx hb dX7_begin_12 (by decide) ?_
  refine ti_putI (ci := 7) (k := 3) (N := 7) (T := TX7) C hw iw_7 tyX7 tyX7_ok nmX7 rfl ob_2 (by decide) (by decide) fl_X7_22 rfl rfl rfl rfl (fn_7 A _) fs_7_3 dX7_begin_13 (fun H locs hw => ?_)
  obtain ⟨M_3, hM_3⟩ : ∃ z : ti_M, z = uI M_2 2 3 0 := ⟨_, rfl⟩
  have hw := hw.to hM_3.symm
  have iM_3 : cI Tc M_3 := cI_uI iM_2 hM_3 ob_2.1 (ib_mk (lo := 0) (hi := 700) (by decide) (by decide))
  have vM_3 : (tI M_3 2 3).toInt = 0 := by rw [tI_uE hM_3]; decide
  refine lv_aload_n hx hb dX7_begin_16 rfl (lv_at hl 0 rfl) ?_
  refine ti_callVvE (ci := 7) (av := []) C hE hw (s_X7_advance l D A cy hJ M_3 iM_3 ) ⟨ml_X7_31, ym_X7_advance, yv_X7_advance, yi_X7_advance, yc_X7_advance⟩ yd_X7_advance ob_2 (by decide) rfl rfl hl.1 (Nat.le_of_ble_eq_true rfl) ⟨by decide, by decide⟩ ⟨Nat.zero_le _, Nat.zero_le _⟩ dX7_begin_17 (fun M_5 H locs hp_5 hw => ?_)
  obtain ⟨iM_5, q_6, q_7, q_8⟩ := hp_5
  exact hQ _ _ _ _ _ hw (⟨iM_5, ((q_6).trans ((rf_I hM_3).trans (rf_I hM_2))), (o12.trans q_7 (o12.trans (o12_I hM_3 (by decide)) (o12_I hM_2 (by decide)))), ((q_8).trans ((tI_nE hM_3 (nk (by decide))).trans (tI_nE hM_2 (nk (by decide)))))⟩) dX7_begin_20

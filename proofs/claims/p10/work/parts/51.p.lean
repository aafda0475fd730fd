variable {Tc : gC} {Tm : gM}
theorem pt_ne {x k : Int32} {z : Int} (h : ¬ x = k) (e : k.toInt = z) : x.toInt ≠ z := fun q => h (Int32.toInt_inj.mp (q.trans e.symm))
/-- the tape and the text's length stay -/
def tp (N M : ti_M) : Prop := N.2.1 = M.2.1 ∧ tI N 2 2 = tI M 2 2
theorem tp.refl {M : ti_M} : tp M M := ⟨rfl, rfl⟩
theorem tp.trans {K N M : ti_M} (x : tp K N) (y : tp N M) : tp K M := ⟨x.1.trans y.1, x.2.trans y.2⟩
theorem tp_I {M N : ti_M} {o k : Nat} {v : Int32} (e : N = uI M o k v) (h : ¬ (2 = k ∧ 2 = o)) : tp N M := ⟨ry_I e, tI_nE e h⟩
theorem tp_Z {M N : ti_M} {o k : Nat} {f : Nat → Int64} (e : N = uZ M o k f) : tp N M := ⟨ry_Z e, tI_uZE e⟩
theorem tp_T {M N : ti_M} {o k : Nat} {f : Option Nat} (e : N = uT M o k f) : tp N M := ⟨by subst e; rfl, tI_uTE e⟩
theorem tp_B {N M : ti_M} (h : tp N M) : pt_cB N = pt_cB M := by unfold pt_cB; rw [tY_fr h.1]
theorem tp_n {N M : ti_M} (h : tp N M) : pt_cn N = pt_cn M := by unfold pt_cn; rw [h.2]
/-- all ints but the tokens' stay -/
def o2 (N M : ti_M) : Prop := ∀ o k : Nat, o ≠ 2 → tI N o k = tI M o k
theorem o2.refl {M : ti_M} : o2 M M := fun _ _ _ => rfl
theorem o2.trans {K N M : ti_M} (x : o2 K N) (y : o2 N M) : o2 K M := fun o k h => (x o k h).trans (y o k h)
theorem o2_I {M N : ti_M} {k : Nat} {v : Int32} (e : N = uI M 2 k v) : o2 N M := fun _ _ h => tI_nE e (no h)
theorem o2_of {M N : ti_M} (e : N.1 = M.1) : o2 N M := fun _ _ _ => tI_fr e
theorem o2_12 {N M : ti_M} (h : o2 N M) : o12 N M := fun o k _ h2 => h o k h2
theorem tp_pk {N M : ti_M} {r : Int32} (h : tp N M) (hI : cI Tc N) (e : r.toInt = (s_pk N).toInt) : r.toInt = pt_pk (pt_cB M) (pt_cn M) (tI N 2 3).toInt.toNat := by
  have h3 : 0 ≤ (tI N 2 3).toInt ∧ (tI N 2 3).toInt ≤ 700 := cI_rd (x := tI N 2 3) (k := 3) hI ob_2.1 rfl
  have h2 : 0 ≤ (tI N 2 2).toInt ∧ (tI N 2 2).toInt ≤ 700 := cI_rd (x := tI N 2 2) (k := 2) hI ob_2.1 rfl
  rw [e, pt_cpk h3.1 h2.1, tp_B h, tp_n h]
  rfl
set_option maxHeartbeats 4000000 in
set_option maxRecDepth 100000 in
theorem x_X7_isLetter (l : Launch) (D : va_G) (A : Nat → Nat → Nat) (cy : Nat → ClassId) (hJ : ti_inj ti_LT A) (M : ti_M) (hI : cI Tc M) (z : Int32) : ti_Ki l yX7_isLetter cX7_isLetter 1 (some .boolean) 0 ti_LT D A cy M [.int z] (fun r M2 => M2 = M ∧ ((r = 1 ∧ 97 ≤ z.toInt ∧ z.toInt ≤ 122) ∨ (r = 0 ∧ (z.toInt < 97 ∨ 122 < z.toInt)))) := by
  refine ti_eI yp_X7_isLetter hJ ti_LT_nd (Nat.le_of_ble_eq_true rfl) ?_
  intro p e s m args below meth c Q H0 C hQ hw ls hl
  have hx := C.1
  have hb := C.2.1
  have hl : lv_has ls 1 [(0, .int z)] := hl
  refine lv_iload_n hx hb dX7_isLetter_0 rfl (lv_at hl 0 rfl) ?_
  refine lv_bipush (v := 97) hx hb dX7_isLetter_1 (by decide) ?_
  refine sb_icmp_lt (tgt := 16) hx hb rfl (by decide : (97 : Int32).toInt = 97) dX7_isLetter_3 (by decide) (fun c_3_0 => ?_) (fun c_3_0 => ?_)
  · refine lv_iconst (v := 0) hx hb dX7_isLetter_16 (by decide) ?_
    exact hQ _ _ _ _ _ _ hw rfl (⟨rfl, Or.inr ⟨rfl, by omega⟩⟩) dX7_isLetter_17
  · refine lv_iload_n hx hb dX7_isLetter_6 rfl (lv_at hl 0 rfl) ?_
    refine lv_bipush (v := 122) hx hb dX7_isLetter_7 (by decide) ?_
    refine sb_icmp_gt (tgt := 16) hx hb rfl (by decide : (122 : Int32).toInt = 122) dX7_isLetter_9 (by decide) (fun c_9_1 => ?_) (fun c_9_1 => ?_)
    · refine lv_iconst (v := 0) hx hb dX7_isLetter_16 (by decide) ?_
      exact hQ _ _ _ _ _ _ hw rfl (⟨rfl, Or.inr ⟨rfl, by omega⟩⟩) dX7_isLetter_17
    · refine lv_iconst (v := 1) hx hb dX7_isLetter_12 (by decide) ?_
      refine lv_goto (tgt := 17) hx hb dX7_isLetter_13 (by decide) ?_
      exact hQ _ _ _ _ _ _ hw rfl (⟨rfl, Or.inl ⟨rfl, by omega, by omega⟩⟩) dX7_isLetter_17
set_option maxHeartbeats 4000000 in
set_option maxRecDepth 100000 in
theorem x_X7_isDigit (l : Launch) (D : va_G) (A : Nat → Nat → Nat) (cy : Nat → ClassId) (hJ : ti_inj ti_LT A) (M : ti_M) (hI : cI Tc M) (z : Int32) : ti_Ki l yX7_isDigit cX7_isDigit 1 (some .boolean) 0 ti_LT D A cy M [.int z] (fun r M2 => M2 = M ∧ ((r = 1 ∧ 48 ≤ z.toInt ∧ z.toInt ≤ 57) ∨ (r = 0 ∧ (z.toInt < 48 ∨ 57 < z.toInt)))) := by
  refine ti_eI yp_X7_isDigit hJ ti_LT_nd (Nat.le_of_ble_eq_true rfl) ?_
  intro p e s m args below meth c Q H0 C hQ hw ls hl
  have hx := C.1
  have hb := C.2.1
  have hl : lv_has ls 1 [(0, .int z)] := hl
  refine lv_iload_n hx hb dX7_isDigit_0 rfl (lv_at hl 0 rfl) ?_
  refine lv_bipush (v := 48) hx hb dX7_isDigit_1 (by decide) ?_
  refine sb_icmp_lt (tgt := 16) hx hb rfl (by decide : (48 : Int32).toInt = 48) dX7_isDigit_3 (by decide) (fun c_3_0 => ?_) (fun c_3_0 => ?_)
  · refine lv_iconst (v := 0) hx hb dX7_isDigit_16 (by decide) ?_
    exact hQ _ _ _ _ _ _ hw rfl (⟨rfl, Or.inr ⟨rfl, by omega⟩⟩) dX7_isDigit_17
  · refine lv_iload_n hx hb dX7_isDigit_6 rfl (lv_at hl 0 rfl) ?_
    refine lv_bipush (v := 57) hx hb dX7_isDigit_7 (by decide) ?_
    refine sb_icmp_gt (tgt := 16) hx hb rfl (by decide : (57 : Int32).toInt = 57) dX7_isDigit_9 (by decide) (fun c_9_1 => ?_) (fun c_9_1 => ?_)
    · refine lv_iconst (v := 0) hx hb dX7_isDigit_16 (by decide) ?_
      exact hQ _ _ _ _ _ _ hw rfl (⟨rfl, Or.inr ⟨rfl, by omega⟩⟩) dX7_isDigit_17
    · refine lv_iconst (v := 1) hx hb dX7_isDigit_12 (by decide) ?_
      refine lv_goto (tgt := 17) hx hb dX7_isDigit_13 (by decide) ?_
      exact hQ _ _ _ _ _ _ hw rfl (⟨rfl, Or.inl ⟨rfl, by omega, by omega⟩⟩) dX7_isDigit_17
set_option maxHeartbeats 4000000 in
set_option maxRecDepth 100000 in
theorem x_X7_belongs (l : Launch) (D : va_G) (A : Nat → Nat → Nat) (cy : Nat → ClassId) (hJ : ti_inj ti_LT A) (M : ti_M) (hI : cI Tc M) (sg : Int32) (h1 : 0 ≤ sg.toInt) : ti_Ki l yX7_belongs cX7_belongs 2 (some .boolean) 1 ti_LT D A cy M [.ref (A 2 0), .int sg] (fun r M2 => (r = 0 ∧ M2 = M ∧ (s_pk M).toInt ≠ sg.toInt) ∨ (r = 1 ∧ (s_pk M).toInt = sg.toInt ∧ ∃ y : Int32, y.toInt = (tI M 2 3).toInt + 1 ∧ cI Tc M2 ∧ M2 = uI M 2 3 y)) := by
  refine ti_eI yp_X7_belongs hJ ti_LT_nd (Nat.le_of_ble_eq_true rfl) ?_
  intro p e s m args below meth c Q H0 C hQ hw ls hl
  have hx := C.1
  have hb := C.2.1
  have hl : lv_has ls 2 [(0, .ref (A 2 0)), (1, .int sg)] := hl
  refine lv_aload_n hx hb dX7_belongs_0 rfl (lv_at hl 0 rfl) ?_
  refine ti_callVi (ci := 7) (av := []) C hw (s_X7_peek l D A cy hJ M hI ) ⟨ml_X7_34, ym_X7_peek, yv_X7_peek, yi_X7_peek, yc_X7_peek⟩ yd_X7_peek ob_2 (by decide) rfl rfl hl.1 (Nat.le_of_ble_eq_true rfl) ⟨by decide, by decide⟩ ⟨Nat.zero_le _, Nat.zero_le _⟩ dX7_belongs_1 (fun r_1 M_2 H locs hp_2 hw => ?_)
  obtain ⟨hm, b0r_1, b1r_1, p0r_1, p1r_1⟩ := hp_2
  have hw := hw.to hm
  have kr_1 := tp_pk tp.refl hI p1r_1
  refine lv_iload_n hx hb dX7_belongs_4 rfl (lv_at hl 1 rfl) ?_
  refine sb_icmp_eq (tgt := 10) hx hb rfl rfl dX7_belongs_5 (by decide) (fun c_5_2 => ?_) (fun c_5_2 => ?_)
  · refine lv_aload_n hx hb dX7_belongs_10 rfl (lv_at hl 0 rfl) ?_
    refine lv_dup hx hb dX7_belongs_11 rfl ?_
    refine ti_get (ci := 7) (k := 3) (N := 7) (T := TX7) C hw iw_7 rfl ob_2 (by decide) (by decide) fl_X7_22 rfl rfl dX7_belongs_12 ?_
    refine lv_topi (fun x_4 ex_4 => ?_)
    have bx_4 : 0 ≤ x_4.toInt ∧ x_4.toInt ≤ 700 := cI_rd hI ob_2.1 ex_4
    have ux_4 : (tI M 2 3).toInt = x_4.toInt := by rw [ex_4]
    refine lv_iconst (v := 1) hx hb dX7_belongs_15 (by decide) ?_
    refine lv_iadd hx hb dX7_belongs_16 ?_
    refine lv_topi (fun x_5 ex_5 => ?_)
    have tx_5 : x_5.toInt = x_4.toInt + 1 := i_add ex_5 rfl (by decide : (1 : Int32).toInt = 1) (by omega) (by omega)
    refine ti_putI (ci := 7) (k := 3) (N := 7) (T := TX7) C hw iw_7 tyX7 tyX7_ok nmX7 rfl ob_2 (by decide) (by decide) fl_X7_22 rfl rfl rfl rfl (fn_7 A _) fs_7_3 dX7_belongs_17 (fun H locs hw => ?_)
    obtain ⟨M_6, hM_6⟩ : ∃ z : ti_M, z = uI M 2 3 x_5 := ⟨_, rfl⟩
    have hw := hw.to hM_6.symm
    have iM_6 : cI Tc M_6 := cI_uI hI hM_6 ob_2.1 (ib_mk (lo := 0) (hi := 700) (by omega) (by omega))
    have vM_6 : (tI M_6 2 3).toInt = (x_5 : Int32).toInt := by rw [tI_uE hM_6]
    refine lv_iconst (v := 1) hx hb dX7_belongs_20 (by decide) ?_
    exact hQ _ _ _ _ _ _ hw rfl (Or.inr ⟨rfl, by omega, x_5, by omega, iM_6, hM_6⟩) dX7_belongs_21
  · refine lv_iconst (v := 0) hx hb dX7_belongs_8 (by decide) ?_
    exact hQ _ _ _ _ _ _ hw rfl (Or.inl ⟨rfl, rfl, by omega⟩) dX7_belongs_9
set_option maxHeartbeats 4000000 in
set_option maxRecDepth 100000 in
theorem x_X7_signKind (l : Launch) (D : va_G) (A : Nat → Nat → Nat) (cy : Nat → ClassId) (hJ : ti_inj ti_LT A) (M : ti_M) (hI : cI Tc M) (sg : Int32) : ti_Ki l yX7_signKind cX7_signKind 2 (some .int) 2 ti_LT D A cy M [.ref (A 2 0), .int sg] (fun r M2 => r.toInt = pt_sk sg.toInt (s_pk M).toInt ∧ 0 ≤ r.toInt ∧ r.toInt ≤ 41 ∧ cI Tc M2 ∧ ((pt_s2 sg.toInt (s_pk M).toInt = 0 ∧ M2 = M) ∨ (pt_s2 sg.toInt (s_pk M).toInt = 1 ∧ ∃ y : Int32, y.toInt = (tI M 2 3).toInt + 1 ∧ M2 = uI M 2 3 y))) := by
  refine ti_eI yp_X7_signKind hJ ti_LT_nd (Nat.le_of_ble_eq_true rfl) ?_
  intro p e s m args below meth c Q H0 C hQ hw ls hl
  have hx := C.1
  have hb := C.2.1
  have hl : lv_has ls 2 [(0, .ref (A 2 0)), (1, .int sg)] := hl
  refine lv_iload_n hx hb dX7_signKind_0 rfl (lv_at hl 1 rfl) ?_
  by_cases s_1_40 : sg = 40
  · have qs_1_40 : sg.toInt = 40 := by rw [s_1_40]; decide
    refine lv_tableIn (tgt := 111) (off := 110) hx hb dX7_signKind_1 (by rw [s_1_40]; decide) (by rw [s_1_40]; decide) (by rw [s_1_40]; decide) (by decide) ?_
    refine lv_bipush (v := 30) hx hb dX7_signKind_111 (by decide) ?_
    exact hQ _ _ _ _ _ _ hw rfl (⟨(by unfold pt_sk; have lv : (30 : Int32).toInt = 30 := (by decide); (repeat' split) <;> omega), by decide, by decide, hI, Or.inl ⟨(by unfold pt_s2; (repeat' split) <;> omega), rfl⟩⟩) dX7_signKind_113
  · have qs_1_40 : sg.toInt ≠ 40 := pt_ne s_1_40 (by decide)
    by_cases s_1_41 : sg = 41
    · have qs_1_41 : sg.toInt = 41 := by rw [s_1_41]; decide
      refine lv_tableIn (tgt := 114) (off := 113) hx hb dX7_signKind_1 (by rw [s_1_41]; decide) (by rw [s_1_41]; decide) (by rw [s_1_41]; decide) (by decide) ?_
      refine lv_bipush (v := 31) hx hb dX7_signKind_114 (by decide) ?_
      exact hQ _ _ _ _ _ _ hw rfl (⟨(by unfold pt_sk; have lv : (31 : Int32).toInt = 31 := (by decide); (repeat' split) <;> omega), by decide, by decide, hI, Or.inl ⟨(by unfold pt_s2; (repeat' split) <;> omega), rfl⟩⟩) dX7_signKind_116
    · have qs_1_41 : sg.toInt ≠ 41 := pt_ne s_1_41 (by decide)
      by_cases s_1_42 : sg = 42
      · have qs_1_42 : sg.toInt = 42 := by rw [s_1_42]; decide
        refine lv_tableIn (tgt := 123) (off := 122) hx hb dX7_signKind_1 (by rw [s_1_42]; decide) (by rw [s_1_42]; decide) (by rw [s_1_42]; decide) (by decide) ?_
        refine lv_bipush (v := 40) hx hb dX7_signKind_123 (by decide) ?_
        exact hQ _ _ _ _ _ _ hw rfl (⟨(by unfold pt_sk; have lv : (40 : Int32).toInt = 40 := (by decide); (repeat' split) <;> omega), by decide, by decide, hI, Or.inl ⟨(by unfold pt_s2; (repeat' split) <;> omega), rfl⟩⟩) dX7_signKind_125
      · have qs_1_42 : sg.toInt ≠ 42 := pt_ne s_1_42 (by decide)
        by_cases s_1_43 : sg = 43
        · have qs_1_43 : sg.toInt = 43 := by rw [s_1_43]; decide
          refine lv_tableIn (tgt := 117) (off := 116) hx hb dX7_signKind_1 (by rw [s_1_43]; decide) (by rw [s_1_43]; decide) (by rw [s_1_43]; decide) (by decide) ?_
          refine lv_bipush (v := 38) hx hb dX7_signKind_117 (by decide) ?_
          exact hQ _ _ _ _ _ _ hw rfl (⟨(by unfold pt_sk; have lv : (38 : Int32).toInt = 38 := (by decide); (repeat' split) <;> omega), by decide, by decide, hI, Or.inl ⟨(by unfold pt_s2; (repeat' split) <;> omega), rfl⟩⟩) dX7_signKind_119
        · have qs_1_43 : sg.toInt ≠ 43 := pt_ne s_1_43 (by decide)
          by_cases s_1_44 : sg = 44
          · have qs_1_44 : sg.toInt = 44 := by rw [s_1_44]; decide
            refine lv_tableIn (tgt := 180) (off := 179) hx hb dX7_signKind_1 (by rw [s_1_44]; decide) (by rw [s_1_44]; decide) (by rw [s_1_44]; decide) (by decide) ?_
            refine lv_bipush (v := 28) hx hb dX7_signKind_180 (by decide) ?_
            exact hQ _ _ _ _ _ _ hw rfl (⟨(by unfold pt_sk; have lv : (28 : Int32).toInt = 28 := (by decide); (repeat' split) <;> omega), by decide, by decide, hI, Or.inl ⟨(by unfold pt_s2; (repeat' split) <;> omega), rfl⟩⟩) dX7_signKind_182
          · have qs_1_44 : sg.toInt ≠ 44 := pt_ne s_1_44 (by decide)
            by_cases s_1_45 : sg = 45
            · have qs_1_45 : sg.toInt = 45 := by rw [s_1_45]; decide
              refine lv_tableIn (tgt := 120) (off := 119) hx hb dX7_signKind_1 (by rw [s_1_45]; decide) (by rw [s_1_45]; decide) (by rw [s_1_45]; decide) (by decide) ?_
              refine lv_bipush (v := 39) hx hb dX7_signKind_120 (by decide) ?_
              exact hQ _ _ _ _ _ _ hw rfl (⟨(by unfold pt_sk; have lv : (39 : Int32).toInt = 39 := (by decide); (repeat' split) <;> omega), by decide, by decide, hI, Or.inl ⟨(by unfold pt_s2; (repeat' split) <;> omega), rfl⟩⟩) dX7_signKind_122
            · have qs_1_45 : sg.toInt ≠ 45 := pt_ne s_1_45 (by decide)
              by_cases s_1_46 : sg = 46
              · have qs_1_46 : sg.toInt = 46 := by rw [s_1_46]; decide
                refine lv_tableIn (tgt := 180) (off := 179) hx hb dX7_signKind_1 (by rw [s_1_46]; decide) (by rw [s_1_46]; decide) (by rw [s_1_46]; decide) (by decide) ?_
                refine lv_bipush (v := 28) hx hb dX7_signKind_180 (by decide) ?_
                exact hQ _ _ _ _ _ _ hw rfl (⟨(by unfold pt_sk; have lv : (28 : Int32).toInt = 28 := (by decide); (repeat' split) <;> omega), by decide, by decide, hI, Or.inl ⟨(by unfold pt_s2; (repeat' split) <;> omega), rfl⟩⟩) dX7_signKind_182
              · have qs_1_46 : sg.toInt ≠ 46 := pt_ne s_1_46 (by decide)
                by_cases s_1_47 : sg = 47
                · have qs_1_47 : sg.toInt = 47 := by rw [s_1_47]; decide
                  refine lv_tableIn (tgt := 126) (off := 125) hx hb dX7_signKind_1 (by rw [s_1_47]; decide) (by rw [s_1_47]; decide) (by rw [s_1_47]; decide) (by decide) ?_
                  refine lv_bipush (v := 41) hx hb dX7_signKind_126 (by decide) ?_
                  exact hQ _ _ _ _ _ _ hw rfl (⟨(by unfold pt_sk; have lv : (41 : Int32).toInt = 41 := (by decide); (repeat' split) <;> omega), by decide, by decide, hI, Or.inl ⟨(by unfold pt_s2; (repeat' split) <;> omega), rfl⟩⟩) dX7_signKind_128
                · have qs_1_47 : sg.toInt ≠ 47 := pt_ne s_1_47 (by decide)
                  by_cases s_1_48 : sg = 48
                  · have qs_1_48 : sg.toInt = 48 := by rw [s_1_48]; decide
                    refine lv_tableIn (tgt := 180) (off := 179) hx hb dX7_signKind_1 (by rw [s_1_48]; decide) (by rw [s_1_48]; decide) (by rw [s_1_48]; decide) (by decide) ?_
                    refine lv_bipush (v := 28) hx hb dX7_signKind_180 (by decide) ?_
                    exact hQ _ _ _ _ _ _ hw rfl (⟨(by unfold pt_sk; have lv : (28 : Int32).toInt = 28 := (by decide); (repeat' split) <;> omega), by decide, by decide, hI, Or.inl ⟨(by unfold pt_s2; (repeat' split) <;> omega), rfl⟩⟩) dX7_signKind_182
                  · have qs_1_48 : sg.toInt ≠ 48 := pt_ne s_1_48 (by decide)
                    by_cases s_1_49 : sg = 49
                    · have qs_1_49 : sg.toInt = 49 := by rw [s_1_49]; decide
                      refine lv_tableIn (tgt := 180) (off := 179) hx hb dX7_signKind_1 (by rw [s_1_49]; decide) (by rw [s_1_49]; decide) (by rw [s_1_49]; decide) (by decide) ?_
                      refine lv_bipush (v := 28) hx hb dX7_signKind_180 (by decide) ?_
                      exact hQ _ _ _ _ _ _ hw rfl (⟨(by unfold pt_sk; have lv : (28 : Int32).toInt = 28 := (by decide); (repeat' split) <;> omega), by decide, by decide, hI, Or.inl ⟨(by unfold pt_s2; (repeat' split) <;> omega), rfl⟩⟩) dX7_signKind_182
                    · have qs_1_49 : sg.toInt ≠ 49 := pt_ne s_1_49 (by decide)
                      by_cases s_1_50 : sg = 50
                      · have qs_1_50 : sg.toInt = 50 := by rw [s_1_50]; decide
                        refine lv_tableIn (tgt := 180) (off := 179) hx hb dX7_signKind_1 (by rw [s_1_50]; decide) (by rw [s_1_50]; decide) (by rw [s_1_50]; decide) (by decide) ?_
                        refine lv_bipush (v := 28) hx hb dX7_signKind_180 (by decide) ?_
                        exact hQ _ _ _ _ _ _ hw rfl (⟨(by unfold pt_sk; have lv : (28 : Int32).toInt = 28 := (by decide); (repeat' split) <;> omega), by decide, by decide, hI, Or.inl ⟨(by unfold pt_s2; (repeat' split) <;> omega), rfl⟩⟩) dX7_signKind_182
                      · have qs_1_50 : sg.toInt ≠ 50 := pt_ne s_1_50 (by decide)
                        by_cases s_1_51 : sg = 51
                        · have qs_1_51 : sg.toInt = 51 := by rw [s_1_51]; decide
                          refine lv_tableIn (tgt := 180) (off := 179) hx hb dX7_signKind_1 (by rw [s_1_51]; decide) (by rw [s_1_51]; decide) (by rw [s_1_51]; decide) (by decide) ?_
                          refine lv_bipush (v := 28) hx hb dX7_signKind_180 (by decide) ?_
                          exact hQ _ _ _ _ _ _ hw rfl (⟨(by unfold pt_sk; have lv : (28 : Int32).toInt = 28 := (by decide); (repeat' split) <;> omega), by decide, by decide, hI, Or.inl ⟨(by unfold pt_s2; (repeat' split) <;> omega), rfl⟩⟩) dX7_signKind_182
                        · have qs_1_51 : sg.toInt ≠ 51 := pt_ne s_1_51 (by decide)
                          by_cases s_1_52 : sg = 52
                          · have qs_1_52 : sg.toInt = 52 := by rw [s_1_52]; decide
                            refine lv_tableIn (tgt := 180) (off := 179) hx hb dX7_signKind_1 (by rw [s_1_52]; decide) (by rw [s_1_52]; decide) (by rw [s_1_52]; decide) (by decide) ?_
                            refine lv_bipush (v := 28) hx hb dX7_signKind_180 (by decide) ?_
                            exact hQ _ _ _ _ _ _ hw rfl (⟨(by unfold pt_sk; have lv : (28 : Int32).toInt = 28 := (by decide); (repeat' split) <;> omega), by decide, by decide, hI, Or.inl ⟨(by unfold pt_s2; (repeat' split) <;> omega), rfl⟩⟩) dX7_signKind_182
                          · have qs_1_52 : sg.toInt ≠ 52 := pt_ne s_1_52 (by decide)
                            by_cases s_1_53 : sg = 53
                            · have qs_1_53 : sg.toInt = 53 := by rw [s_1_53]; decide
                              refine lv_tableIn (tgt := 180) (off := 179) hx hb dX7_signKind_1 (by rw [s_1_53]; decide) (by rw [s_1_53]; decide) (by rw [s_1_53]; decide) (by decide) ?_
                              refine lv_bipush (v := 28) hx hb dX7_signKind_180 (by decide) ?_
                              exact hQ _ _ _ _ _ _ hw rfl (⟨(by unfold pt_sk; have lv : (28 : Int32).toInt = 28 := (by decide); (repeat' split) <;> omega), by decide, by decide, hI, Or.inl ⟨(by unfold pt_s2; (repeat' split) <;> omega), rfl⟩⟩) dX7_signKind_182
                            · have qs_1_53 : sg.toInt ≠ 53 := pt_ne s_1_53 (by decide)
                              by_cases s_1_54 : sg = 54
                              · have qs_1_54 : sg.toInt = 54 := by rw [s_1_54]; decide
                                refine lv_tableIn (tgt := 180) (off := 179) hx hb dX7_signKind_1 (by rw [s_1_54]; decide) (by rw [s_1_54]; decide) (by rw [s_1_54]; decide) (by decide) ?_
                                refine lv_bipush (v := 28) hx hb dX7_signKind_180 (by decide) ?_
                                exact hQ _ _ _ _ _ _ hw rfl (⟨(by unfold pt_sk; have lv : (28 : Int32).toInt = 28 := (by decide); (repeat' split) <;> omega), by decide, by decide, hI, Or.inl ⟨(by unfold pt_s2; (repeat' split) <;> omega), rfl⟩⟩) dX7_signKind_182
                              · have qs_1_54 : sg.toInt ≠ 54 := pt_ne s_1_54 (by decide)
                                by_cases s_1_55 : sg = 55
                                · have qs_1_55 : sg.toInt = 55 := by rw [s_1_55]; decide
                                  refine lv_tableIn (tgt := 180) (off := 179) hx hb dX7_signKind_1 (by rw [s_1_55]; decide) (by rw [s_1_55]; decide) (by rw [s_1_55]; decide) (by decide) ?_
                                  refine lv_bipush (v := 28) hx hb dX7_signKind_180 (by decide) ?_
                                  exact hQ _ _ _ _ _ _ hw rfl (⟨(by unfold pt_sk; have lv : (28 : Int32).toInt = 28 := (by decide); (repeat' split) <;> omega), by decide, by decide, hI, Or.inl ⟨(by unfold pt_s2; (repeat' split) <;> omega), rfl⟩⟩) dX7_signKind_182
                                · have qs_1_55 : sg.toInt ≠ 55 := pt_ne s_1_55 (by decide)
                                  by_cases s_1_56 : sg = 56
                                  · have qs_1_56 : sg.toInt = 56 := by rw [s_1_56]; decide
                                    refine lv_tableIn (tgt := 180) (off := 179) hx hb dX7_signKind_1 (by rw [s_1_56]; decide) (by rw [s_1_56]; decide) (by rw [s_1_56]; decide) (by decide) ?_
                                    refine lv_bipush (v := 28) hx hb dX7_signKind_180 (by decide) ?_
                                    exact hQ _ _ _ _ _ _ hw rfl (⟨(by unfold pt_sk; have lv : (28 : Int32).toInt = 28 := (by decide); (repeat' split) <;> omega), by decide, by decide, hI, Or.inl ⟨(by unfold pt_s2; (repeat' split) <;> omega), rfl⟩⟩) dX7_signKind_182
                                  · have qs_1_56 : sg.toInt ≠ 56 := pt_ne s_1_56 (by decide)
                                    by_cases s_1_57 : sg = 57
                                    · have qs_1_57 : sg.toInt = 57 := by rw [s_1_57]; decide
                                      refine lv_tableIn (tgt := 180) (off := 179) hx hb dX7_signKind_1 (by rw [s_1_57]; decide) (by rw [s_1_57]; decide) (by rw [s_1_57]; decide) (by decide) ?_
                                      refine lv_bipush (v := 28) hx hb dX7_signKind_180 (by decide) ?_
                                      exact hQ _ _ _ _ _ _ hw rfl (⟨(by unfold pt_sk; have lv : (28 : Int32).toInt = 28 := (by decide); (repeat' split) <;> omega), by decide, by decide, hI, Or.inl ⟨(by unfold pt_s2; (repeat' split) <;> omega), rfl⟩⟩) dX7_signKind_182
                                    · have qs_1_57 : sg.toInt ≠ 57 := pt_ne s_1_57 (by decide)
                                      by_cases s_1_58 : sg = 58
                                      · have qs_1_58 : sg.toInt = 58 := by rw [s_1_58]; decide
                                        refine lv_tableIn (tgt := 180) (off := 179) hx hb dX7_signKind_1 (by rw [s_1_58]; decide) (by rw [s_1_58]; decide) (by rw [s_1_58]; decide) (by decide) ?_
                                        refine lv_bipush (v := 28) hx hb dX7_signKind_180 (by decide) ?_
                                        exact hQ _ _ _ _ _ _ hw rfl (⟨(by unfold pt_sk; have lv : (28 : Int32).toInt = 28 := (by decide); (repeat' split) <;> omega), by decide, by decide, hI, Or.inl ⟨(by unfold pt_s2; (repeat' split) <;> omega), rfl⟩⟩) dX7_signKind_182
                                      · have qs_1_58 : sg.toInt ≠ 58 := pt_ne s_1_58 (by decide)
                                        by_cases s_1_59 : sg = 59
                                        · have qs_1_59 : sg.toInt = 59 := by rw [s_1_59]; decide
                                          refine lv_tableIn (tgt := 108) (off := 107) hx hb dX7_signKind_1 (by rw [s_1_59]; decide) (by rw [s_1_59]; decide) (by rw [s_1_59]; decide) (by decide) ?_
                                          refine lv_bipush (v := 29) hx hb dX7_signKind_108 (by decide) ?_
                                          exact hQ _ _ _ _ _ _ hw rfl (⟨(by unfold pt_sk; have lv : (29 : Int32).toInt = 29 := (by decide); (repeat' split) <;> omega), by decide, by decide, hI, Or.inl ⟨(by unfold pt_s2; (repeat' split) <;> omega), rfl⟩⟩) dX7_signKind_110
                                        · have qs_1_59 : sg.toInt ≠ 59 := pt_ne s_1_59 (by decide)
                                          by_cases s_1_60 : sg = 60
                                          · have qs_1_60 : sg.toInt = 60 := by rw [s_1_60]; decide
                                            refine lv_tableIn (tgt := 132) (off := 131) hx hb dX7_signKind_1 (by rw [s_1_60]; decide) (by rw [s_1_60]; decide) (by rw [s_1_60]; decide) (by decide) ?_
                                            refine lv_aload_n hx hb dX7_signKind_132 rfl (lv_at hl 0 rfl) ?_
                                            refine lv_bipush (v := 61) hx hb dX7_signKind_133 (by decide) ?_
                                            refine ti_callVi (ci := 7) (av := [.int 61]) C hw (x_X7_belongs l D A cy hJ M hI 61 (by first | omega | decide)) ⟨ml_X7_76, ym_X7_belongs, yv_X7_belongs, yi_X7_belongs, yc_X7_belongs⟩ yd_X7_belongs ob_2 (by decide) rfl rfl hl.1 (Nat.le_of_ble_eq_true rfl) ⟨by decide, by decide⟩ ⟨Nat.zero_le _, Nat.zero_le _⟩ dX7_signKind_135 (fun r_2 M_3 H locs hp_3 hw => ?_)
                                            have lg_4 : (61 : Int32).toInt = 61 := by decide
                                            rcases hp_3 with ⟨rfl, hmg_4, g_4⟩ | ⟨rfl, g_4, y_5, ty_5, iM_3, hM_3⟩
                                            · have hw := hw.to hmg_4
                                              refine sb_if_eq (tgt := 146) hx hb (by decide : (0 : Int32).toInt = 0) dX7_signKind_138 (by decide) (fun c_138_5 => ?_) (fun h => absurd h (by decide))
                                              refine lv_aload_n hx hb dX7_signKind_146 rfl (lv_at hl 0 rfl) ?_
                                              refine lv_bipush (v := 62) hx hb dX7_signKind_147 (by decide) ?_
                                              refine ti_callVi (ci := 7) (av := [.int 62]) C hw (x_X7_belongs l D A cy hJ M hI 62 (by first | omega | decide)) ⟨ml_X7_76, ym_X7_belongs, yv_X7_belongs, yi_X7_belongs, yc_X7_belongs⟩ yd_X7_belongs ob_2 (by decide) rfl rfl hl.1 (Nat.le_of_ble_eq_true rfl) ⟨by decide, by decide⟩ ⟨Nat.zero_le _, Nat.zero_le _⟩ dX7_signKind_149 (fun r_8 M_9 H locs hp_9 hw => ?_)
                                              have lg_10 : (62 : Int32).toInt = 62 := by decide
                                              rcases hp_9 with ⟨rfl, hmg_10, g_10⟩ | ⟨rfl, g_10, y_11, ty_11, iM_9, hM_9⟩
                                              · have hw := hw.to hmg_10
                                                refine sb_if_eq (tgt := 160) hx hb (by decide : (0 : Int32).toInt = 0) dX7_signKind_152 (by decide) (fun c_152_11 => ?_) (fun h => absurd h (by decide))
                                                refine lv_bipush (v := 32) hx hb dX7_signKind_160 (by decide) ?_
                                                exact hQ _ _ _ _ _ _ hw rfl (⟨(by unfold pt_sk; have lv : (32 : Int32).toInt = 32 := (by decide); (repeat' split) <;> omega), by decide, by decide, hI, Or.inl ⟨(by unfold pt_s2; (repeat' split) <;> omega), rfl⟩⟩) dX7_signKind_162
                                              · refine sb_if_eq (tgt := 160) hx hb (by decide : (1 : Int32).toInt = 1) dX7_signKind_152 (by decide) (fun h => absurd h (by decide)) (fun c_152_12 => ?_)
                                                refine lv_bipush (v := 35) hx hb dX7_signKind_155 (by decide) ?_
                                                refine lv_goto (tgt := 162) hx hb dX7_signKind_157 (by decide) ?_
                                                exact hQ _ _ _ _ _ _ hw rfl (⟨(by unfold pt_sk; have lv : (35 : Int32).toInt = 35 := (by decide); (repeat' split) <;> omega), by decide, by decide, iM_9, Or.inr ⟨(by unfold pt_s2; (repeat' split) <;> omega), y_11, ty_11, hM_9⟩⟩) dX7_signKind_162
                                            · refine sb_if_eq (tgt := 146) hx hb (by decide : (1 : Int32).toInt = 1) dX7_signKind_138 (by decide) (fun h => absurd h (by decide)) (fun c_138_6 => ?_)
                                              refine lv_bipush (v := 33) hx hb dX7_signKind_141 (by decide) ?_
                                              refine lv_goto (tgt := 162) hx hb dX7_signKind_143 (by decide) ?_
                                              exact hQ _ _ _ _ _ _ hw rfl (⟨(by unfold pt_sk; have lv : (33 : Int32).toInt = 33 := (by decide); (repeat' split) <;> omega), by decide, by decide, iM_3, Or.inr ⟨(by unfold pt_s2; (repeat' split) <;> omega), y_5, ty_5, hM_3⟩⟩) dX7_signKind_162
                                          · have qs_1_60 : sg.toInt ≠ 60 := pt_ne s_1_60 (by decide)
                                            by_cases s_1_61 : sg = 61
                                            · have qs_1_61 : sg.toInt = 61 := by rw [s_1_61]; decide
                                              refine lv_tableIn (tgt := 129) (off := 128) hx hb dX7_signKind_1 (by rw [s_1_61]; decide) (by rw [s_1_61]; decide) (by rw [s_1_61]; decide) (by decide) ?_
                                              refine lv_bipush (v := 34) hx hb dX7_signKind_129 (by decide) ?_
                                              exact hQ _ _ _ _ _ _ hw rfl (⟨(by unfold pt_sk; have lv : (34 : Int32).toInt = 34 := (by decide); (repeat' split) <;> omega), by decide, by decide, hI, Or.inl ⟨(by unfold pt_s2; (repeat' split) <;> omega), rfl⟩⟩) dX7_signKind_131
                                            · have qs_1_61 : sg.toInt ≠ 61 := pt_ne s_1_61 (by decide)
                                              by_cases s_1_62 : sg = 62
                                              · have qs_1_62 : sg.toInt = 62 := by rw [s_1_62]; decide
                                                refine lv_tableIn (tgt := 163) (off := 162) hx hb dX7_signKind_1 (by rw [s_1_62]; decide) (by rw [s_1_62]; decide) (by rw [s_1_62]; decide) (by decide) ?_
                                                refine lv_aload_n hx hb dX7_signKind_163 rfl (lv_at hl 0 rfl) ?_
                                                refine lv_bipush (v := 61) hx hb dX7_signKind_164 (by decide) ?_
                                                refine ti_callVi (ci := 7) (av := [.int 61]) C hw (x_X7_belongs l D A cy hJ M hI 61 (by first | omega | decide)) ⟨ml_X7_76, ym_X7_belongs, yv_X7_belongs, yi_X7_belongs, yc_X7_belongs⟩ yd_X7_belongs ob_2 (by decide) rfl rfl hl.1 (Nat.le_of_ble_eq_true rfl) ⟨by decide, by decide⟩ ⟨Nat.zero_le _, Nat.zero_le _⟩ dX7_signKind_166 (fun r_14 M_15 H locs hp_15 hw => ?_)
                                                have lg_16 : (61 : Int32).toInt = 61 := by decide
                                                rcases hp_15 with ⟨rfl, hmg_16, g_16⟩ | ⟨rfl, g_16, y_17, ty_17, iM_15, hM_15⟩
                                                · have hw := hw.to hmg_16
                                                  refine sb_if_eq (tgt := 177) hx hb (by decide : (0 : Int32).toInt = 0) dX7_signKind_169 (by decide) (fun c_169_17 => ?_) (fun h => absurd h (by decide))
                                                  refine lv_bipush (v := 37) hx hb dX7_signKind_177 (by decide) ?_
                                                  exact hQ _ _ _ _ _ _ hw rfl (⟨(by unfold pt_sk; have lv : (37 : Int32).toInt = 37 := (by decide); (repeat' split) <;> omega), by decide, by decide, hI, Or.inl ⟨(by unfold pt_s2; (repeat' split) <;> omega), rfl⟩⟩) dX7_signKind_179
                                                · refine sb_if_eq (tgt := 177) hx hb (by decide : (1 : Int32).toInt = 1) dX7_signKind_169 (by decide) (fun h => absurd h (by decide)) (fun c_169_18 => ?_)
                                                  refine lv_bipush (v := 36) hx hb dX7_signKind_172 (by decide) ?_
                                                  refine lv_goto (tgt := 179) hx hb dX7_signKind_174 (by decide) ?_
                                                  exact hQ _ _ _ _ _ _ hw rfl (⟨(by unfold pt_sk; have lv : (36 : Int32).toInt = 36 := (by decide); (repeat' split) <;> omega), by decide, by decide, iM_15, Or.inr ⟨(by unfold pt_s2; (repeat' split) <;> omega), y_17, ty_17, hM_15⟩⟩) dX7_signKind_179
                                              · have qs_1_62 : sg.toInt ≠ 62 := pt_ne s_1_62 (by decide)
                                                refine lv_tableOut (tgt := 180) hx hb dX7_signKind_1 (ti_out (lo := 40) (hi := 62) sg (fun v h1 h2 => by rcases (show v = 40 ∨ v = 41 ∨ v = 42 ∨ v = 43 ∨ v = 44 ∨ v = 45 ∨ v = 46 ∨ v = 47 ∨ v = 48 ∨ v = 49 ∨ v = 50 ∨ v = 51 ∨ v = 52 ∨ v = 53 ∨ v = 54 ∨ v = 55 ∨ v = 56 ∨ v = 57 ∨ v = 58 ∨ v = 59 ∨ v = 60 ∨ v = 61 ∨ v = 62 by omega) with rfl | rfl | rfl | rfl | rfl | rfl | rfl | rfl | rfl | rfl | rfl | rfl | rfl | rfl | rfl | rfl | rfl | rfl | rfl | rfl | rfl | rfl | rfl <;> first | exact ti_nev 40 s_1_40 (by decide) | exact ti_nev 41 s_1_41 (by decide) | exact ti_nev 42 s_1_42 (by decide) | exact ti_nev 43 s_1_43 (by decide) | exact ti_nev 44 s_1_44 (by decide) | exact ti_nev 45 s_1_45 (by decide) | exact ti_nev 46 s_1_46 (by decide) | exact ti_nev 47 s_1_47 (by decide) | exact ti_nev 48 s_1_48 (by decide) | exact ti_nev 49 s_1_49 (by decide) | exact ti_nev 50 s_1_50 (by decide) | exact ti_nev 51 s_1_51 (by decide) | exact ti_nev 52 s_1_52 (by decide) | exact ti_nev 53 s_1_53 (by decide) | exact ti_nev 54 s_1_54 (by decide) | exact ti_nev 55 s_1_55 (by decide) | exact ti_nev 56 s_1_56 (by decide) | exact ti_nev 57 s_1_57 (by decide) | exact ti_nev 58 s_1_58 (by decide) | exact ti_nev 59 s_1_59 (by decide) | exact ti_nev 60 s_1_60 (by decide) | exact ti_nev 61 s_1_61 (by decide) | exact ti_nev 62 s_1_62 (by decide))) (by decide) ?_
                                                refine lv_bipush (v := 28) hx hb dX7_signKind_180 (by decide) ?_
                                                exact hQ _ _ _ _ _ _ hw rfl (⟨(by unfold pt_sk; have lv : (28 : Int32).toInt = 28 := (by decide); (repeat' split) <;> omega), by decide, by decide, hI, Or.inl ⟨(by unfold pt_s2; (repeat' split) <;> omega), rfl⟩⟩) dX7_signKind_182
set_option maxHeartbeats 4000000 in
set_option maxRecDepth 100000 in
theorem x_X7_readNumber (l : Launch) (D : va_G) (A : Nat → Nat → Nat) (cy : Nat → ClassId) (hJ : ti_inj ti_LT A) (M : ti_M) (hI : cI Tc M) (hv : (tI M 2 6).toInt ≤ 1000000) : ti_Kv l yX7_readNumber cX7_readNumber 1 1 ti_LT D A cy M [.ref (A 2 0)] (fun M2 => cI Tc M2 ∧ M2.2.2.2 = M.2.2.2 ∧ o2 M2 M ∧ tI M2 2 1 = tI M 2 1 ∧ tp M2 M ∧ tI M2 2 5 = tI M 2 5 ∧ (tI M2 2 4).toInt = 26 ∧ (tI M2 2 3).toInt = ((pt_to pt_D (pt_cB M) (pt_cn M) (tI M 2 3).toInt.toNat : Nat) : Int) ∧ (tI M2 2 6).toInt = pt_nv (pt_cB M) (pt_cn M) (tI M 2 3).toInt.toNat (tI M 2 6).toInt) := by
  refine ti_eV yp_X7_readNumber hJ ti_LT_nd (Nat.le_of_ble_eq_true rfl) ?_
  intro p e s m args below meth c Q H0 C hQ hw ls hl
  have hx := C.1
  have hb := C.2.1
  have hl : lv_has ls 1 [(0, .ref (A 2 0))] := hl
  refine lv_aload_n hx hb dX7_readNumber_0 rfl (lv_at hl 0 rfl) ?_
  refine lv_bipush (v := 26) hx hb dX7_readNumber_1 (by decide) ?_
  refine ti_putI (ci := 7) (k := 4) (N := 7) (T := TX7) C hw iw_7 tyX7 tyX7_ok nmX7 rfl ob_2 (by decide) (by decide) fl_X7_44 rfl rfl rfl rfl (fn_7 A _) fs_7_4 dX7_readNumber_3 (fun H locs hw => ?_)
  obtain ⟨M_1, hM_1⟩ : ∃ z : ti_M, z = uI M 2 4 26 := ⟨_, rfl⟩
  have hw := hw.to hM_1.symm
  have iM_1 : cI Tc M_1 := cI_uI hI hM_1 ob_2.1 (ib_mk (lo := 0) (hi := 41) (by decide) (by decide))
  have vM_1 : (tI M_1 2 4).toInt = 26 := by rw [tI_uE hM_1]; decide
  have u_13 : (tI M_1 2 3).toInt = (tI M 2 3).toInt := by rw [(tI_nE hM_1 (nk (by decide)))]
  have u_14 : 0 ≤ (tI M_1 2 3).toInt ∧ (tI M_1 2 3).toInt ≤ 700 := cI_rd (x := tI M_1 2 3) (k := 3) iM_1 ob_2.1 rfl
  have u_15 : (tI M_1 2 4).toInt = (26 : Int32).toInt := by rw [(tI_uE hM_1)]
  have u_16 : (tI M_1 2 6).toInt = (tI M 2 6).toInt := by rw [(tI_nE hM_1 (nk (by decide)))]
  have u_17 : 0 ≤ (tI M_1 2 6).toInt ∧ (tI M_1 2 6).toInt ≤ 2147483647 := cI_rd (x := tI M_1 2 6) (k := 6) iM_1 ob_2.1 rfl
  have hl_6_11 : ∀ (n_12 : Nat) (M_2 : ti_M) (H : Heap) (locs : List Loc) (ls : Array Slot), (700 - (tI M_2 2 3).toInt : Int).toNat < n_12 → (cI Tc M_2) → (M_2.2.2.2 = M.2.2.2) → (o2 M_2 M) → (tI M_2 2 1 = tI M 2 1) → (tp M_2 M) → (tI M_2 2 5 = tI M 2 5) → ((tI M_2 2 6).toInt ≤ 1000000) → ((tI M_2 2 4).toInt = 26) → (pt_to pt_D (pt_cB M) (pt_cn M) (tI M_2 2 3).toInt.toNat = pt_to pt_D (pt_cB M) (pt_cn M) (tI M 2 3).toInt.toNat) → (pt_nv (pt_cB M) (pt_cn M) (tI M_2 2 3).toInt.toNat (tI M_2 2 6).toInt = pt_nv (pt_cB M) (pt_cn M) (tI M 2 3).toInt.toNat (tI M 2 6).toInt) → ti_H ti_LT D A cy H0 M_2 H locs → lv_has ls 1 [(0, .ref (A 2 0))] → W p l e (ti_rm 1) s m args below meth c H locs 0 0 Q (F0 m 6 ls []) := by
    intro n_12
    induction n_12 with
    | zero => intro M_2 H locs ls hf_12; exact absurd hf_12 (Nat.not_lt_zero _)
    | succ n_12 ih_12 =>
      intro M_2 H locs ls hf_12 iM_2 f_3 f_4 f_5 f_6 f_7 j_8 j_9 j_10 j_11 hw hl
      refine lv_aload_n hx hb dX7_readNumber_6 rfl (lv_at hl 0 rfl) ?_
      refine ti_get (ci := 7) (k := 3) (N := 7) (T := TX7) C hw iw_7 rfl ob_2 (by decide) (by decide) fl_X7_22 rfl rfl dX7_readNumber_7 ?_
      refine lv_topi (fun x_18 ex_18 => ?_)
      have bx_18 : 0 ≤ x_18.toInt ∧ x_18.toInt ≤ 700 := cI_rd iM_2 ob_2.1 ex_18
      have ux_18 : (tI M_2 2 3).toInt = x_18.toInt := by rw [ex_18]
      refine lv_aload_n hx hb dX7_readNumber_10 rfl (lv_at hl 0 rfl) ?_
      refine ti_get (ci := 7) (k := 2) (N := 7) (T := TX7) C hw iw_7 rfl ob_2 (by decide) (by decide) fl_X7_19 rfl rfl dX7_readNumber_11 ?_
      refine lv_topi (fun x_19 ex_19 => ?_)
      have bx_19 : 0 ≤ x_19.toInt ∧ x_19.toInt ≤ 700 := cI_rd iM_2 ob_2.1 ex_19
      have ux_19 : (tI M_2 2 2).toInt = x_19.toInt := by rw [ex_19]
      refine sb_icmp_ge (tgt := 64) hx hb rfl rfl dX7_readNumber_14 (by decide) (fun c_14_19 => ?_) (fun c_14_19 => ?_)
      · exact hQ _ _ _ _ _ hw (⟨iM_2, (f_3), f_4, (f_5), f_6, (f_7), by omega, (by rw [← j_10, pt_to_end (P := pt_D) (B := pt_cB M) (n := pt_cn M) (a := (tI M_2 2 3).toInt.toNat) (fun q => by have q1 := q.1; have q2 := tp_n f_6; unfold pt_cn at q1 q2; omega)]; omega), (by rw [← j_11, pt_nv_end (B := pt_cB M) (n := pt_cn M) (a := (tI M_2 2 3).toInt.toNat) (fun q => by have q1 := q.1; have q2 := tp_n f_6; unfold pt_cn at q1 q2; omega)])⟩) dX7_readNumber_64
      · refine lv_aload_n hx hb dX7_readNumber_17 rfl (lv_at hl 0 rfl) ?_
        refine ti_callVi (ci := 7) (av := []) C hw (s_X7_peek l D A cy hJ M_2 iM_2 ) ⟨ml_X7_34, ym_X7_peek, yv_X7_peek, yi_X7_peek, yc_X7_peek⟩ yd_X7_peek ob_2 (by decide) rfl rfl hl.1 (Nat.le_of_ble_eq_true rfl) ⟨by decide, by decide⟩ ⟨Nat.zero_le _, Nat.zero_le _⟩ dX7_readNumber_18 (fun r_21 M_22 H locs hp_22 hw => ?_)
        obtain ⟨hm, b0r_21, b1r_21, p0r_21, p1r_21⟩ := hp_22
        have hw := hw.to hm
        have kr_21 := tp_pk f_6 iM_2 p1r_21
        refine ti_callSi (av := [.int r_21]) C hw (x_X7_isDigit l D A cy hJ M_2 iM_2 r_21) ⟨ml_X7_54, ys_X7_isDigit, yi_X7_isDigit, yc_X7_isDigit⟩ yd_X7_isDigit rfl hl.1 (Nat.le_of_ble_eq_true rfl) ⟨by decide, by decide⟩ ⟨Nat.zero_le _, Nat.zero_le _⟩ dX7_readNumber_21 (fun r_23 M_24 H locs hp_24 hw => ?_)
        obtain ⟨hm, hz⟩ := hp_24
        have hw := hw.to hm
        rcases hz with ⟨rfl, d1_25, d2_25⟩ | ⟨rfl, d1_25⟩
        · refine sb_if_eq (tgt := 64) hx hb (by decide : (1 : Int32).toInt = 1) dX7_readNumber_24 (by decide) (fun h => absurd h (by decide)) (fun c_24_25 => ?_)
          refine lv_aload_n hx hb dX7_readNumber_27 rfl (lv_at hl 0 rfl) ?_
          refine lv_aload_n hx hb dX7_readNumber_28 rfl (lv_at hl 0 rfl) ?_
          refine ti_get (ci := 7) (k := 6) (N := 7) (T := TX7) C hw iw_7 rfl ob_2 (by decide) (by decide) fl_X7_41 rfl rfl dX7_readNumber_29 ?_
          refine lv_topi (fun x_28 ex_28 => ?_)
          have bx_28 : 0 ≤ x_28.toInt ∧ x_28.toInt ≤ 2147483647 := cI_rd iM_2 ob_2.1 ex_28
          have ux_28 : (tI M_2 2 6).toInt = x_28.toInt := by rw [ex_28]
          refine lv_bipush (v := 10) hx hb dX7_readNumber_32 (by decide) ?_
          refine lv_imul hx hb dX7_readNumber_34 ?_
          refine lv_topi (fun x_29 ex_29 => ?_)
          have lox_29x_28 := x_28.le_toInt
          have hix_29x_28 := x_28.toInt_lt
          have tx_29 : x_29.toInt = x_28.toInt * 10 := i_mul ex_29 rfl (by decide : (10 : Int32).toInt = 10) (by omega) (by omega)
          refine lv_aload_n hx hb dX7_readNumber_35 rfl (lv_at hl 0 rfl) ?_
          refine ti_callVi (ci := 7) (av := []) C hw (s_X7_peek l D A cy hJ M_2 iM_2 ) ⟨ml_X7_34, ym_X7_peek, yv_X7_peek, yi_X7_peek, yc_X7_peek⟩ yd_X7_peek ob_2 (by decide) rfl rfl hl.1 (Nat.le_of_ble_eq_true rfl) ⟨by decide, by decide⟩ ⟨Nat.zero_le _, Nat.zero_le _⟩ dX7_readNumber_36 (fun r_30 M_31 H locs hp_31 hw => ?_)
          obtain ⟨hm, b0r_30, b1r_30, p0r_30, p1r_30⟩ := hp_31
          have hw := hw.to hm
          have kr_30 := tp_pk f_6 iM_2 p1r_30
          refine lv_iadd hx hb dX7_readNumber_39 ?_
          refine lv_topi (fun x_32 ex_32 => ?_)
          have lox_32x_29 := x_29.le_toInt
          have hix_32x_29 := x_29.toInt_lt
          have lox_32r_30 := r_30.le_toInt
          have hix_32r_30 := r_30.toInt_lt
          have tx_32 : x_32.toInt = x_29.toInt + r_30.toInt := i_add ex_32 rfl rfl (by omega) (by omega)
          refine lv_bipush (v := 48) hx hb dX7_readNumber_40 (by decide) ?_
          refine lv_isub hx hb dX7_readNumber_42 ?_
          refine lv_topi (fun x_33 ex_33 => ?_)
          have lox_33x_32 := x_32.le_toInt
          have hix_33x_32 := x_32.toInt_lt
          have tx_33 : x_33.toInt = x_32.toInt - 48 := i_sub ex_33 rfl (by decide : (48 : Int32).toInt = 48) (by omega) (by omega)
          refine lv_ldc (v := 1000000) hx hb C.2.2.2.1 (C.2.2.1 _ cn_X7_64) dX7_readNumber_43 ?_
          refine ti_min C ml_X7_25 hl.1 (by decide) (Nat.le_of_ble_eq_true rfl) ⟨Nat.zero_le _, Nat.zero_le _⟩ dX7_readNumber_45 ?_
          refine lv_topi (fun x_34 ex_34 => ?_)
          have bx_34 := i_min ex_34 rfl (by decide : (1000000 : Int32).toInt = 1000000)
          refine ti_putI (ci := 7) (k := 6) (N := 7) (T := TX7) C hw iw_7 tyX7 tyX7_ok nmX7 rfl ob_2 (by decide) (by decide) fl_X7_41 rfl rfl rfl rfl (fn_7 A _) fs_7_6 dX7_readNumber_48 (fun H locs hw => ?_)
          obtain ⟨M_35, hM_35⟩ : ∃ z : ti_M, z = uI M_2 2 6 x_34 := ⟨_, rfl⟩
          have hw := hw.to hM_35.symm
          have iM_35 : cI Tc M_35 := cI_uI iM_2 hM_35 ob_2.1 (ib_mk (lo := 0) (hi := 2147483647) (by omega) (by omega))
          have vM_35 : (tI M_35 2 6).toInt = (x_34 : Int32).toInt := by rw [tI_uE hM_35]
          refine lv_aload_n hx hb dX7_readNumber_51 rfl (lv_at hl 0 rfl) ?_
          refine lv_dup hx hb dX7_readNumber_52 rfl ?_
          refine ti_get (ci := 7) (k := 3) (N := 7) (T := TX7) C hw iw_7 rfl ob_2 (by decide) (by decide) fl_X7_22 rfl rfl dX7_readNumber_53 ?_
          refine ti_top (y := x_18) ((tI_nE hM_35 (nk (by decide))).trans ex_18.symm) ?_
          have u_36 : (tI M_35 2 3).toInt = (x_18 : Int32).toInt := by rw [((tI_nE hM_35 (nk (by decide))).trans ex_18.symm)]
          refine lv_iconst (v := 1) hx hb dX7_readNumber_56 (by decide) ?_
          refine lv_iadd hx hb dX7_readNumber_57 ?_
          refine lv_topi (fun x_37 ex_37 => ?_)
          have tx_37 : x_37.toInt = x_18.toInt + 1 := i_add ex_37 rfl (by decide : (1 : Int32).toInt = 1) (by omega) (by omega)
          refine ti_putI (ci := 7) (k := 3) (N := 7) (T := TX7) C hw iw_7 tyX7 tyX7_ok nmX7 rfl ob_2 (by decide) (by decide) fl_X7_22 rfl rfl rfl rfl (fn_7 A _) fs_7_3 dX7_readNumber_58 (fun H locs hw => ?_)
          obtain ⟨M_38, hM_38⟩ : ∃ z : ti_M, z = uI M_35 2 3 x_37 := ⟨_, rfl⟩
          have hw := hw.to hM_38.symm
          have iM_38 : cI Tc M_38 := cI_uI iM_35 hM_38 ob_2.1 (ib_mk (lo := 0) (hi := 700) (by omega) (by omega))
          have vM_38 : (tI M_38 2 3).toInt = (x_37 : Int32).toInt := by rw [tI_uE hM_38]
          refine lv_goto (tgt := 6) hx hb dX7_readNumber_61 (by decide) ?_
          have u_39 : (tI M_38 2 3).toInt = (x_37 : Int32).toInt := by rw [(tI_uE hM_38)]
          have u_40 : (tI M_38 2 4).toInt = (tI M_2 2 4).toInt := by rw [((tI_nE hM_38 (nk (by decide))).trans (tI_nE hM_35 (nk (by decide))))]
          have u_41 : 0 ≤ (tI M_38 2 4).toInt ∧ (tI M_38 2 4).toInt ≤ 41 := cI_rd (x := tI M_38 2 4) (k := 4) iM_38 ob_2.1 rfl
          have u_42 : (tI M_38 2 6).toInt = (x_34 : Int32).toInt := by rw [((tI_nE hM_38 (nk (by decide))).trans (tI_uE hM_35))]
          exact ih_12 M_38 _ _ _ (by omega) iM_38 ((rf_I hM_38).trans ((rf_I hM_35).trans f_3)) (o2.trans (o2_I hM_38) (o2.trans (o2_I hM_35) f_4)) ((tI_nE hM_38 (nk (by decide))).trans ((tI_nE hM_35 (nk (by decide))).trans f_5)) (tp.trans (tp_I hM_38 (by decide)) (tp.trans (tp_I hM_35 (by decide)) f_6)) ((tI_nE hM_38 (nk (by decide))).trans ((tI_nE hM_35 (nk (by decide))).trans f_7)) (by first | omega | decide) (by first | omega | decide) (by have h := pt_pk_in kr_21 (by omega); have e1 : (tI M_38 2 3).toInt.toNat = (tI M_2 2 3).toInt.toNat + 1 := (by rw [(tI_uE hM_38), (ex_18.symm)]; omega); rw [e1, ← pt_to_go (P := pt_D) (B := pt_cB M) h.1 (by rw [← h.2]; exact pt_Dt (by omega) (by omega))]; exact j_10) (by have h := pt_pk_in kr_21 (by omega); have e1 : (tI M_38 2 3).toInt.toNat = (tI M_2 2 3).toInt.toNat + 1 := (by rw [(tI_uE hM_38), (ex_18.symm)]; omega); rw [e1, ((tI_nE hM_38 (nk (by decide))).trans (tI_uE hM_35)), show x_34.toInt = min ((tI M_2 2 6).toInt * 10 + pt_cB M (tI M_2 2 3).toInt.toNat - 48) 1000000 by (rw [← h.2]; omega), ← pt_nv_go (B := pt_cB M) h.1 (by rw [← h.2]; exact pt_Dt (by omega) (by omega))]; exact j_11) hw (lv_sub hl [0] rfl)
        · refine sb_if_eq (tgt := 64) hx hb (by decide : (0 : Int32).toInt = 0) dX7_readNumber_24 (by decide) (fun c_24_26 => ?_) (fun h => absurd h (by decide))
          exact hQ _ _ _ _ _ hw (⟨iM_2, (f_3), f_4, (f_5), f_6, (f_7), by omega, (by rw [← j_10, pt_to_end (P := pt_D) (B := pt_cB M) (n := pt_cn M) (a := (tI M_2 2 3).toInt.toNat) (pt_pk_no kr_21 (pt_Df (by omega)))]; omega), (by rw [← j_11, pt_nv_end (B := pt_cB M) (n := pt_cn M) (a := (tI M_2 2 3).toInt.toNat) (pt_pk_no kr_21 (pt_Df (by omega)))])⟩) dX7_readNumber_64
  exact hl_6_11 ((700 - (tI M_1 2 3).toInt : Int).toNat + 1) M_1 _ _ _ (Nat.lt_succ_self _) iM_1 (rf_I hM_1) (o2_I hM_1) (tI_nE hM_1 (nk (by decide))) (tp_I hM_1 (by decide)) (tI_nE hM_1 (nk (by decide))) (by first | omega | decide) (by first | omega | decide) (by rw [(tI_nE hM_1 (nk (by decide)))]) (by rw [(tI_nE hM_1 (nk (by decide))), (tI_nE hM_1 (nk (by decide)))]) hw (lv_sub hl [0] rfl)
theorem pt_chc {c x : Int32} {w i : Nat} (e : c = tx_cb.getD x.toNatClampNeg 0 &&& 255) (hx : x.toInt = ((w * 6 + i : Nat) : Int)) : (c.toInt = 32 → 0 = pt_ch (w * 6 + i)) ∧ (¬ c.toInt = 32 → c.toInt - 96 = pt_ch (w * 6 + i)) := by
  rw [i_cl hx] at e
  unfold pt_ch
  rw [← e]
  exact ⟨fun h => by rw [if_pos h], fun h => by rw [if_neg h]⟩
set_option maxHeartbeats 4000000 in
set_option maxRecDepth 100000 in
theorem x_X7_wordKind (l : Launch) (D : va_G) (A : Nat → Nat → Nat) (cy : Nat → ClassId) (hJ : ti_inj ti_LT A) (M : ti_M) (hI : cI Tc M)  : ti_KiE l yX7_wordKind cX7_wordKind 5 (some .int) 4 ti_LT D A cy M [.ref (A 2 0)] (fun r M2 => M2 = M ∧ 0 ≤ r.toInt ∧ r.toInt ≤ 25 ∧ r.toInt = pt_wk (tI M 2 6).toInt 0) := by
  refine ti_eIE yp_X7_wordKind hJ ti_LT_nd (Nat.le_of_ble_eq_true rfl) ?_
  intro p e s m args below meth c Q H0 C hE hQ hw ls hl
  have hx := C.1
  have hb := C.2.1
  have hl : lv_has ls 5 [(0, .ref (A 2 0))] := hl
  obtain ⟨⟨a1, v1, hR1, hs1⟩, ⟨a2, v2, hR2, hs2⟩, hg1⟩ := id hE
  refine lv_iconst (v := 0) hx hb dX7_wordKind_0 (by decide) ?_
  refine lv_istore_n (lv' := [(1, .int 0), (0, .ref (A 2 0))]) hx hb dX7_wordKind_1 rfl hl (by decide) rfl (fun ls hl => ?_)
  have hl_2_4 : ∀ (n_5 : Nat) (x_1 : Int32) (H : Heap) (locs : List Loc) (ls : Array Slot), (25 - x_1.toInt : Int).toNat < n_5 → (0 ≤ x_1.toInt) → (x_1.toInt ≤ 25) → (pt_wk (tI M 2 6).toInt 0 = pt_wk (tI M 2 6).toInt (x_1.toInt).toNat) → ti_H ti_LT D A cy H0 M H locs → lv_has ls 5 [(1, .int x_1), (0, .ref (A 2 0))] → W p l e (ti_rm 4) s m args below meth c H locs 0 0 Q (F0 m 2 ls []) := by
    intro n_5
    induction n_5 with
    | zero => intro x_1 H locs ls hf_5; exact absurd hf_5 (Nat.not_lt_zero _)
    | succ n_5 ih_5 =>
      intro x_1 H locs ls hf_5 b_2 b_3 j_4 hw hl
      refine lv_iload_n hx hb dX7_wordKind_2 rfl (lv_at hl 0 rfl) ?_
      refine lv_bipush (v := 25) hx hb dX7_wordKind_3 (by decide) ?_
      refine sb_icmp_ge (tgt := 76) hx hb rfl (by decide : (25 : Int32).toInt = 25) dX7_wordKind_5 (by decide) (fun c_5_5 => ?_) (fun c_5_5 => ?_)
      · refine lv_bipush (v := 25) hx hb dX7_wordKind_76 (by decide) ?_
        exact hQ _ _ _ _ _ _ hw rfl (⟨rfl, by decide, by decide, (by rw [j_4, show x_1.toInt.toNat = 25 by omega, pt_wk_end]; decide)⟩) dX7_wordKind_78
      · refine lv_iconst (v := 0) hx hb dX7_wordKind_8 (by decide) ?_
        refine lv_istore_n (lv' := [(2, .int 0), (1, .int x_1), (0, .ref (A 2 0))]) hx hb dX7_wordKind_9 rfl hl (by decide) rfl (fun ls hl => ?_)
        refine lv_iconst (v := 0) hx hb dX7_wordKind_10 (by decide) ?_
        refine lv_istore_n (lv' := [(3, .int 0), (2, .int 0), (1, .int x_1), (0, .ref (A 2 0))]) hx hb dX7_wordKind_11 rfl hl (by decide) rfl (fun ls hl => ?_)
        have hl_12_11 : ∀ (n_12 : Nat) (x_7 : Int32) (x_10 : Int32) (H : Heap) (locs : List Loc) (ls : Array Slot), (6 - x_7.toInt : Int).toNat < n_12 → (0 ≤ x_7.toInt) → (x_7.toInt ≤ 6) → (x_10.toInt = pt_pw (x_1.toInt).toNat (x_7.toInt).toNat) → ti_H ti_LT D A cy H0 M H locs → lv_has ls 5 [(3, .int x_7), (2, .int x_10), (1, .int x_1), (0, .ref (A 2 0))] → W p l e (ti_rm 4) s m args below meth c H locs 0 0 Q (F0 m 12 ls []) := by
          intro n_12
          induction n_12 with
          | zero => intro x_7 x_10 H locs ls hf_12; exact absurd hf_12 (Nat.not_lt_zero _)
          | succ n_12 ih_12 =>
            intro x_7 x_10 H locs ls hf_12 b_8 b_9 j_11 hw hl
            refine lv_iload_n hx hb dX7_wordKind_12 rfl (lv_at hl 0 rfl) ?_
            refine lv_bipush (v := 6) hx hb dX7_wordKind_13 (by decide) ?_
            refine sb_icmp_ge (tgt := 60) hx hb rfl (by decide : (6 : Int32).toInt = 6) dX7_wordKind_15 (by decide) (fun c_15_12 => ?_) (fun c_15_12 => ?_)
            · refine lv_iload_n hx hb dX7_wordKind_60 rfl (lv_at hl 1 rfl) ?_
              refine lv_aload_n hx hb dX7_wordKind_61 rfl (lv_at hl 3 rfl) ?_
              refine ti_get (ci := 7) (k := 6) (N := 7) (T := TX7) C hw iw_7 rfl ob_2 (by decide) (by decide) fl_X7_41 rfl rfl dX7_wordKind_62 ?_
              refine lv_topi (fun x_26 ex_26 => ?_)
              have bx_26 : 0 ≤ x_26.toInt ∧ x_26.toInt ≤ 2147483647 := cI_rd hI ob_2.1 ex_26
              have ux_26 : (tI M 2 6).toInt = x_26.toInt := by rw [ex_26]
              refine sb_icmp_ne (tgt := 70) hx hb rfl rfl dX7_wordKind_65 (by decide) (fun c_65_26 => ?_) (fun c_65_26 => ?_)
              · obtain ⟨x_28, ex_28⟩ : ∃ z : Int32, z = x_1 + 1 := ⟨_, rfl⟩
                have tx_28 : x_28.toInt = x_1.toInt + 1 := i_add ex_28 rfl (by decide) (by omega) (by omega)
                refine lv_iinc (v := x_28) (lv' := [(1, .int x_28), (3, .int x_7), (2, .int x_10), (0, .ref (A 2 0))]) hx hb dX7_wordKind_70 hl (k := 2) rfl (by rw [ex_28]; rfl) (by decide) rfl (fun ls hl => ?_)
                refine lv_goto (tgt := 2) hx hb dX7_wordKind_73 (by decide) ?_
                exact ih_5 x_28 _ _ _ (by omega) (by first | omega | decide) (by first | omega | decide) (by have q := j_11; rw [show x_7.toInt.toNat = 6 by omega, pt_pw6 x_1.toInt.toNat (by omega)] at q; rw [show x_28.toInt.toNat = x_1.toInt.toNat + 1 by omega, ← pt_wk_go (v := (tI M 2 6).toInt) (w := x_1.toInt.toNat) (by omega) (by rw [← q]; omega)]; exact j_4) hw (lv_sub hl [0, 3] rfl)
              · refine lv_iload_n hx hb dX7_wordKind_68 rfl (lv_at hl 2 rfl) ?_
                exact hQ _ _ _ _ _ _ hw rfl (⟨rfl, by omega, by omega, (by have q := j_11; rw [show x_7.toInt.toNat = 6 by omega, pt_pw6 x_1.toInt.toNat (by omega)] at q; rw [j_4, pt_wk_at (v := (tI M 2 6).toInt) (w := x_1.toInt.toNat) (by omega) (by rw [← q]; omega)]; omega)⟩) dX7_wordKind_69
            · refine va_ldcS hx hb C.2.2.2.1 hR1 dX7_wordKind_18 ?_
              refine lv_iload_n hx hb dX7_wordKind_20 rfl (lv_at hl 2 rfl) ?_
              refine lv_bipush (v := 6) hx hb dX7_wordKind_21 (by decide) ?_
              refine lv_imul hx hb dX7_wordKind_23 ?_
              refine lv_topi (fun x_14 ex_14 => ?_)
              have tx_14 : x_14.toInt = x_1.toInt * 6 := i_mul ex_14 rfl (by decide : (6 : Int32).toInt = 6) (by omega) (by omega)
              refine lv_iload_n hx hb dX7_wordKind_24 rfl (lv_at hl 0 rfl) ?_
              refine lv_iadd hx hb dX7_wordKind_25 ?_
              refine lv_topi (fun x_15 ex_15 => ?_)
              have tx_15 : x_15.toInt = x_14.toInt + x_7.toInt := i_add ex_15 rfl rfl (by omega) (by omega)
              refine ti_charAt (n := 150) C hs1 hg1 hw ml_X7_70 hl.1 (Nat.le_of_ble_eq_true rfl) ⟨by decide, by decide⟩ ⟨Nat.zero_le _, Nat.zero_le _⟩ (by decide) (by omega) (by omega) dX7_wordKind_26 (fun H locs hw => ?_)
              refine lv_topi (fun x_17 ex_17 => ?_)
              have bx_17 := i_and 8 ex_17 (by decide) (by decide)
              refine lv_istore (lv' := [(4, .int x_17), (3, .int x_7), (2, .int x_10), (1, .int x_1), (0, .ref (A 2 0))]) hx hb dX7_wordKind_29 hl (by decide) rfl (fun ls hl => ?_)
              refine lv_iload_n hx hb dX7_wordKind_31 rfl (lv_at hl 2 rfl) ?_
              refine lv_iconst (v := 5) hx hb dX7_wordKind_32 (by decide) ?_
              refine lv_ishl hx hb dX7_wordKind_33 ?_
              refine lv_topi (fun x_18 ex_18 => ?_)
              refine lv_iload hx hb dX7_wordKind_34 (lv_at hl 0 rfl) ?_
              refine lv_bipush (v := 32) hx hb dX7_wordKind_36 (by decide) ?_
              refine sb_icmp_ne (tgt := 45) hx hb rfl (by decide : (32 : Int32).toInt = 32) dX7_wordKind_38 (by decide) (fun c_38_18 => ?_) (fun c_38_18 => ?_)
              · refine lv_iload hx hb dX7_wordKind_45 (lv_at hl 0 rfl) ?_
                refine lv_bipush (v := 97) hx hb dX7_wordKind_47 (by decide) ?_
                refine lv_isub hx hb dX7_wordKind_49 ?_
                refine lv_topi (fun x_20 ex_20 => ?_)
                have tx_20 : x_20.toInt = x_17.toInt - 97 := i_sub ex_20 rfl (by decide : (97 : Int32).toInt = 97) (by omega) (by omega)
                refine lv_iconst (v := 1) hx hb dX7_wordKind_50 (by decide) ?_
                refine lv_iadd hx hb dX7_wordKind_51 ?_
                refine lv_topi (fun x_21 ex_21 => ?_)
                have tx_21 : x_21.toInt = x_20.toInt + 1 := i_add ex_21 rfl (by decide : (1 : Int32).toInt = 1) (by omega) (by omega)
                refine lv_ior hx hb dX7_wordKind_52 ?_
                refine lv_topi (fun x_24 ex_24 => ?_)
                refine lv_istore_n (lv' := [(2, .int x_24), (4, .int x_17), (3, .int x_7), (1, .int x_1), (0, .ref (A 2 0))]) hx hb dX7_wordKind_53 rfl hl (by decide) rfl (fun ls hl => ?_)
                obtain ⟨x_25, ex_25⟩ : ∃ z : Int32, z = x_7 + 1 := ⟨_, rfl⟩
                have tx_25 : x_25.toInt = x_7.toInt + 1 := i_add ex_25 rfl (by decide) (by omega) (by omega)
                refine lv_iinc (v := x_25) (lv' := [(3, .int x_25), (2, .int x_24), (4, .int x_17), (1, .int x_1), (0, .ref (A 2 0))]) hx hb dX7_wordKind_54 hl (k := 2) rfl (by rw [ex_25]; rfl) (by decide) rfl (fun ls hl => ?_)
                refine lv_goto (tgt := 12) hx hb dX7_wordKind_57 (by decide) ?_
                exact ih_12 x_25 x_24 _ _ _ (by omega) (by first | omega | decide) (by first | omega | decide) (by rw [show x_25.toInt.toNat = x_7.toInt.toNat + 1 by omega]; exact pt_pws (by omega) (by omega) j_11 ex_18 (by rw [← (pt_chc (w := x_1.toInt.toNat) (i := x_7.toInt.toNat) ex_17 (by omega)).2 (by omega)]; omega) ex_24) hw (lv_sub hl [0, 1, 3, 4] rfl)
              · refine lv_iconst (v := 0) hx hb dX7_wordKind_41 (by decide) ?_
                refine lv_goto (tgt := 52) hx hb dX7_wordKind_42 (by decide) ?_
                refine lv_ior hx hb dX7_wordKind_52 ?_
                refine lv_topi (fun x_22 ex_22 => ?_)
                refine lv_istore_n (lv' := [(2, .int x_22), (4, .int x_17), (3, .int x_7), (1, .int x_1), (0, .ref (A 2 0))]) hx hb dX7_wordKind_53 rfl hl (by decide) rfl (fun ls hl => ?_)
                obtain ⟨x_23, ex_23⟩ : ∃ z : Int32, z = x_7 + 1 := ⟨_, rfl⟩
                have tx_23 : x_23.toInt = x_7.toInt + 1 := i_add ex_23 rfl (by decide) (by omega) (by omega)
                refine lv_iinc (v := x_23) (lv' := [(3, .int x_23), (2, .int x_22), (4, .int x_17), (1, .int x_1), (0, .ref (A 2 0))]) hx hb dX7_wordKind_54 hl (k := 2) rfl (by rw [ex_23]; rfl) (by decide) rfl (fun ls hl => ?_)
                refine lv_goto (tgt := 12) hx hb dX7_wordKind_57 (by decide) ?_
                exact ih_12 x_23 x_22 _ _ _ (by omega) (by first | omega | decide) (by first | omega | decide) (by rw [show x_23.toInt.toNat = x_7.toInt.toNat + 1 by omega]; exact pt_pws (by omega) (by omega) j_11 ex_18 (by rw [show (0 : Int32).toInt = 0 by decide]; exact (pt_chc (w := x_1.toInt.toNat) (i := x_7.toInt.toNat) ex_17 (by omega)).1 (by omega)) ex_22) hw (lv_sub hl [0, 1, 3, 4] rfl)
        exact hl_12_11 ((6 - 0 : Int).toNat + 1) 0 0 _ _ _ (Nat.lt_succ_self _) (by have lt0 : (0 : Int32).toInt = 0 := (by decide); first | omega | decide) (by have lt0 : (0 : Int32).toInt = 0 := (by decide); first | omega | decide) (by rw [show (0 : Int32).toInt = 0 by decide]; rfl) hw (lv_sub hl [0, 1, 2, 3] rfl)
  exact hl_2_4 ((25 - 0 : Int).toNat + 1) 0 _ _ _ (Nat.lt_succ_self _) (by have lt0 : (0 : Int32).toInt = 0 := (by decide); first | omega | decide) (by have lt0 : (0 : Int32).toInt = 0 := (by decide); first | omega | decide) rfl hw (lv_sub hl [0, 1] rfl)
set_option maxHeartbeats 4000000 in
set_option maxRecDepth 100000 in
theorem x_X7_readWord (l : Launch) (D : va_G) (A : Nat → Nat → Nat) (cy : Nat → ClassId) (hJ : ti_inj ti_LT A) (M : ti_M) (hI : cI Tc M) (hv : (tI M 2 6).toInt = 0) : ti_KvE l yX7_readWord cX7_readWord 2 5 ti_LT D A cy M [.ref (A 2 0)] (fun M2 => cI Tc M2 ∧ M2.2.2.2 = M.2.2.2 ∧ o2 M2 M ∧ tI M2 2 1 = tI M 2 1 ∧ tp M2 M ∧ tI M2 2 5 = tI M 2 5 ∧ (tI M2 2 4).toInt = (if (tI M 2 3).toInt.toNat + 6 < pt_to pt_L (pt_cB M) (pt_cn M) (tI M 2 3).toInt.toNat then 28 else pt_wk (pt_ev (pt_cB M) (pt_cn M) (tI M 2 3).toInt.toNat 0 0) 0) ∧ (tI M2 2 3).toInt = ((pt_to pt_L (pt_cB M) (pt_cn M) (tI M 2 3).toInt.toNat : Nat) : Int) ∧ (tI M2 2 6).toInt = pt_ev (pt_cB M) (pt_cn M) (tI M 2 3).toInt.toNat 0 0) := by
  refine ti_eVE yp_X7_readWord hJ ti_LT_nd (Nat.le_of_ble_eq_true rfl) ?_
  intro p e s m args below meth c Q H0 C hE hQ hw ls hl
  have hx := C.1
  have hb := C.2.1
  have hl : lv_has ls 2 [(0, .ref (A 2 0))] := hl
  refine lv_iconst (v := 0) hx hb dX7_readWord_0 (by decide) ?_
  refine lv_istore_n (lv' := [(1, .int 0), (0, .ref (A 2 0))]) hx hb dX7_readWord_1 rfl hl (by decide) rfl (fun ls hl => ?_)
  have u_15 : 0 ≤ (tI M 2 3).toInt ∧ (tI M 2 3).toInt ≤ 700 := cI_rd (x := tI M 2 3) (k := 3) hI ob_2.1 rfl
  have hl_2_13 : ∀ (n_14 : Nat) (x_1 : Int32) (M_4 : ti_M) (H : Heap) (locs : List Loc) (ls : Array Slot), (700 - (tI M_4 2 3).toInt : Int).toNat < n_14 → (0 ≤ x_1.toInt) → (x_1.toInt ≤ 700) → (cI Tc M_4) → (M_4.2.2.2 = M.2.2.2) → (o2 M_4 M) → (tI M_4 2 1 = tI M 2 1) → (tp M_4 M) → (tI M_4 2 5 = tI M 2 5) → (x_1.toInt = (tI M_4 2 3).toInt - (tI M 2 3).toInt) → (pt_to pt_L (pt_cB M) (pt_cn M) (tI M_4 2 3).toInt.toNat = pt_to pt_L (pt_cB M) (pt_cn M) (tI M 2 3).toInt.toNat) → (pt_ev (pt_cB M) (pt_cn M) (tI M_4 2 3).toInt.toNat (x_1.toInt).toNat (tI M_4 2 6).toInt = pt_ev (pt_cB M) (pt_cn M) (tI M 2 3).toInt.toNat 0 0) → (pt_dv (x_1.toInt).toNat (tI M_4 2 6).toInt) → ti_H ti_LT D A cy H0 M_4 H locs → lv_has ls 2 [(1, .int x_1), (0, .ref (A 2 0))] → W p l e (ti_rm 5) s m args below meth c H locs 0 0 Q (F0 m 2 ls []) := by
    intro n_14
    induction n_14 with
    | zero => intro x_1 M_4 H locs ls hf_14; exact absurd hf_14 (Nat.not_lt_zero _)
    | succ n_14 ih_14 =>
      intro x_1 M_4 H locs ls hf_14 b_2 b_3 iM_4 f_5 f_6 f_7 f_8 f_9 j_10 j_11 j_12 j_13 hw hl
      refine lv_aload_n hx hb dX7_readWord_2 rfl (lv_at hl 1 rfl) ?_
      refine ti_get (ci := 7) (k := 3) (N := 7) (T := TX7) C hw iw_7 rfl ob_2 (by decide) (by decide) fl_X7_22 rfl rfl dX7_readWord_3 ?_
      refine lv_topi (fun x_16 ex_16 => ?_)
      have bx_16 : 0 ≤ x_16.toInt ∧ x_16.toInt ≤ 700 := cI_rd iM_4 ob_2.1 ex_16
      have ux_16 : (tI M_4 2 3).toInt = x_16.toInt := by rw [ex_16]
      refine lv_aload_n hx hb dX7_readWord_6 rfl (lv_at hl 1 rfl) ?_
      refine ti_get (ci := 7) (k := 2) (N := 7) (T := TX7) C hw iw_7 rfl ob_2 (by decide) (by decide) fl_X7_19 rfl rfl dX7_readWord_7 ?_
      refine lv_topi (fun x_17 ex_17 => ?_)
      have bx_17 : 0 ≤ x_17.toInt ∧ x_17.toInt ≤ 700 := cI_rd iM_4 ob_2.1 ex_17
      have ux_17 : (tI M_4 2 2).toInt = x_17.toInt := by rw [ex_17]
      refine sb_icmp_ge (tgt := 69) hx hb rfl rfl dX7_readWord_10 (by decide) (fun c_10_17 => ?_) (fun c_10_17 => ?_)
      · refine lv_aload_n hx hb dX7_readWord_69 rfl (lv_at hl 1 rfl) ?_
        refine lv_iload_n hx hb dX7_readWord_70 rfl (lv_at hl 0 rfl) ?_
        refine lv_bipush (v := 6) hx hb dX7_readWord_71 (by decide) ?_
        refine sb_icmp_le (tgt := 81) hx hb rfl (by decide : (6 : Int32).toInt = 6) dX7_readWord_73 (by decide) (fun c_73_46 => ?_) (fun c_73_46 => ?_)
        · refine lv_aload_n hx hb dX7_readWord_81 rfl (lv_at hl 1 rfl) ?_
          refine ti_callViE (ci := 7) (av := []) C hE hw (x_X7_wordKind l D A cy hJ M_4 iM_4 ) ⟨ml_X7_65, ym_X7_wordKind, yv_X7_wordKind, yi_X7_wordKind, yc_X7_wordKind⟩ yd_X7_wordKind ob_2 (by decide) rfl rfl hl.1 (Nat.le_of_ble_eq_true rfl) ⟨by decide, by decide⟩ ⟨Nat.zero_le _, Nat.zero_le _⟩ dX7_readWord_82 (fun r_49 M_50 H locs hp_50 hw => ?_)
          obtain ⟨hm, b0r_49, b1r_49, p0r_49⟩ := hp_50
          have hw := hw.to hm
          refine ti_putI (ci := 7) (k := 4) (N := 7) (T := TX7) C hw iw_7 tyX7 tyX7_ok nmX7 rfl ob_2 (by decide) (by decide) fl_X7_44 rfl rfl rfl rfl (fn_7 A _) fs_7_4 dX7_readWord_85 (fun H locs hw => ?_)
          obtain ⟨M_55, hM_55⟩ : ∃ z : ti_M, z = uI M_4 2 4 r_49 := ⟨_, rfl⟩
          have hw := hw.to hM_55.symm
          have iM_55 : cI Tc M_55 := cI_uI iM_4 hM_55 ob_2.1 (ib_mk (lo := 0) (hi := 41) (by omega) (by omega))
          have vM_55 : (tI M_55 2 4).toInt = (r_49 : Int32).toInt := by rw [tI_uE hM_55]
          have E1 : pt_to pt_L (pt_cB M) (pt_cn M) (tI M 2 3).toInt.toNat = (tI M_4 2 3).toInt.toNat := by rw [← j_11, pt_to_end (P := pt_L) (B := pt_cB M) (n := pt_cn M) (a := (tI M_4 2 3).toInt.toNat) (fun q => by have q1 := q.1; have q2 := tp_n f_8; unfold pt_cn at q1 q2; omega)]
          have E2 : pt_ev (pt_cB M) (pt_cn M) (tI M 2 3).toInt.toNat 0 0 = (tI M_4 2 6).toInt := by rw [← j_12, pt_ev_end (B := pt_cB M) (n := pt_cn M) (a := (tI M_4 2 3).toInt.toNat) (fun q => by have q1 := q.1; have q2 := tp_n f_8; unfold pt_cn at q1 q2; omega)]
          exact hQ _ _ _ _ _ hw (⟨iM_55, ((rf_I hM_55).trans f_5), (o2.trans (o2_I hM_55) f_6), ((tI_nE hM_55 (nk (by decide))).trans f_7), (tp.trans (tp_I hM_55 (by decide)) f_8), ((tI_nE hM_55 (nk (by decide))).trans f_9), (by rw [if_neg (by rw [E1]; omega), E2, tI_uE hM_55]; exact p0r_49), (by rw [E1, tI_nE hM_55 (nk (by decide))]; omega), (by rw [E2, tI_nE hM_55 (nk (by decide))])⟩) dX7_readWord_88
        · refine lv_bipush (v := 28) hx hb dX7_readWord_76 (by decide) ?_
          refine lv_goto (tgt := 85) hx hb dX7_readWord_78 (by decide) ?_
          refine ti_putI (ci := 7) (k := 4) (N := 7) (T := TX7) C hw iw_7 tyX7 tyX7_ok nmX7 rfl ob_2 (by decide) (by decide) fl_X7_44 rfl rfl rfl rfl (fn_7 A _) fs_7_4 dX7_readWord_85 (fun H locs hw => ?_)
          obtain ⟨M_53, hM_53⟩ : ∃ z : ti_M, z = uI M_4 2 4 28 := ⟨_, rfl⟩
          have hw := hw.to hM_53.symm
          have iM_53 : cI Tc M_53 := cI_uI iM_4 hM_53 ob_2.1 (ib_mk (lo := 0) (hi := 41) (by decide) (by decide))
          have vM_53 : (tI M_53 2 4).toInt = 28 := by rw [tI_uE hM_53]; decide
          have E1 : pt_to pt_L (pt_cB M) (pt_cn M) (tI M 2 3).toInt.toNat = (tI M_4 2 3).toInt.toNat := by rw [← j_11, pt_to_end (P := pt_L) (B := pt_cB M) (n := pt_cn M) (a := (tI M_4 2 3).toInt.toNat) (fun q => by have q1 := q.1; have q2 := tp_n f_8; unfold pt_cn at q1 q2; omega)]
          have E2 : pt_ev (pt_cB M) (pt_cn M) (tI M 2 3).toInt.toNat 0 0 = (tI M_4 2 6).toInt := by rw [← j_12, pt_ev_end (B := pt_cB M) (n := pt_cn M) (a := (tI M_4 2 3).toInt.toNat) (fun q => by have q1 := q.1; have q2 := tp_n f_8; unfold pt_cn at q1 q2; omega)]
          exact hQ _ _ _ _ _ hw (⟨iM_53, ((rf_I hM_53).trans f_5), (o2.trans (o2_I hM_53) f_6), ((tI_nE hM_53 (nk (by decide))).trans f_7), (tp.trans (tp_I hM_53 (by decide)) f_8), ((tI_nE hM_53 (nk (by decide))).trans f_9), (by rw [if_pos (by rw [E1]; omega), tI_uE hM_53]; decide), (by rw [E1, tI_nE hM_53 (nk (by decide))]; omega), (by rw [E2, tI_nE hM_53 (nk (by decide))])⟩) dX7_readWord_88
      · refine lv_aload_n hx hb dX7_readWord_13 rfl (lv_at hl 1 rfl) ?_
        refine ti_callVi (ci := 7) (av := []) C hw (s_X7_peek l D A cy hJ M_4 iM_4 ) ⟨ml_X7_34, ym_X7_peek, yv_X7_peek, yi_X7_peek, yc_X7_peek⟩ yd_X7_peek ob_2 (by decide) rfl rfl hl.1 (Nat.le_of_ble_eq_true rfl) ⟨by decide, by decide⟩ ⟨Nat.zero_le _, Nat.zero_le _⟩ dX7_readWord_14 (fun r_19 M_20 H locs hp_20 hw => ?_)
        obtain ⟨hm, b0r_19, b1r_19, p0r_19, p1r_19⟩ := hp_20
        have hw := hw.to hm
        have kr_19 := tp_pk f_8 iM_4 p1r_19
        refine ti_callSi (av := [.int r_19]) C hw (x_X7_isLetter l D A cy hJ M_4 iM_4 r_19) ⟨ml_X7_47, ys_X7_isLetter, yi_X7_isLetter, yc_X7_isLetter⟩ yd_X7_isLetter rfl hl.1 (Nat.le_of_ble_eq_true rfl) ⟨by decide, by decide⟩ ⟨Nat.zero_le _, Nat.zero_le _⟩ dX7_readWord_17 (fun r_21 M_22 H locs hp_22 hw => ?_)
        obtain ⟨hm, hz⟩ := hp_22
        have hw := hw.to hm
        rcases hz with ⟨rfl, d1_23, d2_23⟩ | ⟨rfl, d1_23⟩
        · refine sb_if_eq (tgt := 69) hx hb (by decide : (1 : Int32).toInt = 1) dX7_readWord_20 (by decide) (fun h => absurd h (by decide)) (fun c_20_23 => ?_)
          refine lv_iload_n hx hb dX7_readWord_23 rfl (lv_at hl 0 rfl) ?_
          refine lv_bipush (v := 6) hx hb dX7_readWord_24 (by decide) ?_
          refine sb_icmp_ge (tgt := 53) hx hb rfl (by decide : (6 : Int32).toInt = 6) dX7_readWord_26 (by decide) (fun c_26_25 => ?_) (fun c_26_25 => ?_)
          · obtain ⟨x_37, ex_37⟩ : ∃ z : Int32, z = x_1 + 1 := ⟨_, rfl⟩
            have tx_37 : x_37.toInt = x_1.toInt + 1 := i_add ex_37 rfl (by decide) (by omega) (by omega)
            refine lv_iinc (v := x_37) (lv' := [(1, .int x_37), (0, .ref (A 2 0))]) hx hb dX7_readWord_53 hl (k := 0) rfl (by rw [ex_37]; rfl) (by decide) rfl (fun ls hl => ?_)
            refine lv_aload_n hx hb dX7_readWord_56 rfl (lv_at hl 1 rfl) ?_
            refine lv_dup hx hb dX7_readWord_57 rfl ?_
            refine ti_get (ci := 7) (k := 3) (N := 7) (T := TX7) C hw iw_7 rfl ob_2 (by decide) (by decide) fl_X7_22 rfl rfl dX7_readWord_58 ?_
            refine ti_top (y := x_16) (ex_16.symm) ?_
            have u_38 : (tI M_4 2 3).toInt = (x_16 : Int32).toInt := by rw [(ex_16.symm)]
            refine lv_iconst (v := 1) hx hb dX7_readWord_61 (by decide) ?_
            refine lv_iadd hx hb dX7_readWord_62 ?_
            refine lv_topi (fun x_39 ex_39 => ?_)
            have tx_39 : x_39.toInt = x_16.toInt + 1 := i_add ex_39 rfl (by decide : (1 : Int32).toInt = 1) (by omega) (by omega)
            refine ti_putI (ci := 7) (k := 3) (N := 7) (T := TX7) C hw iw_7 tyX7 tyX7_ok nmX7 rfl ob_2 (by decide) (by decide) fl_X7_22 rfl rfl rfl rfl (fn_7 A _) fs_7_3 dX7_readWord_63 (fun H locs hw => ?_)
            obtain ⟨M_40, hM_40⟩ : ∃ z : ti_M, z = uI M_4 2 3 x_39 := ⟨_, rfl⟩
            have hw := hw.to hM_40.symm
            have iM_40 : cI Tc M_40 := cI_uI iM_4 hM_40 ob_2.1 (ib_mk (lo := 0) (hi := 700) (by omega) (by omega))
            have vM_40 : (tI M_40 2 3).toInt = (x_39 : Int32).toInt := by rw [tI_uE hM_40]
            refine lv_goto (tgt := 2) hx hb dX7_readWord_66 (by decide) ?_
            have u_41 : (tI M_40 2 3).toInt = (x_39 : Int32).toInt := by rw [(tI_uE hM_40)]
            exact ih_14 x_37 M_40 _ _ _ (by omega) (by first | omega | decide) (by first | omega | decide) iM_40 ((rf_I hM_40).trans f_5) (o2.trans (o2_I hM_40) f_6) ((tI_nE hM_40 (nk (by decide))).trans f_7) (tp.trans (tp_I hM_40 (by decide)) f_8) ((tI_nE hM_40 (nk (by decide))).trans f_9) (by first | omega | decide) (by have h := pt_pk_in kr_19 (by omega); have e1 : (tI M_40 2 3).toInt.toNat = (tI M_4 2 3).toInt.toNat + 1 := (by rw [(tI_uE hM_40), (ex_16.symm)]; omega); rw [e1, ← pt_to_go (P := pt_L) (B := pt_cB M) h.1 (by rw [← h.2]; exact pt_Lt (by omega) (by omega))]; exact j_11) (by have h := pt_pk_in kr_19 (by omega); have e1 : (tI M_40 2 3).toInt.toNat = (tI M_4 2 3).toInt.toNat + 1 := (by rw [(tI_uE hM_40), (ex_16.symm)]; omega); rw [e1, show x_37.toInt.toNat = x_1.toInt.toNat + 1 by omega, show (tI M_40 2 6).toInt = (if x_1.toInt.toNat < 6 then (tI M_4 2 6).toInt + (pt_cB M (tI M_4 2 3).toInt.toNat - 96) * pt_p x_1.toInt.toNat else (tI M_4 2 6).toInt) by (rw [if_neg (by omega), (tI_nE hM_40 (nk (by decide)))]), ← pt_ev_go (B := pt_cB M) h.1 (by rw [← h.2]; exact pt_Lt (by omega) (by omega))]; exact j_12) (by rw [show x_37.toInt.toNat = x_1.toInt.toNat + 1 by omega, (tI_nE hM_40 (nk (by decide)))]; exact pt_dv6 j_13 (by omega)) hw (lv_sub hl [0, 1] rfl)
          · refine lv_aload_n hx hb dX7_readWord_29 rfl (lv_at hl 1 rfl) ?_
            refine lv_dup hx hb dX7_readWord_30 rfl ?_
            refine ti_get (ci := 7) (k := 6) (N := 7) (T := TX7) C hw iw_7 rfl ob_2 (by decide) (by decide) fl_X7_41 rfl rfl dX7_readWord_31 ?_
            refine lv_topi (fun x_27 ex_27 => ?_)
            have bx_27 : 0 ≤ x_27.toInt ∧ x_27.toInt ≤ 2147483647 := cI_rd iM_4 ob_2.1 ex_27
            have ux_27 : (tI M_4 2 6).toInt = x_27.toInt := by rw [ex_27]
            refine lv_aload_n hx hb dX7_readWord_34 rfl (lv_at hl 1 rfl) ?_
            refine ti_callVi (ci := 7) (av := []) C hw (s_X7_peek l D A cy hJ M_4 iM_4 ) ⟨ml_X7_34, ym_X7_peek, yv_X7_peek, yi_X7_peek, yc_X7_peek⟩ yd_X7_peek ob_2 (by decide) rfl rfl hl.1 (Nat.le_of_ble_eq_true rfl) ⟨by decide, by decide⟩ ⟨Nat.zero_le _, Nat.zero_le _⟩ dX7_readWord_35 (fun r_28 M_29 H locs hp_29 hw => ?_)
            obtain ⟨hm, b0r_28, b1r_28, p0r_28, p1r_28⟩ := hp_29
            have hw := hw.to hm
            have kr_28 := tp_pk f_8 iM_4 p1r_28
            refine lv_bipush (v := 97) hx hb dX7_readWord_38 (by decide) ?_
            refine lv_isub hx hb dX7_readWord_40 ?_
            refine lv_topi (fun x_30 ex_30 => ?_)
            have lox_30r_28 := r_28.le_toInt
            have hix_30r_28 := r_28.toInt_lt
            have tx_30 : x_30.toInt = r_28.toInt - 97 := i_sub ex_30 rfl (by decide : (97 : Int32).toInt = 97) (by omega) (by omega)
            refine lv_iconst (v := 1) hx hb dX7_readWord_41 (by decide) ?_
            refine lv_iadd hx hb dX7_readWord_42 ?_
            refine lv_topi (fun x_31 ex_31 => ?_)
            have lox_31x_30 := x_30.le_toInt
            have hix_31x_30 := x_30.toInt_lt
            have tx_31 : x_31.toInt = x_30.toInt + 1 := i_add ex_31 rfl (by decide : (1 : Int32).toInt = 1) (by omega) (by omega)
            refine lv_iconst (v := 5) hx hb dX7_readWord_43 (by decide) ?_
            refine lv_iconst (v := 5) hx hb dX7_readWord_44 (by decide) ?_
            refine lv_iload_n hx hb dX7_readWord_45 rfl (lv_at hl 0 rfl) ?_
            refine lv_isub hx hb dX7_readWord_46 ?_
            refine lv_topi (fun x_32 ex_32 => ?_)
            have tx_32 : x_32.toInt = 5 - x_1.toInt := i_sub ex_32 (by decide : (5 : Int32).toInt = 5) rfl (by omega) (by omega)
            refine lv_imul hx hb dX7_readWord_47 ?_
            refine lv_topi (fun x_33 ex_33 => ?_)
            have tx_33 : x_33.toInt = 5 * x_32.toInt := i_mul ex_33 (by decide : (5 : Int32).toInt = 5) rfl (by omega) (by omega)
            refine lv_ishl hx hb dX7_readWord_48 ?_
            refine lv_topi (fun x_34 ex_34 => ?_)
            have fx_34 := i_shx ex_34 (by omega) (by omega) (b := x_1.toInt) (by omega) (by omega) (by omega)
            refine lv_ior hx hb dX7_readWord_49 ?_
            refine lv_topi (fun x_35 ex_35 => ?_)
            have ox_35 := pt_or (i := x_1.toInt.toNat) (d := x_31.toInt) (by omega) (by have q := j_13; rw [← ex_27] at q; exact q) ⟨by omega, by omega⟩ fx_34 ex_35
            have bx_35 : 0 ≤ x_35.toInt := ox_35.2.1
            have cx_35 : x_35.toInt < 1073741824 := ox_35.2.2.1
            refine ti_putI (ci := 7) (k := 6) (N := 7) (T := TX7) C hw iw_7 tyX7 tyX7_ok nmX7 rfl ob_2 (by decide) (by decide) fl_X7_41 rfl rfl rfl rfl (fn_7 A _) fs_7_6 dX7_readWord_50 (fun H locs hw => ?_)
            obtain ⟨M_36, hM_36⟩ : ∃ z : ti_M, z = uI M_4 2 6 x_35 := ⟨_, rfl⟩
            have hw := hw.to hM_36.symm
            have iM_36 : cI Tc M_36 := cI_uI iM_4 hM_36 ob_2.1 (ib_mk (lo := 0) (hi := 2147483647) (by omega) (by omega))
            have vM_36 : (tI M_36 2 6).toInt = (x_35 : Int32).toInt := by rw [tI_uE hM_36]
            obtain ⟨x_42, ex_42⟩ : ∃ z : Int32, z = x_1 + 1 := ⟨_, rfl⟩
            have tx_42 : x_42.toInt = x_1.toInt + 1 := i_add ex_42 rfl (by decide) (by omega) (by omega)
            refine lv_iinc (v := x_42) (lv' := [(1, .int x_42), (0, .ref (A 2 0))]) hx hb dX7_readWord_53 hl (k := 0) rfl (by rw [ex_42]; rfl) (by decide) rfl (fun ls hl => ?_)
            refine lv_aload_n hx hb dX7_readWord_56 rfl (lv_at hl 1 rfl) ?_
            refine lv_dup hx hb dX7_readWord_57 rfl ?_
            refine ti_get (ci := 7) (k := 3) (N := 7) (T := TX7) C hw iw_7 rfl ob_2 (by decide) (by decide) fl_X7_22 rfl rfl dX7_readWord_58 ?_
            refine ti_top (y := x_16) ((tI_nE hM_36 (nk (by decide))).trans ex_16.symm) ?_
            have u_43 : (tI M_36 2 3).toInt = (x_16 : Int32).toInt := by rw [((tI_nE hM_36 (nk (by decide))).trans ex_16.symm)]
            refine lv_iconst (v := 1) hx hb dX7_readWord_61 (by decide) ?_
            refine lv_iadd hx hb dX7_readWord_62 ?_
            refine lv_topi (fun x_44 ex_44 => ?_)
            have tx_44 : x_44.toInt = x_16.toInt + 1 := i_add ex_44 rfl (by decide : (1 : Int32).toInt = 1) (by omega) (by omega)
            refine ti_putI (ci := 7) (k := 3) (N := 7) (T := TX7) C hw iw_7 tyX7 tyX7_ok nmX7 rfl ob_2 (by decide) (by decide) fl_X7_22 rfl rfl rfl rfl (fn_7 A _) fs_7_3 dX7_readWord_63 (fun H locs hw => ?_)
            obtain ⟨M_45, hM_45⟩ : ∃ z : ti_M, z = uI M_36 2 3 x_44 := ⟨_, rfl⟩
            have hw := hw.to hM_45.symm
            have iM_45 : cI Tc M_45 := cI_uI iM_36 hM_45 ob_2.1 (ib_mk (lo := 0) (hi := 700) (by omega) (by omega))
            have vM_45 : (tI M_45 2 3).toInt = (x_44 : Int32).toInt := by rw [tI_uE hM_45]
            refine lv_goto (tgt := 2) hx hb dX7_readWord_66 (by decide) ?_
            have u_46 : (tI M_45 2 3).toInt = (x_44 : Int32).toInt := by rw [(tI_uE hM_45)]
            exact ih_14 x_42 M_45 _ _ _ (by omega) (by first | omega | decide) (by first | omega | decide) iM_45 ((rf_I hM_45).trans ((rf_I hM_36).trans f_5)) (o2.trans (o2_I hM_45) (o2.trans (o2_I hM_36) f_6)) ((tI_nE hM_45 (nk (by decide))).trans ((tI_nE hM_36 (nk (by decide))).trans f_7)) (tp.trans (tp_I hM_45 (by decide)) (tp.trans (tp_I hM_36 (by decide)) f_8)) ((tI_nE hM_45 (nk (by decide))).trans ((tI_nE hM_36 (nk (by decide))).trans f_9)) (by first | omega | decide) (by have h := pt_pk_in kr_19 (by omega); have e1 : (tI M_45 2 3).toInt.toNat = (tI M_4 2 3).toInt.toNat + 1 := (by rw [(tI_uE hM_45), (ex_16.symm)]; omega); rw [e1, ← pt_to_go (P := pt_L) (B := pt_cB M) h.1 (by rw [← h.2]; exact pt_Lt (by omega) (by omega))]; exact j_11) (by have h := pt_pk_in kr_19 (by omega); have e1 : (tI M_45 2 3).toInt.toNat = (tI M_4 2 3).toInt.toNat + 1 := (by rw [(tI_uE hM_45), (ex_16.symm)]; omega); rw [e1, show x_42.toInt.toNat = x_1.toInt.toNat + 1 by omega, ((tI_nE hM_45 (nk (by decide))).trans (tI_uE hM_36)), show x_35.toInt = (if x_1.toInt.toNat < 6 then (tI M_4 2 6).toInt + (pt_cB M (tI M_4 2 3).toInt.toNat - 96) * pt_p x_1.toInt.toNat else (tI M_4 2 6).toInt) by (rw [if_pos (by omega), ← h.2, ox_35.1, show x_31.toInt = r_19.toInt - 96 by omega, (ex_27.symm)]), ← pt_ev_go (B := pt_cB M) h.1 (by rw [← h.2]; exact pt_Lt (by omega) (by omega))]; exact j_12) (by rw [show x_42.toInt.toNat = x_1.toInt.toNat + 1 by omega, ((tI_nE hM_45 (nk (by decide))).trans (tI_uE hM_36))]; exact ox_35.2) hw (lv_sub hl [0, 1] rfl)
        · refine sb_if_eq (tgt := 69) hx hb (by decide : (0 : Int32).toInt = 0) dX7_readWord_20 (by decide) (fun c_20_24 => ?_) (fun h => absurd h (by decide))
          refine lv_aload_n hx hb dX7_readWord_69 rfl (lv_at hl 1 rfl) ?_
          refine lv_iload_n hx hb dX7_readWord_70 rfl (lv_at hl 0 rfl) ?_
          refine lv_bipush (v := 6) hx hb dX7_readWord_71 (by decide) ?_
          refine sb_icmp_le (tgt := 81) hx hb rfl (by decide : (6 : Int32).toInt = 6) dX7_readWord_73 (by decide) (fun c_73_47 => ?_) (fun c_73_47 => ?_)
          · refine lv_aload_n hx hb dX7_readWord_81 rfl (lv_at hl 1 rfl) ?_
            refine ti_callViE (ci := 7) (av := []) C hE hw (x_X7_wordKind l D A cy hJ M_4 iM_4 ) ⟨ml_X7_65, ym_X7_wordKind, yv_X7_wordKind, yi_X7_wordKind, yc_X7_wordKind⟩ yd_X7_wordKind ob_2 (by decide) rfl rfl hl.1 (Nat.le_of_ble_eq_true rfl) ⟨by decide, by decide⟩ ⟨Nat.zero_le _, Nat.zero_le _⟩ dX7_readWord_82 (fun r_51 M_52 H locs hp_52 hw => ?_)
            obtain ⟨hm, b0r_51, b1r_51, p0r_51⟩ := hp_52
            have hw := hw.to hm
            refine ti_putI (ci := 7) (k := 4) (N := 7) (T := TX7) C hw iw_7 tyX7 tyX7_ok nmX7 rfl ob_2 (by decide) (by decide) fl_X7_44 rfl rfl rfl rfl (fn_7 A _) fs_7_4 dX7_readWord_85 (fun H locs hw => ?_)
            obtain ⟨M_56, hM_56⟩ : ∃ z : ti_M, z = uI M_4 2 4 r_51 := ⟨_, rfl⟩
            have hw := hw.to hM_56.symm
            have iM_56 : cI Tc M_56 := cI_uI iM_4 hM_56 ob_2.1 (ib_mk (lo := 0) (hi := 41) (by omega) (by omega))
            have vM_56 : (tI M_56 2 4).toInt = (r_51 : Int32).toInt := by rw [tI_uE hM_56]
            have E1 : pt_to pt_L (pt_cB M) (pt_cn M) (tI M 2 3).toInt.toNat = (tI M_4 2 3).toInt.toNat := by rw [← j_11, pt_to_end (P := pt_L) (B := pt_cB M) (n := pt_cn M) (a := (tI M_4 2 3).toInt.toNat) (pt_pk_no kr_19 (pt_Lf (by omega)))]
            have E2 : pt_ev (pt_cB M) (pt_cn M) (tI M 2 3).toInt.toNat 0 0 = (tI M_4 2 6).toInt := by rw [← j_12, pt_ev_end (B := pt_cB M) (n := pt_cn M) (a := (tI M_4 2 3).toInt.toNat) (pt_pk_no kr_19 (pt_Lf (by omega)))]
            exact hQ _ _ _ _ _ hw (⟨iM_56, ((rf_I hM_56).trans f_5), (o2.trans (o2_I hM_56) f_6), ((tI_nE hM_56 (nk (by decide))).trans f_7), (tp.trans (tp_I hM_56 (by decide)) f_8), ((tI_nE hM_56 (nk (by decide))).trans f_9), (by rw [if_neg (by rw [E1]; omega), E2, tI_uE hM_56]; exact p0r_51), (by rw [E1, tI_nE hM_56 (nk (by decide))]; omega), (by rw [E2, tI_nE hM_56 (nk (by decide))])⟩) dX7_readWord_88
          · refine lv_bipush (v := 28) hx hb dX7_readWord_76 (by decide) ?_
            refine lv_goto (tgt := 85) hx hb dX7_readWord_78 (by decide) ?_
            refine ti_putI (ci := 7) (k := 4) (N := 7) (T := TX7) C hw iw_7 tyX7 tyX7_ok nmX7 rfl ob_2 (by decide) (by decide) fl_X7_44 rfl rfl rfl rfl (fn_7 A _) fs_7_4 dX7_readWord_85 (fun H locs hw => ?_)
            obtain ⟨M_54, hM_54⟩ : ∃ z : ti_M, z = uI M_4 2 4 28 := ⟨_, rfl⟩
            have hw := hw.to hM_54.symm
            have iM_54 : cI Tc M_54 := cI_uI iM_4 hM_54 ob_2.1 (ib_mk (lo := 0) (hi := 41) (by decide) (by decide))
            have vM_54 : (tI M_54 2 4).toInt = 28 := by rw [tI_uE hM_54]; decide
            have E1 : pt_to pt_L (pt_cB M) (pt_cn M) (tI M 2 3).toInt.toNat = (tI M_4 2 3).toInt.toNat := by rw [← j_11, pt_to_end (P := pt_L) (B := pt_cB M) (n := pt_cn M) (a := (tI M_4 2 3).toInt.toNat) (pt_pk_no kr_19 (pt_Lf (by omega)))]
            have E2 : pt_ev (pt_cB M) (pt_cn M) (tI M 2 3).toInt.toNat 0 0 = (tI M_4 2 6).toInt := by rw [← j_12, pt_ev_end (B := pt_cB M) (n := pt_cn M) (a := (tI M_4 2 3).toInt.toNat) (pt_pk_no kr_19 (pt_Lf (by omega)))]
            exact hQ _ _ _ _ _ hw (⟨iM_54, ((rf_I hM_54).trans f_5), (o2.trans (o2_I hM_54) f_6), ((tI_nE hM_54 (nk (by decide))).trans f_7), (tp.trans (tp_I hM_54 (by decide)) f_8), ((tI_nE hM_54 (nk (by decide))).trans f_9), (by rw [if_pos (by rw [E1]; omega), tI_uE hM_54]; decide), (by rw [E1, tI_nE hM_54 (nk (by decide))]; omega), (by rw [E2, tI_nE hM_54 (nk (by decide))])⟩) dX7_readWord_88
  exact hl_2_13 ((700 - (tI M 2 3).toInt : Int).toNat + 1) 0 M _ _ _ (Nat.lt_succ_self _) (by have lt0 : (0 : Int32).toInt = 0 := (by decide); first | omega | decide) (by have lt0 : (0 : Int32).toInt = 0 := (by decide); first | omega | decide) hI rfl o2.refl rfl tp.refl rfl (by have lt0 : (0 : Int32).toInt = 0 := (by decide); first | omega | decide) rfl (by rw [hv, show (0 : Int32).toInt = 0 by decide]; rfl) (by rw [hv, show (0 : Int32).toInt = 0 by decide]; exact pt_dv0) hw (lv_sub hl [0, 1] rfl)
set_option maxHeartbeats 4000000 in
set_option maxRecDepth 100000 in
theorem x_X7_advance (l : Launch) (D : va_G) (A : Nat → Nat → Nat) (cy : Nat → ClassId) (hJ : ti_inj ti_LT A) (M : ti_M) (hI : cI Tc M)  : ti_KvE l yX7_advance cX7_advance 2 6 ti_LT D A cy M [.ref (A 2 0)] (fun M2 => cI Tc M2 ∧ M2.2.2.2 = M.2.2.2 ∧ o2 M2 M ∧ tI M2 2 1 = tI M 2 1 ∧ tp M2 M ∧ (tI M2 2 4).toInt = pt_K (pt_cB M) (pt_cn M) (tI M 2 3).toInt.toNat ∧ (tI M2 2 6).toInt = pt_V (pt_cB M) (pt_cn M) (tI M 2 3).toInt.toNat ∧ (tI M2 2 5).toInt = ((pt_P (pt_cB M) (pt_cn M) (tI M 2 3).toInt.toNat : Nat) : Int) ∧ (tI M2 2 3).toInt = pt_A (pt_cB M) (pt_cn M) (tI M 2 3).toInt.toNat) := by
  refine ti_eVE yp_X7_advance hJ ti_LT_nd (Nat.le_of_ble_eq_true rfl) ?_
  intro p e s m args below meth c Q H0 C hE hQ hw ls hl
  have hx := C.1
  have hb := C.2.1
  have hl : lv_has ls 2 [(0, .ref (A 2 0))] := hl
  have u_8 : 0 ≤ (tI M 2 3).toInt ∧ (tI M 2 3).toInt ≤ 700 := cI_rd (x := tI M 2 3) (k := 3) hI ob_2.1 rfl
  have hl_0_6 : ∀ (n_7 : Nat) (M_1 : ti_M) (H : Heap) (locs : List Loc) (ls : Array Slot), (700 - (tI M_1 2 3).toInt : Int).toNat < n_7 → (cI Tc M_1) → (M_1.2.2.2 = M.2.2.2) → (o2 M_1 M) → (tI M_1 2 1 = tI M 2 1) → (tp M_1 M) → (pt_to pt_W (pt_cB M) (pt_cn M) (tI M_1 2 3).toInt.toNat = pt_to pt_W (pt_cB M) (pt_cn M) (tI M 2 3).toInt.toNat) → ti_H ti_LT D A cy H0 M_1 H locs → lv_has ls 2 [(0, .ref (A 2 0))] → W p l e (ti_rm 6) s m args below meth c H locs 0 0 Q (F0 m 0 ls []) := by
    intro n_7
    induction n_7 with
    | zero => intro M_1 H locs ls hf_7; exact absurd hf_7 (Nat.not_lt_zero _)
    | succ n_7 ih_7 =>
      intro M_1 H locs ls hf_7 iM_1 f_2 f_3 f_4 f_5 j_6 hw hl
      refine lv_aload_n hx hb dX7_advance_0 rfl (lv_at hl 0 rfl) ?_
      refine ti_get (ci := 7) (k := 3) (N := 7) (T := TX7) C hw iw_7 rfl ob_2 (by decide) (by decide) fl_X7_22 rfl rfl dX7_advance_1 ?_
      refine lv_topi (fun x_9 ex_9 => ?_)
      have bx_9 : 0 ≤ x_9.toInt ∧ x_9.toInt ≤ 700 := cI_rd iM_1 ob_2.1 ex_9
      have ux_9 : (tI M_1 2 3).toInt = x_9.toInt := by rw [ex_9]
      refine lv_aload_n hx hb dX7_advance_4 rfl (lv_at hl 0 rfl) ?_
      refine ti_get (ci := 7) (k := 2) (N := 7) (T := TX7) C hw iw_7 rfl ob_2 (by decide) (by decide) fl_X7_19 rfl rfl dX7_advance_5 ?_
      refine lv_topi (fun x_10 ex_10 => ?_)
      have bx_10 : 0 ≤ x_10.toInt ∧ x_10.toInt ≤ 700 := cI_rd iM_1 ob_2.1 ex_10
      have ux_10 : (tI M_1 2 2).toInt = x_10.toInt := by rw [ex_10]
      have hj_42_26 : ∀  (H : Heap) (locs : List Loc) (ls : Array Slot), (pt_to pt_W (pt_cB M) (pt_cn M) (tI M_1 2 3).toInt.toNat = (tI M_1 2 3).toInt.toNat) → ti_H ti_LT D A cy H0 M_1 H locs → lv_has ls 2 [(0, .ref (A 2 0))] → W p l e (ti_rm 6) s m args below meth c H locs 0 0 Q (F0 m 42 ls []) := by
        intro  H locs ls j_26 hw hl
        refine lv_aload_n hx hb dX7_advance_42 rfl (lv_at hl 0 rfl) ?_
        refine lv_aload_n hx hb dX7_advance_43 rfl (lv_at hl 0 rfl) ?_
        refine ti_get (ci := 7) (k := 3) (N := 7) (T := TX7) C hw iw_7 rfl ob_2 (by decide) (by decide) fl_X7_22 rfl rfl dX7_advance_44 ?_
        refine ti_top (y := x_9) (ex_9.symm) ?_
        have u_27 : (tI M_1 2 3).toInt = (x_9 : Int32).toInt := by rw [(ex_9.symm)]
        refine ti_putI (ci := 7) (k := 5) (N := 7) (T := TX7) C hw iw_7 tyX7 tyX7_ok nmX7 rfl ob_2 (by decide) (by decide) fl_X7_38 rfl rfl rfl rfl (fn_7 A _) fs_7_5 dX7_advance_47 (fun H locs hw => ?_)
        obtain ⟨M_28, hM_28⟩ : ∃ z : ti_M, z = uI M_1 2 5 x_9 := ⟨_, rfl⟩
        have hw := hw.to hM_28.symm
        have iM_28 : cI Tc M_28 := cI_uI iM_1 hM_28 ob_2.1 trivial
        refine lv_aload_n hx hb dX7_advance_50 rfl (lv_at hl 0 rfl) ?_
        refine lv_iconst (v := 0) hx hb dX7_advance_51 (by decide) ?_
        refine ti_putI (ci := 7) (k := 6) (N := 7) (T := TX7) C hw iw_7 tyX7 tyX7_ok nmX7 rfl ob_2 (by decide) (by decide) fl_X7_41 rfl rfl rfl rfl (fn_7 A _) fs_7_6 dX7_advance_52 (fun H locs hw => ?_)
        obtain ⟨M_29, hM_29⟩ : ∃ z : ti_M, z = uI M_28 2 6 0 := ⟨_, rfl⟩
        have hw := hw.to hM_29.symm
        have iM_29 : cI Tc M_29 := cI_uI iM_28 hM_29 ob_2.1 (ib_mk (lo := 0) (hi := 2147483647) (by decide) (by decide))
        have vM_29 : (tI M_29 2 6).toInt = 0 := by rw [tI_uE hM_29]; decide
        refine lv_aload_n hx hb dX7_advance_55 rfl (lv_at hl 0 rfl) ?_
        refine ti_callVi (ci := 7) (av := []) C hw (s_X7_peek l D A cy hJ M_29 iM_29 ) ⟨ml_X7_34, ym_X7_peek, yv_X7_peek, yi_X7_peek, yc_X7_peek⟩ yd_X7_peek ob_2 (by decide) rfl rfl hl.1 (Nat.le_of_ble_eq_true rfl) ⟨by decide, by decide⟩ ⟨Nat.zero_le _, Nat.zero_le _⟩ dX7_advance_56 (fun r_30 M_31 H locs hp_31 hw => ?_)
        obtain ⟨hm, b0r_30, b1r_30, p0r_30, p1r_30⟩ := hp_31
        have hw := hw.to hm
        have kr_30 := tp_pk (tp.trans (tp_I hM_29 (by decide)) (tp.trans (tp_I hM_28 (by decide)) f_5)) iM_29 p1r_30
        refine lv_istore_n (lv' := [(1, .int r_30), (0, .ref (A 2 0))]) hx hb dX7_advance_59 rfl hl (by decide) rfl (fun ls hl => ?_)
        refine lv_iload_n hx hb dX7_advance_60 rfl (lv_at hl 0 rfl) ?_
        refine lv_iconst (v := (-1)) hx hb dX7_advance_61 (by decide) ?_
        refine sb_icmp_ne (tgt := 74) hx hb rfl (by decide : ((-1) : Int32).toInt = (-1)) dX7_advance_62 (by decide) (fun c_62_31 => ?_) (fun c_62_31 => ?_)
        · refine lv_iload_n hx hb dX7_advance_74 rfl (lv_at hl 0 rfl) ?_
          refine ti_callSi (av := [.int r_30]) C hw (x_X7_isLetter l D A cy hJ M_29 iM_29 r_30) ⟨ml_X7_47, ys_X7_isLetter, yi_X7_isLetter, yc_X7_isLetter⟩ yd_X7_isLetter rfl hl.1 (Nat.le_of_ble_eq_true rfl) ⟨by decide, by decide⟩ ⟨Nat.zero_le _, Nat.zero_le _⟩ dX7_advance_75 (fun r_34 M_35 H locs hp_35 hw => ?_)
          obtain ⟨hm, hz⟩ := hp_35
          have hw := hw.to hm
          rcases hz with ⟨rfl, d1_36, d2_36⟩ | ⟨rfl, d1_36⟩
          · refine sb_if_eq (tgt := 88) hx hb (by decide : (1 : Int32).toInt = 1) dX7_advance_78 (by decide) (fun h => absurd h (by decide)) (fun c_78_36 => ?_)
            refine lv_aload_n hx hb dX7_advance_81 rfl (lv_at hl 1 rfl) ?_
            refine ti_callVvE (ci := 7) (av := []) C hE hw (x_X7_readWord l D A cy hJ M_29 iM_29 (by omega)) ⟨ml_X7_51, ym_X7_readWord, yv_X7_readWord, yi_X7_readWord, yc_X7_readWord⟩ yd_X7_readWord ob_2 (by decide) rfl rfl hl.1 (Nat.le_of_ble_eq_true rfl) ⟨by decide, by decide⟩ ⟨Nat.zero_le _, Nat.zero_le _⟩ dX7_advance_82 (fun M_40 H locs hp_40 hw => ?_)
            obtain ⟨iM_40, q_41, q_42, q_43, q_44, q_45, p0r_39, p1r_39, p2r_39⟩ := hp_40
            refine lv_goto (tgt := 121) hx hb dX7_advance_85 (by decide) ?_
            have eg : tI M_29 2 3 = tI M_1 2 3 := (tI_nE hM_29 (nk (by decide))).trans (tI_nE hM_28 (nk (by decide)))
            have EP : pt_P (pt_cB M) (pt_cn M) (tI M 2 3).toInt.toNat = (tI M_29 2 3).toInt.toNat := by unfold pt_P; rw [← j_6, j_26, eg]
            have EC : pt_C (pt_cB M) (pt_cn M) (tI M 2 3).toInt.toNat = r_30.toInt := by unfold pt_C; rw [EP]; exact kr_30.symm
            have eg2 : (tI M_29 2 3).toInt = (tI M_1 2 3).toInt := by rw [eg]
            have eb := tp_B (tp.trans (tp_I hM_29 (by decide)) (tp.trans (tp_I hM_28 (by decide)) f_5))
            have en := tp_n (tp.trans (tp_I hM_29 (by decide)) (tp.trans (tp_I hM_28 (by decide)) f_5))
            have ea : (tI M_40 2 5).toInt = (tI M_29 2 3).toInt := by rw [q_45, tI_nE hM_29 (nk (by decide)), tI_uE hM_28]; omega
            exact hQ _ _ _ _ _ hw (⟨iM_40, ((q_41).trans ((rf_I hM_29).trans ((rf_I hM_28).trans f_2))), (o2.trans q_42 (o2.trans (o2_I hM_29) (o2.trans (o2_I hM_28) f_3))), ((q_43).trans ((tI_nE hM_29 (nk (by decide))).trans ((tI_nE hM_28 (nk (by decide))).trans f_4))), (tp.trans q_44 (tp.trans (tp_I hM_29 (by decide)) (tp.trans (tp_I hM_28 (by decide)) f_5))), (by have q : pt_K (pt_cB M) (pt_cn M) (tI M 2 3).toInt.toNat = (if (tI M_29 2 3).toInt.toNat + 6 < pt_to pt_L (pt_cB M) (pt_cn M) (tI M_29 2 3).toInt.toNat then 28 else pt_wk (pt_ev (pt_cB M) (pt_cn M) (tI M_29 2 3).toInt.toNat 0 0) 0) := (by unfold pt_K; rw [EC, if_neg (by omega), if_pos (pt_Lt (by omega) (by omega)), EP]); rw [q, p0r_39, eb, en]), (by rw [p2r_39]; unfold pt_V; rw [EC, if_neg (by omega), if_pos (pt_Lt (by omega) (by omega)), EP, eb, en]), (by rw [ea, EP]; omega), (by rw [p1r_39]; unfold pt_A; rw [EC, if_neg (by omega), if_pos (pt_Lt (by omega) (by omega)), EP, eb, en])⟩) dX7_advance_121
          · refine sb_if_eq (tgt := 88) hx hb (by decide : (0 : Int32).toInt = 0) dX7_advance_78 (by decide) (fun c_78_37 => ?_) (fun h => absurd h (by decide))
            refine lv_iload_n hx hb dX7_advance_88 rfl (lv_at hl 0 rfl) ?_
            refine ti_callSi (av := [.int r_30]) C hw (x_X7_isDigit l D A cy hJ M_29 iM_29 r_30) ⟨ml_X7_54, ys_X7_isDigit, yi_X7_isDigit, yc_X7_isDigit⟩ yd_X7_isDigit rfl hl.1 (Nat.le_of_ble_eq_true rfl) ⟨by decide, by decide⟩ ⟨Nat.zero_le _, Nat.zero_le _⟩ dX7_advance_89 (fun r_46 M_47 H locs hp_47 hw => ?_)
            obtain ⟨hm, hz⟩ := hp_47
            have hw := hw.to hm
            rcases hz with ⟨rfl, d1_48, d2_48⟩ | ⟨rfl, d1_48⟩
            · refine sb_if_eq (tgt := 102) hx hb (by decide : (1 : Int32).toInt = 1) dX7_advance_92 (by decide) (fun h => absurd h (by decide)) (fun c_92_48 => ?_)
              refine lv_aload_n hx hb dX7_advance_95 rfl (lv_at hl 1 rfl) ?_
              refine ti_callVv (ci := 7) (av := []) C hw (x_X7_readNumber l D A cy hJ M_29 iM_29 (by omega)) ⟨ml_X7_57, ym_X7_readNumber, yv_X7_readNumber, yi_X7_readNumber, yc_X7_readNumber⟩ yd_X7_readNumber ob_2 (by decide) rfl rfl hl.1 (Nat.le_of_ble_eq_true rfl) ⟨by decide, by decide⟩ ⟨Nat.zero_le _, Nat.zero_le _⟩ dX7_advance_96 (fun M_52 H locs hp_52 hw => ?_)
              obtain ⟨iM_52, q_53, q_54, q_55, q_56, q_57, p0r_51, p1r_51, p2r_51⟩ := hp_52
              refine lv_goto (tgt := 121) hx hb dX7_advance_99 (by decide) ?_
              have eg : tI M_29 2 3 = tI M_1 2 3 := (tI_nE hM_29 (nk (by decide))).trans (tI_nE hM_28 (nk (by decide)))
              have EP : pt_P (pt_cB M) (pt_cn M) (tI M 2 3).toInt.toNat = (tI M_29 2 3).toInt.toNat := by unfold pt_P; rw [← j_6, j_26, eg]
              have EC : pt_C (pt_cB M) (pt_cn M) (tI M 2 3).toInt.toNat = r_30.toInt := by unfold pt_C; rw [EP]; exact kr_30.symm
              have eg2 : (tI M_29 2 3).toInt = (tI M_1 2 3).toInt := by rw [eg]
              have eb := tp_B (tp.trans (tp_I hM_29 (by decide)) (tp.trans (tp_I hM_28 (by decide)) f_5))
              have en := tp_n (tp.trans (tp_I hM_29 (by decide)) (tp.trans (tp_I hM_28 (by decide)) f_5))
              have ea : (tI M_52 2 5).toInt = (tI M_29 2 3).toInt := by rw [q_57, tI_nE hM_29 (nk (by decide)), tI_uE hM_28]; omega
              have v0 : (tI M_29 2 6).toInt = 0 := by rw [tI_uE hM_29]; decide
              exact hQ _ _ _ _ _ hw (⟨iM_52, ((q_53).trans ((rf_I hM_29).trans ((rf_I hM_28).trans f_2))), (o2.trans q_54 (o2.trans (o2_I hM_29) (o2.trans (o2_I hM_28) f_3))), ((q_55).trans ((tI_nE hM_29 (nk (by decide))).trans ((tI_nE hM_28 (nk (by decide))).trans f_4))), (tp.trans q_56 (tp.trans (tp_I hM_29 (by decide)) (tp.trans (tp_I hM_28 (by decide)) f_5))), (by have q : pt_K (pt_cB M) (pt_cn M) (tI M 2 3).toInt.toNat = (26) := (by unfold pt_K; rw [EC, if_neg (by omega), if_neg (by rw [pt_Lf (by omega)]; decide), if_pos (pt_Dt (by omega) (by omega))]); rw [q, p0r_51]), (by rw [p2r_51]; unfold pt_V; rw [EC, if_neg (by omega), if_neg (by rw [pt_Lf (by omega)]; decide), if_pos (pt_Dt (by omega) (by omega)), EP, eb, en, v0]), (by rw [ea, EP]; omega), (by rw [p1r_51]; unfold pt_A; rw [EC, if_neg (by omega), if_neg (by rw [pt_Lf (by omega)]; decide), if_pos (pt_Dt (by omega) (by omega)), EP, eb, en])⟩) dX7_advance_121
            · refine sb_if_eq (tgt := 102) hx hb (by decide : (0 : Int32).toInt = 0) dX7_advance_92 (by decide) (fun c_92_49 => ?_) (fun h => absurd h (by decide))
              refine lv_aload_n hx hb dX7_advance_102 rfl (lv_at hl 1 rfl) ?_
              refine lv_dup hx hb dX7_advance_103 rfl ?_
              refine ti_get (ci := 7) (k := 3) (N := 7) (T := TX7) C hw iw_7 rfl ob_2 (by decide) (by decide) fl_X7_22 rfl rfl dX7_advance_104 ?_
              refine ti_top (y := x_9) ((tI_nE hM_29 (nk (by decide))).trans ((tI_nE hM_28 (nk (by decide))).trans ex_9.symm)) ?_
              have u_58 : (tI M_29 2 3).toInt = (x_9 : Int32).toInt := by rw [((tI_nE hM_29 (nk (by decide))).trans ((tI_nE hM_28 (nk (by decide))).trans ex_9.symm))]
              refine lv_iconst (v := 1) hx hb dX7_advance_107 (by decide) ?_
              refine lv_iadd hx hb dX7_advance_108 ?_
              refine lv_topi (fun x_59 ex_59 => ?_)
              have tx_59 : x_59.toInt = x_9.toInt + 1 := i_add ex_59 rfl (by decide : (1 : Int32).toInt = 1) (by omega) (by omega)
              refine ti_putI (ci := 7) (k := 3) (N := 7) (T := TX7) C hw iw_7 tyX7 tyX7_ok nmX7 rfl ob_2 (by decide) (by decide) fl_X7_22 rfl rfl rfl rfl (fn_7 A _) fs_7_3 dX7_advance_109 (fun H locs hw => ?_)
              obtain ⟨M_60, hM_60⟩ : ∃ z : ti_M, z = uI M_29 2 3 x_59 := ⟨_, rfl⟩
              have hw := hw.to hM_60.symm
              have iM_60 : cI Tc M_60 := cI_uI iM_29 hM_60 ob_2.1 (ib_mk (lo := 0) (hi := 700) (by omega) (by omega))
              have vM_60 : (tI M_60 2 3).toInt = (x_59 : Int32).toInt := by rw [tI_uE hM_60]
              refine lv_aload_n hx hb dX7_advance_112 rfl (lv_at hl 1 rfl) ?_
              refine lv_aload_n hx hb dX7_advance_113 rfl (lv_at hl 1 rfl) ?_
              refine lv_iload_n hx hb dX7_advance_114 rfl (lv_at hl 0 rfl) ?_
              refine ti_callVi (ci := 7) (av := [.int r_30]) C hw (x_X7_signKind l D A cy hJ M_60 iM_60 r_30) ⟨ml_X7_60, ym_X7_signKind, yv_X7_signKind, yi_X7_signKind, yc_X7_signKind⟩ yd_X7_signKind ob_2 (by decide) rfl rfl hl.1 (Nat.le_of_ble_eq_true rfl) ⟨by decide, by decide⟩ ⟨Nat.zero_le _, Nat.zero_le _⟩ dX7_advance_115 (fun r_61 M_62 H locs hp_62 hw => ?_)
              obtain ⟨skr_61, b0r_61, b1r_61, iM_62, hsg_64⟩ := hp_62
              rcases hsg_64 with ⟨g_64, hmg_64⟩ | ⟨g_64, y_63, ty_63, hM_62⟩
              · have hw := hw.to hmg_64
                refine ti_putI (ci := 7) (k := 4) (N := 7) (T := TX7) C hw iw_7 tyX7 tyX7_ok nmX7 rfl ob_2 (by decide) (by decide) fl_X7_44 rfl rfl rfl rfl (fn_7 A _) fs_7_4 dX7_advance_118 (fun H locs hw => ?_)
                obtain ⟨M_65, hM_65⟩ : ∃ z : ti_M, z = uI M_60 2 4 r_61 := ⟨_, rfl⟩
                have hw := hw.to hM_65.symm
                have iM_65 : cI Tc M_65 := cI_uI iM_60 hM_65 ob_2.1 (ib_mk (lo := 0) (hi := 41) (by omega) (by omega))
                have vM_65 : (tI M_65 2 4).toInt = (r_61 : Int32).toInt := by rw [tI_uE hM_65]
                have eg : tI M_29 2 3 = tI M_1 2 3 := (tI_nE hM_29 (nk (by decide))).trans (tI_nE hM_28 (nk (by decide)))
                have EP : pt_P (pt_cB M) (pt_cn M) (tI M 2 3).toInt.toNat = (tI M_29 2 3).toInt.toNat := by unfold pt_P; rw [← j_6, j_26, eg]
                have EC : pt_C (pt_cB M) (pt_cn M) (tI M 2 3).toInt.toNat = r_30.toInt := by unfold pt_C; rw [EP]; exact kr_30.symm
                have eg2 : (tI M_29 2 3).toInt = (tI M_1 2 3).toInt := by rw [eg]
                have eb := tp_B (tp.trans (tp_I hM_29 (by decide)) (tp.trans (tp_I hM_28 (by decide)) f_5))
                have en := tp_n (tp.trans (tp_I hM_29 (by decide)) (tp.trans (tp_I hM_28 (by decide)) f_5))
                have e2 : (tI M_60 2 3).toInt.toNat = (tI M_29 2 3).toInt.toNat + 1 := by rw [(tI_uE hM_60), eg, (ex_9.symm)]; omega
                have ks := tp_pk (r := s_pk M_60) (tp.trans (tp_I hM_60 (by decide)) (tp.trans (tp_I hM_29 (by decide)) (tp.trans (tp_I hM_28 (by decide)) f_5))) iM_60 rfl
                rw [e2] at ks
                have n2 : pt_s2 r_30.toInt (pt_pk (pt_cB M) (pt_cn M) ((tI M_29 2 3).toInt.toNat + 1)) = 0 := by rw [← ks]; exact g_64
                exact hQ _ _ _ _ _ hw (⟨iM_65, ((rf_I hM_65).trans ((rf_I hM_60).trans ((rf_I hM_29).trans ((rf_I hM_28).trans f_2)))), (o2.trans (o2_I hM_65) (o2.trans (o2_I hM_60) (o2.trans (o2_I hM_29) (o2.trans (o2_I hM_28) f_3)))), ((tI_nE hM_65 (nk (by decide))).trans ((tI_nE hM_60 (nk (by decide))).trans ((tI_nE hM_29 (nk (by decide))).trans ((tI_nE hM_28 (nk (by decide))).trans f_4)))), (tp.trans (tp_I hM_65 (by decide)) (tp.trans (tp_I hM_60 (by decide)) (tp.trans (tp_I hM_29 (by decide)) (tp.trans (tp_I hM_28 (by decide)) f_5)))), (by rw [(tI_uE hM_65), skr_61, ks]; unfold pt_K; rw [EC, if_neg (by omega), if_neg (by rw [pt_Lf (by omega)]; decide), if_neg (by rw [pt_Df (by omega)]; decide), EP]), (by rw [((tI_nE hM_65 (nk (by decide))).trans ((tI_nE hM_60 (nk (by decide))).trans (tI_uE hM_29)))]; unfold pt_V; rw [EC, if_neg (by omega), if_neg (by rw [pt_Lf (by omega)]; decide), if_neg (by rw [pt_Df (by omega)]; decide)]; decide), (by rw [EP, ((tI_nE hM_65 (nk (by decide))).trans ((tI_nE hM_60 (nk (by decide))).trans ((tI_nE hM_29 (nk (by decide))).trans (tI_uE hM_28))))]; omega), (by rw [((tI_nE hM_65 (nk (by decide))).trans (tI_uE hM_60))]; unfold pt_A; rw [EC, if_neg (by omega), if_neg (by rw [pt_Lf (by omega)]; decide), if_neg (by rw [pt_Df (by omega)]; decide), EP, n2]; omega)⟩) dX7_advance_121
              · refine ti_putI (ci := 7) (k := 4) (N := 7) (T := TX7) C hw iw_7 tyX7 tyX7_ok nmX7 rfl ob_2 (by decide) (by decide) fl_X7_44 rfl rfl rfl rfl (fn_7 A _) fs_7_4 dX7_advance_118 (fun H locs hw => ?_)
                obtain ⟨M_66, hM_66⟩ : ∃ z : ti_M, z = uI M_62 2 4 r_61 := ⟨_, rfl⟩
                have hw := hw.to hM_66.symm
                have iM_66 : cI Tc M_66 := cI_uI iM_62 hM_66 ob_2.1 (ib_mk (lo := 0) (hi := 41) (by omega) (by omega))
                have vM_66 : (tI M_66 2 4).toInt = (r_61 : Int32).toInt := by rw [tI_uE hM_66]
                have eg : tI M_29 2 3 = tI M_1 2 3 := (tI_nE hM_29 (nk (by decide))).trans (tI_nE hM_28 (nk (by decide)))
                have EP : pt_P (pt_cB M) (pt_cn M) (tI M 2 3).toInt.toNat = (tI M_29 2 3).toInt.toNat := by unfold pt_P; rw [← j_6, j_26, eg]
                have EC : pt_C (pt_cB M) (pt_cn M) (tI M 2 3).toInt.toNat = r_30.toInt := by unfold pt_C; rw [EP]; exact kr_30.symm
                have eg2 : (tI M_29 2 3).toInt = (tI M_1 2 3).toInt := by rw [eg]
                have eb := tp_B (tp.trans (tp_I hM_29 (by decide)) (tp.trans (tp_I hM_28 (by decide)) f_5))
                have en := tp_n (tp.trans (tp_I hM_29 (by decide)) (tp.trans (tp_I hM_28 (by decide)) f_5))
                have e2 : (tI M_60 2 3).toInt.toNat = (tI M_29 2 3).toInt.toNat + 1 := by rw [(tI_uE hM_60), eg, (ex_9.symm)]; omega
                have ks := tp_pk (r := s_pk M_60) (tp.trans (tp_I hM_60 (by decide)) (tp.trans (tp_I hM_29 (by decide)) (tp.trans (tp_I hM_28 (by decide)) f_5))) iM_60 rfl
                rw [e2] at ks
                have n2 : pt_s2 r_30.toInt (pt_pk (pt_cB M) (pt_cn M) ((tI M_29 2 3).toInt.toNat + 1)) = 1 := by rw [← ks]; exact g_64
                exact hQ _ _ _ _ _ hw (⟨iM_66, ((rf_I hM_66).trans ((rf_I hM_62).trans ((rf_I hM_60).trans ((rf_I hM_29).trans ((rf_I hM_28).trans f_2))))), (o2.trans (o2_I hM_66) (o2.trans (o2_I hM_62) (o2.trans (o2_I hM_60) (o2.trans (o2_I hM_29) (o2.trans (o2_I hM_28) f_3))))), ((tI_nE hM_66 (nk (by decide))).trans ((tI_nE hM_62 (nk (by decide))).trans ((tI_nE hM_60 (nk (by decide))).trans ((tI_nE hM_29 (nk (by decide))).trans ((tI_nE hM_28 (nk (by decide))).trans f_4))))), (tp.trans (tp_I hM_66 (by decide)) (tp.trans (tp_I hM_62 (by decide)) (tp.trans (tp_I hM_60 (by decide)) (tp.trans (tp_I hM_29 (by decide)) (tp.trans (tp_I hM_28 (by decide)) f_5))))), (by rw [(tI_uE hM_66), skr_61, ks]; unfold pt_K; rw [EC, if_neg (by omega), if_neg (by rw [pt_Lf (by omega)]; decide), if_neg (by rw [pt_Df (by omega)]; decide), EP]), (by rw [((tI_nE hM_66 (nk (by decide))).trans ((tI_nE hM_62 (nk (by decide))).trans ((tI_nE hM_60 (nk (by decide))).trans (tI_uE hM_29))))]; unfold pt_V; rw [EC, if_neg (by omega), if_neg (by rw [pt_Lf (by omega)]; decide), if_neg (by rw [pt_Df (by omega)]; decide)]; decide), (by rw [EP, ((tI_nE hM_66 (nk (by decide))).trans ((tI_nE hM_62 (nk (by decide))).trans ((tI_nE hM_60 (nk (by decide))).trans ((tI_nE hM_29 (nk (by decide))).trans (tI_uE hM_28)))))]; omega), (by rw [((tI_nE hM_66 (nk (by decide))).trans (tI_uE hM_62))]; unfold pt_A; rw [EC, if_neg (by omega), if_neg (by rw [pt_Lf (by omega)]; decide), if_neg (by rw [pt_Df (by omega)]; decide), EP, n2]; omega)⟩) dX7_advance_121
        · refine lv_aload_n hx hb dX7_advance_65 rfl (lv_at hl 1 rfl) ?_
          refine lv_bipush (v := 27) hx hb dX7_advance_66 (by decide) ?_
          refine ti_putI (ci := 7) (k := 4) (N := 7) (T := TX7) C hw iw_7 tyX7 tyX7_ok nmX7 rfl ob_2 (by decide) (by decide) fl_X7_44 rfl rfl rfl rfl (fn_7 A _) fs_7_4 dX7_advance_68 (fun H locs hw => ?_)
          obtain ⟨M_33, hM_33⟩ : ∃ z : ti_M, z = uI M_29 2 4 27 := ⟨_, rfl⟩
          have hw := hw.to hM_33.symm
          have iM_33 : cI Tc M_33 := cI_uI iM_29 hM_33 ob_2.1 (ib_mk (lo := 0) (hi := 41) (by decide) (by decide))
          have vM_33 : (tI M_33 2 4).toInt = 27 := by rw [tI_uE hM_33]; decide
          refine lv_goto (tgt := 121) hx hb dX7_advance_71 (by decide) ?_
          have eg : tI M_29 2 3 = tI M_1 2 3 := (tI_nE hM_29 (nk (by decide))).trans (tI_nE hM_28 (nk (by decide)))
          have EP : pt_P (pt_cB M) (pt_cn M) (tI M 2 3).toInt.toNat = (tI M_29 2 3).toInt.toNat := by unfold pt_P; rw [← j_6, j_26, eg]
          have EC : pt_C (pt_cB M) (pt_cn M) (tI M 2 3).toInt.toNat = r_30.toInt := by unfold pt_C; rw [EP]; exact kr_30.symm
          have eg2 : (tI M_29 2 3).toInt = (tI M_1 2 3).toInt := by rw [eg]
          have eb := tp_B (tp.trans (tp_I hM_29 (by decide)) (tp.trans (tp_I hM_28 (by decide)) f_5))
          have en := tp_n (tp.trans (tp_I hM_29 (by decide)) (tp.trans (tp_I hM_28 (by decide)) f_5))
          exact hQ _ _ _ _ _ hw (⟨iM_33, ((rf_I hM_33).trans ((rf_I hM_29).trans ((rf_I hM_28).trans f_2))), (o2.trans (o2_I hM_33) (o2.trans (o2_I hM_29) (o2.trans (o2_I hM_28) f_3))), ((tI_nE hM_33 (nk (by decide))).trans ((tI_nE hM_29 (nk (by decide))).trans ((tI_nE hM_28 (nk (by decide))).trans f_4))), (tp.trans (tp_I hM_33 (by decide)) (tp.trans (tp_I hM_29 (by decide)) (tp.trans (tp_I hM_28 (by decide)) f_5))), (by rw [(tI_uE hM_33)]; unfold pt_K; rw [EC, if_pos (by omega)]; decide), (by rw [((tI_nE hM_33 (nk (by decide))).trans (tI_uE hM_29))]; unfold pt_V; rw [EC, if_pos (by omega)]; decide), (by rw [EP, ((tI_nE hM_33 (nk (by decide))).trans ((tI_nE hM_29 (nk (by decide))).trans (tI_uE hM_28)))]; omega), (by rw [((tI_nE hM_33 (nk (by decide))).trans ((tI_nE hM_29 (nk (by decide))).trans ((tI_nE hM_28 (nk (by decide))).trans ex_9.symm)))]; unfold pt_A; rw [EC, if_pos (by omega), EP]; omega)⟩) dX7_advance_121
      refine sb_icmp_ge (tgt := 42) hx hb rfl rfl dX7_advance_8 (by decide) (fun c_8_10 => ?_) (fun c_8_10 => ?_)
      · exact hj_42_26  _ _ _ (pt_to_end (P := pt_W) (B := pt_cB M) (n := pt_cn M) (a := (tI M_1 2 3).toInt.toNat) (fun q => by have q1 := q.1; have q2 := tp_n f_5; unfold pt_cn at q1 q2; omega)) hw (lv_sub hl [0] rfl)
      · refine lv_aload_n hx hb dX7_advance_11 rfl (lv_at hl 0 rfl) ?_
        refine ti_callVi (ci := 7) (av := []) C hw (s_X7_peek l D A cy hJ M_1 iM_1 ) ⟨ml_X7_34, ym_X7_peek, yv_X7_peek, yi_X7_peek, yc_X7_peek⟩ yd_X7_peek ob_2 (by decide) rfl rfl hl.1 (Nat.le_of_ble_eq_true rfl) ⟨by decide, by decide⟩ ⟨Nat.zero_le _, Nat.zero_le _⟩ dX7_advance_12 (fun r_12 M_13 H locs hp_13 hw => ?_)
        obtain ⟨hm, b0r_12, b1r_12, p0r_12, p1r_12⟩ := hp_13
        have hw := hw.to hm
        have kr_12 := tp_pk f_5 iM_1 p1r_12
        refine lv_bipush (v := 32) hx hb dX7_advance_15 (by decide) ?_
        refine sb_icmp_eq (tgt := 29) hx hb rfl (by decide : (32 : Int32).toInt = 32) dX7_advance_17 (by decide) (fun c_17_13 => ?_) (fun c_17_13 => ?_)
        · refine lv_aload_n hx hb dX7_advance_29 rfl (lv_at hl 0 rfl) ?_
          refine lv_dup hx hb dX7_advance_30 rfl ?_
          refine ti_get (ci := 7) (k := 3) (N := 7) (T := TX7) C hw iw_7 rfl ob_2 (by decide) (by decide) fl_X7_22 rfl rfl dX7_advance_31 ?_
          refine ti_top (y := x_9) (ex_9.symm) ?_
          have u_18 : (tI M_1 2 3).toInt = (x_9 : Int32).toInt := by rw [(ex_9.symm)]
          refine lv_iconst (v := 1) hx hb dX7_advance_34 (by decide) ?_
          refine lv_iadd hx hb dX7_advance_35 ?_
          refine lv_topi (fun x_19 ex_19 => ?_)
          have tx_19 : x_19.toInt = x_9.toInt + 1 := i_add ex_19 rfl (by decide : (1 : Int32).toInt = 1) (by omega) (by omega)
          refine ti_putI (ci := 7) (k := 3) (N := 7) (T := TX7) C hw iw_7 tyX7 tyX7_ok nmX7 rfl ob_2 (by decide) (by decide) fl_X7_22 rfl rfl rfl rfl (fn_7 A _) fs_7_3 dX7_advance_36 (fun H locs hw => ?_)
          obtain ⟨M_20, hM_20⟩ : ∃ z : ti_M, z = uI M_1 2 3 x_19 := ⟨_, rfl⟩
          have hw := hw.to hM_20.symm
          have iM_20 : cI Tc M_20 := cI_uI iM_1 hM_20 ob_2.1 (ib_mk (lo := 0) (hi := 700) (by omega) (by omega))
          have vM_20 : (tI M_20 2 3).toInt = (x_19 : Int32).toInt := by rw [tI_uE hM_20]
          refine lv_goto (tgt := 0) hx hb dX7_advance_39 (by decide) ?_
          have u_21 : (tI M_20 2 3).toInt = (x_19 : Int32).toInt := by rw [(tI_uE hM_20)]
          exact ih_7 M_20 _ _ _ (by omega) iM_20 ((rf_I hM_20).trans f_2) (o2.trans (o2_I hM_20) f_3) ((tI_nE hM_20 (nk (by decide))).trans f_4) (tp.trans (tp_I hM_20 (by decide)) f_5) (by have h := pt_pk_in kr_12 (by omega); have e1 : (tI M_20 2 3).toInt.toNat = (tI M_1 2 3).toInt.toNat + 1 := (by rw [(tI_uE hM_20), (ex_9.symm)]; omega); rw [e1, ← pt_to_go (P := pt_W) (B := pt_cB M) h.1 (by rw [← h.2]; exact pt_Wt (by omega))]; exact j_6) hw (lv_sub hl [0] rfl)
        · refine lv_aload_n hx hb dX7_advance_20 rfl (lv_at hl 0 rfl) ?_
          refine ti_callVi (ci := 7) (av := []) C hw (s_X7_peek l D A cy hJ M_1 iM_1 ) ⟨ml_X7_34, ym_X7_peek, yv_X7_peek, yi_X7_peek, yc_X7_peek⟩ yd_X7_peek ob_2 (by decide) rfl rfl hl.1 (Nat.le_of_ble_eq_true rfl) ⟨by decide, by decide⟩ ⟨Nat.zero_le _, Nat.zero_le _⟩ dX7_advance_21 (fun r_15 M_16 H locs hp_16 hw => ?_)
          obtain ⟨hm, b0r_15, b1r_15, p0r_15, p1r_15⟩ := hp_16
          have hw := hw.to hm
          have kr_15 := tp_pk f_5 iM_1 p1r_15
          refine lv_bipush (v := 10) hx hb dX7_advance_24 (by decide) ?_
          refine sb_icmp_ne (tgt := 42) hx hb rfl (by decide : (10 : Int32).toInt = 10) dX7_advance_26 (by decide) (fun c_26_16 => ?_) (fun c_26_16 => ?_)
          · exact hj_42_26  _ _ _ (pt_to_end (P := pt_W) (B := pt_cB M) (n := pt_cn M) (a := (tI M_1 2 3).toInt.toNat) (pt_pk_no kr_15 (pt_Wf (by omega) (by omega)))) hw (lv_sub hl [0] rfl)
          · refine lv_aload_n hx hb dX7_advance_29 rfl (lv_at hl 0 rfl) ?_
            refine lv_dup hx hb dX7_advance_30 rfl ?_
            refine ti_get (ci := 7) (k := 3) (N := 7) (T := TX7) C hw iw_7 rfl ob_2 (by decide) (by decide) fl_X7_22 rfl rfl dX7_advance_31 ?_
            refine ti_top (y := x_9) (ex_9.symm) ?_
            have u_22 : (tI M_1 2 3).toInt = (x_9 : Int32).toInt := by rw [(ex_9.symm)]
            refine lv_iconst (v := 1) hx hb dX7_advance_34 (by decide) ?_
            refine lv_iadd hx hb dX7_advance_35 ?_
            refine lv_topi (fun x_23 ex_23 => ?_)
            have tx_23 : x_23.toInt = x_9.toInt + 1 := i_add ex_23 rfl (by decide : (1 : Int32).toInt = 1) (by omega) (by omega)
            refine ti_putI (ci := 7) (k := 3) (N := 7) (T := TX7) C hw iw_7 tyX7 tyX7_ok nmX7 rfl ob_2 (by decide) (by decide) fl_X7_22 rfl rfl rfl rfl (fn_7 A _) fs_7_3 dX7_advance_36 (fun H locs hw => ?_)
            obtain ⟨M_24, hM_24⟩ : ∃ z : ti_M, z = uI M_1 2 3 x_23 := ⟨_, rfl⟩
            have hw := hw.to hM_24.symm
            have iM_24 : cI Tc M_24 := cI_uI iM_1 hM_24 ob_2.1 (ib_mk (lo := 0) (hi := 700) (by omega) (by omega))
            have vM_24 : (tI M_24 2 3).toInt = (x_23 : Int32).toInt := by rw [tI_uE hM_24]
            refine lv_goto (tgt := 0) hx hb dX7_advance_39 (by decide) ?_
            have u_25 : (tI M_24 2 3).toInt = (x_23 : Int32).toInt := by rw [(tI_uE hM_24)]
            exact ih_7 M_24 _ _ _ (by omega) iM_24 ((rf_I hM_24).trans f_2) (o2.trans (o2_I hM_24) f_3) ((tI_nE hM_24 (nk (by decide))).trans f_4) (tp.trans (tp_I hM_24 (by decide)) f_5) (by have h := pt_pk_in kr_15 (by omega); have e1 : (tI M_24 2 3).toInt.toNat = (tI M_1 2 3).toInt.toNat + 1 := (by rw [(tI_uE hM_24), (ex_9.symm)]; omega); rw [e1, ← pt_to_go (P := pt_W) (B := pt_cB M) h.1 (by rw [← h.2]; exact pt_Wt (by omega))]; exact j_6) hw (lv_sub hl [0] rfl)
  exact hl_0_6 ((700 - (tI M 2 3).toInt : Int).toNat + 1) M _ _ _ (Nat.lt_succ_self _) hI rfl o2.refl rfl tp.refl rfl hw (lv_sub hl [0] rfl)
set_option maxHeartbeats 4000000 in
set_option maxRecDepth 100000 in
theorem x_X7_begin (l : Launch) (D : va_G) (A : Nat → Nat → Nat) (cy : Nat → ClassId) (hJ : ti_inj ti_LT A) (M : ti_M) (hI : cI Tc M) (nn : Int32) (h1 : 0 ≤ nn.toInt) (h2 : nn.toInt ≤ 700) : ti_KvE l yX7_begin cX7_begin 2 7 ti_LT D A cy M [.ref (A 2 0), .int nn] (fun M2 => cI Tc M2 ∧ M2.2.2.2 = M.2.2.2 ∧ o2 M2 M ∧ tI M2 2 1 = tI M 2 1 ∧ M2.2.1 = M.2.1 ∧ (tI M2 2 2).toInt = nn.toInt ∧ (tI M2 2 4).toInt = pt_K (pt_cB M) nn.toInt.toNat 0 ∧ (tI M2 2 6).toInt = pt_V (pt_cB M) nn.toInt.toNat 0 ∧ (tI M2 2 5).toInt = ((pt_P (pt_cB M) nn.toInt.toNat 0 : Nat) : Int) ∧ (tI M2 2 3).toInt = pt_A (pt_cB M) nn.toInt.toNat 0) := by
  refine ti_eVE yp_X7_begin hJ ti_LT_nd (Nat.le_of_ble_eq_true rfl) ?_
  intro p e s m args below meth c Q H0 C hE hQ hw ls hl
  have hx := C.1
  have hb := C.2.1
  have hl : lv_has ls 2 [(0, .ref (A 2 0)), (1, .int nn)] := hl
  refine lv_aload_n hx hb dX7_begin_0 rfl (lv_at hl 0 rfl) ?_
  refine lv_iload_n hx hb dX7_begin_1 rfl (lv_at hl 1 rfl) ?_
  refine lv_sipush (v := 700) hx hb dX7_begin_2 (by decide) ?_
  refine ti_min C ml_X7_25 hl.1 (by decide) (Nat.le_of_ble_eq_true rfl) ⟨Nat.zero_le _, Nat.zero_le _⟩ dX7_begin_5 ?_
  refine lv_topi (fun x_1 ex_1 => ?_)
  have bx_1 := i_min ex_1 rfl (by decide : (700 : Int32).toInt = 700)
  refine ti_putI (ci := 7) (k := 2) (N := 7) (T := TX7) C hw iw_7 tyX7 tyX7_ok nmX7 rfl ob_2 (by decide) (by decide) fl_X7_19 rfl rfl rfl rfl (fn_7 A _) fs_7_2 dX7_begin_8 (fun H locs hw => ?_)
  obtain ⟨M_2, hM_2⟩ : ∃ z : ti_M, z = uI M 2 2 x_1 := ⟨_, rfl⟩
  have hw := hw.to hM_2.symm
  have iM_2 : cI Tc M_2 := cI_uI hI hM_2 ob_2.1 (ib_mk (lo := 0) (hi := 700) (by omega) (by omega))
  have vM_2 : (tI M_2 2 2).toInt = (x_1 : Int32).toInt := by rw [tI_uE hM_2]
  refine lv_aload_n hx hb dX7_begin_11 rfl (lv_at hl 0 rfl) ?_
  refine lv_iconst (v := 0) hx hb dX7_begin_12 (by decide) ?_
  refine ti_putI (ci := 7) (k := 3) (N := 7) (T := TX7) C hw iw_7 tyX7 tyX7_ok nmX7 rfl ob_2 (by decide) (by decide) fl_X7_22 rfl rfl rfl rfl (fn_7 A _) fs_7_3 dX7_begin_13 (fun H locs hw => ?_)
  obtain ⟨M_3, hM_3⟩ : ∃ z : ti_M, z = uI M_2 2 3 0 := ⟨_, rfl⟩
  have hw := hw.to hM_3.symm
  have iM_3 : cI Tc M_3 := cI_uI iM_2 hM_3 ob_2.1 (ib_mk (lo := 0) (hi := 700) (by decide) (by decide))
  have vM_3 : (tI M_3 2 3).toInt = 0 := by rw [tI_uE hM_3]; decide
  refine lv_aload_n hx hb dX7_begin_16 rfl (lv_at hl 0 rfl) ?_
  refine ti_callVvE (ci := 7) (av := []) C hE hw (x_X7_advance l D A cy hJ M_3 iM_3 ) ⟨ml_X7_31, ym_X7_advance, yv_X7_advance, yi_X7_advance, yc_X7_advance⟩ yd_X7_advance ob_2 (by decide) rfl rfl hl.1 (Nat.le_of_ble_eq_true rfl) ⟨by decide, by decide⟩ ⟨Nat.zero_le _, Nat.zero_le _⟩ dX7_begin_17 (fun M_5 H locs hp_5 hw => ?_)
  obtain ⟨iM_5, q_6, q_7, q_8, q_9, p0r_4, p1r_4, p2r_4, p3r_4⟩ := hp_5
  have e0 : (tI M_3 2 3).toInt.toNat = 0 := by rw [tI_uE hM_3]; decide
  have en : pt_cn M_3 = nn.toInt.toNat := by unfold pt_cn; rw [tI_nE hM_3 (nk (by decide)), tI_uE hM_2]; omega
  have eb : pt_cB M_3 = pt_cB M := (pt_cB_I hM_3).trans (pt_cB_I hM_2)
  rw [e0, en, eb] at p0r_4 p1r_4 p2r_4 p3r_4
  exact hQ _ _ _ _ _ hw (⟨iM_5, ((q_6).trans ((rf_I hM_3).trans (rf_I hM_2))), (o2.trans q_7 (o2.trans (o2_I hM_3) (o2_I hM_2))), ((q_8).trans ((tI_nE hM_3 (nk (by decide))).trans (tI_nE hM_2 (nk (by decide))))), q_9.1.trans ((ry_I hM_3).trans (ry_I hM_2)), (by rw [q_9.2, tI_nE hM_3 (nk (by decide)), tI_uE hM_2]; omega), p0r_4, p1r_4, p2r_4, p3r_4⟩) dX7_begin_20

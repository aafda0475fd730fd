variable {Tc : gC} {Tm : gM}
/-- the reference between calls -/
def mF (Tm : gM) (M : ti_M) : Prop := mI Tm M ∧ mL M ∧ (mC M 0 ∧ mP M 0) ∧ (¬ (tI M 60 51).toInt = 0 → mC M 2 ∧ mP M 2) ∧ (∀ k : Nat, (k : Int) < (tI M 60 52).toInt → mC M (3 + k) ∧ mP M (3 + k))
theorem mF_rq {M N : ti_M} {q : Nat} (h : mF Tm M) (hI : mI Tm N) (r : rq q N M) (c : q = 0 → mC N 0) (hq : q ≤ 1) : mF Tm N := by
  obtain ⟨-, hL, ⟨h1, h2⟩, h3, h4⟩ := h
  have g : ∀ q2, q2 ≠ q → mC M q2 ∧ mP M q2 → mC N q2 ∧ mP N q2 := fun q2 hne p => ⟨(r.2.2.1 q2).1 hne p.1, (r.2.2.1 q2).2 p.2⟩
  refine ⟨hI, mL_lw r.1 hL, ⟨?_, (r.2.2.1 0).2 h2⟩, ?_, ?_⟩
  · by_cases e : q = 0
    · exact c e
    · exact (r.2.2.1 0).1 (Ne.symm e) h1
  · rw [r.2.1.2.1]; exact fun p => g 2 (by omega) (h3 p)
  · rw [r.2.1.2.2]; exact fun k hk => g _ (by omega) (h4 k hk)
theorem mF_qw {M N : ti_M} (h : mF Tm M) (hI : mI Tm N) (w : qw N M) : mF Tm N := mF_rq (q := 1) h hI (rq_qw w) (fun e => by omega) (by decide)
theorem lays_rq {M N : ti_M} (hl : lk N M) (c : cq 1 0 N M) (hC : mC M 0) (hP : mP M 0) : rq 1 N M ∧ mC N 1 ∧ mP N 1 ∧ (∀ j : Nat, j < 8 → tY N 60 40 (8 + j) = tY M 60 40 j) ∧ (∀ j : Nat, j < 8 → tY N 60 40 j = tY M 60 40 j) ∧ tY N 60 38 1 = tY M 60 38 0 := by
  obtain ⟨a, b, d, e, f, g, h⟩ := c
  refine ⟨⟨hl.1, hl.2, fun q2 => ⟨fun hne p => (d q2 hne).1 p, fun p => ?_⟩, fun _ => e 0 (by decide)⟩, a hC, b hP, fun j hj => ?_, fun j hj => h j (by omega), f⟩
  · by_cases e : q2 = 1
    · subst e; exact b hP
    · exact (d q2 e).2 p
  · have := g j hj; rwa [show 8 * 1 + j = 8 + j by omega, show 8 * 0 + j = j by omega] at this
set_option maxHeartbeats 4000000 in
set_option maxRecDepth 100000 in
theorem s_X10_lays (l : Launch) (D : va_G) (A : Nat → Nat → Nat) (cy : Nat → ClassId) (hJ : ti_inj ti_LM A) (M : ti_M) (hI : mI Tm M) (hC : mC M 0) (hP : mP M 0) : ti_Kv l yX10_lays cX10_lays 1 1 ti_LM D A cy M [.ref (A 60 0)] (fun M2 => mI Tm M2 ∧ rq 1 M2 M ∧ mC M2 1 ∧ mP M2 1 ∧ (∀ j : Nat, j < 8 → tY M2 60 40 (8 + j) = tY M 60 40 j) ∧ (∀ j : Nat, j < 8 → tY M2 60 40 j = tY M 60 40 j) ∧ tY M2 60 38 1 = tY M 60 38 0) := by
  refine ti_eV yp_X10_lays hJ ti_LM_nd (Nat.le_of_ble_eq_true rfl) ?_
  intro p e s m args below meth c Q H0 C hQ hw ls hl
  have hx := C.1
  have hb := C.2.1
  have hl : lv_has ls 1 [(0, .ref (A 60 0))] := hl
  refine lv_aload_n hx hb dX10_lays_0 rfl (lv_at hl 0 rfl) ?_
  refine lv_iconst (v := 1) hx hb dX10_lays_1 (by decide) ?_
  refine lv_iconst (v := 0) hx hb dX10_lays_2 (by decide) ?_
  refine ti_callVv (ci := 10) (av := [.int 1, .int 0]) C hw (s_X10_copies l D A cy hJ M hI 1 0 (by first | omega | decide | (have l0 : (0 : Int32).toInt = 0 := (by decide); have l2 : (2 : Int32).toInt = 2 := (by decide); have l3 : (3 : Int32).toInt = 3 := (by decide); omega)) (by first | omega | decide | (have l0 : (0 : Int32).toInt = 0 := (by decide); have l2 : (2 : Int32).toInt = 2 := (by decide); have l3 : (3 : Int32).toInt = 3 := (by decide); omega)) (by first | omega | decide | (have l0 : (0 : Int32).toInt = 0 := (by decide); have l2 : (2 : Int32).toInt = 2 := (by decide); have l3 : (3 : Int32).toInt = 3 := (by decide); omega)) (by first | omega | decide | (have l0 : (0 : Int32).toInt = 0 := (by decide); have l2 : (2 : Int32).toInt = 2 := (by decide); have l3 : (3 : Int32).toInt = 3 := (by decide); omega)) (by first | omega | decide | (have l0 : (0 : Int32).toInt = 0 := (by decide); have l2 : (2 : Int32).toInt = 2 := (by decide); have l3 : (3 : Int32).toInt = 3 := (by decide); omega)) (by first | omega | decide | (have l0 : (0 : Int32).toInt = 0 := (by decide); have l2 : (2 : Int32).toInt = 2 := (by decide); have l3 : (3 : Int32).toInt = 3 := (by decide); omega))) ⟨ml_X10_404, ym_X10_copies, yv_X10_copies, yi_X10_copies, yc_X10_copies⟩ yd_X10_copies ob_60 (by decide) rfl rfl hl.1 (Nat.le_of_ble_eq_true rfl) ⟨by decide, by decide⟩ ⟨Nat.zero_le _, Nat.zero_le _⟩ dX10_lays_3 (fun M_2 H locs hp_2 hw => ?_)
  obtain ⟨iM_2, q_3, q_4⟩ := hp_2
  refine lv_aload_n hx hb dX10_lays_6 rfl (lv_at hl 0 rfl) ?_
  refine ti_get (ci := 10) (k := 37) (N := 67) (T := TX10) (v := .ref (A 60 38)) C hw iw_10 rfl ob_60 (by decide) (by decide) fl_X10_78 rfl rfl dX10_lays_7 ?_
  refine lv_iconst (v := 1) hx hb dX10_lays_10 (by decide) ?_
  refine lv_iconst (v := 0) hx hb dX10_lays_11 (by decide) ?_
  refine ti_iast (ci := 10) (k := 37) (n := 23) C hw ob_60 (by decide) (fun _ _ => rfl) (by unfold vp_in; decide) dX10_lays_12 (fun H locs hw => ?_)
  obtain ⟨M_5, hM_5⟩ : ∃ z : ti_M, z = uY M_2 60 37 (upd (tY M_2 60 37) (1 : Int32).toNatClampNeg 0) := ⟨_, rfl⟩
  have hw := hw.to hM_5.symm
  have iM_5 : mI Tm M_5 := mI_up (i := 1) iM_2 hM_5 trivial
  have jj := lays_rq q_3 q_4 hC hP
  exact hQ _ _ _ _ _ hw (⟨iM_5, rq.trans (rq_qw ((qw_Y hM_5 (by decide)))) jj.1, mC_qw ((qw_Y hM_5 (by decide))) jj.2.1, mP_qw ((qw_Y hM_5 (by decide))) jj.2.2.1, fun j hj => (cg ((qw_Y hM_5 (by decide))).2.2.2.2 _).trans (jj.2.2.2.1 j hj), fun j hj => (cg ((qw_Y hM_5 (by decide))).2.2.2.2 _).trans (jj.2.2.2.2.1 j hj), (cg ((qw_Y hM_5 (by decide))).2.2.1 1).trans jj.2.2.2.2.2⟩) dX10_lays_13
set_option maxHeartbeats 4000000 in
set_option maxRecDepth 100000 in
theorem s_X10_fault (l : Launch) (D : va_G) (A : Nat → Nat → Nat) (cy : Nat → ClassId) (hJ : ti_inj ti_LM A) (M : ti_M) (hI : mI Tm M) (hF : mF Tm M) (z1 : Int32) : ti_Ki l yX10_fault cX10_fault 2 (some .int) 0 ti_LM D A cy M [.ref (A 60 0), .int z1] (fun r M2 => mF Tm M2 ∧ tI M2 60 2 = tI M 60 2 ∧ lw M2 M) := by
  refine ti_eI yp_X10_fault hJ ti_LM_nd (Nat.le_of_ble_eq_true rfl) ?_
  intro p e s m args below meth c Q H0 C hQ hw ls hl
  have hx := C.1
  have hb := C.2.1
  have hl : lv_has ls 2 [(0, .ref (A 60 0)), (1, .int z1)] := hl
  have hL : mL M := hF.2.1
  have hC0 : mC M 0 := hF.2.2.1.1
  have hP0 : mP M 0 := hF.2.2.1.2
  refine lv_aload_n hx hb dX10_fault_0 rfl (lv_at hl 0 rfl) ?_
  refine lv_iconst (v := 0) hx hb dX10_fault_1 (by decide) ?_
  refine ti_putI (ci := 10) (k := 0) (N := 67) (T := TX10) C hw iw_10 tyX10 tyX10_ok nmX10 rfl ob_60 (by decide) (by decide) fl_X10_154 rfl rfl rfl rfl (fn_10 A _) fs_10_0 dX10_fault_2 (fun H locs hw => ?_)
  obtain ⟨M_1, hM_1⟩ : ∃ z : ti_M, z = uI M 60 0 0 := ⟨_, rfl⟩
  have hw := hw.to hM_1.symm
  have iM_1 : mI Tm M_1 := mI_uI hI hM_1 (by decide) (by decide) trivial
  refine lv_iload_n hx hb dX10_fault_5 rfl (lv_at hl 1 rfl) ?_
  refine sb_if_ne (tgt := 16) hx hb rfl dX10_fault_6 (by decide) (fun c_6_1 => ?_) (fun c_6_1 => ?_)
  · refine lv_iload_n hx hb dX10_fault_16 rfl (lv_at hl 1 rfl) ?_
    refine lv_iconst (v := 1) hx hb dX10_fault_17 (by decide) ?_
    refine sb_icmp_ne (tgt := 28) hx hb rfl (by decide : (1 : Int32).toInt = 1) dX10_fault_18 (by decide) (fun c_18_3 => ?_) (fun c_18_3 => ?_)
    · refine lv_iconst (v := (-1)) hx hb dX10_fault_28 (by decide) ?_
      exact hQ _ _ _ _ _ _ hw rfl (⟨mF_qw hF iM_1 (qw_I hM_1 (by decide)), (qw_I hM_1 (by decide)).2.1.1, (qw_I hM_1 (by decide)).1⟩) dX10_fault_29
    · refine lv_aload_n hx hb dX10_fault_21 rfl (lv_at hl 0 rfl) ?_
      refine ti_get (ci := 10) (k := 28) (N := 67) (T := TX10) C hw iw_10 rfl ob_60 (by decide) (by decide) fl_X10_58 rfl rfl dX10_fault_22 ?_
      refine lv_topi (fun x_5 ex_5 => ?_)
      refine lv_goto (tgt := 29) hx hb dX10_fault_25 (by decide) ?_
      exact hQ _ _ _ _ _ _ hw rfl (⟨mF_qw hF iM_1 (qw_I hM_1 (by decide)), (qw_I hM_1 (by decide)).2.1.1, (qw_I hM_1 (by decide)).1⟩) dX10_fault_29
  · refine lv_aload_n hx hb dX10_fault_9 rfl (lv_at hl 0 rfl) ?_
    refine ti_get (ci := 10) (k := 27) (N := 67) (T := TX10) C hw iw_10 rfl ob_60 (by decide) (by decide) fl_X10_303 rfl rfl dX10_fault_10 ?_
    refine lv_topi (fun x_3 ex_3 => ?_)
    refine lv_goto (tgt := 29) hx hb dX10_fault_13 (by decide) ?_
    exact hQ _ _ _ _ _ _ hw rfl (⟨mF_qw hF iM_1 (qw_I hM_1 (by decide)), (qw_I hM_1 (by decide)).2.1.1, (qw_I hM_1 (by decide)).1⟩) dX10_fault_29

set_option maxHeartbeats 4000000 in
set_option maxRecDepth 100000 in
theorem s_X10_stands (l : Launch) (D : va_G) (A : Nat → Nat → Nat) (cy : Nat → ClassId) (hJ : ti_inj ti_LM A) (M : ti_M) (hI : mI Tm M) (hF : mF Tm M) (z1 : Int32) : ti_Ki l yX10_stands cX10_stands 2 (some .int) 1 ti_LM D A cy M [.ref (A 60 0), .int z1] (fun r M2 => mF Tm M2 ∧ tI M2 60 2 = tI M 60 2 ∧ lw M2 M) := by
  refine ti_eI yp_X10_stands hJ ti_LM_nd (Nat.le_of_ble_eq_true rfl) ?_
  intro p e s m args below meth c Q H0 C hQ hw ls hl
  have hx := C.1
  have hb := C.2.1
  have hl : lv_has ls 2 [(0, .ref (A 60 0)), (1, .int z1)] := hl
  have hL : mL M := hF.2.1
  have hC0 : mC M 0 := hF.2.2.1.1
  have hP0 : mP M 0 := hF.2.2.1.2
  refine lv_aload_n hx hb dX10_stands_0 rfl (lv_at hl 0 rfl) ?_
  refine lv_iconst (v := 0) hx hb dX10_stands_1 (by decide) ?_
  refine ti_putI (ci := 10) (k := 0) (N := 67) (T := TX10) C hw iw_10 tyX10 tyX10_ok nmX10 rfl ob_60 (by decide) (by decide) fl_X10_154 rfl rfl rfl rfl (fn_10 A _) fs_10_0 dX10_stands_2 (fun H locs hw => ?_)
  obtain ⟨M_1, hM_1⟩ : ∃ z : ti_M, z = uI M 60 0 0 := ⟨_, rfl⟩
  have hw := hw.to hM_1.symm
  have iM_1 : mI Tm M_1 := mI_uI hI hM_1 (by decide) (by decide) trivial
  refine lv_iload_n hx hb dX10_stands_5 rfl (lv_at hl 1 rfl) ?_
  refine ti_callSi (av := [.int z1]) C hw (s_X10_isPlace l D A cy hJ M_1 iM_1 z1) ⟨ml_X10_414, ys_X10_isPlace, yi_X10_isPlace, yc_X10_isPlace⟩ yd_X10_isPlace rfl hl.1 (Nat.le_of_ble_eq_true rfl) ⟨by decide, by decide⟩ ⟨Nat.zero_le _, Nat.zero_le _⟩ dX10_stands_6 (fun r_2 M_3 H locs hp_3 hw => ?_)
  obtain ⟨hm, hz⟩ := hp_3
  have hw := hw.to hm
  rcases hz with ⟨rfl, d0_4, d1_4⟩ | rfl
  · refine sb_if_eq (tgt := 21) hx hb (by decide : (1 : Int32).toInt = 1) dX10_stands_9 (by decide) (fun h => absurd h (by decide)) (fun c_9_4 => ?_)
    refine lv_aload_n hx hb dX10_stands_12 rfl (lv_at hl 0 rfl) ?_
    refine lv_iconst (v := 0) hx hb dX10_stands_13 (by decide) ?_
    refine lv_iload_n hx hb dX10_stands_14 rfl (lv_at hl 1 rfl) ?_
    refine ti_callVi (ci := 10) (av := [.int 0, .int z1]) C hw (s_X10_standsAt_0 l D A cy hJ M_1 iM_1 z1 (by first | omega | decide) (by first | omega | decide)) ⟨ml_X10_417, ym_X10_standsAt, yv_X10_standsAt, yi_X10_standsAt, yc_X10_standsAt⟩ yd_X10_standsAt ob_60 (by decide) rfl rfl hl.1 (Nat.le_of_ble_eq_true rfl) ⟨by decide, by decide⟩ ⟨Nat.zero_le _, Nat.zero_le _⟩ dX10_stands_15 (fun r_7 M_8 H locs hp_8 hw => ?_)
    obtain ⟨hm, b0r_7, b1r_7⟩ := hp_8
    have hw := hw.to hm
    refine lv_goto (tgt := 22) hx hb dX10_stands_18 (by decide) ?_
    exact hQ _ _ _ _ _ _ hw rfl (⟨mF_qw hF iM_1 (qw_I hM_1 (by decide)), (qw_I hM_1 (by decide)).2.1.1, (qw_I hM_1 (by decide)).1⟩) dX10_stands_22
  · refine sb_if_eq (tgt := 21) hx hb (by decide : (0 : Int32).toInt = 0) dX10_stands_9 (by decide) (fun c_9_5 => ?_) (fun h => absurd h (by decide))
    refine lv_iconst (v := (-1)) hx hb dX10_stands_21 (by decide) ?_
    exact hQ _ _ _ _ _ _ hw rfl (⟨mF_qw hF iM_1 (qw_I hM_1 (by decide)), (qw_I hM_1 (by decide)).2.1.1, (qw_I hM_1 (by decide)).1⟩) dX10_stands_22
set_option maxHeartbeats 4000000 in
set_option maxRecDepth 100000 in
theorem s_X10_holder (l : Launch) (D : va_G) (A : Nat → Nat → Nat) (cy : Nat → ClassId) (hJ : ti_inj ti_LM A) (M : ti_M) (hI : mI Tm M) (hF : mF Tm M) (z1 : Int32) : ti_Ki l yX10_holder cX10_holder 2 (some .int) 1 ti_LM D A cy M [.ref (A 60 0), .int z1] (fun r M2 => mF Tm M2 ∧ tI M2 60 2 = tI M 60 2 ∧ lw M2 M) := by
  refine ti_eI yp_X10_holder hJ ti_LM_nd (Nat.le_of_ble_eq_true rfl) ?_
  intro p e s m args below meth c Q H0 C hQ hw ls hl
  have hx := C.1
  have hb := C.2.1
  have hl : lv_has ls 2 [(0, .ref (A 60 0)), (1, .int z1)] := hl
  have hL : mL M := hF.2.1
  have hC0 : mC M 0 := hF.2.2.1.1
  have hP0 : mP M 0 := hF.2.2.1.2
  refine lv_aload_n hx hb dX10_holder_0 rfl (lv_at hl 0 rfl) ?_
  refine lv_iconst (v := 0) hx hb dX10_holder_1 (by decide) ?_
  refine ti_putI (ci := 10) (k := 0) (N := 67) (T := TX10) C hw iw_10 tyX10 tyX10_ok nmX10 rfl ob_60 (by decide) (by decide) fl_X10_154 rfl rfl rfl rfl (fn_10 A _) fs_10_0 dX10_holder_2 (fun H locs hw => ?_)
  obtain ⟨M_1, hM_1⟩ : ∃ z : ti_M, z = uI M 60 0 0 := ⟨_, rfl⟩
  have hw := hw.to hM_1.symm
  have iM_1 : mI Tm M_1 := mI_uI hI hM_1 (by decide) (by decide) trivial
  refine lv_iload_n hx hb dX10_holder_5 rfl (lv_at hl 1 rfl) ?_
  refine ti_callSi (av := [.int z1]) C hw (s_X10_isPower l D A cy hJ M_1 iM_1 z1) ⟨ml_X10_420, ys_X10_isPower, yi_X10_isPower, yc_X10_isPower⟩ yd_X10_isPower rfl hl.1 (Nat.le_of_ble_eq_true rfl) ⟨by decide, by decide⟩ ⟨Nat.zero_le _, Nat.zero_le _⟩ dX10_holder_6 (fun r_2 M_3 H locs hp_3 hw => ?_)
  obtain ⟨hm, hz⟩ := hp_3
  have hw := hw.to hm
  rcases hz with ⟨rfl, d0_4, d1_4⟩ | rfl
  · refine sb_if_eq (tgt := 26) hx hb (by decide : (1 : Int32).toInt = 1) dX10_holder_9 (by decide) (fun h => absurd h (by decide)) (fun c_9_4 => ?_)
    refine lv_aload_n hx hb dX10_holder_12 rfl (lv_at hl 0 rfl) ?_
    refine lv_iconst (v := 0) hx hb dX10_holder_13 (by decide) ?_
    refine lv_aload_n hx hb dX10_holder_14 rfl (lv_at hl 0 rfl) ?_
    refine ti_get (ci := 10) (k := 49) (N := 67) (T := TX10) (v := .ref (A 60 50)) C hw iw_10 rfl ob_60 (by decide) (by decide) fl_X10_114 rfl rfl dX10_holder_15 ?_
    refine lv_iload_n hx hb dX10_holder_18 rfl (lv_at hl 1 rfl) ?_
    refine ti_iald (ci := 10) (k := 49) (n := 69) C hw ob_60 (by decide) (fun _ _ => rfl) (vp_in_iff.mpr (by omega)) dX10_holder_19 ?_
    refine lv_topi (fun x_7 ex_7 => ?_)
    have yx_7 : tY M_1 60 49 z1.toNatClampNeg = x_7 := (ex_7.symm)
    have bx_7 : 0 ≤ x_7.toInt ∧ x_7.toInt ≤ 7 := mI_ry (k := 49) (i := z1.toNatClampNeg) iM_1 yx_7.symm
    have wx_7 : tY M 60 49 z1.toNatClampNeg = x_7 := ((cg (tY_uIE hM_1) z1.toNatClampNeg)).symm.trans yx_7
    refine ti_callVi (ci := 10) (av := [.int 0, .int x_7]) C hw (s_X10_standsAt_0 l D A cy hJ M_1 iM_1 x_7 (by first | omega | decide) (by first | omega | decide)) ⟨ml_X10_417, ym_X10_standsAt, yv_X10_standsAt, yi_X10_standsAt, yc_X10_standsAt⟩ yd_X10_standsAt ob_60 (by decide) rfl rfl hl.1 (Nat.le_of_ble_eq_true rfl) ⟨by decide, by decide⟩ ⟨Nat.zero_le _, Nat.zero_le _⟩ dX10_holder_20 (fun r_8 M_9 H locs hp_9 hw => ?_)
    obtain ⟨hm, b0r_8, b1r_8⟩ := hp_9
    have hw := hw.to hm
    refine lv_goto (tgt := 27) hx hb dX10_holder_23 (by decide) ?_
    exact hQ _ _ _ _ _ _ hw rfl (⟨mF_qw hF iM_1 (qw_I hM_1 (by decide)), (qw_I hM_1 (by decide)).2.1.1, (qw_I hM_1 (by decide)).1⟩) dX10_holder_27
  · refine sb_if_eq (tgt := 26) hx hb (by decide : (0 : Int32).toInt = 0) dX10_holder_9 (by decide) (fun c_9_5 => ?_) (fun h => absurd h (by decide))
    refine lv_iconst (v := (-1)) hx hb dX10_holder_26 (by decide) ?_
    exact hQ _ _ _ _ _ _ hw rfl (⟨mF_qw hF iM_1 (qw_I hM_1 (by decide)), (qw_I hM_1 (by decide)).2.1.1, (qw_I hM_1 (by decide)).1⟩) dX10_holder_27
set_option maxHeartbeats 4000000 in
set_option maxRecDepth 100000 in
theorem s_X10_law (l : Launch) (D : va_G) (A : Nat → Nat → Nat) (cy : Nat → ClassId) (hJ : ti_inj ti_LM A) (M : ti_M) (hI : mI Tm M) (hF : mF Tm M) (z1 : Int32) (z2 : Int32) : ti_Kl l yX10_law cX10_law 3 (some .long) 3 ti_LM D A cy M [.ref (A 60 0), .int z1, .int z2] (fun r M2 => mF Tm M2 ∧ tI M2 60 2 = tI M 60 2 ∧ lw M2 M) := by
  refine ti_eL yp_X10_law hJ ti_LM_nd (Nat.le_of_ble_eq_true rfl) ?_
  intro p e s m args below meth c Q H0 C hQ hw ls hl
  have hx := C.1
  have hb := C.2.1
  have hl : lv_has ls 3 [(0, .ref (A 60 0)), (1, .int z1), (2, .int z2)] := hl
  have hL : mL M := hF.2.1
  have hC0 : mC M 0 := hF.2.2.1.1
  have hP0 : mP M 0 := hF.2.2.1.2
  refine lv_aload_n hx hb dX10_law_0 rfl (lv_at hl 0 rfl) ?_
  refine lv_iconst (v := 0) hx hb dX10_law_1 (by decide) ?_
  refine ti_putI (ci := 10) (k := 0) (N := 67) (T := TX10) C hw iw_10 tyX10 tyX10_ok nmX10 rfl ob_60 (by decide) (by decide) fl_X10_154 rfl rfl rfl rfl (fn_10 A _) fs_10_0 dX10_law_2 (fun H locs hw => ?_)
  obtain ⟨M_1, hM_1⟩ : ∃ z : ti_M, z = uI M 60 0 0 := ⟨_, rfl⟩
  have hw := hw.to hM_1.symm
  have iM_1 : mI Tm M_1 := mI_uI hI hM_1 (by decide) (by decide) trivial
  refine lv_iload_n hx hb dX10_law_5 rfl (lv_at hl 1 rfl) ?_
  have hj_47_15 : ∀  (H : Heap) (locs : List Loc) (ls : Array Slot), ti_H ti_LM D A cy H0 M_1 H locs → lv_has ls 3 [(0, .ref (A 60 0)), (1, .int z1), (2, .int z2)] → W p l e (ti_rm 3) s m args below meth c H locs 0 0 Q (F0 m 47 ls []) := by
    intro  H locs ls  hw hl
    refine lv_ldc2 (v := (-9223372036854775808)) hx hb C.2.2.2.1 (C.2.2.1 _ cn_X10_428) dX10_law_47 ?_
    exact hQ _ _ _ _ _ _ hw (⟨mF_qw hF iM_1 (qw_I hM_1 (by decide)), (qw_I hM_1 (by decide)).2.1.1, (qw_I hM_1 (by decide)).1⟩) dX10_law_50
  refine sb_if_lt (tgt := 47) hx hb rfl dX10_law_6 (by decide) (fun c_6_1 => ?_) (fun c_6_1 => ?_)
  · exact hj_47_15  _ _ _  hw (lv_sub hl [0, 1, 2] rfl)
  · refine lv_iload_n hx hb dX10_law_9 rfl (lv_at hl 1 rfl) ?_
    refine lv_iconst (v := 2) hx hb dX10_law_10 (by decide) ?_
    refine sb_icmp_gt (tgt := 47) hx hb rfl (by decide : (2 : Int32).toInt = 2) dX10_law_11 (by decide) (fun c_11_2 => ?_) (fun c_11_2 => ?_)
    · exact hj_47_15  _ _ _  hw (lv_sub hl [0, 1, 2] rfl)
    · refine lv_aload_n hx hb dX10_law_14 rfl (lv_at hl 0 rfl) ?_
      refine lv_iload_n hx hb dX10_law_15 rfl (lv_at hl 1 rfl) ?_
      refine ti_callVi (ci := 10) (av := [.int z1]) C hw (s_X10_hasLaw l D A cy hJ M_1 iM_1 z1 (by first | omega | decide) (by first | omega | decide)) ⟨ml_X10_340, ym_X10_hasLaw, yv_X10_hasLaw, yi_X10_hasLaw, yc_X10_hasLaw⟩ yd_X10_hasLaw ob_60 (by decide) rfl rfl hl.1 (Nat.le_of_ble_eq_true rfl) ⟨by decide, by decide⟩ ⟨Nat.zero_le _, Nat.zero_le _⟩ dX10_law_16 (fun r_4 M_5 H locs hp_5 hw => ?_)
      have hm := hp_5
      have hw := hw.to hm
      refine sb_if_eq (tgt := 47) hx hb rfl dX10_law_19 (by decide) (fun c_19_5 => ?_) (fun c_19_5 => ?_)
      · exact hj_47_15  _ _ _  hw (lv_sub hl [0, 1, 2] rfl)
      · refine lv_iload_n hx hb dX10_law_22 rfl (lv_at hl 1 rfl) ?_
        refine lv_iconst (v := 2) hx hb dX10_law_23 (by decide) ?_
        have hj_51_16 : ∀  (H : Heap) (locs : List Loc) (ls : Array Slot), (z1.toInt = 2 ∨ (0 ≤ z2.toInt ∧ z2.toInt ≤ 7)) → ti_H ti_LM D A cy H0 M_1 H locs → lv_has ls 3 [(0, .ref (A 60 0)), (1, .int z1), (2, .int z2)] → W p l e (ti_rm 3) s m args below meth c H locs 0 0 Q (F0 m 51 ls []) := by
          intro  H locs ls j_16 hw hl
          refine lv_iload_n hx hb dX10_law_51 rfl (lv_at hl 1 rfl) ?_
          refine lv_iconst (v := 2) hx hb dX10_law_52 (by decide) ?_
          have hj_100_39 : ∀ (M_38 : ti_M) (H : Heap) (locs : List Loc) (ls : Array Slot), (mI Tm M_38) → (qw M_38 M) → ti_H ti_LM D A cy H0 M_38 H locs → lv_has ls 3 [(0, .ref (A 60 0)), (1, .int z1), (2, .int z2)] → W p l e (ti_rm 3) s m args below meth c H locs 0 0 Q (F0 m 100 ls []) := by
            intro M_38 H locs ls iM_38 f_39 hw hl
            refine lv_aload_n hx hb dX10_law_100 rfl (lv_at hl 0 rfl) ?_
            refine lv_iload_n hx hb dX10_law_101 rfl (lv_at hl 1 rfl) ?_
            refine ti_callVi (ci := 10) (av := [.int z1]) C hw (s_X10_goes l D A cy hJ M_38 iM_38 (mL_lw (lk_of f_39.1 f_39.2.1).1 hL) z1 (by first | omega | decide) (by first | omega | decide)) ⟨ml_X10_343, ym_X10_goes, yv_X10_goes, yi_X10_goes, yc_X10_goes⟩ yd_X10_goes ob_60 (by decide) rfl rfl hl.1 (Nat.le_of_ble_eq_true rfl) ⟨by decide, by decide⟩ ⟨Nat.zero_le _, Nat.zero_le _⟩ dX10_law_102 (fun r_40 M_41 H locs hp_41 hw => ?_)
            obtain ⟨iM_41, q_42, q_43, b0r_40, b1r_40⟩ := hp_41
            refine sb_if_eq (tgt := 117) hx hb rfl dX10_law_105 (by decide) (fun c_105_43 => ?_) (fun c_105_43 => ?_)
            · refine lv_ldc2 (v := (-9223372036854775808)) hx hb C.2.2.2.1 (C.2.2.1 _ cn_X10_428) dX10_law_117 ?_
              exact hQ _ _ _ _ _ _ hw (⟨mF_qw hF iM_41 (qw.trans q_42 f_39), (qw.trans q_42 f_39).2.1.1, (qw.trans q_42 f_39).1⟩) dX10_law_120
            · refine lv_aload_n hx hb dX10_law_108 rfl (lv_at hl 0 rfl) ?_
              refine ti_get (ci := 10) (k := 32) (N := 67) (T := TX10) (v := .ref (A 60 33)) C hw iw_10 rfl ob_60 (by decide) (by decide) fl_X10_66 rfl rfl dX10_law_109 ?_
              refine lv_iconst (v := 0) hx hb dX10_law_112 (by decide) ?_
              refine ti_lald (ci := 10) (k := 32) (n := 64) C hw ob_60 (by decide) (fun _ _ => rfl) (by unfold vp_in; decide) dX10_law_113 ?_
              refine lv_topl (fun x_45 ex_45 => ?_)
              refine lv_goto (tgt := 120) hx hb dX10_law_114 (by decide) ?_
              exact hQ _ _ _ _ _ _ hw (⟨mF_qw hF iM_41 (qw.trans q_42 f_39), (qw.trans q_42 f_39).2.1.1, (qw.trans q_42 f_39).1⟩) dX10_law_120
          refine sb_icmp_ne (tgt := 82) hx hb rfl (by decide : (2 : Int32).toInt = 2) dX10_law_53 (by decide) (fun c_53_16 => ?_) (fun c_53_16 => ?_)
          · refine lv_aload_n hx hb dX10_law_82 rfl (lv_at hl 0 rfl) ?_
            refine lv_iconst (v := 0) hx hb dX10_law_83 (by decide) ?_
            refine lv_iload_n hx hb dX10_law_84 rfl (lv_at hl 2 rfl) ?_
            refine lv_aload_n hx hb dX10_law_85 rfl (lv_at hl 0 rfl) ?_
            refine lv_iconst (v := 0) hx hb dX10_law_86 (by decide) ?_
            refine lv_iload_n hx hb dX10_law_87 rfl (lv_at hl 2 rfl) ?_
            refine ti_callVi (ci := 10) (av := [.int 0, .int z2]) C hw (s_X10_placeOf_0 l D A cy hJ M_1 iM_1 z2) ⟨ml_X10_411, ym_X10_placeOf, yv_X10_placeOf, yi_X10_placeOf, yc_X10_placeOf⟩ yd_X10_placeOf ob_60 (by decide) rfl rfl hl.1 (Nat.le_of_ble_eq_true rfl) ⟨by decide, by decide⟩ ⟨Nat.zero_le _, Nat.zero_le _⟩ dX10_law_88 (fun r_25 M_26 H locs hp_26 hw => ?_)
            obtain ⟨hm, hz⟩ := hp_26
            have hw := hw.to hm
            rcases hz with ⟨rfl, z1_27⟩ | ⟨z1_27, z2_27, z3_27, z4_27⟩
            · refine lv_aload_n hx hb dX10_law_91 rfl (lv_at hl 0 rfl) ?_
              refine ti_get (ci := 10) (k := 34) (N := 67) (T := TX10) (v := .ref (A 60 35)) C hw iw_10 rfl ob_60 (by decide) (by decide) fl_X10_69 rfl rfl dX10_law_92 ?_
              refine lv_iconst (v := 0) hx hb dX10_law_95 (by decide) ?_
              refine ti_iald (ci := 10) (k := 34) (n := 23) C hw ob_60 (by decide) (fun _ _ => rfl) (by unfold vp_in; decide) dX10_law_96 ?_
              refine lv_topi (fun x_28 ex_28 => ?_)
              have yx_28 : tY M_1 60 34 0 = x_28 := ((congrArg _ (by decide)).symm.trans ex_28.symm)
              have bx_28 : 0 ≤ x_28.toInt ∧ x_28.toInt ≤ 120 := mI_ry (k := 34) (i := 0) iM_1 yx_28.symm (by decide)
              have zx_28 : (tY M_1 60 34 0).toInt = x_28.toInt := by rw [yx_28]
              have wx_28 : tY M 60 34 0 = x_28 := ((cg (tY_uIE hM_1) 0)).symm.trans yx_28
              have zwx_28 : (tY M 60 34 0).toInt = x_28.toInt := by rw [wx_28]
              refine ti_callVv (ci := 10) (av := [.int 0, .int z2, .int (-1), .int x_28]) C hw (s_X10_calls_0 l D A cy hJ M_1 iM_1 z2 (-1) x_28 (by first | omega | decide) (by first | omega | decide)) ⟨ml_X10_363, ym_X10_calls, yv_X10_calls, yi_X10_calls, yc_X10_calls⟩ yd_X10_calls ob_60 (by decide) rfl rfl hl.1 (Nat.le_of_ble_eq_true rfl) ⟨by decide, by decide⟩ ⟨Nat.zero_le _, Nat.zero_le _⟩ dX10_law_97 (fun M_30 H locs hp_30 hw => ?_)
              obtain ⟨iM_30, q_31, q_32⟩ := hp_30
              exact hj_100_39 M_30 _ _ _ iM_30 (qw.trans q_31 (qw_I hM_1 (by decide))) hw (lv_sub hl [0, 1, 2] rfl)
            · refine lv_aload_n hx hb dX10_law_91 rfl (lv_at hl 0 rfl) ?_
              refine ti_get (ci := 10) (k := 34) (N := 67) (T := TX10) (v := .ref (A 60 35)) C hw iw_10 rfl ob_60 (by decide) (by decide) fl_X10_69 rfl rfl dX10_law_92 ?_
              refine lv_iconst (v := 0) hx hb dX10_law_95 (by decide) ?_
              refine ti_iald (ci := 10) (k := 34) (n := 23) C hw ob_60 (by decide) (fun _ _ => rfl) (by unfold vp_in; decide) dX10_law_96 ?_
              refine lv_topi (fun x_33 ex_33 => ?_)
              have yx_33 : tY M_1 60 34 0 = x_33 := ((congrArg _ (by decide)).symm.trans ex_33.symm)
              have bx_33 : 0 ≤ x_33.toInt ∧ x_33.toInt ≤ 120 := mI_ry (k := 34) (i := 0) iM_1 yx_33.symm (by decide)
              have zx_33 : (tY M_1 60 34 0).toInt = x_33.toInt := by rw [yx_33]
              have wx_33 : tY M 60 34 0 = x_33 := ((cg (tY_uIE hM_1) 0)).symm.trans yx_33
              have zwx_33 : (tY M 60 34 0).toInt = x_33.toInt := by rw [wx_33]
              refine ti_callVv (ci := 10) (av := [.int 0, .int z2, .int r_25, .int x_33]) C hw (s_X10_calls_0 l D A cy hJ M_1 iM_1 z2 r_25 x_33 (by first | omega | decide) (by first | omega | decide)) ⟨ml_X10_363, ym_X10_calls, yv_X10_calls, yi_X10_calls, yc_X10_calls⟩ yd_X10_calls ob_60 (by decide) rfl rfl hl.1 (Nat.le_of_ble_eq_true rfl) ⟨by decide, by decide⟩ ⟨Nat.zero_le _, Nat.zero_le _⟩ dX10_law_97 (fun M_35 H locs hp_35 hw => ?_)
              obtain ⟨iM_35, q_36, q_37⟩ := hp_35
              exact hj_100_39 M_35 _ _ _ iM_35 (qw.trans q_36 (qw_I hM_1 (by decide))) hw (lv_sub hl [0, 1, 2] rfl)
          · refine lv_aload_n hx hb dX10_law_56 rfl (lv_at hl 0 rfl) ?_
            refine lv_iconst (v := 0) hx hb dX10_law_57 (by decide) ?_
            refine lv_aload_n hx hb dX10_law_58 rfl (lv_at hl 0 rfl) ?_
            refine ti_get (ci := 10) (k := 39) (N := 67) (T := TX10) (v := .ref (A 60 40)) C hw iw_10 rfl ob_60 (by decide) (by decide) fl_X10_84 rfl rfl dX10_law_59 ?_
            refine lv_iconst (v := 0) hx hb dX10_law_62 (by decide) ?_
            refine ti_iald (ci := 10) (k := 39) (n := 184) C hw ob_60 (by decide) (fun _ _ => rfl) (by unfold vp_in; decide) dX10_law_63 ?_
            refine lv_topi (fun x_18 ex_18 => ?_)
            have yx_18 : tY M_1 60 39 0 = x_18 := ((congrArg _ (by decide)).symm.trans ex_18.symm)
            have bx_18 : 0 ≤ x_18.toInt ∧ x_18.toInt ≤ 7 := mI_ry (k := 39) (i := 0) iM_1 yx_18.symm
            have wx_18 : tY M 60 39 0 = x_18 := ((cg (tY_uIE hM_1) 0)).symm.trans yx_18
            refine lv_aload_n hx hb dX10_law_64 rfl (lv_at hl 0 rfl) ?_
            refine ti_get (ci := 10) (k := 38) (N := 67) (T := TX10) (v := .ref (A 60 39)) C hw iw_10 rfl ob_60 (by decide) (by decide) fl_X10_81 rfl rfl dX10_law_65 ?_
            refine lv_iconst (v := 0) hx hb dX10_law_68 (by decide) ?_
            refine ti_iald (ci := 10) (k := 38) (n := 23) C hw ob_60 (by decide) (fun _ _ => rfl) (by unfold vp_in; decide) dX10_law_69 ?_
            refine lv_topi (fun x_19 ex_19 => ?_)
            have yx_19 : tY M_1 60 38 0 = x_19 := ((congrArg _ (by decide)).symm.trans ex_19.symm)
            have bx_19 : 0 ≤ x_19.toInt ∧ x_19.toInt ≤ 8 := mI_ry (k := 38) (i := 0) iM_1 yx_19.symm
            have zx_19 : (tY M_1 60 38 0).toInt = x_19.toInt := by rw [yx_19]
            have wx_19 : tY M 60 38 0 = x_19 := ((cg (tY_uIE hM_1) 0)).symm.trans yx_19
            have zwx_19 : (tY M 60 38 0).toInt = x_19.toInt := by rw [wx_19]
            refine lv_aload_n hx hb dX10_law_70 rfl (lv_at hl 0 rfl) ?_
            refine ti_get (ci := 10) (k := 34) (N := 67) (T := TX10) (v := .ref (A 60 35)) C hw iw_10 rfl ob_60 (by decide) (by decide) fl_X10_69 rfl rfl dX10_law_71 ?_
            refine lv_iconst (v := 0) hx hb dX10_law_74 (by decide) ?_
            refine ti_iald (ci := 10) (k := 34) (n := 23) C hw ob_60 (by decide) (fun _ _ => rfl) (by unfold vp_in; decide) dX10_law_75 ?_
            refine lv_topi (fun x_20 ex_20 => ?_)
            have yx_20 : tY M_1 60 34 0 = x_20 := ((congrArg _ (by decide)).symm.trans ex_20.symm)
            have bx_20 : 0 ≤ x_20.toInt ∧ x_20.toInt ≤ 120 := mI_ry (k := 34) (i := 0) iM_1 yx_20.symm (by decide)
            have zx_20 : (tY M_1 60 34 0).toInt = x_20.toInt := by rw [yx_20]
            have wx_20 : tY M 60 34 0 = x_20 := ((cg (tY_uIE hM_1) 0)).symm.trans yx_20
            have zwx_20 : (tY M 60 34 0).toInt = x_20.toInt := by rw [wx_20]
            refine ti_callVv (ci := 10) (av := [.int 0, .int x_18, .int x_19, .int x_20]) C hw (s_X10_calls_0 l D A cy hJ M_1 iM_1 x_18 x_19 x_20 (by first | omega | decide) (by first | omega | decide)) ⟨ml_X10_363, ym_X10_calls, yv_X10_calls, yi_X10_calls, yc_X10_calls⟩ yd_X10_calls ob_60 (by decide) rfl rfl hl.1 (Nat.le_of_ble_eq_true rfl) ⟨by decide, by decide⟩ ⟨Nat.zero_le _, Nat.zero_le _⟩ dX10_law_76 (fun M_22 H locs hp_22 hw => ?_)
            obtain ⟨iM_22, q_23, q_24⟩ := hp_22
            refine lv_goto (tgt := 100) hx hb dX10_law_79 (by decide) ?_
            exact hj_100_39 M_22 _ _ _ iM_22 (qw.trans q_23 (qw_I hM_1 (by decide))) hw (lv_sub hl [0, 1, 2] rfl)
        refine sb_icmp_ne (tgt := 39) hx hb rfl (by decide : (2 : Int32).toInt = 2) dX10_law_24 (by decide) (fun c_24_6 => ?_) (fun c_24_6 => ?_)
        · refine lv_aload_n hx hb dX10_law_39 rfl (lv_at hl 0 rfl) ?_
          refine lv_iload_n hx hb dX10_law_40 rfl (lv_at hl 2 rfl) ?_
          refine ti_callVi (ci := 10) (av := [.int z2]) C hw (s_X10_isIn l D A cy hJ M_1 iM_1 z2) ⟨ml_X10_423, ym_X10_isIn, yv_X10_isIn, yi_X10_isIn, yc_X10_isIn⟩ yd_X10_isIn ob_60 (by decide) rfl rfl hl.1 (Nat.le_of_ble_eq_true rfl) ⟨by decide, by decide⟩ ⟨Nat.zero_le _, Nat.zero_le _⟩ dX10_law_41 (fun r_10 M_11 H locs hp_11 hw => ?_)
          obtain ⟨hm, hz⟩ := hp_11
          have hw := hw.to hm
          have lk_13 : (tY M_1 60 3 0).toInt = (tY M 60 3 0).toInt := by rw [(cg (tY_uIE hM_1) 0)]
          rcases hz with ⟨rfl, d0_12, d1_12, d2_12, d3_12⟩ | rfl
          · refine sb_if_ne (tgt := 51) hx hb (by decide : (1 : Int32).toInt = 1) dX10_law_44 (by decide) (fun c_44_13 => ?_) (fun h => absurd h (by decide))
            exact hj_51_16  _ _ _ (by first | omega | decide) hw (lv_sub hl [0, 1, 2] rfl)
          · refine sb_if_ne (tgt := 51) hx hb (by decide : (0 : Int32).toInt = 0) dX10_law_44 (by decide) (fun h => absurd h (by decide)) (fun c_44_14 => ?_)
            exact hj_47_15  _ _ _  hw (lv_sub hl [0, 1, 2] rfl)
        · refine lv_aload_n hx hb dX10_law_27 rfl (lv_at hl 0 rfl) ?_
          refine ti_get (ci := 10) (k := 38) (N := 67) (T := TX10) (v := .ref (A 60 39)) C hw iw_10 rfl ob_60 (by decide) (by decide) fl_X10_81 rfl rfl dX10_law_28 ?_
          refine lv_iconst (v := 0) hx hb dX10_law_31 (by decide) ?_
          refine ti_iald (ci := 10) (k := 38) (n := 23) C hw ob_60 (by decide) (fun _ _ => rfl) (by unfold vp_in; decide) dX10_law_32 ?_
          refine lv_topi (fun x_8 ex_8 => ?_)
          have yx_8 : tY M_1 60 38 0 = x_8 := ((congrArg _ (by decide)).symm.trans ex_8.symm)
          have bx_8 : 0 ≤ x_8.toInt ∧ x_8.toInt ≤ 8 := mI_ry (k := 38) (i := 0) iM_1 yx_8.symm
          have zx_8 : (tY M_1 60 38 0).toInt = x_8.toInt := by rw [yx_8]
          have wx_8 : tY M 60 38 0 = x_8 := ((cg (tY_uIE hM_1) 0)).symm.trans yx_8
          have zwx_8 : (tY M 60 38 0).toInt = x_8.toInt := by rw [wx_8]
          refine sb_if_ne (tgt := 51) hx hb rfl dX10_law_33 (by decide) (fun c_33_8 => ?_) (fun c_33_8 => ?_)
          · exact hj_51_16  _ _ _ (by first | omega | decide) hw (lv_sub hl [0, 1, 2] rfl)
          · refine lv_goto (tgt := 47) hx hb dX10_law_36 (by decide) ?_
            exact hj_47_15  _ _ _  hw (lv_sub hl [0, 1, 2] rfl)
set_option maxHeartbeats 4000000 in
set_option maxRecDepth 100000 in
theorem s_X10_was (l : Launch) (D : va_G) (A : Nat → Nat → Nat) (cy : Nat → ClassId) (hJ : ti_inj ti_LM A) (M : ti_M) (hI : mI Tm M) (hF : mF Tm M) (z1 : Int32) (z2 : Int32) : ti_Ki l yX10_was cX10_was 3 (some .int) 1 ti_LM D A cy M [.ref (A 60 0), .int z1, .int z2] (fun r M2 => mF Tm M2 ∧ tI M2 60 2 = tI M 60 2 ∧ lw M2 M) := by
  refine ti_eI yp_X10_was hJ ti_LM_nd (Nat.le_of_ble_eq_true rfl) ?_
  intro p e s m args below meth c Q H0 C hQ hw ls hl
  have hx := C.1
  have hb := C.2.1
  have hl : lv_has ls 3 [(0, .ref (A 60 0)), (1, .int z1), (2, .int z2)] := hl
  have hL : mL M := hF.2.1
  have hC0 : mC M 0 := hF.2.2.1.1
  have hP0 : mP M 0 := hF.2.2.1.2
  refine lv_aload_n hx hb dX10_was_0 rfl (lv_at hl 0 rfl) ?_
  refine lv_iconst (v := 0) hx hb dX10_was_1 (by decide) ?_
  refine ti_putI (ci := 10) (k := 0) (N := 67) (T := TX10) C hw iw_10 tyX10 tyX10_ok nmX10 rfl ob_60 (by decide) (by decide) fl_X10_154 rfl rfl rfl rfl (fn_10 A _) fs_10_0 dX10_was_2 (fun H locs hw => ?_)
  obtain ⟨M_1, hM_1⟩ : ∃ z : ti_M, z = uI M 60 0 0 := ⟨_, rfl⟩
  have hw := hw.to hM_1.symm
  have iM_1 : mI Tm M_1 := mI_uI hI hM_1 (by decide) (by decide) trivial
  refine lv_iload_n hx hb dX10_was_5 rfl (lv_at hl 1 rfl) ?_
  refine ti_callSi (av := [.int z1]) C hw (s_X10_isPower l D A cy hJ M_1 iM_1 z1) ⟨ml_X10_420, ys_X10_isPower, yi_X10_isPower, yc_X10_isPower⟩ yd_X10_isPower rfl hl.1 (Nat.le_of_ble_eq_true rfl) ⟨by decide, by decide⟩ ⟨Nat.zero_le _, Nat.zero_le _⟩ dX10_was_6 (fun r_2 M_3 H locs hp_3 hw => ?_)
  obtain ⟨hm, hz⟩ := hp_3
  have hw := hw.to hm
  have hj_33_14 : ∀  (H : Heap) (locs : List Loc) (ls : Array Slot), ti_H ti_LM D A cy H0 M_1 H locs → lv_has ls 3 [(0, .ref (A 60 0)), (1, .int z1), (2, .int z2)] → W p l e (ti_rm 1) s m args below meth c H locs 0 0 Q (F0 m 33 ls []) := by
    intro  H locs ls  hw hl
    refine lv_iconst (v := (-1)) hx hb dX10_was_33 (by decide) ?_
    exact hQ _ _ _ _ _ _ hw rfl (⟨mF_qw hF iM_1 (qw_I hM_1 (by decide)), (qw_I hM_1 (by decide)).2.1.1, (qw_I hM_1 (by decide)).1⟩) dX10_was_34
  rcases hz with ⟨rfl, d0_4, d1_4⟩ | rfl
  · refine sb_if_eq (tgt := 33) hx hb (by decide : (1 : Int32).toInt = 1) dX10_was_9 (by decide) (fun h => absurd h (by decide)) (fun c_9_4 => ?_)
    refine lv_aload_n hx hb dX10_was_12 rfl (lv_at hl 0 rfl) ?_
    refine lv_iload_n hx hb dX10_was_13 rfl (lv_at hl 2 rfl) ?_
    refine ti_callVi (ci := 10) (av := [.int z2]) C hw (s_X10_isGone l D A cy hJ M_1 iM_1 z2) ⟨ml_X10_439, ym_X10_isGone, yv_X10_isGone, yi_X10_isGone, yc_X10_isGone⟩ yd_X10_isGone ob_60 (by decide) rfl rfl hl.1 (Nat.le_of_ble_eq_true rfl) ⟨by decide, by decide⟩ ⟨Nat.zero_le _, Nat.zero_le _⟩ dX10_was_14 (fun r_7 M_8 H locs hp_8 hw => ?_)
    obtain ⟨hm, hz⟩ := hp_8
    have hw := hw.to hm
    rcases hz with ⟨rfl, d0_9, d1_9⟩ | rfl
    · refine sb_if_eq (tgt := 33) hx hb (by decide : (1 : Int32).toInt = 1) dX10_was_17 (by decide) (fun h => absurd h (by decide)) (fun c_17_9 => ?_)
      refine lv_aload_n hx hb dX10_was_20 rfl (lv_at hl 0 rfl) ?_
      refine ti_get (ci := 10) (k := 50) (N := 67) (T := TX10) (v := .ref (A 60 51)) C hw iw_10 rfl ob_60 (by decide) (by decide) fl_X10_117 rfl rfl dX10_was_21 ?_
      refine lv_iconst (v := 3) hx hb dX10_was_24 (by decide) ?_
      refine lv_iload_n hx hb dX10_was_25 rfl (lv_at hl 2 rfl) ?_
      refine lv_imul hx hb dX10_was_26 ?_
      refine lv_topi (fun x_12 ex_12 => ?_)
      have lox_12z2 := z2.le_toInt
      have hix_12z2 := z2.toInt_lt
      have tx_12 : x_12.toInt = 3 * z2.toInt := i_mul ex_12 (by decide : (3 : Int32).toInt = 3) rfl (by omega) (by omega)
      refine lv_iload_n hx hb dX10_was_27 rfl (lv_at hl 1 rfl) ?_
      refine lv_iadd hx hb dX10_was_28 ?_
      refine lv_topi (fun x_13 ex_13 => ?_)
      have lox_13x_12 := x_12.le_toInt
      have hix_13x_12 := x_12.toInt_lt
      have lox_13z1 := z1.le_toInt
      have hix_13z1 := z1.toInt_lt
      have tx_13 : x_13.toInt = x_12.toInt + z1.toInt := i_add ex_13 rfl rfl (by omega) (by omega)
      refine ti_iald (ci := 10) (k := 50) (n := 720) C hw ob_60 (by decide) (fun _ _ => rfl) (vp_in_iff.mpr (by omega)) dX10_was_29 ?_
      refine lv_topi (fun x_14 ex_14 => ?_)
      have yx_14 : tY M_1 60 50 x_13.toNatClampNeg = x_14 := (ex_14.symm)
      have wx_14 : tY M 60 50 x_13.toNatClampNeg = x_14 := ((cg (tY_uIE hM_1) x_13.toNatClampNeg)).symm.trans yx_14
      refine lv_goto (tgt := 34) hx hb dX10_was_30 (by decide) ?_
      exact hQ _ _ _ _ _ _ hw rfl (⟨mF_qw hF iM_1 (qw_I hM_1 (by decide)), (qw_I hM_1 (by decide)).2.1.1, (qw_I hM_1 (by decide)).1⟩) dX10_was_34
    · refine sb_if_eq (tgt := 33) hx hb (by decide : (0 : Int32).toInt = 0) dX10_was_17 (by decide) (fun c_17_10 => ?_) (fun h => absurd h (by decide))
      exact hj_33_14  _ _ _  hw (lv_sub hl [0, 1, 2] rfl)
  · refine sb_if_eq (tgt := 33) hx hb (by decide : (0 : Int32).toInt = 0) dX10_was_9 (by decide) (fun c_9_5 => ?_) (fun h => absurd h (by decide))
    exact hj_33_14  _ _ _  hw (lv_sub hl [0, 1, 2] rfl)
set_option maxHeartbeats 4000000 in
set_option maxRecDepth 100000 in
theorem s_X10_ruled (l : Launch) (D : va_G) (A : Nat → Nat → Nat) (cy : Nat → ClassId) (hJ : ti_inj ti_LM A) (M : ti_M) (hI : mI Tm M) (hF : mF Tm M) (z1 : Int32) (z2 : Int32) : ti_Ki l yX10_ruled cX10_ruled 5 (some .int) 1 ti_LM D A cy M [.ref (A 60 0), .int z1, .int z2] (fun r M2 => mF Tm M2 ∧ tI M2 60 2 = tI M 60 2 ∧ lw M2 M) := by
  refine ti_eI yp_X10_ruled hJ ti_LM_nd (Nat.le_of_ble_eq_true rfl) ?_
  intro p e s m args below meth c Q H0 C hQ hw ls hl
  have hx := C.1
  have hb := C.2.1
  have hl : lv_has ls 5 [(0, .ref (A 60 0)), (1, .int z1), (2, .int z2)] := hl
  have hL : mL M := hF.2.1
  have hC0 : mC M 0 := hF.2.2.1.1
  have hP0 : mP M 0 := hF.2.2.1.2
  refine lv_aload_n hx hb dX10_ruled_0 rfl (lv_at hl 0 rfl) ?_
  refine lv_iconst (v := 0) hx hb dX10_ruled_1 (by decide) ?_
  refine ti_putI (ci := 10) (k := 0) (N := 67) (T := TX10) C hw iw_10 tyX10 tyX10_ok nmX10 rfl ob_60 (by decide) (by decide) fl_X10_154 rfl rfl rfl rfl (fn_10 A _) fs_10_0 dX10_ruled_2 (fun H locs hw => ?_)
  obtain ⟨M_1, hM_1⟩ : ∃ z : ti_M, z = uI M 60 0 0 := ⟨_, rfl⟩
  have hw := hw.to hM_1.symm
  have iM_1 : mI Tm M_1 := mI_uI hI hM_1 (by decide) (by decide) trivial
  refine lv_aload_n hx hb dX10_ruled_5 rfl (lv_at hl 0 rfl) ?_
  refine lv_iload_n hx hb dX10_ruled_6 rfl (lv_at hl 1 rfl) ?_
  refine ti_callVi (ci := 10) (av := [.int z1]) C hw (s_X10_isMan l D A cy hJ M_1 iM_1 z1) ⟨ml_X10_356, ym_X10_isMan, yv_X10_isMan, yi_X10_isMan, yc_X10_isMan⟩ yd_X10_isMan ob_60 (by decide) rfl rfl hl.1 (Nat.le_of_ble_eq_true rfl) ⟨by decide, by decide⟩ ⟨Nat.zero_le _, Nat.zero_le _⟩ dX10_ruled_7 (fun r_2 M_3 H locs hp_3 hw => ?_)
  obtain ⟨hm, hz⟩ := hp_3
  have hw := hw.to hm
  have lk_5 : (tY M_1 60 3 0).toInt = (tY M 60 3 0).toInt := by rw [(cg (tY_uIE hM_1) 0)]
  have hj_20_12 : ∀  (H : Heap) (locs : List Loc) (ls : Array Slot), ti_H ti_LM D A cy H0 M_1 H locs → lv_has ls 5 [(0, .ref (A 60 0)), (1, .int z1), (2, .int z2)] → W p l e (ti_rm 1) s m args below meth c H locs 0 0 Q (F0 m 20 ls []) := by
    intro  H locs ls  hw hl
    refine lv_iconst (v := (-1)) hx hb dX10_ruled_20 (by decide) ?_
    exact hQ _ _ _ _ _ _ hw rfl (⟨mF_qw hF iM_1 (qw_I hM_1 (by decide)), (qw_I hM_1 (by decide)).2.1.1, (qw_I hM_1 (by decide)).1⟩) dX10_ruled_21
  rcases hz with ⟨rfl, d0_4, d1_4, d2_4⟩ | rfl
  · refine sb_if_eq (tgt := 20) hx hb (by decide : (1 : Int32).toInt = 1) dX10_ruled_10 (by decide) (fun h => absurd h (by decide)) (fun c_10_5 => ?_)
    refine lv_iload_n hx hb dX10_ruled_13 rfl (lv_at hl 2 rfl) ?_
    refine ti_callSi (av := [.int z2]) C hw (s_X10_isPower l D A cy hJ M_1 iM_1 z2) ⟨ml_X10_420, ys_X10_isPower, yi_X10_isPower, yc_X10_isPower⟩ yd_X10_isPower rfl hl.1 (Nat.le_of_ble_eq_true rfl) ⟨by decide, by decide⟩ ⟨Nat.zero_le _, Nat.zero_le _⟩ dX10_ruled_14 (fun r_8 M_9 H locs hp_9 hw => ?_)
    obtain ⟨hm, hz⟩ := hp_9
    have hw := hw.to hm
    rcases hz with ⟨rfl, d0_10, d1_10⟩ | rfl
    · refine sb_if_ne (tgt := 22) hx hb (by decide : (1 : Int32).toInt = 1) dX10_ruled_17 (by decide) (fun c_17_10 => ?_) (fun h => absurd h (by decide))
      refine lv_iconst (v := 0) hx hb dX10_ruled_22 (by decide) ?_
      refine lv_istore_n (lv' := [(3, .int 0), (0, .ref (A 60 0)), (1, .int z1), (2, .int z2)]) hx hb dX10_ruled_23 rfl hl (by decide) rfl (fun ls hl => ?_)
      refine lv_iconst (v := 0) hx hb dX10_ruled_24 (by decide) ?_
      refine lv_istore (lv' := [(4, .int 0), (3, .int 0), (0, .ref (A 60 0)), (1, .int z1), (2, .int z2)]) hx hb dX10_ruled_25 hl (by decide) rfl (fun ls hl => ?_)
      have hl_27_16 : ∀ (n_17 : Nat) (x_13 : Int32) (x_16 : Int32) (H : Heap) (locs : List Loc) (ls : Array Slot), (120 - x_13.toInt : Int).toNat < n_17 → (0 ≤ x_13.toInt) → (x_13.toInt ≤ 120) → ti_H ti_LM D A cy H0 M_1 H locs → lv_has ls 5 [(4, .int x_13), (3, .int x_16), (0, .ref (A 60 0)), (1, .int z1), (2, .int z2)] → W p l e (ti_rm 1) s m args below meth c H locs 0 0 Q (F0 m 27 ls []) := by
        intro n_17
        induction n_17 with
        | zero => intro x_13 x_16 H locs ls hf_17; exact absurd hf_17 (Nat.not_lt_zero _)
        | succ n_17 ih_17 =>
          intro x_13 x_16 H locs ls hf_17 b_14 b_15 hw hl
          refine lv_iload hx hb dX10_ruled_27 (lv_at hl 0 rfl) ?_
          refine lv_aload_n hx hb dX10_ruled_29 rfl (lv_at hl 2 rfl) ?_
          refine ti_get (ci := 10) (k := 34) (N := 67) (T := TX10) (v := .ref (A 60 35)) C hw iw_10 rfl ob_60 (by decide) (by decide) fl_X10_69 rfl rfl dX10_ruled_30 ?_
          refine lv_iconst (v := 0) hx hb dX10_ruled_33 (by decide) ?_
          refine ti_iald (ci := 10) (k := 34) (n := 23) C hw ob_60 (by decide) (fun _ _ => rfl) (by unfold vp_in; decide) dX10_ruled_34 ?_
          refine lv_topi (fun x_18 ex_18 => ?_)
          have yx_18 : tY M_1 60 34 0 = x_18 := ((congrArg _ (by decide)).symm.trans ex_18.symm)
          have bx_18 : 0 ≤ x_18.toInt ∧ x_18.toInt ≤ 120 := mI_ry (k := 34) (i := 0) iM_1 yx_18.symm (by decide)
          have zx_18 : (tY M_1 60 34 0).toInt = x_18.toInt := by rw [yx_18]
          have wx_18 : tY M 60 34 0 = x_18 := ((cg (tY_uIE hM_1) 0)).symm.trans yx_18
          have zwx_18 : (tY M 60 34 0).toInt = x_18.toInt := by rw [wx_18]
          refine sb_icmp_ge (tgt := 67) hx hb rfl rfl dX10_ruled_35 (by decide) (fun c_35_18 => ?_) (fun c_35_18 => ?_)
          · refine lv_iload_n hx hb dX10_ruled_67 rfl (lv_at hl 1 rfl) ?_
            exact hQ _ _ _ _ _ _ hw rfl (⟨mF_qw hF iM_1 (qw_I hM_1 (by decide)), (qw_I hM_1 (by decide)).2.1.1, (qw_I hM_1 (by decide)).1⟩) dX10_ruled_68
          · refine lv_iload_n hx hb dX10_ruled_38 rfl (lv_at hl 1 rfl) ?_
            refine lv_aload_n hx hb dX10_ruled_39 rfl (lv_at hl 2 rfl) ?_
            refine ti_get (ci := 10) (k := 50) (N := 67) (T := TX10) (v := .ref (A 60 51)) C hw iw_10 rfl ob_60 (by decide) (by decide) fl_X10_117 rfl rfl dX10_ruled_40 ?_
            refine lv_iconst (v := 3) hx hb dX10_ruled_43 (by decide) ?_
            refine lv_iload hx hb dX10_ruled_44 (lv_at hl 0 rfl) ?_
            refine lv_imul hx hb dX10_ruled_46 ?_
            refine lv_topi (fun x_20 ex_20 => ?_)
            have lox_20x_13 := x_13.le_toInt
            have hix_20x_13 := x_13.toInt_lt
            have tx_20 : x_20.toInt = 3 * x_13.toInt := i_mul ex_20 (by decide : (3 : Int32).toInt = 3) rfl (by omega) (by omega)
            refine lv_iload_n hx hb dX10_ruled_47 rfl (lv_at hl 4 rfl) ?_
            refine lv_iadd hx hb dX10_ruled_48 ?_
            refine lv_topi (fun x_21 ex_21 => ?_)
            have lox_21x_20 := x_20.le_toInt
            have hix_21x_20 := x_20.toInt_lt
            have lox_21z2 := z2.le_toInt
            have hix_21z2 := z2.toInt_lt
            have tx_21 : x_21.toInt = x_20.toInt + z2.toInt := i_add ex_21 rfl rfl (by omega) (by omega)
            refine ti_iald (ci := 10) (k := 50) (n := 720) C hw ob_60 (by decide) (fun _ _ => rfl) (vp_in_iff.mpr (by omega)) dX10_ruled_49 ?_
            refine lv_topi (fun x_22 ex_22 => ?_)
            have yx_22 : tY M_1 60 50 x_21.toNatClampNeg = x_22 := (ex_22.symm)
            have wx_22 : tY M 60 50 x_21.toNatClampNeg = x_22 := ((cg (tY_uIE hM_1) x_21.toNatClampNeg)).symm.trans yx_22
            refine lv_iload_n hx hb dX10_ruled_50 rfl (lv_at hl 3 rfl) ?_
            have hj_59_26 : ∀ (x_24 : Int32) (H : Heap) (locs : List Loc) (ls : Array Slot), (0 ≤ x_24.toInt) → (x_24.toInt ≤ 1) → ti_H ti_LM D A cy H0 M_1 H locs → lv_has ls 5 [(4, .int x_13), (3, .int x_16), (0, .ref (A 60 0)), (1, .int z1), (2, .int z2)] → W p l e (ti_rm 1) s m args below meth c H locs 0 0 Q (F0 m 59 ls [.int x_24, .int x_16]) := by
              intro x_24 H locs ls b_25 b_26 hw hl
              refine lv_iadd hx hb dX10_ruled_59 ?_
              refine lv_topi (fun x_27 ex_27 => ?_)
              refine lv_istore_n (lv' := [(3, .int x_27), (4, .int x_13), (0, .ref (A 60 0)), (1, .int z1), (2, .int z2)]) hx hb dX10_ruled_60 rfl hl (by decide) rfl (fun ls hl => ?_)
              obtain ⟨x_28, ex_28⟩ : ∃ z : Int32, z = x_13 + 1 := ⟨_, rfl⟩
              have tx_28 : x_28.toInt = x_13.toInt + 1 := i_add ex_28 rfl (by decide) (by omega) (by omega)
              refine lv_iinc (v := x_28) (lv' := [(4, .int x_28), (3, .int x_27), (0, .ref (A 60 0)), (1, .int z1), (2, .int z2)]) hx hb dX10_ruled_61 hl (k := 1) rfl (by rw [ex_28]; rfl) (by decide) rfl (fun ls hl => ?_)
              refine lv_goto (tgt := 27) hx hb dX10_ruled_64 (by decide) ?_
              exact ih_17 x_28 x_27 _ _ _ (by omega) (by first | omega | decide) (by first | omega | decide) hw (lv_sub hl [0, 1, 2, 3, 4] rfl)
            refine sb_icmp_ne (tgt := 58) hx hb rfl rfl dX10_ruled_51 (by decide) (fun c_51_22 => ?_) (fun c_51_22 => ?_)
            · refine lv_iconst (v := 0) hx hb dX10_ruled_58 (by decide) ?_
              exact hj_59_26 0 _ _ _ (by have lt0 : (0 : Int32).toInt = 0 := (by decide); first | omega | decide) (by have lt0 : (0 : Int32).toInt = 0 := (by decide); first | omega | decide) hw (lv_sub hl [0, 1, 2, 3, 4] rfl)
            · refine lv_iconst (v := 1) hx hb dX10_ruled_54 (by decide) ?_
              refine lv_goto (tgt := 59) hx hb dX10_ruled_55 (by decide) ?_
              exact hj_59_26 1 _ _ _ (by have lt0 : (1 : Int32).toInt = 1 := (by decide); first | omega | decide) (by have lt0 : (1 : Int32).toInt = 1 := (by decide); first | omega | decide) hw (lv_sub hl [0, 1, 2, 3, 4] rfl)
      exact hl_27_16 ((120 - 0 : Int).toNat + 1) 0 0 _ _ _ (Nat.lt_succ_self _) (by have lt0 : (0 : Int32).toInt = 0 := (by decide); first | omega | decide) (by have lt0 : (0 : Int32).toInt = 0 := (by decide); first | omega | decide) hw (lv_sub hl [0, 1, 2, 3, 4] rfl)
    · refine sb_if_ne (tgt := 22) hx hb (by decide : (0 : Int32).toInt = 0) dX10_ruled_17 (by decide) (fun h => absurd h (by decide)) (fun c_17_11 => ?_)
      exact hj_20_12  _ _ _  hw (lv_sub hl [0, 1, 2] rfl)
  · refine sb_if_eq (tgt := 20) hx hb (by decide : (0 : Int32).toInt = 0) dX10_ruled_10 (by decide) (fun c_10_6 => ?_) (fun h => absurd h (by decide))
    exact hj_20_12  _ _ _  hw (lv_sub hl [0, 1, 2] rfl)
set_option maxHeartbeats 4000000 in
set_option maxRecDepth 100000 in
theorem s_X10_decree (l : Launch) (D : va_G) (A : Nat → Nat → Nat) (cy : Nat → ClassId) (hJ : ti_inj ti_LM A) (M : ti_M) (hI : mI Tm M) (hF : mF Tm M) (z1 : Int32) (z2 : Int32) (z3 : Int32) : ti_Ki l yX10_decree cX10_decree 11 (some .int) 1 ti_LM D A cy M [.ref (A 60 0), .int z1, .int z2, .int z3] (fun r M2 => mF Tm M2 ∧ tI M2 60 2 = tI M 60 2 ∧ lw M2 M) := by
  refine ti_eI yp_X10_decree hJ ti_LM_nd (Nat.le_of_ble_eq_true rfl) ?_
  intro p e s m args below meth c Q H0 C hQ hw ls hl
  have hx := C.1
  have hb := C.2.1
  have hl : lv_has ls 11 [(0, .ref (A 60 0)), (1, .int z1), (2, .int z2), (3, .int z3)] := hl
  have hL : mL M := hF.2.1
  have hC0 : mC M 0 := hF.2.2.1.1
  have hP0 : mP M 0 := hF.2.2.1.2
  refine lv_aload_n hx hb dX10_decree_0 rfl (lv_at hl 0 rfl) ?_
  refine lv_iconst (v := 0) hx hb dX10_decree_1 (by decide) ?_
  refine ti_putI (ci := 10) (k := 0) (N := 67) (T := TX10) C hw iw_10 tyX10 tyX10_ok nmX10 rfl ob_60 (by decide) (by decide) fl_X10_154 rfl rfl rfl rfl (fn_10 A _) fs_10_0 dX10_decree_2 (fun H locs hw => ?_)
  obtain ⟨M_1, hM_1⟩ : ∃ z : ti_M, z = uI M 60 0 0 := ⟨_, rfl⟩
  have hw := hw.to hM_1.symm
  have iM_1 : mI Tm M_1 := mI_uI hI hM_1 (by decide) (by decide) trivial
  refine lv_iload_n hx hb dX10_decree_5 rfl (lv_at hl 1 rfl) ?_
  refine lv_iconst (v := 1) hx hb dX10_decree_6 (by decide) ?_
  have hj_34_7 : ∀  (H : Heap) (locs : List Loc) (ls : Array Slot), ti_H ti_LM D A cy H0 M_1 H locs → lv_has ls 11 [(0, .ref (A 60 0)), (1, .int z1), (2, .int z2), (3, .int z3)] → W p l e (ti_rm 1) s m args below meth c H locs 0 0 Q (F0 m 34 ls []) := by
    intro  H locs ls  hw hl
    refine lv_iconst (v := (-1)) hx hb dX10_decree_34 (by decide) ?_
    exact hQ _ _ _ _ _ _ hw rfl (⟨mF_qw hF iM_1 (qw_I hM_1 (by decide)), (qw_I hM_1 (by decide)).2.1.1, (qw_I hM_1 (by decide)).1⟩) dX10_decree_35
  refine sb_icmp_lt (tgt := 34) hx hb rfl (by decide : (1 : Int32).toInt = 1) dX10_decree_7 (by decide) (fun c_7_1 => ?_) (fun c_7_1 => ?_)
  · exact hj_34_7  _ _ _  hw (lv_sub hl [0, 1, 2, 3] rfl)
  · refine lv_iload_n hx hb dX10_decree_10 rfl (lv_at hl 1 rfl) ?_
    refine lv_bipush (v := 8) hx hb dX10_decree_11 (by decide) ?_
    refine sb_icmp_gt (tgt := 34) hx hb rfl (by decide : (8 : Int32).toInt = 8) dX10_decree_13 (by decide) (fun c_13_2 => ?_) (fun c_13_2 => ?_)
    · exact hj_34_7  _ _ _  hw (lv_sub hl [0, 1, 2, 3] rfl)
    · refine lv_iload_n hx hb dX10_decree_16 rfl (lv_at hl 2 rfl) ?_
      refine sb_if_lt (tgt := 34) hx hb rfl dX10_decree_17 (by decide) (fun c_17_3 => ?_) (fun c_17_3 => ?_)
      · exact hj_34_7  _ _ _  hw (lv_sub hl [0, 1, 2, 3] rfl)
      · refine lv_iload_n hx hb dX10_decree_20 rfl (lv_at hl 2 rfl) ?_
        refine lv_iload_n hx hb dX10_decree_21 rfl (lv_at hl 1 rfl) ?_
        refine sb_icmp_gt (tgt := 34) hx hb rfl rfl dX10_decree_22 (by decide) (fun c_22_4 => ?_) (fun c_22_4 => ?_)
        · exact hj_34_7  _ _ _  hw (lv_sub hl [0, 1, 2, 3] rfl)
        · refine lv_iload_n hx hb dX10_decree_25 rfl (lv_at hl 3 rfl) ?_
          refine sb_if_lt (tgt := 34) hx hb rfl dX10_decree_26 (by decide) (fun c_26_5 => ?_) (fun c_26_5 => ?_)
          · exact hj_34_7  _ _ _  hw (lv_sub hl [0, 1, 2, 3] rfl)
          · refine lv_iload_n hx hb dX10_decree_29 rfl (lv_at hl 3 rfl) ?_
            refine lv_iconst (v := 1) hx hb dX10_decree_30 (by decide) ?_
            refine sb_icmp_le (tgt := 36) hx hb rfl (by decide : (1 : Int32).toInt = 1) dX10_decree_31 (by decide) (fun c_31_6 => ?_) (fun c_31_6 => ?_)
            · refine lv_iconst (v := 0) hx hb dX10_decree_36 (by decide) ?_
              refine lv_istore (lv' := [(4, .int 0), (0, .ref (A 60 0)), (1, .int z1), (2, .int z2), (3, .int z3)]) hx hb dX10_decree_37 hl (by decide) rfl (fun ls hl => ?_)
              refine lv_iconst (v := 0) hx hb dX10_decree_39 (by decide) ?_
              refine lv_istore (lv' := [(5, .int 0), (4, .int 0), (0, .ref (A 60 0)), (1, .int z1), (2, .int z2), (3, .int z3)]) hx hb dX10_decree_40 hl (by decide) rfl (fun ls hl => ?_)
              refine lv_iconst (v := 0) hx hb dX10_decree_42 (by decide) ?_
              refine lv_istore (lv' := [(6, .int 0), (5, .int 0), (4, .int 0), (0, .ref (A 60 0)), (1, .int z1), (2, .int z2), (3, .int z3)]) hx hb dX10_decree_43 hl (by decide) rfl (fun ls hl => ?_)
              have hl_45_12 : ∀ (n_13 : Nat) (x_8 : Int32) (x_11 : Int32) (x_12 : Int32) (H : Heap) (locs : List Loc) (ls : Array Slot), (8 - x_8.toInt : Int).toNat < n_13 → (0 ≤ x_8.toInt) → (x_8.toInt ≤ 8) → ti_H ti_LM D A cy H0 M_1 H locs → lv_has ls 11 [(6, .int x_8), (5, .int x_11), (4, .int x_12), (0, .ref (A 60 0)), (1, .int z1), (2, .int z2), (3, .int z3)] → W p l e (ti_rm 1) s m args below meth c H locs 0 0 Q (F0 m 45 ls []) := by
                intro n_13
                induction n_13 with
                | zero => intro x_8 x_11 x_12 H locs ls hf_13; exact absurd hf_13 (Nat.not_lt_zero _)
                | succ n_13 ih_13 =>
                  intro x_8 x_11 x_12 H locs ls hf_13 b_9 b_10 hw hl
                  refine lv_iload hx hb dX10_decree_45 (lv_at hl 0 rfl) ?_
                  refine lv_iload_n hx hb dX10_decree_47 rfl (lv_at hl 4 rfl) ?_
                  have hj_104_25 : ∀  (H : Heap) (locs : List Loc) (ls : Array Slot), ti_H ti_LM D A cy H0 M_1 H locs → lv_has ls 11 [(6, .int x_8), (5, .int x_11), (4, .int x_12), (0, .ref (A 60 0)), (1, .int z1), (2, .int z2), (3, .int z3)] → W p l e (ti_rm 1) s m args below meth c H locs 0 0 Q (F0 m 104 ls []) := by
                    intro  H locs ls  hw hl
                    refine lv_iconst (v := (-1)) hx hb dX10_decree_104 (by decide) ?_
                    refine lv_istore (lv' := [(6, .int (-1)), (5, .int x_11), (4, .int x_12), (0, .ref (A 60 0)), (1, .int z1), (2, .int z2), (3, .int z3)]) hx hb dX10_decree_105 hl (by decide) rfl (fun ls hl => ?_)
                    refine lv_iconst (v := 0) hx hb dX10_decree_107 (by decide) ?_
                    refine lv_istore (lv' := [(7, .int 0), (6, .int (-1)), (5, .int x_11), (4, .int x_12), (0, .ref (A 60 0)), (1, .int z1), (2, .int z2), (3, .int z3)]) hx hb dX10_decree_108 hl (by decide) rfl (fun ls hl => ?_)
                    refine lv_iconst (v := 0) hx hb dX10_decree_110 (by decide) ?_
                    refine lv_istore (lv' := [(8, .int 0), (7, .int 0), (6, .int (-1)), (5, .int x_11), (4, .int x_12), (0, .ref (A 60 0)), (1, .int z1), (2, .int z2), (3, .int z3)]) hx hb dX10_decree_111 hl (by decide) rfl (fun ls hl => ?_)
                    have hl_113_32 : ∀ (n_33 : Nat) (x_26 : Int32) (x_29 : Int32) (x_30 : Int32) (M_31 : ti_M) (H : Heap) (locs : List Loc) (ls : Array Slot), (256 - x_26.toInt : Int).toNat < n_33 → (0 ≤ x_26.toInt) → (x_26.toInt ≤ 256) → (mI Tm M_31) → (qw M_31 M) → ti_H ti_LM D A cy H0 M_31 H locs → lv_has ls 11 [(8, .int x_26), (7, .int x_29), (6, .int x_30), (5, .int x_11), (4, .int x_12), (0, .ref (A 60 0)), (1, .int z1), (2, .int z2), (3, .int z3)] → W p l e (ti_rm 1) s m args below meth c H locs 0 0 Q (F0 m 113 ls []) := by
                      intro n_33
                      induction n_33 with
                      | zero => intro x_26 x_29 x_30 M_31 H locs ls hf_33; exact absurd hf_33 (Nat.not_lt_zero _)
                      | succ n_33 ih_33 =>
                        intro x_26 x_29 x_30 M_31 H locs ls hf_33 b_27 b_28 iM_31 f_32 hw hl
                        refine lv_iload hx hb dX10_decree_113 (lv_at hl 0 rfl) ?_
                        refine lv_sipush (v := 256) hx hb dX10_decree_115 (by decide) ?_
                        refine sb_icmp_ge (tgt := 226) hx hb rfl (by decide : (256 : Int32).toInt = 256) dX10_decree_118 (by decide) (fun c_118_33 => ?_) (fun c_118_33 => ?_)
                        · refine lv_iload hx hb dX10_decree_226 (lv_at hl 2 rfl) ?_
                          refine lv_iconst (v := (-1)) hx hb dX10_decree_228 (by decide) ?_
                          refine sb_icmp_ne (tgt := 237) hx hb rfl (by decide : ((-1) : Int32).toInt = (-1)) dX10_decree_229 (by decide) (fun c_229_60 => ?_) (fun c_229_60 => ?_)
                          · refine lv_iload_n hx hb dX10_decree_237 rfl (lv_at hl 8 rfl) ?_
                            refine sb_if_ne (tgt := 246) hx hb rfl dX10_decree_238 (by decide) (fun c_238_61 => ?_) (fun c_238_61 => ?_)
                            · refine lv_iload hx hb dX10_decree_246 (lv_at hl 2 rfl) ?_
                              exact hQ _ _ _ _ _ _ hw rfl (⟨mF_qw hF iM_31 f_32, f_32.2.1.1, f_32.1⟩) dX10_decree_248
                            · refine lv_iload hx hb dX10_decree_241 (lv_at hl 1 rfl) ?_
                              refine lv_goto (tgt := 248) hx hb dX10_decree_243 (by decide) ?_
                              exact hQ _ _ _ _ _ _ hw rfl (⟨mF_qw hF iM_31 f_32, f_32.2.1.1, f_32.1⟩) dX10_decree_248
                          · refine lv_bipush (v := (-2)) hx hb dX10_decree_232 (by decide) ?_
                            refine lv_goto (tgt := 248) hx hb dX10_decree_234 (by decide) ?_
                            exact hQ _ _ _ _ _ _ hw rfl (⟨mF_qw hF iM_31 f_32, f_32.2.1.1, f_32.1⟩) dX10_decree_248
                        · refine lv_iload hx hb dX10_decree_121 (lv_at hl 0 rfl) ?_
                          refine lv_iload hx hb dX10_decree_123 (lv_at hl 4 rfl) ?_
                          refine lv_iconst (v := (-1)) hx hb dX10_decree_125 (by decide) ?_
                          refine lv_ixor hx hb dX10_decree_126 ?_
                          refine lv_topi (fun x_35 ex_35 => ?_)
                          refine lv_iand hx hb dX10_decree_127 ?_
                          refine lv_topi (fun x_36 ex_36 => ?_)
                          have hj_220_59 : ∀ (x_58 : Int32) (x_59 : Int32) (H : Heap) (locs : List Loc) (ls : Array Slot), ti_H ti_LM D A cy H0 M_31 H locs → lv_has ls 11 [(8, .int x_26), (7, .int x_58), (6, .int x_59), (5, .int x_11), (4, .int x_12), (0, .ref (A 60 0)), (1, .int z1), (2, .int z2), (3, .int z3)] → W p l e (ti_rm 1) s m args below meth c H locs 0 0 Q (F0 m 220 ls []) := by
                            intro x_58 x_59 H locs ls  hw hl
                            obtain ⟨x_60, ex_60⟩ : ∃ z : Int32, z = x_26 + 1 := ⟨_, rfl⟩
                            have tx_60 : x_60.toInt = x_26.toInt + 1 := i_add ex_60 rfl (by decide) (by omega) (by omega)
                            refine lv_iinc (v := x_60) (lv' := [(8, .int x_60), (7, .int x_58), (6, .int x_59), (5, .int x_11), (4, .int x_12), (0, .ref (A 60 0)), (1, .int z1), (2, .int z2), (3, .int z3)]) hx hb dX10_decree_220 hl (k := 0) rfl (by rw [ex_60]; rfl) (by decide) rfl (fun ls hl => ?_)
                            refine lv_goto (tgt := 113) hx hb dX10_decree_223 (by decide) ?_
                            exact ih_33 x_60 x_58 x_59 M_31 _ _ _ (by omega) (by first | omega | decide) (by first | omega | decide) iM_31 f_32 hw (lv_sub hl [0, 1, 2, 3, 4, 5, 6, 7, 8] rfl)
                          refine sb_if_ne (tgt := 220) hx hb rfl dX10_decree_128 (by decide) (fun c_128_36 => ?_) (fun c_128_36 => ?_)
                          · exact hj_220_59 x_29 x_30 _ _ _  hw (lv_sub hl [0, 1, 2, 3, 4, 5, 6, 7, 8] rfl)
                          · refine lv_iload hx hb dX10_decree_131 (lv_at hl 3 rfl) ?_
                            refine lv_iload hx hb dX10_decree_133 (lv_at hl 0 rfl) ?_
                            refine ti_callSi (av := [.int x_26]) C hw (s_X10_bitsOf l D A cy hJ M_31 iM_31 x_26) ⟨ml_X10_448, ys_X10_bitsOf, yi_X10_bitsOf, yc_X10_bitsOf⟩ yd_X10_bitsOf rfl hl.1 (Nat.le_of_ble_eq_true rfl) ⟨by decide, by decide⟩ ⟨Nat.zero_le _, Nat.zero_le _⟩ dX10_decree_135 (fun r_38 M_39 H locs hp_39 hw => ?_)
                            have hm := hp_39
                            have hw := hw.to hm
                            refine lv_iadd hx hb dX10_decree_138 ?_
                            refine lv_topi (fun x_40 ex_40 => ?_)
                            refine lv_iload_n hx hb dX10_decree_139 rfl (lv_at hl 7 rfl) ?_
                            refine sb_icmp_ge (tgt := 146) hx hb rfl rfl dX10_decree_140 (by decide) (fun c_140_40 => ?_) (fun c_140_40 => ?_)
                            · refine lv_iconst (v := 0) hx hb dX10_decree_146 (by decide) ?_
                              refine lv_istore (lv' := [(9, .int 0), (8, .int x_26), (7, .int x_29), (6, .int x_30), (5, .int x_11), (4, .int x_12), (0, .ref (A 60 0)), (1, .int z1), (2, .int z2), (3, .int z3)]) hx hb dX10_decree_147 hl (by decide) rfl (fun ls hl => ?_)
                              refine lv_iconst (v := 0) hx hb dX10_decree_149 (by decide) ?_
                              refine lv_istore (lv' := [(10, .int 0), (9, .int 0), (8, .int x_26), (7, .int x_29), (6, .int x_30), (5, .int x_11), (4, .int x_12), (0, .ref (A 60 0)), (1, .int z1), (2, .int z2), (3, .int z3)]) hx hb dX10_decree_150 hl (by decide) rfl (fun ls hl => ?_)
                              have hl_152_45 : ∀ (n_46 : Nat) (x_42 : Int32) (x_45 : Int32) (H : Heap) (locs : List Loc) (ls : Array Slot), (8 - x_42.toInt : Int).toNat < n_46 → (0 ≤ x_42.toInt) → (x_42.toInt ≤ 8) → ti_H ti_LM D A cy H0 M_31 H locs → lv_has ls 11 [(10, .int x_42), (9, .int x_45), (8, .int x_26), (7, .int x_29), (6, .int x_30), (5, .int x_11), (4, .int x_12), (0, .ref (A 60 0)), (1, .int z1), (2, .int z2), (3, .int z3)] → W p l e (ti_rm 1) s m args below meth c H locs 0 0 Q (F0 m 152 ls []) := by
                                intro n_46
                                induction n_46 with
                                | zero => intro x_42 x_45 H locs ls hf_46; exact absurd hf_46 (Nat.not_lt_zero _)
                                | succ n_46 ih_46 =>
                                  intro x_42 x_45 H locs ls hf_46 b_43 b_44 hw hl
                                  refine lv_iload hx hb dX10_decree_152 (lv_at hl 0 rfl) ?_
                                  refine lv_aload_n hx hb dX10_decree_154 rfl (lv_at hl 7 rfl) ?_
                                  refine ti_get (ci := 10) (k := 3) (N := 67) (T := TX10) (v := .ref (A 60 4)) C hw iw_10 rfl ob_60 (by decide) (by decide) fl_X10_13 rfl rfl dX10_decree_155 ?_
                                  refine lv_iconst (v := 0) hx hb dX10_decree_158 (by decide) ?_
                                  refine ti_iald (ci := 10) (k := 3) (n := 22) C hw ob_60 (by decide) (fun _ _ => rfl) (by unfold vp_in; decide) dX10_decree_159 ?_
                                  refine lv_topi (fun x_47 ex_47 => ?_)
                                  have yx_47 : tY M_31 60 3 0 = x_47 := ((congrArg _ (by decide)).symm.trans ex_47.symm)
                                  have bx_47 : 0 ≤ x_47.toInt ∧ x_47.toInt ≤ 8 := mI_rn (i := 0) iM_31 yx_47.symm (fun _ h => h)
                                  have zx_47 : (tY M_31 60 3 0).toInt = x_47.toInt := by rw [yx_47]
                                  have wx_47 : tY M 60 3 0 = x_47 := ((cg (f_32.1 3 (by decide) (by decide)) 0)).symm.trans yx_47
                                  have zwx_47 : (tY M 60 3 0).toInt = x_47.toInt := by rw [wx_47]
                                  refine sb_icmp_ge (tgt := 196) hx hb rfl rfl dX10_decree_160 (by decide) (fun c_160_47 => ?_) (fun c_160_47 => ?_)
                                  · refine lv_iload hx hb dX10_decree_196 (lv_at hl 4 rfl) ?_
                                    refine lv_iconst (v := (-1)) hx hb dX10_decree_198 (by decide) ?_
                                    have hj_212_57 : ∀  (H : Heap) (locs : List Loc) (ls : Array Slot), ti_H ti_LM D A cy H0 M_31 H locs → lv_has ls 11 [(10, .int x_42), (9, .int x_45), (8, .int x_26), (7, .int x_29), (6, .int x_30), (5, .int x_11), (4, .int x_12), (0, .ref (A 60 0)), (1, .int z1), (2, .int z2), (3, .int z3)] → W p l e (ti_rm 1) s m args below meth c H locs 0 0 Q (F0 m 212 ls []) := by
                                      intro  H locs ls  hw hl
                                      refine lv_iload hx hb dX10_decree_212 (lv_at hl 2 rfl) ?_
                                      refine lv_istore (lv' := [(6, .int x_26), (10, .int x_42), (9, .int x_45), (8, .int x_26), (7, .int x_29), (5, .int x_11), (4, .int x_12), (0, .ref (A 60 0)), (1, .int z1), (2, .int z2), (3, .int z3)]) hx hb dX10_decree_214 hl (by decide) rfl (fun ls hl => ?_)
                                      refine lv_iload hx hb dX10_decree_216 (lv_at hl 2 rfl) ?_
                                      refine lv_istore (lv' := [(7, .int x_45), (6, .int x_26), (10, .int x_42), (9, .int x_45), (8, .int x_26), (5, .int x_11), (4, .int x_12), (0, .ref (A 60 0)), (1, .int z1), (2, .int z2), (3, .int z3)]) hx hb dX10_decree_218 hl (by decide) rfl (fun ls hl => ?_)
                                      exact hj_220_59 x_45 x_26 _ _ _  hw (lv_sub hl [4, 0, 1, 5, 6, 7, 8, 9, 10] rfl)
                                    refine sb_icmp_eq (tgt := 212) hx hb rfl (by decide : ((-1) : Int32).toInt = (-1)) dX10_decree_199 (by decide) (fun c_199_55 => ?_) (fun c_199_55 => ?_)
                                    · exact hj_212_57  _ _ _  hw (lv_sub hl [0, 1, 2, 3, 4, 5, 6, 7, 8, 9, 10] rfl)
                                    · refine lv_iload hx hb dX10_decree_202 (lv_at hl 1 rfl) ?_
                                      refine lv_iload hx hb dX10_decree_204 (lv_at hl 3 rfl) ?_
                                      refine sb_icmp_lt (tgt := 212) hx hb rfl rfl dX10_decree_206 (by decide) (fun c_206_56 => ?_) (fun c_206_56 => ?_)
                                      · exact hj_212_57  _ _ _  hw (lv_sub hl [0, 1, 2, 3, 4, 5, 6, 7, 8, 9, 10] rfl)
                                      · refine lv_goto (tgt := 220) hx hb dX10_decree_209 (by decide) ?_
                                        exact hj_220_59 x_29 x_30 _ _ _  hw (lv_sub hl [2, 3, 4, 5, 6, 7, 8, 9, 10] rfl)
                                  · refine lv_iload hx hb dX10_decree_163 (lv_at hl 1 rfl) ?_
                                    refine lv_iload hx hb dX10_decree_165 (lv_at hl 2 rfl) ?_
                                    refine lv_iload hx hb dX10_decree_167 (lv_at hl 0 rfl) ?_
                                    refine lv_ishr hx hb dX10_decree_169 ?_
                                    refine lv_topi (fun x_49 ex_49 => ?_)
                                    refine lv_iconst (v := 1) hx hb dX10_decree_170 (by decide) ?_
                                    refine lv_iand hx hb dX10_decree_171 ?_
                                    refine lv_topi (fun x_50 ex_50 => ?_)
                                    have bx_50 := i_and 1 ex_50 (by decide) (by decide)
                                    refine lv_iconst (v := 1) hx hb dX10_decree_172 (by decide) ?_
                                    have hj_187_53 : ∀ (x_53 : Int32) (H : Heap) (locs : List Loc) (ls : Array Slot), ti_H ti_LM D A cy H0 M_31 H locs → lv_has ls 11 [(10, .int x_42), (9, .int x_45), (8, .int x_26), (7, .int x_29), (6, .int x_30), (5, .int x_11), (4, .int x_12), (0, .ref (A 60 0)), (1, .int z1), (2, .int z2), (3, .int z3)] → W p l e (ti_rm 1) s m args below meth c H locs 0 0 Q (F0 m 187 ls [.int x_53, .int x_45]) := by
                                      intro x_53 H locs ls  hw hl
                                      refine lv_iadd hx hb dX10_decree_187 ?_
                                      refine lv_topi (fun x_54 ex_54 => ?_)
                                      refine lv_istore (lv' := [(9, .int x_54), (10, .int x_42), (8, .int x_26), (7, .int x_29), (6, .int x_30), (5, .int x_11), (4, .int x_12), (0, .ref (A 60 0)), (1, .int z1), (2, .int z2), (3, .int z3)]) hx hb dX10_decree_188 hl (by decide) rfl (fun ls hl => ?_)
                                      obtain ⟨x_55, ex_55⟩ : ∃ z : Int32, z = x_42 + 1 := ⟨_, rfl⟩
                                      have tx_55 : x_55.toInt = x_42.toInt + 1 := i_add ex_55 rfl (by decide) (by omega) (by omega)
                                      refine lv_iinc (v := x_55) (lv' := [(10, .int x_55), (9, .int x_54), (8, .int x_26), (7, .int x_29), (6, .int x_30), (5, .int x_11), (4, .int x_12), (0, .ref (A 60 0)), (1, .int z1), (2, .int z2), (3, .int z3)]) hx hb dX10_decree_190 hl (k := 1) rfl (by rw [ex_55]; rfl) (by decide) rfl (fun ls hl => ?_)
                                      refine lv_goto (tgt := 152) hx hb dX10_decree_193 (by decide) ?_
                                      exact ih_46 x_55 x_54 _ _ _ (by omega) (by first | omega | decide) (by first | omega | decide) hw (lv_sub hl [0, 1, 2, 3, 4, 5, 6, 7, 8, 9, 10] rfl)
                                    refine sb_icmp_ne (tgt := 186) hx hb rfl (by decide : (1 : Int32).toInt = 1) dX10_decree_173 (by decide) (fun c_173_50 => ?_) (fun c_173_50 => ?_)
                                    · refine lv_iconst (v := 0) hx hb dX10_decree_186 (by decide) ?_
                                      exact hj_187_53 0 _ _ _  hw (lv_sub hl [0, 1, 2, 3, 4, 5, 6, 7, 8, 9, 10] rfl)
                                    · refine lv_aload_n hx hb dX10_decree_176 rfl (lv_at hl 7 rfl) ?_
                                      refine ti_get (ci := 10) (k := 10) (N := 67) (T := TX10) (v := .ref (A 60 11)) C hw iw_10 rfl ob_60 (by decide) (by decide) fl_X10_34 rfl rfl dX10_decree_177 ?_
                                      refine lv_iload hx hb dX10_decree_180 (lv_at hl 0 rfl) ?_
                                      refine ti_iald (ci := 10) (k := 10) (n := 16) C hw ob_60 (by decide) (fun _ _ => rfl) (vp_in_iff.mpr (by omega)) dX10_decree_182 ?_
                                      refine lv_topi (fun x_52 ex_52 => ?_)
                                      have yx_52 : tY M_31 60 10 x_42.toNatClampNeg = x_52 := (ex_52.symm)
                                      have wx_52 : tY M 60 10 x_42.toNatClampNeg = x_52 := ((cg (f_32.1 10 (by decide) (by decide)) x_42.toNatClampNeg)).symm.trans yx_52
                                      refine lv_goto (tgt := 187) hx hb dX10_decree_183 (by decide) ?_
                                      exact hj_187_53 x_52 _ _ _  hw (lv_sub hl [0, 1, 2, 3, 4, 5, 6, 7, 8, 9, 10] rfl)
                              exact hl_152_45 ((8 - 0 : Int).toNat + 1) 0 0 _ _ _ (Nat.lt_succ_self _) (by have lt0 : (0 : Int32).toInt = 0 := (by decide); first | omega | decide) (by have lt0 : (0 : Int32).toInt = 0 := (by decide); first | omega | decide) hw (lv_sub hl [0, 1, 2, 3, 4, 5, 6, 7, 8, 9, 10] rfl)
                            · refine lv_goto (tgt := 220) hx hb dX10_decree_143 (by decide) ?_
                              exact hj_220_59 x_29 x_30 _ _ _  hw (lv_sub hl [0, 1, 2, 3, 4, 5, 6, 7, 8] rfl)
                    exact hl_113_32 ((256 - 0 : Int).toNat + 1) 0 0 (-1) M_1 _ _ _ (Nat.lt_succ_self _) (by have lt0 : ((-1) : Int32).toInt = (-1) := (by decide); have lt1 : (0 : Int32).toInt = 0 := (by decide); first | omega | decide) (by have lt0 : ((-1) : Int32).toInt = (-1) := (by decide); have lt1 : (0 : Int32).toInt = 0 := (by decide); first | omega | decide) iM_1 (qw_I hM_1 (by decide)) hw (lv_sub hl [0, 1, 2, 3, 4, 5, 6, 7, 8] rfl)
                  refine sb_icmp_ge (tgt := 104) hx hb rfl rfl dX10_decree_48 (by decide) (fun c_48_13 => ?_) (fun c_48_13 => ?_)
                  · exact hj_104_25  _ _ _  hw (lv_sub hl [0, 1, 2, 3, 4, 5, 6] rfl)
                  · refine lv_iload hx hb dX10_decree_51 (lv_at hl 0 rfl) ?_
                    refine lv_aload_n hx hb dX10_decree_53 rfl (lv_at hl 3 rfl) ?_
                    refine ti_get (ci := 10) (k := 38) (N := 67) (T := TX10) (v := .ref (A 60 39)) C hw iw_10 rfl ob_60 (by decide) (by decide) fl_X10_81 rfl rfl dX10_decree_54 ?_
                    refine lv_iconst (v := 0) hx hb dX10_decree_57 (by decide) ?_
                    refine ti_iald (ci := 10) (k := 38) (n := 23) C hw ob_60 (by decide) (fun _ _ => rfl) (by unfold vp_in; decide) dX10_decree_58 ?_
                    refine lv_topi (fun x_15 ex_15 => ?_)
                    have yx_15 : tY M_1 60 38 0 = x_15 := ((congrArg _ (by decide)).symm.trans ex_15.symm)
                    have bx_15 : 0 ≤ x_15.toInt ∧ x_15.toInt ≤ 8 := mI_ry (k := 38) (i := 0) iM_1 yx_15.symm
                    have zx_15 : (tY M_1 60 38 0).toInt = x_15.toInt := by rw [yx_15]
                    have wx_15 : tY M 60 38 0 = x_15 := ((cg (tY_uIE hM_1) 0)).symm.trans yx_15
                    have zwx_15 : (tY M 60 38 0).toInt = x_15.toInt := by rw [wx_15]
                    refine sb_icmp_ge (tgt := 104) hx hb rfl rfl dX10_decree_59 (by decide) (fun c_59_15 => ?_) (fun c_59_15 => ?_)
                    · exact hj_104_25  _ _ _  hw (lv_sub hl [0, 1, 2, 3, 4, 5, 6] rfl)
                    · refine lv_aload_n hx hb dX10_decree_62 rfl (lv_at hl 3 rfl) ?_
                      refine ti_get (ci := 10) (k := 12) (N := 67) (T := TX10) (v := .ref (A 60 13)) C hw iw_10 rfl ob_60 (by decide) (by decide) fl_X10_40 rfl rfl dX10_decree_63 ?_
                      refine lv_aload_n hx hb dX10_decree_66 rfl (lv_at hl 3 rfl) ?_
                      refine ti_get (ci := 10) (k := 39) (N := 67) (T := TX10) (v := .ref (A 60 40)) C hw iw_10 rfl ob_60 (by decide) (by decide) fl_X10_84 rfl rfl dX10_decree_67 ?_
                      refine lv_iload hx hb dX10_decree_70 (lv_at hl 0 rfl) ?_
                      refine ti_iald (ci := 10) (k := 39) (n := 184) C hw ob_60 (by decide) (fun _ _ => rfl) (vp_in_iff.mpr (by omega)) dX10_decree_72 ?_
                      refine lv_topi (fun x_17 ex_17 => ?_)
                      have yx_17 : tY M_1 60 39 x_8.toNatClampNeg = x_17 := (ex_17.symm)
                      have bx_17 : 0 ≤ x_17.toInt ∧ x_17.toInt ≤ 7 := mI_ry (k := 39) (i := x_8.toNatClampNeg) iM_1 yx_17.symm
                      have wx_17 : tY M 60 39 x_8.toNatClampNeg = x_17 := ((cg (tY_uIE hM_1) x_8.toNatClampNeg)).symm.trans yx_17
                      refine ti_iald (ci := 10) (k := 12) (n := 16) C hw ob_60 (by decide) (fun _ _ => rfl) (vp_in_iff.mpr (by omega)) dX10_decree_73 ?_
                      refine lv_topi (fun x_18 ex_18 => ?_)
                      have yx_18 : tY M_1 60 12 x_17.toNatClampNeg = x_18 := (ex_18.symm)
                      have wx_18 : tY M 60 12 x_17.toNatClampNeg = x_18 := ((cg (tY_uIE hM_1) x_17.toNatClampNeg)).symm.trans yx_18
                      refine lv_iconst (v := 1) hx hb dX10_decree_74 (by decide) ?_
                      have hj_98_24 : ∀ (x_23 : Int32) (x_24 : Int32) (H : Heap) (locs : List Loc) (ls : Array Slot), ti_H ti_LM D A cy H0 M_1 H locs → lv_has ls 11 [(5, .int x_23), (6, .int x_8), (4, .int x_24), (0, .ref (A 60 0)), (1, .int z1), (2, .int z2), (3, .int z3)] → W p l e (ti_rm 1) s m args below meth c H locs 0 0 Q (F0 m 98 ls []) := by
                        intro x_23 x_24 H locs ls  hw hl
                        obtain ⟨x_25, ex_25⟩ : ∃ z : Int32, z = x_8 + 1 := ⟨_, rfl⟩
                        have tx_25 : x_25.toInt = x_8.toInt + 1 := i_add ex_25 rfl (by decide) (by omega) (by omega)
                        refine lv_iinc (v := x_25) (lv' := [(6, .int x_25), (5, .int x_23), (4, .int x_24), (0, .ref (A 60 0)), (1, .int z1), (2, .int z2), (3, .int z3)]) hx hb dX10_decree_98 hl (k := 1) rfl (by rw [ex_25]; rfl) (by decide) rfl (fun ls hl => ?_)
                        refine lv_goto (tgt := 45) hx hb dX10_decree_101 (by decide) ?_
                        exact ih_13 x_25 x_23 x_24 _ _ _ (by omega) (by first | omega | decide) (by first | omega | decide) hw (lv_sub hl [0, 1, 2, 3, 4, 5, 6] rfl)
                      refine sb_icmp_ne (tgt := 84) hx hb rfl (by decide : (1 : Int32).toInt = 1) dX10_decree_75 (by decide) (fun c_75_18 => ?_) (fun c_75_18 => ?_)
                      · refine lv_iload hx hb dX10_decree_84 (lv_at hl 2 rfl) ?_
                        refine lv_iconst (v := 1) hx hb dX10_decree_86 (by decide) ?_
                        refine lv_aload_n hx hb dX10_decree_87 rfl (lv_at hl 3 rfl) ?_
                        refine ti_get (ci := 10) (k := 39) (N := 67) (T := TX10) (v := .ref (A 60 40)) C hw iw_10 rfl ob_60 (by decide) (by decide) fl_X10_84 rfl rfl dX10_decree_88 ?_
                        refine lv_iload hx hb dX10_decree_91 (lv_at hl 0 rfl) ?_
                        refine ti_iald (ci := 10) (k := 39) (n := 184) C hw ob_60 (by decide) (fun _ _ => rfl) (vp_in_iff.mpr (by omega)) dX10_decree_93 ?_
                        refine ti_top (y := x_17) (((cg (tY_uIE hM_1) x_8.toNatClampNeg).trans wx_17)) ?_
                        refine lv_ishl hx hb dX10_decree_94 ?_
                        refine lv_topi (fun x_21 ex_21 => ?_)
                        refine lv_ior hx hb dX10_decree_95 ?_
                        refine lv_topi (fun x_22 ex_22 => ?_)
                        refine lv_istore (lv' := [(4, .int x_22), (6, .int x_8), (5, .int x_11), (0, .ref (A 60 0)), (1, .int z1), (2, .int z2), (3, .int z3)]) hx hb dX10_decree_96 hl (by decide) rfl (fun ls hl => ?_)
                        exact hj_98_24 x_11 x_22 _ _ _  hw (lv_sub hl [2, 1, 0, 3, 4, 5, 6] rfl)
                      · obtain ⟨x_20, ex_20⟩ : ∃ z : Int32, z = x_11 + 1 := ⟨_, rfl⟩
                        refine lv_iinc (v := x_20) (lv' := [(5, .int x_20), (6, .int x_8), (4, .int x_12), (0, .ref (A 60 0)), (1, .int z1), (2, .int z2), (3, .int z3)]) hx hb dX10_decree_78 hl (k := 1) rfl (by rw [ex_20]; rfl) (by decide) rfl (fun ls hl => ?_)
                        refine lv_goto (tgt := 98) hx hb dX10_decree_81 (by decide) ?_
                        exact hj_98_24 x_20 x_12 _ _ _  hw (lv_sub hl [0, 1, 2, 3, 4, 5, 6] rfl)
              exact hl_45_12 ((8 - 0 : Int).toNat + 1) 0 0 0 _ _ _ (Nat.lt_succ_self _) (by have lt0 : (0 : Int32).toInt = 0 := (by decide); first | omega | decide) (by have lt0 : (0 : Int32).toInt = 0 := (by decide); first | omega | decide) hw (lv_sub hl [0, 1, 2, 3, 4, 5, 6] rfl)
            · exact hj_34_7  _ _ _  hw (lv_sub hl [0, 1, 2, 3] rfl)
set_option maxHeartbeats 4000000 in
set_option maxRecDepth 100000 in
theorem s_X10_coup (l : Launch) (D : va_G) (A : Nat → Nat → Nat) (cy : Nat → ClassId) (hJ : ti_inj ti_LM A) (M : ti_M) (hI : mI Tm M) (hF : mF Tm M) : ti_Ki l yX10_coup cX10_coup 4 (some .int) 5 ti_LM D A cy M [.ref (A 60 0)] (fun r M2 => mF Tm M2 ∧ tI M2 60 2 = tI M 60 2 ∧ lw M2 M) := by
  refine ti_eI yp_X10_coup hJ ti_LM_nd (Nat.le_of_ble_eq_true rfl) ?_
  intro p e s m args below meth c Q H0 C hQ hw ls hl
  have hx := C.1
  have hb := C.2.1
  have hl : lv_has ls 4 [(0, .ref (A 60 0))] := hl
  have hL : mL M := hF.2.1
  have hC0 : mC M 0 := hF.2.2.1.1
  have hP0 : mP M 0 := hF.2.2.1.2
  refine lv_aload_n hx hb dX10_coup_0 rfl (lv_at hl 0 rfl) ?_
  refine lv_iconst (v := 0) hx hb dX10_coup_1 (by decide) ?_
  refine ti_putI (ci := 10) (k := 0) (N := 67) (T := TX10) C hw iw_10 tyX10 tyX10_ok nmX10 rfl ob_60 (by decide) (by decide) fl_X10_154 rfl rfl rfl rfl (fn_10 A _) fs_10_0 dX10_coup_2 (fun H locs hw => ?_)
  obtain ⟨M_1, hM_1⟩ : ∃ z : ti_M, z = uI M 60 0 0 := ⟨_, rfl⟩
  have hw := hw.to hM_1.symm
  have iM_1 : mI Tm M_1 := mI_uI hI hM_1 (by decide) (by decide) trivial
  refine lv_aload_n hx hb dX10_coup_5 rfl (lv_at hl 0 rfl) ?_
  refine ti_get (ci := 10) (k := 38) (N := 67) (T := TX10) (v := .ref (A 60 39)) C hw iw_10 rfl ob_60 (by decide) (by decide) fl_X10_81 rfl rfl dX10_coup_6 ?_
  refine lv_iconst (v := 0) hx hb dX10_coup_9 (by decide) ?_
  refine ti_iald (ci := 10) (k := 38) (n := 23) C hw ob_60 (by decide) (fun _ _ => rfl) (by unfold vp_in; decide) dX10_coup_10 ?_
  refine lv_topi (fun x_2 ex_2 => ?_)
  have yx_2 : tY M_1 60 38 0 = x_2 := ((congrArg _ (by decide)).symm.trans ex_2.symm)
  have bx_2 : 0 ≤ x_2.toInt ∧ x_2.toInt ≤ 8 := mI_ry (k := 38) (i := 0) iM_1 yx_2.symm
  have zx_2 : (tY M_1 60 38 0).toInt = x_2.toInt := by rw [yx_2]
  have wx_2 : tY M 60 38 0 = x_2 := ((cg (tY_uIE hM_1) 0)).symm.trans yx_2
  have zwx_2 : (tY M 60 38 0).toInt = x_2.toInt := by rw [wx_2]
  refine sb_if_ne (tgt := 16) hx hb rfl dX10_coup_11 (by decide) (fun c_11_2 => ?_) (fun c_11_2 => ?_)
  · refine lv_aload_n hx hb dX10_coup_16 rfl (lv_at hl 0 rfl) ?_
    refine lv_iconst (v := 0) hx hb dX10_coup_17 (by decide) ?_
    refine lv_aload_n hx hb dX10_coup_18 rfl (lv_at hl 0 rfl) ?_
    refine ti_get (ci := 10) (k := 34) (N := 67) (T := TX10) (v := .ref (A 60 35)) C hw iw_10 rfl ob_60 (by decide) (by decide) fl_X10_69 rfl rfl dX10_coup_19 ?_
    refine lv_iconst (v := 0) hx hb dX10_coup_22 (by decide) ?_
    refine ti_iald (ci := 10) (k := 34) (n := 23) C hw ob_60 (by decide) (fun _ _ => rfl) (by unfold vp_in; decide) dX10_coup_23 ?_
    refine lv_topi (fun x_4 ex_4 => ?_)
    have yx_4 : tY M_1 60 34 0 = x_4 := ((congrArg _ (by decide)).symm.trans ex_4.symm)
    have bx_4 : 0 ≤ x_4.toInt ∧ x_4.toInt ≤ 120 := mI_ry (k := 34) (i := 0) iM_1 yx_4.symm (by decide)
    have zx_4 : (tY M_1 60 34 0).toInt = x_4.toInt := by rw [yx_4]
    have wx_4 : tY M 60 34 0 = x_4 := ((cg (tY_uIE hM_1) 0)).symm.trans yx_4
    have zwx_4 : (tY M 60 34 0).toInt = x_4.toInt := by rw [wx_4]
    refine ti_callVi (ci := 10) (av := [.int 0, .int x_4]) C hw (s_X10_needOf_0 l D A cy hJ M_1 iM_1 (mL_lw (lk_I hM_1 (by decide)).1 hL) x_4) ⟨ml_X10_371, ym_X10_needOf, yv_X10_needOf, yi_X10_needOf, yc_X10_needOf⟩ yd_X10_needOf ob_60 (by decide) rfl rfl hl.1 (Nat.le_of_ble_eq_true rfl) ⟨by decide, by decide⟩ ⟨Nat.zero_le _, Nat.zero_le _⟩ dX10_coup_24 (fun r_5 M_6 H locs hp_6 hw => ?_)
    obtain ⟨iM_6, q_7, q_8⟩ := hp_6
    refine lv_istore_n (lv' := [(1, .int r_5), (0, .ref (A 60 0))]) hx hb dX10_coup_27 rfl hl (by decide) rfl (fun ls hl => ?_)
    refine lv_aload_n hx hb dX10_coup_28 rfl (lv_at hl 1 rfl) ?_
    refine lv_iconst (v := 0) hx hb dX10_coup_29 (by decide) ?_
    refine ti_callVi (ci := 10) (av := [.int 0]) C hw (s_X10_isGuarded_0 l D A cy hJ M_6 iM_6 ) ⟨ml_X10_374, ym_X10_isGuarded, yv_X10_isGuarded, yi_X10_isGuarded, yc_X10_isGuarded⟩ yd_X10_isGuarded ob_60 (by decide) rfl rfl hl.1 (Nat.le_of_ble_eq_true rfl) ⟨by decide, by decide⟩ ⟨Nat.zero_le _, Nat.zero_le _⟩ dX10_coup_30 (fun r_9 M_10 H locs hp_10 hw => ?_)
    obtain ⟨hm, b0r_9, b1r_9⟩ := hp_10
    have hw := hw.to hm
    have hj_58_15 : ∀  (H : Heap) (locs : List Loc) (ls : Array Slot), ti_H ti_LM D A cy H0 M_6 H locs → lv_has ls 4 [(1, .int r_5), (0, .ref (A 60 0))] → W p l e (ti_rm 5) s m args below meth c H locs 0 0 Q (F0 m 58 ls []) := by
      intro  H locs ls  hw hl
      refine lv_bipush (v := (-2)) hx hb dX10_coup_58 (by decide) ?_
      exact hQ _ _ _ _ _ _ hw rfl (⟨mF_qw hF iM_6 (qw.trans q_7 (qw_I hM_1 (by decide))), (qw.trans q_7 (qw_I hM_1 (by decide))).2.1.1, (qw.trans q_7 (qw_I hM_1 (by decide))).1⟩) dX10_coup_60
    refine sb_if_ne (tgt := 58) hx hb rfl dX10_coup_33 (by decide) (fun c_33_10 => ?_) (fun c_33_10 => ?_)
    · exact hj_58_15  _ _ _  hw (lv_sub hl [0, 1] rfl)
    · refine lv_iload_n hx hb dX10_coup_36 rfl (lv_at hl 0 rfl) ?_
      refine lv_aload_n hx hb dX10_coup_37 rfl (lv_at hl 1 rfl) ?_
      refine ti_get (ci := 10) (k := 3) (N := 67) (T := TX10) (v := .ref (A 60 4)) C hw iw_10 rfl ob_60 (by decide) (by decide) fl_X10_13 rfl rfl dX10_coup_38 ?_
      refine lv_iconst (v := 4) hx hb dX10_coup_41 (by decide) ?_
      refine ti_iald (ci := 10) (k := 3) (n := 22) C hw ob_60 (by decide) (fun _ _ => rfl) (by unfold vp_in; decide) dX10_coup_42 ?_
      refine lv_topi (fun x_12 ex_12 => ?_)
      have yx_12 : tY M_6 60 3 4 = x_12 := ((congrArg _ (by decide)).symm.trans ex_12.symm)
      have zx_12 : (tY M_6 60 3 4).toInt = x_12.toInt := by rw [yx_12]
      have wx_12 : tY M 60 3 4 = x_12 := (((cg (tY_fr q_8) 4).trans (cg (tY_uIE hM_1) 4))).symm.trans yx_12
      have zwx_12 : (tY M 60 3 4).toInt = x_12.toInt := by rw [wx_12]
      refine sb_icmp_gt (tgt := 58) hx hb rfl rfl dX10_coup_43 (by decide) (fun c_43_12 => ?_) (fun c_43_12 => ?_)
      · exact hj_58_15  _ _ _  hw (lv_sub hl [0, 1] rfl)
      · refine lv_iload_n hx hb dX10_coup_46 rfl (lv_at hl 0 rfl) ?_
        refine lv_aload_n hx hb dX10_coup_47 rfl (lv_at hl 1 rfl) ?_
        refine ti_get (ci := 10) (k := 38) (N := 67) (T := TX10) (v := .ref (A 60 39)) C hw iw_10 rfl ob_60 (by decide) (by decide) fl_X10_81 rfl rfl dX10_coup_48 ?_
        refine lv_iconst (v := 0) hx hb dX10_coup_51 (by decide) ?_
        refine ti_iald (ci := 10) (k := 38) (n := 23) C hw ob_60 (by decide) (fun _ _ => rfl) (by unfold vp_in; decide) dX10_coup_52 ?_
        refine ti_top (y := x_2) ((congrArg _ (by decide)).trans ((cg (tY_fr q_8) 0).trans ((cg (tY_uIE hM_1) 0).trans wx_2))) ?_
        refine lv_iconst (v := 1) hx hb dX10_coup_53 (by decide) ?_
        refine lv_isub hx hb dX10_coup_54 ?_
        refine lv_topi (fun x_14 ex_14 => ?_)
        have tx_14 : x_14.toInt = x_2.toInt - 1 := i_sub ex_14 rfl (by decide : (1 : Int32).toInt = 1) (by omega) (by omega)
        refine sb_icmp_le (tgt := 61) hx hb rfl rfl dX10_coup_55 (by decide) (fun c_55_14 => ?_) (fun c_55_14 => ?_)
        · refine lv_iconst (v := 0) hx hb dX10_coup_61 (by decide) ?_
          refine lv_istore_n (lv' := [(2, .int 0), (1, .int r_5), (0, .ref (A 60 0))]) hx hb dX10_coup_62 rfl hl (by decide) rfl (fun ls hl => ?_)
          refine lv_iconst (v := 1) hx hb dX10_coup_63 (by decide) ?_
          refine lv_istore_n (lv' := [(3, .int 1), (2, .int 0), (1, .int r_5), (0, .ref (A 60 0))]) hx hb dX10_coup_64 rfl hl (by decide) rfl (fun ls hl => ?_)
          have hl_65_19 : ∀ (n_20 : Nat) (x_16 : Int32) (x_19 : Int32) (H : Heap) (locs : List Loc) (ls : Array Slot), (8 - x_16.toInt : Int).toNat < n_20 → (1 ≤ x_16.toInt) → (x_16.toInt ≤ 8) → ti_H ti_LM D A cy H0 M_6 H locs → lv_has ls 4 [(3, .int x_16), (2, .int x_19), (1, .int r_5), (0, .ref (A 60 0))] → W p l e (ti_rm 5) s m args below meth c H locs 0 0 Q (F0 m 65 ls []) := by
            intro n_20
            induction n_20 with
            | zero => intro x_16 x_19 H locs ls hf_20; exact absurd hf_20 (Nat.not_lt_zero _)
            | succ n_20 ih_20 =>
              intro x_16 x_19 H locs ls hf_20 b_17 b_18 hw hl
              refine lv_iload_n hx hb dX10_coup_65 rfl (lv_at hl 0 rfl) ?_
              refine lv_iload_n hx hb dX10_coup_66 rfl (lv_at hl 2 rfl) ?_
              refine sb_icmp_gt (tgt := 87) hx hb rfl rfl dX10_coup_67 (by decide) (fun c_67_20 => ?_) (fun c_67_20 => ?_)
              · refine lv_iload_n hx hb dX10_coup_87 rfl (lv_at hl 1 rfl) ?_
                exact hQ _ _ _ _ _ _ hw rfl (⟨mF_qw hF iM_6 (qw.trans q_7 (qw_I hM_1 (by decide))), (qw.trans q_7 (qw_I hM_1 (by decide))).2.1.1, (qw.trans q_7 (qw_I hM_1 (by decide))).1⟩) dX10_coup_88
              · refine lv_iload_n hx hb dX10_coup_70 rfl (lv_at hl 1 rfl) ?_
                refine lv_iconst (v := 1) hx hb dX10_coup_71 (by decide) ?_
                refine lv_aload_n hx hb dX10_coup_72 rfl (lv_at hl 3 rfl) ?_
                refine ti_get (ci := 10) (k := 39) (N := 67) (T := TX10) (v := .ref (A 60 40)) C hw iw_10 rfl ob_60 (by decide) (by decide) fl_X10_84 rfl rfl dX10_coup_73 ?_
                refine lv_iload_n hx hb dX10_coup_76 rfl (lv_at hl 0 rfl) ?_
                refine ti_iald (ci := 10) (k := 39) (n := 184) C hw ob_60 (by decide) (fun _ _ => rfl) (vp_in_iff.mpr (by omega)) dX10_coup_77 ?_
                refine lv_topi (fun x_22 ex_22 => ?_)
                have yx_22 : tY M_6 60 39 x_16.toNatClampNeg = x_22 := (ex_22.symm)
                have bx_22 : 0 ≤ x_22.toInt ∧ x_22.toInt ≤ 7 := mI_ry (k := 39) (i := x_16.toNatClampNeg) iM_6 yx_22.symm
                have wx_22 : tY M 60 39 x_16.toNatClampNeg = x_22 := (((cg (tY_fr q_8) x_16.toNatClampNeg).trans (cg (tY_uIE hM_1) x_16.toNatClampNeg))).symm.trans yx_22
                refine lv_ishl hx hb dX10_coup_78 ?_
                refine lv_topi (fun x_23 ex_23 => ?_)
                refine lv_ior hx hb dX10_coup_79 ?_
                refine lv_topi (fun x_24 ex_24 => ?_)
                refine lv_istore_n (lv' := [(2, .int x_24), (3, .int x_16), (1, .int r_5), (0, .ref (A 60 0))]) hx hb dX10_coup_80 rfl hl (by decide) rfl (fun ls hl => ?_)
                obtain ⟨x_25, ex_25⟩ : ∃ z : Int32, z = x_16 + 1 := ⟨_, rfl⟩
                have tx_25 : x_25.toInt = x_16.toInt + 1 := i_add ex_25 rfl (by decide) (by omega) (by omega)
                refine lv_iinc (v := x_25) (lv' := [(3, .int x_25), (2, .int x_24), (1, .int r_5), (0, .ref (A 60 0))]) hx hb dX10_coup_81 hl (k := 1) rfl (by rw [ex_25]; rfl) (by decide) rfl (fun ls hl => ?_)
                refine lv_goto (tgt := 65) hx hb dX10_coup_84 (by decide) ?_
                exact ih_20 x_25 x_24 _ _ _ (by omega) (by first | omega | decide) (by first | omega | decide) hw (lv_sub hl [0, 1, 2, 3] rfl)
          exact hl_65_19 ((8 - 1 : Int).toNat + 1) 1 0 _ _ _ (Nat.lt_succ_self _) (by have lt0 : (0 : Int32).toInt = 0 := (by decide); have lt1 : (1 : Int32).toInt = 1 := (by decide); first | omega | decide) (by have lt0 : (0 : Int32).toInt = 0 := (by decide); have lt1 : (1 : Int32).toInt = 1 := (by decide); first | omega | decide) hw (lv_sub hl [0, 1, 2, 3] rfl)
        · exact hj_58_15  _ _ _  hw (lv_sub hl [0, 1] rfl)
  · refine lv_iconst (v := (-1)) hx hb dX10_coup_14 (by decide) ?_
    exact hQ _ _ _ _ _ _ hw rfl (⟨mF_qw hF iM_1 (qw_I hM_1 (by decide)), (qw_I hM_1 (by decide)).2.1.1, (qw_I hM_1 (by decide)).1⟩) dX10_coup_15
set_option maxHeartbeats 4000000 in
set_option maxRecDepth 100000 in
theorem s_X10_howMany_0 (l : Launch) (D : va_G) (A : Nat → Nat → Nat) (cy : Nat → ClassId) (hJ : ti_inj ti_LM A) (M : ti_M) (hI : mI Tm M)  (a : Int32) : ti_Ki l yX10_howMany cX10_howMany 5 (some .int) 0 ti_LM D A cy M [.ref (A 60 0), .int 0, .int a] (fun r M2 => M2 = M) := by
  refine ti_eI yp_X10_howMany hJ ti_LM_nd (Nat.le_of_ble_eq_true rfl) ?_
  intro p e s m args below meth c Q H0 C hQ hw ls hl
  have hx := C.1
  have hb := C.2.1
  have hl : lv_has ls 5 [(0, .ref (A 60 0)), (1, .int 0), (2, .int a)] := hl
  refine lv_iconst (v := 0) hx hb dX10_howMany_0 (by decide) ?_
  refine lv_istore_n (lv' := [(3, .int 0), (0, .ref (A 60 0)), (1, .int 0), (2, .int a)]) hx hb dX10_howMany_1 rfl hl (by decide) rfl (fun ls hl => ?_)
  refine lv_iconst (v := 0) hx hb dX10_howMany_2 (by decide) ?_
  refine lv_istore (lv' := [(4, .int 0), (3, .int 0), (0, .ref (A 60 0)), (1, .int 0), (2, .int a)]) hx hb dX10_howMany_3 hl (by decide) rfl (fun ls hl => ?_)
  have hl_5_4 : ∀ (n_5 : Nat) (x_1 : Int32) (x_4 : Int32) (H : Heap) (locs : List Loc) (ls : Array Slot), (8 - x_1.toInt : Int).toNat < n_5 → (0 ≤ x_1.toInt) → (x_1.toInt ≤ 8) → ti_H ti_LM D A cy H0 M H locs → lv_has ls 5 [(4, .int x_1), (3, .int x_4), (0, .ref (A 60 0)), (1, .int 0), (2, .int a)] → W p l e (ti_rm 0) s m args below meth c H locs 0 0 Q (F0 m 5 ls []) := by
    intro n_5
    induction n_5 with
    | zero => intro x_1 x_4 H locs ls hf_5; exact absurd hf_5 (Nat.not_lt_zero _)
    | succ n_5 ih_5 =>
      intro x_1 x_4 H locs ls hf_5 b_2 b_3 hw hl
      refine lv_iload hx hb dX10_howMany_5 (lv_at hl 0 rfl) ?_
      refine lv_aload_n hx hb dX10_howMany_7 rfl (lv_at hl 2 rfl) ?_
      refine ti_get (ci := 10) (k := 3) (N := 67) (T := TX10) (v := .ref (A 60 4)) C hw iw_10 rfl ob_60 (by decide) (by decide) fl_X10_13 rfl rfl dX10_howMany_8 ?_
      refine lv_iconst (v := 0) hx hb dX10_howMany_11 (by decide) ?_
      refine ti_iald (ci := 10) (k := 3) (n := 22) C hw ob_60 (by decide) (fun _ _ => rfl) (by unfold vp_in; decide) dX10_howMany_12 ?_
      refine lv_topi (fun x_6 ex_6 => ?_)
      have yx_6 : tY M 60 3 0 = x_6 := ((congrArg _ (by decide)).symm.trans ex_6.symm)
      have bx_6 : 0 ≤ x_6.toInt ∧ x_6.toInt ≤ 8 := mI_rn (i := 0) hI yx_6.symm (fun _ h => h)
      have zx_6 : (tY M 60 3 0).toInt = x_6.toInt := by rw [yx_6]
      refine sb_icmp_ge (tgt := 46) hx hb rfl rfl dX10_howMany_13 (by decide) (fun c_13_6 => ?_) (fun c_13_6 => ?_)
      · refine lv_iload_n hx hb dX10_howMany_46 rfl (lv_at hl 1 rfl) ?_
        exact hQ _ _ _ _ _ _ hw rfl rfl dX10_howMany_47
      · refine lv_iload_n hx hb dX10_howMany_16 rfl (lv_at hl 1 rfl) ?_
        refine lv_aload_n hx hb dX10_howMany_17 rfl (lv_at hl 2 rfl) ?_
        refine ti_get (ci := 10) (k := 40) (N := 67) (T := TX10) (v := .ref (A 60 41)) C hw iw_10 rfl ob_60 (by decide) (by decide) fl_X10_87 rfl rfl dX10_howMany_18 ?_
        refine lv_bipush (v := 8) hx hb dX10_howMany_21 (by decide) ?_
        refine lv_iload_n hx hb dX10_howMany_23 rfl (lv_at hl 3 rfl) ?_
        refine lv_imul hx hb dX10_howMany_24 ?_
        refine ti_top (y := 0) (by decide) ?_
        refine lv_iload hx hb dX10_howMany_25 (lv_at hl 0 rfl) ?_
        refine lv_iadd hx hb dX10_howMany_27 ?_
        refine lv_topi (fun x_8 ex_8 => ?_)
        have tx_8 : x_8.toInt = 0 + x_1.toInt := i_add ex_8 (by decide : (0 : Int32).toInt = 0) rfl (by omega) (by omega)
        refine ti_iald (ci := 10) (k := 40) (n := 184) C hw ob_60 (by decide) (fun _ _ => rfl) (vp_in_iff.mpr (by omega)) dX10_howMany_28 ?_
        refine lv_topi (fun x_9 ex_9 => ?_)
        have yx_9 : tY M 60 40 x_8.toNatClampNeg = x_9 := (ex_9.symm)
        have zx_9 : (tY M 60 40 x_8.toNatClampNeg).toInt = x_9.toInt := by rw [yx_9]
        refine lv_iload_n hx hb dX10_howMany_29 rfl (lv_at hl 4 rfl) ?_
        have hj_38_13 : ∀ (x_11 : Int32) (H : Heap) (locs : List Loc) (ls : Array Slot), (0 ≤ x_11.toInt) → (x_11.toInt ≤ 1) → ti_H ti_LM D A cy H0 M H locs → lv_has ls 5 [(4, .int x_1), (3, .int x_4), (0, .ref (A 60 0)), (1, .int 0), (2, .int a)] → W p l e (ti_rm 0) s m args below meth c H locs 0 0 Q (F0 m 38 ls [.int x_11, .int x_4]) := by
          intro x_11 H locs ls b_12 b_13 hw hl
          refine lv_iadd hx hb dX10_howMany_38 ?_
          refine lv_topi (fun x_14 ex_14 => ?_)
          refine lv_istore_n (lv' := [(3, .int x_14), (4, .int x_1), (0, .ref (A 60 0)), (1, .int 0), (2, .int a)]) hx hb dX10_howMany_39 rfl hl (by decide) rfl (fun ls hl => ?_)
          obtain ⟨x_15, ex_15⟩ : ∃ z : Int32, z = x_1 + 1 := ⟨_, rfl⟩
          have tx_15 : x_15.toInt = x_1.toInt + 1 := i_add ex_15 rfl (by decide) (by omega) (by omega)
          refine lv_iinc (v := x_15) (lv' := [(4, .int x_15), (3, .int x_14), (0, .ref (A 60 0)), (1, .int 0), (2, .int a)]) hx hb dX10_howMany_40 hl (k := 1) rfl (by rw [ex_15]; rfl) (by decide) rfl (fun ls hl => ?_)
          refine lv_goto (tgt := 5) hx hb dX10_howMany_43 (by decide) ?_
          exact ih_5 x_15 x_14 _ _ _ (by omega) (by first | omega | decide) (by first | omega | decide) hw (lv_sub hl [0, 1, 2, 3, 4] rfl)
        refine sb_icmp_ne (tgt := 37) hx hb rfl rfl dX10_howMany_30 (by decide) (fun c_30_9 => ?_) (fun c_30_9 => ?_)
        · refine lv_iconst (v := 0) hx hb dX10_howMany_37 (by decide) ?_
          exact hj_38_13 0 _ _ _ (by have lt0 : (0 : Int32).toInt = 0 := (by decide); first | omega | decide) (by have lt0 : (0 : Int32).toInt = 0 := (by decide); first | omega | decide) hw (lv_sub hl [0, 1, 2, 3, 4] rfl)
        · refine lv_iconst (v := 1) hx hb dX10_howMany_33 (by decide) ?_
          refine lv_goto (tgt := 38) hx hb dX10_howMany_34 (by decide) ?_
          exact hj_38_13 1 _ _ _ (by have lt0 : (1 : Int32).toInt = 1 := (by decide); first | omega | decide) (by have lt0 : (1 : Int32).toInt = 1 := (by decide); first | omega | decide) hw (lv_sub hl [0, 1, 2, 3, 4] rfl)
  exact hl_5_4 ((8 - 0 : Int).toNat + 1) 0 0 _ _ _ (Nat.lt_succ_self _) (by have lt0 : (0 : Int32).toInt = 0 := (by decide); first | omega | decide) (by have lt0 : (0 : Int32).toInt = 0 := (by decide); first | omega | decide) hw (lv_sub hl [0, 1, 2, 3, 4] rfl)
set_option maxHeartbeats 4000000 in
set_option maxRecDepth 100000 in
theorem s_X10_howMany_1 (l : Launch) (D : va_G) (A : Nat → Nat → Nat) (cy : Nat → ClassId) (hJ : ti_inj ti_LM A) (M : ti_M) (hI : mI Tm M)  (a : Int32) : ti_Ki l yX10_howMany cX10_howMany 5 (some .int) 0 ti_LM D A cy M [.ref (A 60 0), .int 1, .int a] (fun r M2 => M2 = M) := by
  refine ti_eI yp_X10_howMany hJ ti_LM_nd (Nat.le_of_ble_eq_true rfl) ?_
  intro p e s m args below meth c Q H0 C hQ hw ls hl
  have hx := C.1
  have hb := C.2.1
  have hl : lv_has ls 5 [(0, .ref (A 60 0)), (1, .int 1), (2, .int a)] := hl
  refine lv_iconst (v := 0) hx hb dX10_howMany_0 (by decide) ?_
  refine lv_istore_n (lv' := [(3, .int 0), (0, .ref (A 60 0)), (1, .int 1), (2, .int a)]) hx hb dX10_howMany_1 rfl hl (by decide) rfl (fun ls hl => ?_)
  refine lv_iconst (v := 0) hx hb dX10_howMany_2 (by decide) ?_
  refine lv_istore (lv' := [(4, .int 0), (3, .int 0), (0, .ref (A 60 0)), (1, .int 1), (2, .int a)]) hx hb dX10_howMany_3 hl (by decide) rfl (fun ls hl => ?_)
  have hl_5_4 : ∀ (n_5 : Nat) (x_1 : Int32) (x_4 : Int32) (H : Heap) (locs : List Loc) (ls : Array Slot), (8 - x_1.toInt : Int).toNat < n_5 → (0 ≤ x_1.toInt) → (x_1.toInt ≤ 8) → ti_H ti_LM D A cy H0 M H locs → lv_has ls 5 [(4, .int x_1), (3, .int x_4), (0, .ref (A 60 0)), (1, .int 1), (2, .int a)] → W p l e (ti_rm 0) s m args below meth c H locs 0 0 Q (F0 m 5 ls []) := by
    intro n_5
    induction n_5 with
    | zero => intro x_1 x_4 H locs ls hf_5; exact absurd hf_5 (Nat.not_lt_zero _)
    | succ n_5 ih_5 =>
      intro x_1 x_4 H locs ls hf_5 b_2 b_3 hw hl
      refine lv_iload hx hb dX10_howMany_5 (lv_at hl 0 rfl) ?_
      refine lv_aload_n hx hb dX10_howMany_7 rfl (lv_at hl 2 rfl) ?_
      refine ti_get (ci := 10) (k := 3) (N := 67) (T := TX10) (v := .ref (A 60 4)) C hw iw_10 rfl ob_60 (by decide) (by decide) fl_X10_13 rfl rfl dX10_howMany_8 ?_
      refine lv_iconst (v := 0) hx hb dX10_howMany_11 (by decide) ?_
      refine ti_iald (ci := 10) (k := 3) (n := 22) C hw ob_60 (by decide) (fun _ _ => rfl) (by unfold vp_in; decide) dX10_howMany_12 ?_
      refine lv_topi (fun x_6 ex_6 => ?_)
      have yx_6 : tY M 60 3 0 = x_6 := ((congrArg _ (by decide)).symm.trans ex_6.symm)
      have bx_6 : 0 ≤ x_6.toInt ∧ x_6.toInt ≤ 8 := mI_rn (i := 0) hI yx_6.symm (fun _ h => h)
      have zx_6 : (tY M 60 3 0).toInt = x_6.toInt := by rw [yx_6]
      refine sb_icmp_ge (tgt := 46) hx hb rfl rfl dX10_howMany_13 (by decide) (fun c_13_6 => ?_) (fun c_13_6 => ?_)
      · refine lv_iload_n hx hb dX10_howMany_46 rfl (lv_at hl 1 rfl) ?_
        exact hQ _ _ _ _ _ _ hw rfl rfl dX10_howMany_47
      · refine lv_iload_n hx hb dX10_howMany_16 rfl (lv_at hl 1 rfl) ?_
        refine lv_aload_n hx hb dX10_howMany_17 rfl (lv_at hl 2 rfl) ?_
        refine ti_get (ci := 10) (k := 40) (N := 67) (T := TX10) (v := .ref (A 60 41)) C hw iw_10 rfl ob_60 (by decide) (by decide) fl_X10_87 rfl rfl dX10_howMany_18 ?_
        refine lv_bipush (v := 8) hx hb dX10_howMany_21 (by decide) ?_
        refine lv_iload_n hx hb dX10_howMany_23 rfl (lv_at hl 3 rfl) ?_
        refine lv_imul hx hb dX10_howMany_24 ?_
        refine ti_top (y := 8) (by decide) ?_
        refine lv_iload hx hb dX10_howMany_25 (lv_at hl 0 rfl) ?_
        refine lv_iadd hx hb dX10_howMany_27 ?_
        refine lv_topi (fun x_8 ex_8 => ?_)
        have tx_8 : x_8.toInt = 8 + x_1.toInt := i_add ex_8 (by decide : (8 : Int32).toInt = 8) rfl (by omega) (by omega)
        refine ti_iald (ci := 10) (k := 40) (n := 184) C hw ob_60 (by decide) (fun _ _ => rfl) (vp_in_iff.mpr (by omega)) dX10_howMany_28 ?_
        refine lv_topi (fun x_9 ex_9 => ?_)
        have yx_9 : tY M 60 40 x_8.toNatClampNeg = x_9 := (ex_9.symm)
        have zx_9 : (tY M 60 40 x_8.toNatClampNeg).toInt = x_9.toInt := by rw [yx_9]
        refine lv_iload_n hx hb dX10_howMany_29 rfl (lv_at hl 4 rfl) ?_
        have hj_38_13 : ∀ (x_11 : Int32) (H : Heap) (locs : List Loc) (ls : Array Slot), (0 ≤ x_11.toInt) → (x_11.toInt ≤ 1) → ti_H ti_LM D A cy H0 M H locs → lv_has ls 5 [(4, .int x_1), (3, .int x_4), (0, .ref (A 60 0)), (1, .int 1), (2, .int a)] → W p l e (ti_rm 0) s m args below meth c H locs 0 0 Q (F0 m 38 ls [.int x_11, .int x_4]) := by
          intro x_11 H locs ls b_12 b_13 hw hl
          refine lv_iadd hx hb dX10_howMany_38 ?_
          refine lv_topi (fun x_14 ex_14 => ?_)
          refine lv_istore_n (lv' := [(3, .int x_14), (4, .int x_1), (0, .ref (A 60 0)), (1, .int 1), (2, .int a)]) hx hb dX10_howMany_39 rfl hl (by decide) rfl (fun ls hl => ?_)
          obtain ⟨x_15, ex_15⟩ : ∃ z : Int32, z = x_1 + 1 := ⟨_, rfl⟩
          have tx_15 : x_15.toInt = x_1.toInt + 1 := i_add ex_15 rfl (by decide) (by omega) (by omega)
          refine lv_iinc (v := x_15) (lv' := [(4, .int x_15), (3, .int x_14), (0, .ref (A 60 0)), (1, .int 1), (2, .int a)]) hx hb dX10_howMany_40 hl (k := 1) rfl (by rw [ex_15]; rfl) (by decide) rfl (fun ls hl => ?_)
          refine lv_goto (tgt := 5) hx hb dX10_howMany_43 (by decide) ?_
          exact ih_5 x_15 x_14 _ _ _ (by omega) (by first | omega | decide) (by first | omega | decide) hw (lv_sub hl [0, 1, 2, 3, 4] rfl)
        refine sb_icmp_ne (tgt := 37) hx hb rfl rfl dX10_howMany_30 (by decide) (fun c_30_9 => ?_) (fun c_30_9 => ?_)
        · refine lv_iconst (v := 0) hx hb dX10_howMany_37 (by decide) ?_
          exact hj_38_13 0 _ _ _ (by have lt0 : (0 : Int32).toInt = 0 := (by decide); first | omega | decide) (by have lt0 : (0 : Int32).toInt = 0 := (by decide); first | omega | decide) hw (lv_sub hl [0, 1, 2, 3, 4] rfl)
        · refine lv_iconst (v := 1) hx hb dX10_howMany_33 (by decide) ?_
          refine lv_goto (tgt := 38) hx hb dX10_howMany_34 (by decide) ?_
          exact hj_38_13 1 _ _ _ (by have lt0 : (1 : Int32).toInt = 1 := (by decide); first | omega | decide) (by have lt0 : (1 : Int32).toInt = 1 := (by decide); first | omega | decide) hw (lv_sub hl [0, 1, 2, 3, 4] rfl)
  exact hl_5_4 ((8 - 0 : Int).toNat + 1) 0 0 _ _ _ (Nat.lt_succ_self _) (by have lt0 : (0 : Int32).toInt = 0 := (by decide); first | omega | decide) (by have lt0 : (0 : Int32).toInt = 0 := (by decide); first | omega | decide) hw (lv_sub hl [0, 1, 2, 3, 4] rfl)
set_option maxHeartbeats 4000000 in
set_option maxRecDepth 100000 in
theorem s_X10_servedMany_0 (l : Launch) (D : va_G) (A : Nat → Nat → Nat) (cy : Nat → ClassId) (hJ : ti_inj ti_LM A) (M : ti_M) (hI : mI Tm M)  : ti_Ki l yX10_servedMany cX10_servedMany 2 (some .int) 1 ti_LM D A cy M [.ref (A 60 0), .int 0] (fun r M2 => M2 = M) := by
  refine ti_eI yp_X10_servedMany hJ ti_LM_nd (Nat.le_of_ble_eq_true rfl) ?_
  intro p e s m args below meth c Q H0 C hQ hw ls hl
  have hx := C.1
  have hb := C.2.1
  have hl : lv_has ls 2 [(0, .ref (A 60 0)), (1, .int 0)] := hl
  refine lv_aload_n hx hb dX10_servedMany_0 rfl (lv_at hl 0 rfl) ?_
  refine lv_iload_n hx hb dX10_servedMany_1 rfl (lv_at hl 1 rfl) ?_
  refine lv_iconst (v := 2) hx hb dX10_servedMany_2 (by decide) ?_
  refine ti_callVi (ci := 10) (av := [.int 0, .int 2]) C hw (s_X10_howMany_0 l D A cy hJ M hI 2) ⟨ml_X10_494, ym_X10_howMany, yv_X10_howMany, yi_X10_howMany, yc_X10_howMany⟩ yd_X10_howMany ob_60 (by decide) rfl rfl hl.1 (Nat.le_of_ble_eq_true rfl) ⟨by decide, by decide⟩ ⟨Nat.zero_le _, Nat.zero_le _⟩ dX10_servedMany_3 (fun r_1 M_2 H locs hp_2 hw => ?_)
  have hm := hp_2
  have hw := hw.to hm
  exact hQ _ _ _ _ _ _ hw rfl rfl dX10_servedMany_6
set_option maxHeartbeats 4000000 in
set_option maxRecDepth 100000 in
theorem s_X10_servedMany_1 (l : Launch) (D : va_G) (A : Nat → Nat → Nat) (cy : Nat → ClassId) (hJ : ti_inj ti_LM A) (M : ti_M) (hI : mI Tm M)  : ti_Ki l yX10_servedMany cX10_servedMany 2 (some .int) 1 ti_LM D A cy M [.ref (A 60 0), .int 1] (fun r M2 => M2 = M) := by
  refine ti_eI yp_X10_servedMany hJ ti_LM_nd (Nat.le_of_ble_eq_true rfl) ?_
  intro p e s m args below meth c Q H0 C hQ hw ls hl
  have hx := C.1
  have hb := C.2.1
  have hl : lv_has ls 2 [(0, .ref (A 60 0)), (1, .int 1)] := hl
  refine lv_aload_n hx hb dX10_servedMany_0 rfl (lv_at hl 0 rfl) ?_
  refine lv_iload_n hx hb dX10_servedMany_1 rfl (lv_at hl 1 rfl) ?_
  refine lv_iconst (v := 2) hx hb dX10_servedMany_2 (by decide) ?_
  refine ti_callVi (ci := 10) (av := [.int 1, .int 2]) C hw (s_X10_howMany_1 l D A cy hJ M hI 2) ⟨ml_X10_494, ym_X10_howMany, yv_X10_howMany, yi_X10_howMany, yc_X10_howMany⟩ yd_X10_howMany ob_60 (by decide) rfl rfl hl.1 (Nat.le_of_ble_eq_true rfl) ⟨by decide, by decide⟩ ⟨Nat.zero_le _, Nat.zero_le _⟩ dX10_servedMany_3 (fun r_1 M_2 H locs hp_2 hw => ?_)
  have hm := hp_2
  have hw := hw.to hm
  exact hQ _ _ _ _ _ _ hw rfl rfl dX10_servedMany_6
set_option maxHeartbeats 4000000 in
set_option maxRecDepth 100000 in
theorem s_X10_count (l : Launch) (D : va_G) (A : Nat → Nat → Nat) (cy : Nat → ClassId) (hJ : ti_inj ti_LM A) (M : ti_M) (hI : mI Tm M) (hF : mF Tm M) (z1 : Int32) : ti_Ki l yX10_count cX10_count 4 (some .int) 2 ti_LM D A cy M [.ref (A 60 0), .int z1] (fun r M2 => mF Tm M2 ∧ tI M2 60 2 = tI M 60 2 ∧ lw M2 M) := by
  refine ti_eI yp_X10_count hJ ti_LM_nd (Nat.le_of_ble_eq_true rfl) ?_
  intro p e s m args below meth c Q H0 C hQ hw ls hl
  have hx := C.1
  have hb := C.2.1
  have hl : lv_has ls 4 [(0, .ref (A 60 0)), (1, .int z1)] := hl
  have hL : mL M := hF.2.1
  have hC0 : mC M 0 := hF.2.2.1.1
  have hP0 : mP M 0 := hF.2.2.1.2
  refine lv_aload_n hx hb dX10_count_0 rfl (lv_at hl 0 rfl) ?_
  refine lv_iconst (v := 0) hx hb dX10_count_1 (by decide) ?_
  refine ti_putI (ci := 10) (k := 0) (N := 67) (T := TX10) C hw iw_10 tyX10 tyX10_ok nmX10 rfl ob_60 (by decide) (by decide) fl_X10_154 rfl rfl rfl rfl (fn_10 A _) fs_10_0 dX10_count_2 (fun H locs hw => ?_)
  obtain ⟨M_1, hM_1⟩ : ∃ z : ti_M, z = uI M 60 0 0 := ⟨_, rfl⟩
  have hw := hw.to hM_1.symm
  have iM_1 : mI Tm M_1 := mI_uI hI hM_1 (by decide) (by decide) trivial
  refine lv_iconst (v := 0) hx hb dX10_count_5 (by decide) ?_
  refine lv_istore_n (lv' := [(2, .int 0), (0, .ref (A 60 0)), (1, .int z1)]) hx hb dX10_count_6 rfl hl (by decide) rfl (fun ls hl => ?_)
  refine lv_iload_n hx hb dX10_count_7 rfl (lv_at hl 2 rfl) ?_
  by_cases s_2_0 : z1 = 0
  · refine lv_tableIn (tgt := 84) (off := 76) hx hb dX10_count_8 (by rw [s_2_0]; decide) (by rw [s_2_0]; decide) (by rw [s_2_0]; decide) (by decide) ?_
    refine lv_aload_n hx hb dX10_count_84 rfl (lv_at hl 1 rfl) ?_
    refine ti_get (ci := 10) (k := 3) (N := 67) (T := TX10) (v := .ref (A 60 4)) C hw iw_10 rfl ob_60 (by decide) (by decide) fl_X10_13 rfl rfl dX10_count_85 ?_
    refine lv_iconst (v := 0) hx hb dX10_count_88 (by decide) ?_
    refine ti_iald (ci := 10) (k := 3) (n := 22) C hw ob_60 (by decide) (fun _ _ => rfl) (by unfold vp_in; decide) dX10_count_89 ?_
    refine lv_topi (fun x_3 ex_3 => ?_)
    have yx_3 : tY M_1 60 3 0 = x_3 := ((congrArg _ (by decide)).symm.trans ex_3.symm)
    have bx_3 : 0 ≤ x_3.toInt ∧ x_3.toInt ≤ 8 := mI_rn (i := 0) iM_1 yx_3.symm (fun _ h => h)
    have zx_3 : (tY M_1 60 3 0).toInt = x_3.toInt := by rw [yx_3]
    have wx_3 : tY M 60 3 0 = x_3 := ((cg (tY_uIE hM_1) 0)).symm.trans yx_3
    have zwx_3 : (tY M 60 3 0).toInt = x_3.toInt := by rw [wx_3]
    exact hQ _ _ _ _ _ _ hw rfl (⟨mF_qw hF iM_1 (qw_I hM_1 (by decide)), (qw_I hM_1 (by decide)).2.1.1, (qw_I hM_1 (by decide)).1⟩) dX10_count_90
  · by_cases s_2_1 : z1 = 1
    · refine lv_tableIn (tgt := 91) (off := 83) hx hb dX10_count_8 (by rw [s_2_1]; decide) (by rw [s_2_1]; decide) (by rw [s_2_1]; decide) (by decide) ?_
      refine lv_aload_n hx hb dX10_count_91 rfl (lv_at hl 1 rfl) ?_
      refine ti_get (ci := 10) (k := 3) (N := 67) (T := TX10) (v := .ref (A 60 4)) C hw iw_10 rfl ob_60 (by decide) (by decide) fl_X10_13 rfl rfl dX10_count_92 ?_
      refine lv_bipush (v := 7) hx hb dX10_count_95 (by decide) ?_
      refine ti_iald (ci := 10) (k := 3) (n := 22) C hw ob_60 (by decide) (fun _ _ => rfl) (by unfold vp_in; decide) dX10_count_97 ?_
      refine lv_topi (fun x_4 ex_4 => ?_)
      have yx_4 : tY M_1 60 3 7 = x_4 := ((congrArg _ (by decide)).symm.trans ex_4.symm)
      have bx_4 : 0 ≤ x_4.toInt ∧ x_4.toInt ≤ 64 := mI_rn (i := 7) iM_1 yx_4.symm (fun _ h => h)
      have zx_4 : (tY M_1 60 3 7).toInt = x_4.toInt := by rw [yx_4]
      have wx_4 : tY M 60 3 7 = x_4 := ((cg (tY_uIE hM_1) 7)).symm.trans yx_4
      have zwx_4 : (tY M 60 3 7).toInt = x_4.toInt := by rw [wx_4]
      exact hQ _ _ _ _ _ _ hw rfl (⟨mF_qw hF iM_1 (qw_I hM_1 (by decide)), (qw_I hM_1 (by decide)).2.1.1, (qw_I hM_1 (by decide)).1⟩) dX10_count_98
    · by_cases s_2_2 : z1 = 2
      · refine lv_tableIn (tgt := 99) (off := 91) hx hb dX10_count_8 (by rw [s_2_2]; decide) (by rw [s_2_2]; decide) (by rw [s_2_2]; decide) (by decide) ?_
        refine lv_aload_n hx hb dX10_count_99 rfl (lv_at hl 1 rfl) ?_
        refine ti_get (ci := 10) (k := 34) (N := 67) (T := TX10) (v := .ref (A 60 35)) C hw iw_10 rfl ob_60 (by decide) (by decide) fl_X10_69 rfl rfl dX10_count_100 ?_
        refine lv_iconst (v := 0) hx hb dX10_count_103 (by decide) ?_
        refine ti_iald (ci := 10) (k := 34) (n := 23) C hw ob_60 (by decide) (fun _ _ => rfl) (by unfold vp_in; decide) dX10_count_104 ?_
        refine lv_topi (fun x_5 ex_5 => ?_)
        have yx_5 : tY M_1 60 34 0 = x_5 := ((congrArg _ (by decide)).symm.trans ex_5.symm)
        have bx_5 : 0 ≤ x_5.toInt ∧ x_5.toInt ≤ 120 := mI_ry (k := 34) (i := 0) iM_1 yx_5.symm (by decide)
        have zx_5 : (tY M_1 60 34 0).toInt = x_5.toInt := by rw [yx_5]
        have wx_5 : tY M 60 34 0 = x_5 := ((cg (tY_uIE hM_1) 0)).symm.trans yx_5
        have zwx_5 : (tY M 60 34 0).toInt = x_5.toInt := by rw [wx_5]
        exact hQ _ _ _ _ _ _ hw rfl (⟨mF_qw hF iM_1 (qw_I hM_1 (by decide)), (qw_I hM_1 (by decide)).2.1.1, (qw_I hM_1 (by decide)).1⟩) dX10_count_105
      · by_cases s_2_3 : z1 = 3
        · refine lv_tableIn (tgt := 106) (off := 98) hx hb dX10_count_8 (by rw [s_2_3]; decide) (by rw [s_2_3]; decide) (by rw [s_2_3]; decide) (by decide) ?_
          refine lv_aload_n hx hb dX10_count_106 rfl (lv_at hl 1 rfl) ?_
          refine ti_get (ci := 10) (k := 38) (N := 67) (T := TX10) (v := .ref (A 60 39)) C hw iw_10 rfl ob_60 (by decide) (by decide) fl_X10_81 rfl rfl dX10_count_107 ?_
          refine lv_iconst (v := 0) hx hb dX10_count_110 (by decide) ?_
          refine ti_iald (ci := 10) (k := 38) (n := 23) C hw ob_60 (by decide) (fun _ _ => rfl) (by unfold vp_in; decide) dX10_count_111 ?_
          refine lv_topi (fun x_6 ex_6 => ?_)
          have yx_6 : tY M_1 60 38 0 = x_6 := ((congrArg _ (by decide)).symm.trans ex_6.symm)
          have bx_6 : 0 ≤ x_6.toInt ∧ x_6.toInt ≤ 8 := mI_ry (k := 38) (i := 0) iM_1 yx_6.symm
          have zx_6 : (tY M_1 60 38 0).toInt = x_6.toInt := by rw [yx_6]
          have wx_6 : tY M 60 38 0 = x_6 := ((cg (tY_uIE hM_1) 0)).symm.trans yx_6
          have zwx_6 : (tY M 60 38 0).toInt = x_6.toInt := by rw [wx_6]
          exact hQ _ _ _ _ _ _ hw rfl (⟨mF_qw hF iM_1 (qw_I hM_1 (by decide)), (qw_I hM_1 (by decide)).2.1.1, (qw_I hM_1 (by decide)).1⟩) dX10_count_112
        · by_cases s_2_4 : z1 = 4
          · refine lv_tableIn (tgt := 113) (off := 105) hx hb dX10_count_8 (by rw [s_2_4]; decide) (by rw [s_2_4]; decide) (by rw [s_2_4]; decide) (by decide) ?_
            refine lv_aload_n hx hb dX10_count_113 rfl (lv_at hl 1 rfl) ?_
            refine lv_iconst (v := 0) hx hb dX10_count_114 (by decide) ?_
            refine ti_callVi (ci := 10) (av := [.int 0]) C hw (s_X10_servedMany_0 l D A cy hJ M_1 iM_1 ) ⟨ml_X10_491, ym_X10_servedMany, yv_X10_servedMany, yi_X10_servedMany, yc_X10_servedMany⟩ yd_X10_servedMany ob_60 (by decide) rfl rfl hl.1 (Nat.le_of_ble_eq_true rfl) ⟨by decide, by decide⟩ ⟨Nat.zero_le _, Nat.zero_le _⟩ dX10_count_115 (fun r_7 M_8 H locs hp_8 hw => ?_)
            have hm := hp_8
            have hw := hw.to hm
            exact hQ _ _ _ _ _ _ hw rfl (⟨mF_qw hF iM_1 (qw_I hM_1 (by decide)), (qw_I hM_1 (by decide)).2.1.1, (qw_I hM_1 (by decide)).1⟩) dX10_count_118
          · by_cases s_2_5 : z1 = 5
            · refine lv_tableIn (tgt := 119) (off := 111) hx hb dX10_count_8 (by rw [s_2_5]; decide) (by rw [s_2_5]; decide) (by rw [s_2_5]; decide) (by decide) ?_
              refine lv_aload_n hx hb dX10_count_119 rfl (lv_at hl 1 rfl) ?_
              refine lv_iconst (v := 0) hx hb dX10_count_120 (by decide) ?_
              refine lv_iconst (v := 3) hx hb dX10_count_121 (by decide) ?_
              refine ti_callVi (ci := 10) (av := [.int 0, .int 3]) C hw (s_X10_howMany_0 l D A cy hJ M_1 iM_1 3) ⟨ml_X10_494, ym_X10_howMany, yv_X10_howMany, yi_X10_howMany, yc_X10_howMany⟩ yd_X10_howMany ob_60 (by decide) rfl rfl hl.1 (Nat.le_of_ble_eq_true rfl) ⟨by decide, by decide⟩ ⟨Nat.zero_le _, Nat.zero_le _⟩ dX10_count_122 (fun r_9 M_10 H locs hp_10 hw => ?_)
              have hm := hp_10
              have hw := hw.to hm
              exact hQ _ _ _ _ _ _ hw rfl (⟨mF_qw hF iM_1 (qw_I hM_1 (by decide)), (qw_I hM_1 (by decide)).2.1.1, (qw_I hM_1 (by decide)).1⟩) dX10_count_125
            · by_cases s_2_6 : z1 = 6
              · refine lv_tableIn (tgt := 126) (off := 118) hx hb dX10_count_8 (by rw [s_2_6]; decide) (by rw [s_2_6]; decide) (by rw [s_2_6]; decide) (by decide) ?_
                refine lv_aload_n hx hb dX10_count_126 rfl (lv_at hl 1 rfl) ?_
                refine ti_get (ci := 10) (k := 35) (N := 67) (T := TX10) (v := .ref (A 60 36)) C hw iw_10 rfl ob_60 (by decide) (by decide) fl_X10_72 rfl rfl dX10_count_127 ?_
                refine lv_iconst (v := 0) hx hb dX10_count_130 (by decide) ?_
                refine ti_iald (ci := 10) (k := 35) (n := 23) C hw ob_60 (by decide) (fun _ _ => rfl) (by unfold vp_in; decide) dX10_count_131 ?_
                refine lv_topi (fun x_11 ex_11 => ?_)
                have yx_11 : tY M_1 60 35 0 = x_11 := ((congrArg _ (by decide)).symm.trans ex_11.symm)
                have wx_11 : tY M 60 35 0 = x_11 := ((cg (tY_uIE hM_1) 0)).symm.trans yx_11
                exact hQ _ _ _ _ _ _ hw rfl (⟨mF_qw hF iM_1 (qw_I hM_1 (by decide)), (qw_I hM_1 (by decide)).2.1.1, (qw_I hM_1 (by decide)).1⟩) dX10_count_132
              · by_cases s_2_7 : z1 = 7
                · refine lv_tableIn (tgt := 133) (off := 125) hx hb dX10_count_8 (by rw [s_2_7]; decide) (by rw [s_2_7]; decide) (by rw [s_2_7]; decide) (by decide) ?_
                  refine lv_iconst (v := 0) hx hb dX10_count_133 (by decide) ?_
                  refine lv_istore_n (lv' := [(3, .int 0), (2, .int 0), (0, .ref (A 60 0)), (1, .int z1)]) hx hb dX10_count_134 rfl hl (by decide) rfl (fun ls hl => ?_)
                  have hl_135_15 : ∀ (n_16 : Nat) (x_12 : Int32) (x_15 : Int32) (H : Heap) (locs : List Loc) (ls : Array Slot), (8 - x_12.toInt : Int).toNat < n_16 → (0 ≤ x_12.toInt) → (x_12.toInt ≤ 8) → ti_H ti_LM D A cy H0 M_1 H locs → lv_has ls 4 [(3, .int x_12), (2, .int x_15), (0, .ref (A 60 0)), (1, .int z1)] → W p l e (ti_rm 2) s m args below meth c H locs 0 0 Q (F0 m 135 ls []) := by
                    intro n_16
                    induction n_16 with
                    | zero => intro x_12 x_15 H locs ls hf_16; exact absurd hf_16 (Nat.not_lt_zero _)
                    | succ n_16 ih_16 =>
                      intro x_12 x_15 H locs ls hf_16 b_13 b_14 hw hl
                      refine lv_iload_n hx hb dX10_count_135 rfl (lv_at hl 0 rfl) ?_
                      refine lv_aload_n hx hb dX10_count_136 rfl (lv_at hl 2 rfl) ?_
                      refine ti_get (ci := 10) (k := 3) (N := 67) (T := TX10) (v := .ref (A 60 4)) C hw iw_10 rfl ob_60 (by decide) (by decide) fl_X10_13 rfl rfl dX10_count_137 ?_
                      refine lv_iconst (v := 0) hx hb dX10_count_140 (by decide) ?_
                      refine ti_iald (ci := 10) (k := 3) (n := 22) C hw ob_60 (by decide) (fun _ _ => rfl) (by unfold vp_in; decide) dX10_count_141 ?_
                      refine lv_topi (fun x_17 ex_17 => ?_)
                      have yx_17 : tY M_1 60 3 0 = x_17 := ((congrArg _ (by decide)).symm.trans ex_17.symm)
                      have bx_17 : 0 ≤ x_17.toInt ∧ x_17.toInt ≤ 8 := mI_rn (i := 0) iM_1 yx_17.symm (fun _ h => h)
                      have zx_17 : (tY M_1 60 3 0).toInt = x_17.toInt := by rw [yx_17]
                      have wx_17 : tY M 60 3 0 = x_17 := ((cg (tY_uIE hM_1) 0)).symm.trans yx_17
                      have zwx_17 : (tY M 60 3 0).toInt = x_17.toInt := by rw [wx_17]
                      refine sb_icmp_ge (tgt := 160) hx hb rfl rfl dX10_count_142 (by decide) (fun c_142_17 => ?_) (fun c_142_17 => ?_)
                      · refine lv_iload_n hx hb dX10_count_160 rfl (lv_at hl 1 rfl) ?_
                        exact hQ _ _ _ _ _ _ hw rfl (⟨mF_qw hF iM_1 (qw_I hM_1 (by decide)), (qw_I hM_1 (by decide)).2.1.1, (qw_I hM_1 (by decide)).1⟩) dX10_count_161
                      · refine lv_iload_n hx hb dX10_count_145 rfl (lv_at hl 1 rfl) ?_
                        refine lv_aload_n hx hb dX10_count_146 rfl (lv_at hl 2 rfl) ?_
                        refine ti_get (ci := 10) (k := 43) (N := 67) (T := TX10) (v := .ref (A 60 44)) C hw iw_10 rfl ob_60 (by decide) (by decide) fl_X10_96 rfl rfl dX10_count_147 ?_
                        refine lv_iload_n hx hb dX10_count_150 rfl (lv_at hl 0 rfl) ?_
                        refine ti_iald (ci := 10) (k := 43) (n := 184) C hw ob_60 (by decide) (fun _ _ => rfl) (vp_in_iff.mpr (by omega)) dX10_count_151 ?_
                        refine lv_topi (fun x_19 ex_19 => ?_)
                        have yx_19 : tY M_1 60 43 x_12.toNatClampNeg = x_19 := (ex_19.symm)
                        have wx_19 : tY M 60 43 x_12.toNatClampNeg = x_19 := ((cg (tY_uIE hM_1) x_12.toNatClampNeg)).symm.trans yx_19
                        refine lv_iadd hx hb dX10_count_152 ?_
                        refine lv_topi (fun x_20 ex_20 => ?_)
                        refine lv_istore_n (lv' := [(2, .int x_20), (3, .int x_12), (0, .ref (A 60 0)), (1, .int z1)]) hx hb dX10_count_153 rfl hl (by decide) rfl (fun ls hl => ?_)
                        obtain ⟨x_21, ex_21⟩ : ∃ z : Int32, z = x_12 + 1 := ⟨_, rfl⟩
                        have tx_21 : x_21.toInt = x_12.toInt + 1 := i_add ex_21 rfl (by decide) (by omega) (by omega)
                        refine lv_iinc (v := x_21) (lv' := [(3, .int x_21), (2, .int x_20), (0, .ref (A 60 0)), (1, .int z1)]) hx hb dX10_count_154 hl (k := 1) rfl (by rw [ex_21]; rfl) (by decide) rfl (fun ls hl => ?_)
                        refine lv_goto (tgt := 135) hx hb dX10_count_157 (by decide) ?_
                        exact ih_16 x_21 x_20 _ _ _ (by omega) (by first | omega | decide) (by first | omega | decide) hw (lv_sub hl [0, 1, 2, 3] rfl)
                  exact hl_135_15 ((8 - 0 : Int).toNat + 1) 0 0 _ _ _ (Nat.lt_succ_self _) (by have lt0 : (0 : Int32).toInt = 0 := (by decide); first | omega | decide) (by have lt0 : (0 : Int32).toInt = 0 := (by decide); first | omega | decide) hw (lv_sub hl [0, 1, 2, 3] rfl)
                · by_cases s_2_8 : z1 = 8
                  · refine lv_tableIn (tgt := 162) (off := 154) hx hb dX10_count_8 (by rw [s_2_8]; decide) (by rw [s_2_8]; decide) (by rw [s_2_8]; decide) (by decide) ?_
                    refine lv_aload_n hx hb dX10_count_162 rfl (lv_at hl 1 rfl) ?_
                    refine ti_get (ci := 10) (k := 58) (N := 67) (T := TX10) C hw iw_10 rfl ob_60 (by decide) (by decide) fl_X10_310 rfl rfl dX10_count_163 ?_
                    refine lv_topi (fun x_22 ex_22 => ?_)
                    have bx_22 : 0 ≤ x_22.toInt ∧ x_22.toInt ≤ 24 := mI_rd iM_1 ex_22
                    have ux_22 : (tI M_1 60 58).toInt = x_22.toInt := by rw [ex_22]
                    exact hQ _ _ _ _ _ _ hw rfl (⟨mF_qw hF iM_1 (qw_I hM_1 (by decide)), (qw_I hM_1 (by decide)).2.1.1, (qw_I hM_1 (by decide)).1⟩) dX10_count_166
                  · by_cases s_2_9 : z1 = 9
                    · refine lv_tableIn (tgt := 167) (off := 159) hx hb dX10_count_8 (by rw [s_2_9]; decide) (by rw [s_2_9]; decide) (by rw [s_2_9]; decide) (by decide) ?_
                      refine lv_aload_n hx hb dX10_count_167 rfl (lv_at hl 1 rfl) ?_
                      refine ti_callVi (ci := 10) (av := []) C hw (s_X10_knownMany l D A cy hJ M_1 iM_1 ) ⟨ml_X10_474, ym_X10_knownMany, yv_X10_knownMany, yi_X10_knownMany, yc_X10_knownMany⟩ yd_X10_knownMany ob_60 (by decide) rfl rfl hl.1 (Nat.le_of_ble_eq_true rfl) ⟨by decide, by decide⟩ ⟨Nat.zero_le _, Nat.zero_le _⟩ dX10_count_168 (fun r_23 M_24 H locs hp_24 hw => ?_)
                      obtain ⟨hm, b0r_23, b1r_23⟩ := hp_24
                      have hw := hw.to hm
                      exact hQ _ _ _ _ _ _ hw rfl (⟨mF_qw hF iM_1 (qw_I hM_1 (by decide)), (qw_I hM_1 (by decide)).2.1.1, (qw_I hM_1 (by decide)).1⟩) dX10_count_171
                    · by_cases s_2_10 : z1 = 10
                      · refine lv_tableIn (tgt := 172) (off := 164) hx hb dX10_count_8 (by rw [s_2_10]; decide) (by rw [s_2_10]; decide) (by rw [s_2_10]; decide) (by decide) ?_
                        refine lv_aload_n hx hb dX10_count_172 rfl (lv_at hl 1 rfl) ?_
                        refine ti_get (ci := 10) (k := 52) (N := 67) (T := TX10) C hw iw_10 rfl ob_60 (by decide) (by decide) fl_X10_317 rfl rfl dX10_count_173 ?_
                        refine lv_topi (fun x_25 ex_25 => ?_)
                        have bx_25 : 0 ≤ x_25.toInt ∧ x_25.toInt ≤ 20 := mI_rd iM_1 ex_25
                        have ux_25 : (tI M_1 60 52).toInt = x_25.toInt := by rw [ex_25]
                        exact hQ _ _ _ _ _ _ hw rfl (⟨mF_qw hF iM_1 (qw_I hM_1 (by decide)), (qw_I hM_1 (by decide)).2.1.1, (qw_I hM_1 (by decide)).1⟩) dX10_count_176
                      · by_cases s_2_11 : z1 = 11
                        · refine lv_tableIn (tgt := 177) (off := 169) hx hb dX10_count_8 (by rw [s_2_11]; decide) (by rw [s_2_11]; decide) (by rw [s_2_11]; decide) (by decide) ?_
                          refine lv_aload_n hx hb dX10_count_177 rfl (lv_at hl 1 rfl) ?_
                          refine ti_get (ci := 10) (k := 49) (N := 67) (T := TX10) (v := .ref (A 60 50)) C hw iw_10 rfl ob_60 (by decide) (by decide) fl_X10_114 rfl rfl dX10_count_178 ?_
                          refine lv_iconst (v := 0) hx hb dX10_count_181 (by decide) ?_
                          refine ti_iald (ci := 10) (k := 49) (n := 69) C hw ob_60 (by decide) (fun _ _ => rfl) (by unfold vp_in; decide) dX10_count_182 ?_
                          refine lv_topi (fun x_26 ex_26 => ?_)
                          have yx_26 : tY M_1 60 49 0 = x_26 := ((congrArg _ (by decide)).symm.trans ex_26.symm)
                          have bx_26 : 0 ≤ x_26.toInt ∧ x_26.toInt ≤ 7 := mI_ry (k := 49) (i := 0) iM_1 yx_26.symm
                          have wx_26 : tY M 60 49 0 = x_26 := ((cg (tY_uIE hM_1) 0)).symm.trans yx_26
                          exact hQ _ _ _ _ _ _ hw rfl (⟨mF_qw hF iM_1 (qw_I hM_1 (by decide)), (qw_I hM_1 (by decide)).2.1.1, (qw_I hM_1 (by decide)).1⟩) dX10_count_183
                        · by_cases s_2_12 : z1 = 12
                          · refine lv_tableIn (tgt := 184) (off := 176) hx hb dX10_count_8 (by rw [s_2_12]; decide) (by rw [s_2_12]; decide) (by rw [s_2_12]; decide) (by decide) ?_
                            refine lv_aload_n hx hb dX10_count_184 rfl (lv_at hl 1 rfl) ?_
                            refine ti_get (ci := 10) (k := 49) (N := 67) (T := TX10) (v := .ref (A 60 50)) C hw iw_10 rfl ob_60 (by decide) (by decide) fl_X10_114 rfl rfl dX10_count_185 ?_
                            refine lv_iconst (v := 1) hx hb dX10_count_188 (by decide) ?_
                            refine ti_iald (ci := 10) (k := 49) (n := 69) C hw ob_60 (by decide) (fun _ _ => rfl) (by unfold vp_in; decide) dX10_count_189 ?_
                            refine lv_topi (fun x_27 ex_27 => ?_)
                            have yx_27 : tY M_1 60 49 1 = x_27 := ((congrArg _ (by decide)).symm.trans ex_27.symm)
                            have bx_27 : 0 ≤ x_27.toInt ∧ x_27.toInt ≤ 7 := mI_ry (k := 49) (i := 1) iM_1 yx_27.symm
                            have wx_27 : tY M 60 49 1 = x_27 := ((cg (tY_uIE hM_1) 1)).symm.trans yx_27
                            exact hQ _ _ _ _ _ _ hw rfl (⟨mF_qw hF iM_1 (qw_I hM_1 (by decide)), (qw_I hM_1 (by decide)).2.1.1, (qw_I hM_1 (by decide)).1⟩) dX10_count_190
                          · by_cases s_2_13 : z1 = 13
                            · refine lv_tableIn (tgt := 191) (off := 183) hx hb dX10_count_8 (by rw [s_2_13]; decide) (by rw [s_2_13]; decide) (by rw [s_2_13]; decide) (by decide) ?_
                              refine lv_aload_n hx hb dX10_count_191 rfl (lv_at hl 1 rfl) ?_
                              refine ti_get (ci := 10) (k := 49) (N := 67) (T := TX10) (v := .ref (A 60 50)) C hw iw_10 rfl ob_60 (by decide) (by decide) fl_X10_114 rfl rfl dX10_count_192 ?_
                              refine lv_iconst (v := 2) hx hb dX10_count_195 (by decide) ?_
                              refine ti_iald (ci := 10) (k := 49) (n := 69) C hw ob_60 (by decide) (fun _ _ => rfl) (by unfold vp_in; decide) dX10_count_196 ?_
                              refine lv_topi (fun x_28 ex_28 => ?_)
                              have yx_28 : tY M_1 60 49 2 = x_28 := ((congrArg _ (by decide)).symm.trans ex_28.symm)
                              have bx_28 : 0 ≤ x_28.toInt ∧ x_28.toInt ≤ 7 := mI_ry (k := 49) (i := 2) iM_1 yx_28.symm
                              have wx_28 : tY M 60 49 2 = x_28 := ((cg (tY_uIE hM_1) 2)).symm.trans yx_28
                              exact hQ _ _ _ _ _ _ hw rfl (⟨mF_qw hF iM_1 (qw_I hM_1 (by decide)), (qw_I hM_1 (by decide)).2.1.1, (qw_I hM_1 (by decide)).1⟩) dX10_count_197
                            · by_cases s_2_14 : z1 = 14
                              · refine lv_tableIn (tgt := 198) (off := 190) hx hb dX10_count_8 (by rw [s_2_14]; decide) (by rw [s_2_14]; decide) (by rw [s_2_14]; decide) (by decide) ?_
                                refine lv_aload_n hx hb dX10_count_198 rfl (lv_at hl 1 rfl) ?_
                                refine ti_get (ci := 10) (k := 37) (N := 67) (T := TX10) (v := .ref (A 60 38)) C hw iw_10 rfl ob_60 (by decide) (by decide) fl_X10_78 rfl rfl dX10_count_199 ?_
                                refine lv_iconst (v := 0) hx hb dX10_count_202 (by decide) ?_
                                refine ti_iald (ci := 10) (k := 37) (n := 23) C hw ob_60 (by decide) (fun _ _ => rfl) (by unfold vp_in; decide) dX10_count_203 ?_
                                refine lv_topi (fun x_29 ex_29 => ?_)
                                have yx_29 : tY M_1 60 37 0 = x_29 := ((congrArg _ (by decide)).symm.trans ex_29.symm)
                                have wx_29 : tY M 60 37 0 = x_29 := ((cg (tY_uIE hM_1) 0)).symm.trans yx_29
                                refine ti_callSi (av := [.int x_29]) C hw (s_X10_bitsOf l D A cy hJ M_1 iM_1 x_29) ⟨ml_X10_448, ys_X10_bitsOf, yi_X10_bitsOf, yc_X10_bitsOf⟩ yd_X10_bitsOf rfl hl.1 (Nat.le_of_ble_eq_true rfl) ⟨by decide, by decide⟩ ⟨Nat.zero_le _, Nat.zero_le _⟩ dX10_count_204 (fun r_30 M_31 H locs hp_31 hw => ?_)
                                have hm := hp_31
                                have hw := hw.to hm
                                exact hQ _ _ _ _ _ _ hw rfl (⟨mF_qw hF iM_1 (qw_I hM_1 (by decide)), (qw_I hM_1 (by decide)).2.1.1, (qw_I hM_1 (by decide)).1⟩) dX10_count_207
                              · refine lv_tableOut (tgt := 208) hx hb dX10_count_8 (ti_out (lo := 0) (hi := 14) z1 (fun v h1 h2 => by rcases (show v = 0 ∨ v = 1 ∨ v = 2 ∨ v = 3 ∨ v = 4 ∨ v = 5 ∨ v = 6 ∨ v = 7 ∨ v = 8 ∨ v = 9 ∨ v = 10 ∨ v = 11 ∨ v = 12 ∨ v = 13 ∨ v = 14 by omega) with rfl | rfl | rfl | rfl | rfl | rfl | rfl | rfl | rfl | rfl | rfl | rfl | rfl | rfl | rfl <;> first | exact ti_nev 0 s_2_0 (by decide) | exact ti_nev 1 s_2_1 (by decide) | exact ti_nev 2 s_2_2 (by decide) | exact ti_nev 3 s_2_3 (by decide) | exact ti_nev 4 s_2_4 (by decide) | exact ti_nev 5 s_2_5 (by decide) | exact ti_nev 6 s_2_6 (by decide) | exact ti_nev 7 s_2_7 (by decide) | exact ti_nev 8 s_2_8 (by decide) | exact ti_nev 9 s_2_9 (by decide) | exact ti_nev 10 s_2_10 (by decide) | exact ti_nev 11 s_2_11 (by decide) | exact ti_nev 12 s_2_12 (by decide) | exact ti_nev 13 s_2_13 (by decide) | exact ti_nev 14 s_2_14 (by decide))) (by decide) ?_
                                refine lv_iconst (v := (-1)) hx hb dX10_count_208 (by decide) ?_
                                exact hQ _ _ _ _ _ _ hw rfl (⟨mF_qw hF iM_1 (qw_I hM_1 (by decide)), (qw_I hM_1 (by decide)).2.1.1, (qw_I hM_1 (by decide)).1⟩) dX10_count_209
set_option maxHeartbeats 4000000 in
set_option maxRecDepth 100000 in
theorem s_X10_look (l : Launch) (D : va_G) (A : Nat → Nat → Nat) (cy : Nat → ClassId) (hJ : ti_inj ti_LM A) (M : ti_M) (hI : mI Tm M) (hF : mF Tm M) (z1 : Int32) (z2 : Int32) : ti_Ki l yX10_look cX10_look 3 (some .int) 1 ti_LM D A cy M [.ref (A 60 0), .int z1, .int z2] (fun r M2 => mF Tm M2 ∧ tI M2 60 2 = tI M 60 2 ∧ lw M2 M) := by
  refine ti_eI yp_X10_look hJ ti_LM_nd (Nat.le_of_ble_eq_true rfl) ?_
  intro p e s m args below meth c Q H0 C hQ hw ls hl
  have hx := C.1
  have hb := C.2.1
  have hl : lv_has ls 3 [(0, .ref (A 60 0)), (1, .int z1), (2, .int z2)] := hl
  have hL : mL M := hF.2.1
  have hC0 : mC M 0 := hF.2.2.1.1
  have hP0 : mP M 0 := hF.2.2.1.2
  refine lv_aload_n hx hb dX10_look_0 rfl (lv_at hl 0 rfl) ?_
  refine lv_aload_n hx hb dX10_look_1 rfl (lv_at hl 0 rfl) ?_
  refine lv_iload_n hx hb dX10_look_2 rfl (lv_at hl 1 rfl) ?_
  refine ti_callVi (ci := 10) (av := [.int z1]) C hw (s_X10_isMan l D A cy hJ M hI z1) ⟨ml_X10_356, ym_X10_isMan, yv_X10_isMan, yi_X10_isMan, yc_X10_isMan⟩ yd_X10_isMan ob_60 (by decide) rfl rfl hl.1 (Nat.le_of_ble_eq_true rfl) ⟨by decide, by decide⟩ ⟨Nat.zero_le _, Nat.zero_le _⟩ dX10_look_3 (fun r_1 M_2 H locs hp_2 hw => ?_)
  obtain ⟨hm, hz⟩ := hp_2
  have hw := hw.to hm
  have hj_38_15 : ∀ (M_14 : ti_M) (H : Heap) (locs : List Loc) (ls : Array Slot), (mI Tm M_14) → (qw M_14 M) → ti_H ti_LM D A cy H0 M_14 H locs → lv_has ls 3 [(0, .ref (A 60 0)), (1, .int z1), (2, .int z2)] → W p l e (ti_rm 1) s m args below meth c H locs 0 0 Q (F0 m 38 ls []) := by
    intro M_14 H locs ls iM_14 f_15 hw hl
    refine lv_iconst (v := 0) hx hb dX10_look_38 (by decide) ?_
    exact hQ _ _ _ _ _ _ hw rfl (⟨mF_qw hF iM_14 f_15, f_15.2.1.1, f_15.1⟩) dX10_look_39
  rcases hz with ⟨rfl, d0_3, d1_3, d2_3⟩ | rfl
  · refine sb_if_ne (tgt := 13) hx hb (by decide : (1 : Int32).toInt = 1) dX10_look_6 (by decide) (fun c_6_3 => ?_) (fun h => absurd h (by decide))
    refine lv_iload_n hx hb dX10_look_13 rfl (lv_at hl 2 rfl) ?_
    have hj_23_7 : ∀  (H : Heap) (locs : List Loc) (ls : Array Slot), ti_H ti_LM D A cy H0 M H locs → lv_has ls 3 [(0, .ref (A 60 0)), (1, .int z1), (2, .int z2)] → W p l e (ti_rm 1) s m args below meth c H locs 0 0 Q (F0 m 23 ls [.ref (A 60 0)]) := by
      intro  H locs ls  hw hl
      refine lv_iconst (v := 2) hx hb dX10_look_23 (by decide) ?_
      refine lv_goto (tgt := 28) hx hb dX10_look_24 (by decide) ?_
      refine ti_putI (ci := 10) (k := 0) (N := 67) (T := TX10) C hw iw_10 tyX10 tyX10_ok nmX10 rfl ob_60 (by decide) (by decide) fl_X10_154 rfl rfl rfl rfl (fn_10 A _) fs_10_0 dX10_look_28 (fun H locs hw => ?_)
      obtain ⟨M_10, hM_10⟩ : ∃ z : ti_M, z = uI M 60 0 2 := ⟨_, rfl⟩
      have hw := hw.to hM_10.symm
      have iM_10 : mI Tm M_10 := mI_uI hI hM_10 (by decide) (by decide) trivial
      refine lv_aload_n hx hb dX10_look_31 rfl (lv_at hl 0 rfl) ?_
      refine ti_get (ci := 10) (k := 0) (N := 67) (T := TX10) C hw iw_10 rfl ob_60 (by decide) (by decide) fl_X10_154 rfl rfl dX10_look_32 ?_
      refine ti_top (y := 2) (tI_uE hM_10) ?_
      refine sb_if_eq (tgt := 40) hx hb (by decide : (2 : Int32).toInt = 2) dX10_look_35 (by decide) (fun h => absurd h (by decide)) (fun c_35_10 => ?_)
      exact hj_38_15 M_10 _ _ _ iM_10 (qw_I hM_10 (by decide)) hw (lv_sub hl [0, 1, 2] rfl)
    refine sb_if_lt (tgt := 23) hx hb rfl dX10_look_14 (by decide) (fun c_14_5 => ?_) (fun c_14_5 => ?_)
    · exact hj_23_7  _ _ _  hw (lv_sub hl [0, 1, 2] rfl)
    · refine lv_iload_n hx hb dX10_look_17 rfl (lv_at hl 2 rfl) ?_
      refine lv_bipush (v := 10) hx hb dX10_look_18 (by decide) ?_
      refine sb_icmp_le (tgt := 27) hx hb rfl (by decide : (10 : Int32).toInt = 10) dX10_look_20 (by decide) (fun c_20_6 => ?_) (fun c_20_6 => ?_)
      · refine lv_iconst (v := 0) hx hb dX10_look_27 (by decide) ?_
        refine ti_putI (ci := 10) (k := 0) (N := 67) (T := TX10) C hw iw_10 tyX10 tyX10_ok nmX10 rfl ob_60 (by decide) (by decide) fl_X10_154 rfl rfl rfl rfl (fn_10 A _) fs_10_0 dX10_look_28 (fun H locs hw => ?_)
        obtain ⟨M_12, hM_12⟩ : ∃ z : ti_M, z = uI M 60 0 0 := ⟨_, rfl⟩
        have hw := hw.to hM_12.symm
        have iM_12 : mI Tm M_12 := mI_uI hI hM_12 (by decide) (by decide) trivial
        refine lv_aload_n hx hb dX10_look_31 rfl (lv_at hl 0 rfl) ?_
        refine ti_get (ci := 10) (k := 0) (N := 67) (T := TX10) C hw iw_10 rfl ob_60 (by decide) (by decide) fl_X10_154 rfl rfl dX10_look_32 ?_
        refine ti_top (y := 0) (tI_uE hM_12) ?_
        refine sb_if_eq (tgt := 40) hx hb (by decide : (0 : Int32).toInt = 0) dX10_look_35 (by decide) (fun c_35_12 => ?_) (fun h => absurd h (by decide))
        refine lv_iload_n hx hb dX10_look_40 rfl (lv_at hl 2 rfl) ?_
        by_cases s_16_0 : z2 = 0
        · refine lv_tableIn (tgt := 96) (off := 55) hx hb dX10_look_41 (by rw [s_16_0]; decide) (by rw [s_16_0]; decide) (by rw [s_16_0]; decide) (by decide) ?_
          refine lv_aload_n hx hb dX10_look_96 rfl (lv_at hl 0 rfl) ?_
          refine ti_get (ci := 10) (k := 5) (N := 67) (T := TX10) (v := .ref (A 60 6)) C hw iw_10 rfl ob_60 (by decide) (by decide) fl_X10_19 rfl rfl dX10_look_97 ?_
          refine lv_iload_n hx hb dX10_look_100 rfl (lv_at hl 1 rfl) ?_
          refine ti_iald (ci := 10) (k := 5) (n := 16) C hw ob_60 (by decide) (fun _ _ => rfl) (vp_in_iff.mpr (by omega)) dX10_look_101 ?_
          refine lv_topi (fun x_17 ex_17 => ?_)
          have yx_17 : tY M_12 60 5 z1.toNatClampNeg = x_17 := (ex_17.symm)
          have wx_17 : tY M 60 5 z1.toNatClampNeg = x_17 := ((cg (tY_uIE hM_12) z1.toNatClampNeg)).symm.trans yx_17
          exact hQ _ _ _ _ _ _ hw rfl (⟨mF_qw hF iM_12 (qw_I hM_12 (by decide)), (qw_I hM_12 (by decide)).2.1.1, (qw_I hM_12 (by decide)).1⟩) dX10_look_102
        · by_cases s_16_1 : z2 = 1
          · refine lv_tableIn (tgt := 103) (off := 62) hx hb dX10_look_41 (by rw [s_16_1]; decide) (by rw [s_16_1]; decide) (by rw [s_16_1]; decide) (by decide) ?_
            refine lv_aload_n hx hb dX10_look_103 rfl (lv_at hl 0 rfl) ?_
            refine ti_get (ci := 10) (k := 6) (N := 67) (T := TX10) (v := .ref (A 60 7)) C hw iw_10 rfl ob_60 (by decide) (by decide) fl_X10_22 rfl rfl dX10_look_104 ?_
            refine lv_iload_n hx hb dX10_look_107 rfl (lv_at hl 1 rfl) ?_
            refine ti_iald (ci := 10) (k := 6) (n := 16) C hw ob_60 (by decide) (fun _ _ => rfl) (vp_in_iff.mpr (by omega)) dX10_look_108 ?_
            refine lv_topi (fun x_18 ex_18 => ?_)
            have yx_18 : tY M_12 60 6 z1.toNatClampNeg = x_18 := (ex_18.symm)
            have wx_18 : tY M 60 6 z1.toNatClampNeg = x_18 := ((cg (tY_uIE hM_12) z1.toNatClampNeg)).symm.trans yx_18
            exact hQ _ _ _ _ _ _ hw rfl (⟨mF_qw hF iM_12 (qw_I hM_12 (by decide)), (qw_I hM_12 (by decide)).2.1.1, (qw_I hM_12 (by decide)).1⟩) dX10_look_109
          · by_cases s_16_2 : z2 = 2
            · refine lv_tableIn (tgt := 110) (off := 69) hx hb dX10_look_41 (by rw [s_16_2]; decide) (by rw [s_16_2]; decide) (by rw [s_16_2]; decide) (by decide) ?_
              refine lv_aload_n hx hb dX10_look_110 rfl (lv_at hl 0 rfl) ?_
              refine ti_get (ci := 10) (k := 41) (N := 67) (T := TX10) (v := .ref (A 60 42)) C hw iw_10 rfl ob_60 (by decide) (by decide) fl_X10_90 rfl rfl dX10_look_111 ?_
              refine lv_iload_n hx hb dX10_look_114 rfl (lv_at hl 1 rfl) ?_
              refine ti_iald (ci := 10) (k := 41) (n := 184) C hw ob_60 (by decide) (fun _ _ => rfl) (vp_in_iff.mpr (by omega)) dX10_look_115 ?_
              refine lv_topi (fun x_19 ex_19 => ?_)
              have yx_19 : tY M_12 60 41 z1.toNatClampNeg = x_19 := (ex_19.symm)
              have wx_19 : tY M 60 41 z1.toNatClampNeg = x_19 := ((cg (tY_uIE hM_12) z1.toNatClampNeg)).symm.trans yx_19
              exact hQ _ _ _ _ _ _ hw rfl (⟨mF_qw hF iM_12 (qw_I hM_12 (by decide)), (qw_I hM_12 (by decide)).2.1.1, (qw_I hM_12 (by decide)).1⟩) dX10_look_116
            · by_cases s_16_3 : z2 = 3
              · refine lv_tableIn (tgt := 117) (off := 76) hx hb dX10_look_41 (by rw [s_16_3]; decide) (by rw [s_16_3]; decide) (by rw [s_16_3]; decide) (by decide) ?_
                refine lv_aload_n hx hb dX10_look_117 rfl (lv_at hl 0 rfl) ?_
                refine ti_get (ci := 10) (k := 42) (N := 67) (T := TX10) (v := .ref (A 60 43)) C hw iw_10 rfl ob_60 (by decide) (by decide) fl_X10_93 rfl rfl dX10_look_118 ?_
                refine lv_iload_n hx hb dX10_look_121 rfl (lv_at hl 1 rfl) ?_
                refine ti_iald (ci := 10) (k := 42) (n := 184) C hw ob_60 (by decide) (fun _ _ => rfl) (vp_in_iff.mpr (by omega)) dX10_look_122 ?_
                refine lv_topi (fun x_20 ex_20 => ?_)
                have yx_20 : tY M_12 60 42 z1.toNatClampNeg = x_20 := (ex_20.symm)
                have wx_20 : tY M 60 42 z1.toNatClampNeg = x_20 := ((cg (tY_uIE hM_12) z1.toNatClampNeg)).symm.trans yx_20
                exact hQ _ _ _ _ _ _ hw rfl (⟨mF_qw hF iM_12 (qw_I hM_12 (by decide)), (qw_I hM_12 (by decide)).2.1.1, (qw_I hM_12 (by decide)).1⟩) dX10_look_123
              · by_cases s_16_4 : z2 = 4
                · refine lv_tableIn (tgt := 124) (off := 83) hx hb dX10_look_41 (by rw [s_16_4]; decide) (by rw [s_16_4]; decide) (by rw [s_16_4]; decide) (by decide) ?_
                  refine lv_aload_n hx hb dX10_look_124 rfl (lv_at hl 0 rfl) ?_
                  refine ti_get (ci := 10) (k := 43) (N := 67) (T := TX10) (v := .ref (A 60 44)) C hw iw_10 rfl ob_60 (by decide) (by decide) fl_X10_96 rfl rfl dX10_look_125 ?_
                  refine lv_iload_n hx hb dX10_look_128 rfl (lv_at hl 1 rfl) ?_
                  refine ti_iald (ci := 10) (k := 43) (n := 184) C hw ob_60 (by decide) (fun _ _ => rfl) (vp_in_iff.mpr (by omega)) dX10_look_129 ?_
                  refine lv_topi (fun x_21 ex_21 => ?_)
                  have yx_21 : tY M_12 60 43 z1.toNatClampNeg = x_21 := (ex_21.symm)
                  have wx_21 : tY M 60 43 z1.toNatClampNeg = x_21 := ((cg (tY_uIE hM_12) z1.toNatClampNeg)).symm.trans yx_21
                  exact hQ _ _ _ _ _ _ hw rfl (⟨mF_qw hF iM_12 (qw_I hM_12 (by decide)), (qw_I hM_12 (by decide)).2.1.1, (qw_I hM_12 (by decide)).1⟩) dX10_look_130
                · by_cases s_16_5 : z2 = 5
                  · refine lv_tableIn (tgt := 131) (off := 90) hx hb dX10_look_41 (by rw [s_16_5]; decide) (by rw [s_16_5]; decide) (by rw [s_16_5]; decide) (by decide) ?_
                    refine lv_aload_n hx hb dX10_look_131 rfl (lv_at hl 0 rfl) ?_
                    refine lv_iconst (v := 0) hx hb dX10_look_132 (by decide) ?_
                    refine lv_iload_n hx hb dX10_look_133 rfl (lv_at hl 1 rfl) ?_
                    refine ti_callVi (ci := 10) (av := [.int 0, .int z1]) C hw (s_X10_placeOf_0 l D A cy hJ M_12 iM_12 z1) ⟨ml_X10_411, ym_X10_placeOf, yv_X10_placeOf, yi_X10_placeOf, yc_X10_placeOf⟩ yd_X10_placeOf ob_60 (by decide) rfl rfl hl.1 (Nat.le_of_ble_eq_true rfl) ⟨by decide, by decide⟩ ⟨Nat.zero_le _, Nat.zero_le _⟩ dX10_look_134 (fun r_22 M_23 H locs hp_23 hw => ?_)
                    obtain ⟨hm, hz⟩ := hp_23
                    have hw := hw.to hm
                    rcases hz with ⟨rfl, z1_24⟩ | ⟨z1_24, z2_24, z3_24, z4_24⟩
                    · exact hQ _ _ _ _ _ _ hw rfl (⟨mF_qw hF iM_12 (qw_I hM_12 (by decide)), (qw_I hM_12 (by decide)).2.1.1, (qw_I hM_12 (by decide)).1⟩) dX10_look_137
                    · exact hQ _ _ _ _ _ _ hw rfl (⟨mF_qw hF iM_12 (qw_I hM_12 (by decide)), (qw_I hM_12 (by decide)).2.1.1, (qw_I hM_12 (by decide)).1⟩) dX10_look_137
                  · by_cases s_16_6 : z2 = 6
                    · refine lv_tableIn (tgt := 138) (off := 97) hx hb dX10_look_41 (by rw [s_16_6]; decide) (by rw [s_16_6]; decide) (by rw [s_16_6]; decide) (by decide) ?_
                      refine lv_aload_n hx hb dX10_look_138 rfl (lv_at hl 0 rfl) ?_
                      refine ti_get (ci := 10) (k := 40) (N := 67) (T := TX10) (v := .ref (A 60 41)) C hw iw_10 rfl ob_60 (by decide) (by decide) fl_X10_87 rfl rfl dX10_look_139 ?_
                      refine lv_iload_n hx hb dX10_look_142 rfl (lv_at hl 1 rfl) ?_
                      refine ti_iald (ci := 10) (k := 40) (n := 184) C hw ob_60 (by decide) (fun _ _ => rfl) (vp_in_iff.mpr (by omega)) dX10_look_143 ?_
                      refine lv_topi (fun x_25 ex_25 => ?_)
                      have yx_25 : tY M_12 60 40 z1.toNatClampNeg = x_25 := (ex_25.symm)
                      have zx_25 : (tY M_12 60 40 z1.toNatClampNeg).toInt = x_25.toInt := by rw [yx_25]
                      have wx_25 : tY M 60 40 z1.toNatClampNeg = x_25 := ((cg (tY_uIE hM_12) z1.toNatClampNeg)).symm.trans yx_25
                      have zwx_25 : (tY M 60 40 z1.toNatClampNeg).toInt = x_25.toInt := by rw [wx_25]
                      exact hQ _ _ _ _ _ _ hw rfl (⟨mF_qw hF iM_12 (qw_I hM_12 (by decide)), (qw_I hM_12 (by decide)).2.1.1, (qw_I hM_12 (by decide)).1⟩) dX10_look_144
                    · by_cases s_16_7 : z2 = 7
                      · refine lv_tableIn (tgt := 145) (off := 104) hx hb dX10_look_41 (by rw [s_16_7]; decide) (by rw [s_16_7]; decide) (by rw [s_16_7]; decide) (by decide) ?_
                        refine lv_aload_n hx hb dX10_look_145 rfl (lv_at hl 0 rfl) ?_
                        refine ti_get (ci := 10) (k := 40) (N := 67) (T := TX10) (v := .ref (A 60 41)) C hw iw_10 rfl ob_60 (by decide) (by decide) fl_X10_87 rfl rfl dX10_look_146 ?_
                        refine lv_iload_n hx hb dX10_look_149 rfl (lv_at hl 1 rfl) ?_
                        refine ti_iald (ci := 10) (k := 40) (n := 184) C hw ob_60 (by decide) (fun _ _ => rfl) (vp_in_iff.mpr (by omega)) dX10_look_150 ?_
                        refine lv_topi (fun x_26 ex_26 => ?_)
                        have yx_26 : tY M_12 60 40 z1.toNatClampNeg = x_26 := (ex_26.symm)
                        have zx_26 : (tY M_12 60 40 z1.toNatClampNeg).toInt = x_26.toInt := by rw [yx_26]
                        have wx_26 : tY M 60 40 z1.toNatClampNeg = x_26 := ((cg (tY_uIE hM_12) z1.toNatClampNeg)).symm.trans yx_26
                        have zwx_26 : (tY M 60 40 z1.toNatClampNeg).toInt = x_26.toInt := by rw [wx_26]
                        refine sb_if_ne (tgt := 158) hx hb rfl dX10_look_151 (by decide) (fun c_151_26 => ?_) (fun c_151_26 => ?_)
                        · refine lv_aload_n hx hb dX10_look_158 rfl (lv_at hl 0 rfl) ?_
                          refine ti_get (ci := 10) (k := 40) (N := 67) (T := TX10) (v := .ref (A 60 41)) C hw iw_10 rfl ob_60 (by decide) (by decide) fl_X10_87 rfl rfl dX10_look_159 ?_
                          refine lv_iload_n hx hb dX10_look_162 rfl (lv_at hl 1 rfl) ?_
                          refine ti_iald (ci := 10) (k := 40) (n := 184) C hw ob_60 (by decide) (fun _ _ => rfl) (vp_in_iff.mpr (by omega)) dX10_look_163 ?_
                          refine ti_top (y := x_26) (((cg (tY_uIE hM_12) z1.toNatClampNeg).trans wx_26)) ?_
                          refine lv_iconst (v := 1) hx hb dX10_look_164 (by decide) ?_
                          have hj_183_31 : ∀ (x_31 : Int32) (H : Heap) (locs : List Loc) (ls : Array Slot), ti_H ti_LM D A cy H0 M_12 H locs → lv_has ls 3 [(0, .ref (A 60 0)), (1, .int z1), (2, .int z2)] → W p l e (ti_rm 1) s m args below meth c H locs 0 0 Q (F0 m 183 ls [.int x_31]) := by
                            intro x_31 H locs ls  hw hl
                            refine lv_aload_n hx hb dX10_look_183 rfl (lv_at hl 0 rfl) ?_
                            refine ti_get (ci := 10) (k := 45) (N := 67) (T := TX10) (v := .ref (A 60 46)) C hw iw_10 rfl ob_60 (by decide) (by decide) fl_X10_102 rfl rfl dX10_look_184 ?_
                            refine lv_iload_n hx hb dX10_look_187 rfl (lv_at hl 1 rfl) ?_
                            refine ti_iald (ci := 10) (k := 45) (n := 184) C hw ob_60 (by decide) (fun _ _ => rfl) (vp_in_iff.mpr (by omega)) dX10_look_188 ?_
                            refine lv_topi (fun x_32 ex_32 => ?_)
                            have yx_32 : tY M_12 60 45 z1.toNatClampNeg = x_32 := (ex_32.symm)
                            have wx_32 : tY M 60 45 z1.toNatClampNeg = x_32 := ((cg (tY_uIE hM_12) z1.toNatClampNeg)).symm.trans yx_32
                            refine lv_isub hx hb dX10_look_189 ?_
                            refine lv_topi (fun x_33 ex_33 => ?_)
                            exact hQ _ _ _ _ _ _ hw rfl (⟨mF_qw hF iM_12 (qw_I hM_12 (by decide)), (qw_I hM_12 (by decide)).2.1.1, (qw_I hM_12 (by decide)).1⟩) dX10_look_190
                          refine sb_icmp_ne (tgt := 177) hx hb rfl (by decide : (1 : Int32).toInt = 1) dX10_look_165 (by decide) (fun c_165_27 => ?_) (fun c_165_27 => ?_)
                          · refine lv_aload_n hx hb dX10_look_177 rfl (lv_at hl 0 rfl) ?_
                            refine ti_get (ci := 10) (k := 46) (N := 67) (T := TX10) (v := .ref (A 60 47)) C hw iw_10 rfl ob_60 (by decide) (by decide) fl_X10_105 rfl rfl dX10_look_178 ?_
                            refine lv_iload_n hx hb dX10_look_181 rfl (lv_at hl 1 rfl) ?_
                            refine ti_iald (ci := 10) (k := 46) (n := 184) C hw ob_60 (by decide) (fun _ _ => rfl) (vp_in_iff.mpr (by omega)) dX10_look_182 ?_
                            refine lv_topi (fun x_30 ex_30 => ?_)
                            have yx_30 : tY M_12 60 46 z1.toNatClampNeg = x_30 := (ex_30.symm)
                            have wx_30 : tY M 60 46 z1.toNatClampNeg = x_30 := ((cg (tY_uIE hM_12) z1.toNatClampNeg)).symm.trans yx_30
                            exact hj_183_31 x_30 _ _ _  hw (lv_sub hl [0, 1, 2] rfl)
                          · refine lv_aload_n hx hb dX10_look_168 rfl (lv_at hl 0 rfl) ?_
                            refine ti_get (ci := 10) (k := 34) (N := 67) (T := TX10) (v := .ref (A 60 35)) C hw iw_10 rfl ob_60 (by decide) (by decide) fl_X10_69 rfl rfl dX10_look_169 ?_
                            refine lv_iconst (v := 0) hx hb dX10_look_172 (by decide) ?_
                            refine ti_iald (ci := 10) (k := 34) (n := 23) C hw ob_60 (by decide) (fun _ _ => rfl) (by unfold vp_in; decide) dX10_look_173 ?_
                            refine lv_topi (fun x_29 ex_29 => ?_)
                            have yx_29 : tY M_12 60 34 0 = x_29 := ((congrArg _ (by decide)).symm.trans ex_29.symm)
                            have bx_29 : 0 ≤ x_29.toInt ∧ x_29.toInt ≤ 120 := mI_ry (k := 34) (i := 0) iM_12 yx_29.symm (by decide)
                            have zx_29 : (tY M_12 60 34 0).toInt = x_29.toInt := by rw [yx_29]
                            have wx_29 : tY M 60 34 0 = x_29 := ((cg (tY_uIE hM_12) 0)).symm.trans yx_29
                            have zwx_29 : (tY M 60 34 0).toInt = x_29.toInt := by rw [wx_29]
                            refine lv_goto (tgt := 183) hx hb dX10_look_174 (by decide) ?_
                            exact hj_183_31 x_29 _ _ _  hw (lv_sub hl [0, 1, 2] rfl)
                        · refine lv_iconst (v := 0) hx hb dX10_look_154 (by decide) ?_
                          refine lv_goto (tgt := 190) hx hb dX10_look_155 (by decide) ?_
                          exact hQ _ _ _ _ _ _ hw rfl (⟨mF_qw hF iM_12 (qw_I hM_12 (by decide)), (qw_I hM_12 (by decide)).2.1.1, (qw_I hM_12 (by decide)).1⟩) dX10_look_190
                      · by_cases s_16_8 : z2 = 8
                        · refine lv_tableIn (tgt := 191) (off := 150) hx hb dX10_look_41 (by rw [s_16_8]; decide) (by rw [s_16_8]; decide) (by rw [s_16_8]; decide) (by decide) ?_
                          refine lv_aload_n hx hb dX10_look_191 rfl (lv_at hl 0 rfl) ?_
                          refine ti_get (ci := 10) (k := 47) (N := 67) (T := TX10) (v := .ref (A 60 48)) C hw iw_10 rfl ob_60 (by decide) (by decide) fl_X10_108 rfl rfl dX10_look_192 ?_
                          refine lv_iload_n hx hb dX10_look_195 rfl (lv_at hl 1 rfl) ?_
                          refine ti_iald (ci := 10) (k := 47) (n := 184) C hw ob_60 (by decide) (fun _ _ => rfl) (vp_in_iff.mpr (by omega)) dX10_look_196 ?_
                          refine lv_topi (fun x_34 ex_34 => ?_)
                          have yx_34 : tY M_12 60 47 z1.toNatClampNeg = x_34 := (ex_34.symm)
                          have wx_34 : tY M 60 47 z1.toNatClampNeg = x_34 := ((cg (tY_uIE hM_12) z1.toNatClampNeg)).symm.trans yx_34
                          exact hQ _ _ _ _ _ _ hw rfl (⟨mF_qw hF iM_12 (qw_I hM_12 (by decide)), (qw_I hM_12 (by decide)).2.1.1, (qw_I hM_12 (by decide)).1⟩) dX10_look_197
                        · by_cases s_16_9 : z2 = 9
                          · refine lv_tableIn (tgt := 198) (off := 157) hx hb dX10_look_41 (by rw [s_16_9]; decide) (by rw [s_16_9]; decide) (by rw [s_16_9]; decide) (by decide) ?_
                            refine lv_aload_n hx hb dX10_look_198 rfl (lv_at hl 0 rfl) ?_
                            refine ti_get (ci := 10) (k := 37) (N := 67) (T := TX10) (v := .ref (A 60 38)) C hw iw_10 rfl ob_60 (by decide) (by decide) fl_X10_78 rfl rfl dX10_look_199 ?_
                            refine lv_iconst (v := 0) hx hb dX10_look_202 (by decide) ?_
                            refine ti_iald (ci := 10) (k := 37) (n := 23) C hw ob_60 (by decide) (fun _ _ => rfl) (by unfold vp_in; decide) dX10_look_203 ?_
                            refine lv_topi (fun x_35 ex_35 => ?_)
                            have yx_35 : tY M_12 60 37 0 = x_35 := ((congrArg _ (by decide)).symm.trans ex_35.symm)
                            have wx_35 : tY M 60 37 0 = x_35 := ((cg (tY_uIE hM_12) 0)).symm.trans yx_35
                            refine lv_iload_n hx hb dX10_look_204 rfl (lv_at hl 1 rfl) ?_
                            refine lv_ishr hx hb dX10_look_205 ?_
                            refine lv_topi (fun x_36 ex_36 => ?_)
                            refine lv_iconst (v := 1) hx hb dX10_look_206 (by decide) ?_
                            refine lv_iand hx hb dX10_look_207 ?_
                            refine lv_topi (fun x_37 ex_37 => ?_)
                            have bx_37 := i_and 1 ex_37 (by decide) (by decide)
                            exact hQ _ _ _ _ _ _ hw rfl (⟨mF_qw hF iM_12 (qw_I hM_12 (by decide)), (qw_I hM_12 (by decide)).2.1.1, (qw_I hM_12 (by decide)).1⟩) dX10_look_208
                          · refine lv_tableOut (tgt := 209) hx hb dX10_look_41 (ti_out (lo := 0) (hi := 9) z2 (fun v h1 h2 => by rcases (show v = 0 ∨ v = 1 ∨ v = 2 ∨ v = 3 ∨ v = 4 ∨ v = 5 ∨ v = 6 ∨ v = 7 ∨ v = 8 ∨ v = 9 by omega) with rfl | rfl | rfl | rfl | rfl | rfl | rfl | rfl | rfl | rfl <;> first | exact ti_nev 0 s_16_0 (by decide) | exact ti_nev 1 s_16_1 (by decide) | exact ti_nev 2 s_16_2 (by decide) | exact ti_nev 3 s_16_3 (by decide) | exact ti_nev 4 s_16_4 (by decide) | exact ti_nev 5 s_16_5 (by decide) | exact ti_nev 6 s_16_6 (by decide) | exact ti_nev 7 s_16_7 (by decide) | exact ti_nev 8 s_16_8 (by decide) | exact ti_nev 9 s_16_9 (by decide))) (by decide) ?_
                            refine lv_aload_n hx hb dX10_look_209 rfl (lv_at hl 0 rfl) ?_
                            refine ti_get (ci := 10) (k := 13) (N := 67) (T := TX10) (v := .ref (A 60 14)) C hw iw_10 rfl ob_60 (by decide) (by decide) fl_X10_43 rfl rfl dX10_look_210 ?_
                            refine lv_iload_n hx hb dX10_look_213 rfl (lv_at hl 1 rfl) ?_
                            refine ti_iald (ci := 10) (k := 13) (n := 16) C hw ob_60 (by decide) (fun _ _ => rfl) (vp_in_iff.mpr (by omega)) dX10_look_214 ?_
                            refine lv_topi (fun x_38 ex_38 => ?_)
                            have yx_38 : tY M_12 60 13 z1.toNatClampNeg = x_38 := (ex_38.symm)
                            have wx_38 : tY M 60 13 z1.toNatClampNeg = x_38 := ((cg (tY_uIE hM_12) z1.toNatClampNeg)).symm.trans yx_38
                            refine lv_iconst (v := 1) hx hb dX10_look_215 (by decide) ?_
                            refine lv_isub hx hb dX10_look_216 ?_
                            refine lv_topi (fun x_39 ex_39 => ?_)
                            exact hQ _ _ _ _ _ _ hw rfl (⟨mF_qw hF iM_12 (qw_I hM_12 (by decide)), (qw_I hM_12 (by decide)).2.1.1, (qw_I hM_12 (by decide)).1⟩) dX10_look_217
      · exact hj_23_7  _ _ _  hw (lv_sub hl [0, 1, 2] rfl)
  · refine sb_if_ne (tgt := 13) hx hb (by decide : (0 : Int32).toInt = 0) dX10_look_6 (by decide) (fun h => absurd h (by decide)) (fun c_6_4 => ?_)
    refine lv_iconst (v := 1) hx hb dX10_look_9 (by decide) ?_
    refine lv_goto (tgt := 28) hx hb dX10_look_10 (by decide) ?_
    refine ti_putI (ci := 10) (k := 0) (N := 67) (T := TX10) C hw iw_10 tyX10 tyX10_ok nmX10 rfl ob_60 (by decide) (by decide) fl_X10_154 rfl rfl rfl rfl (fn_10 A _) fs_10_0 dX10_look_28 (fun H locs hw => ?_)
    obtain ⟨M_8, hM_8⟩ : ∃ z : ti_M, z = uI M 60 0 1 := ⟨_, rfl⟩
    have hw := hw.to hM_8.symm
    have iM_8 : mI Tm M_8 := mI_uI hI hM_8 (by decide) (by decide) trivial
    refine lv_aload_n hx hb dX10_look_31 rfl (lv_at hl 0 rfl) ?_
    refine ti_get (ci := 10) (k := 0) (N := 67) (T := TX10) C hw iw_10 rfl ob_60 (by decide) (by decide) fl_X10_154 rfl rfl dX10_look_32 ?_
    refine ti_top (y := 1) (tI_uE hM_8) ?_
    refine sb_if_eq (tgt := 40) hx hb (by decide : (1 : Int32).toInt = 1) dX10_look_35 (by decide) (fun h => absurd h (by decide)) (fun c_35_8 => ?_)
    exact hj_38_15 M_8 _ _ _ iM_8 (qw_I hM_8 (by decide)) hw (lv_sub hl [0, 1, 2] rfl)

variable {Tc : gC} {Tm : gM}
/-- but of the queue aside nothing is worse -/
def rw1 (N M : ti_M) : Prop := lw N M ∧ ik N M ∧ (∀ q2, q2 ≠ 1 → (mC M q2 → mC N q2) ∧ (mP M q2 → mP N q2)) ∧ tY N 60 38 0 = tY M 60 38 0
theorem rw1_rq {N M : ti_M} (r : rq 1 N M) : rw1 N M := ⟨r.1, r.2.1, fun q2 h => ⟨(r.2.2.1 q2).1 h, (r.2.2.1 q2).2⟩, r.2.2.2 (by decide)⟩
theorem rw1_qw {N M : ti_M} (r : qw N M) : rw1 N M := rw1_rq (rq_qw r)
theorem rw1.refl {M : ti_M} : rw1 M M := rw1_qw qw.refl
theorem rw1.trans {K N M : ti_M} (a : rw1 K N) (b : rw1 N M) : rw1 K M :=
  ⟨fun k h1 h2 => (a.1 k h1 h2).trans (b.1 k h1 h2), ⟨a.2.1.1.trans b.2.1.1, a.2.1.2.1.trans b.2.1.2.1, a.2.1.2.2.trans b.2.1.2.2⟩, fun q2 h => ⟨fun c => (a.2.2.1 q2 h).1 ((b.2.2.1 q2 h).1 c), fun c => (a.2.2.1 q2 h).2 ((b.2.2.1 q2 h).2 c)⟩, a.2.2.2.trans b.2.2.2⟩
theorem rw1_38 {M N : ti_M} {i : Nat} {v : Int32} (_ : mI Tm M) (e : N = uY M 60 38 (upd (tY M 60 38) i v)) (hi : i = 1) : rw1 N M := by
  subst hi
  have r : ∀ x, x ≠ 1 → tY N 60 38 x = tY M 60 38 x := fun x hx => by rw [tY_uE e, pk_un hx]
  have n : ∀ k, k ≠ 38 → tY N 60 k = tY M 60 k := fun k hk => tY_nE e (nk hk)
  refine ⟨fun k h1 h2 => n k (by omega), ⟨tI_uYE e, tI_uYE e, tI_uYE e⟩, fun q2 h => ⟨fun c => ?_, fun c => ?_⟩, r 0 (by decide)⟩
  · unfold mC at *; rw [r q2 h, n 40 (by decide)]; exact c
  · unfold mP at *; rw [r q2 h, n 40 (by decide), n 39 (by decide), n 3 (by decide)]; exact c
theorem rw1_39 {M N : ti_M} {i : Nat} {v : Int32} (hI : mI Tm M) (e : N = uY M 60 39 (upd (tY M 60 39) i v)) (hi : 8 ≤ i ∧ i < 16) : rw1 N M := by
  have n : ∀ k, k ≠ 39 → tY N 60 k = tY M 60 k := fun k hk => tY_nE e (nk hk)
  have hb : ∀ x, 0 ≤ (tY M 60 38 x).toInt ∧ (tY M 60 38 x).toInt ≤ 8 := fun x => hI.2.1 38 x
  refine ⟨fun k h1 h2 => n k (by omega), ⟨tI_uYE e, tI_uYE e, tI_uYE e⟩, fun q2 h => ⟨fun c => ?_, fun c => ?_⟩, by rw [n 38 (by decide)]⟩
  · unfold mC at *; rw [n 38 (by decide), n 40 (by decide)]; exact c
  · intro m hm hmn hw
    rw [n 3 (by decide)] at hmn
    rw [n 40 (by decide)] at hw
    obtain ⟨p, h1, h2⟩ := c m hm hmn hw
    have := hb q2
    exact ⟨p, by rw [n 38 (by decide)]; exact h1, by rw [tY_uE e, pk_un (by omega)]; exact h2⟩
theorem rw1_40 {M N : ti_M} {i : Nat} {v : Int32} (_ : mI Tm M) (e : N = uY M 60 40 (upd (tY M 60 40) i v)) (hi : 8 ≤ i ∧ i < 16) : rw1 N M := by
  have n : ∀ k, k ≠ 40 → tY N 60 k = tY M 60 k := fun k hk => tY_nE e (nk hk)
  refine ⟨fun k h1 h2 => n k (by omega), ⟨tI_uYE e, tI_uYE e, tI_uYE e⟩, fun q2 h => ⟨fun c => ?_, fun c => ?_⟩, by rw [n 38 (by decide)]⟩
  · unfold mC at *; rw [n 38 (by decide), tY_uE e, zc_out _ _ _ _ (by omega)]; exact c
  · intro m hm hmn hw
    rw [n 3 (by decide)] at hmn
    rw [tY_uE e, pk_un (by omega)] at hw
    rw [n 38 (by decide), n 39 (by decide)]
    exact c m hm hmn hw
theorem mC_38 {M N : ti_M} {i : Nat} {v : Int32} (c : mC M 1) (e : N = uY M 60 38 (upd (tY M 60 38) i v)) (hi : i = 1) (h : v.toInt ≤ (tY M 60 38 1).toInt) : mC N 1 := by
  subst hi; unfold mC at *; rw [tY_uE e, pk_us, tY_nE e (nk (by decide))]; omega
theorem mC_39 {M N : ti_M} {f : Nat → Int32} (c : mC M 1) (e : N = uY M 60 39 f) : mC N 1 := by unfold mC at *; rw [tY_nE e (nk (by decide)), tY_nE e (nk (by decide))]; exact c
theorem mC_40 {M N : ti_M} {i : Nat} {v : Int32} (c : mC M 1) (e : N = uY M 60 40 (upd (tY M 60 40) i v)) (h : v.toInt ≠ 0) : mC N 1 := by
  unfold mC at *; rw [tY_nE e (nk (by decide)), tY_uE e]
  have := zc_le (tY M 60 40) i (8 * 1) v h
  omega
theorem mF_rw {M N : ti_M} (h : mF Tm M) (hI : mI Tm N) (r : rw1 N M) : mF Tm N := by
  obtain ⟨-, hL, ⟨h1, h2⟩, h3, h4⟩ := h
  have g : ∀ q2, q2 ≠ 1 → mC M q2 ∧ mP M q2 → mC N q2 ∧ mP N q2 := fun q2 hne p => ⟨(r.2.2.1 q2 hne).1 p.1, (r.2.2.1 q2 hne).2 p.2⟩
  refine ⟨hI, mL_lw r.1 hL, g 0 (by decide) ⟨h1, h2⟩, ?_, ?_⟩
  · rw [r.2.1.2.1]; exact fun p => g 2 (by omega) (h3 p)
  · rw [r.2.1.2.2]; exact fun k hk => g _ (by omega) (h4 k hk)
set_option maxHeartbeats 4000000 in
set_option maxRecDepth 100000 in
theorem s_X10_served (l : Launch) (D : va_G) (A : Nat → Nat → Nat) (cy : Nat → ClassId) (hJ : ti_inj ti_LM A) (M : ti_M) (hI : mI Tm M) (hF : mF Tm M) (z1 : Int32) : ti_Ki l yX10_served cX10_served 2 (some .int) 8 ti_LM D A cy M [.ref (A 60 0), .int z1] (fun r M2 => mF Tm M2 ∧ tI M2 60 2 = tI M 60 2 ∧ lw M2 M) := by
  refine ti_eI yp_X10_served hJ ti_LM_nd (Nat.le_of_ble_eq_true rfl) ?_
  intro p e s m args below meth c Q H0 C hQ hw ls hl
  have hx := C.1
  have hb := C.2.1
  have hl : lv_has ls 2 [(0, .ref (A 60 0)), (1, .int z1)] := hl
  have hL : mL M := hF.2.1
  have hC0 : mC M 0 := hF.2.2.1.1
  have hP0 : mP M 0 := hF.2.2.1.2
  refine lv_aload_n hx hb dX10_served_0 rfl (lv_at hl 0 rfl) ?_
  refine lv_iconst (v := 0) hx hb dX10_served_1 (by decide) ?_
  refine ti_putI (ci := 10) (k := 0) (N := 67) (T := TX10) C hw iw_10 tyX10 tyX10_ok nmX10 rfl ob_60 (by decide) (by decide) fl_X10_154 rfl rfl rfl rfl (fn_10 A _) fs_10_0 dX10_served_2 (fun H locs hw => ?_)
  obtain ⟨M_1, hM_1⟩ : ∃ z : ti_M, z = uI M 60 0 0 := ⟨_, rfl⟩
  have hw := hw.to hM_1.symm
  have iM_1 : mI Tm M_1 := mI_uI hI hM_1 (by decide) (by decide) trivial
  refine lv_aload_n hx hb dX10_served_5 rfl (lv_at hl 0 rfl) ?_
  refine lv_iload_n hx hb dX10_served_6 rfl (lv_at hl 1 rfl) ?_
  refine ti_callVi (ci := 10) (av := [.int z1]) C hw (s_X10_isMan l D A cy hJ M_1 iM_1 z1) ⟨ml_X10_356, ym_X10_isMan, yv_X10_isMan, yi_X10_isMan, yc_X10_isMan⟩ yd_X10_isMan ob_60 (by decide) rfl rfl hl.1 (Nat.le_of_ble_eq_true rfl) ⟨by decide, by decide⟩ ⟨Nat.zero_le _, Nat.zero_le _⟩ dX10_served_7 (fun r_2 M_3 H locs hp_3 hw => ?_)
  obtain ⟨hm, hz⟩ := hp_3
  have hw := hw.to hm
  have lk_5 : (tY M_1 60 3 0).toInt = (tY M 60 3 0).toInt := by rw [(cg (tY_uIE hM_1) 0)]
  rcases hz with ⟨rfl, d0_4, d1_4, d2_4⟩ | rfl
  · refine sb_if_ne (tgt := 15) hx hb (by decide : (1 : Int32).toInt = 1) dX10_served_10 (by decide) (fun c_10_5 => ?_) (fun h => absurd h (by decide))
    refine lv_aload_n hx hb dX10_served_15 rfl (lv_at hl 0 rfl) ?_
    refine ti_callVv (ci := 10) (av := []) C hw (s_X10_lays l D A cy hJ M_1 iM_1 (((rw1_qw (qw_I hM_1 (by decide))).2.2.1 0 (by decide)).1 hC0) (((rw1_qw (qw_I hM_1 (by decide))).2.2.1 0 (by decide)).2 hP0)) ⟨ml_X10_442, ym_X10_lays, yv_X10_lays, yi_X10_lays, yc_X10_lays⟩ yd_X10_lays ob_60 (by decide) rfl rfl hl.1 (Nat.le_of_ble_eq_true rfl) ⟨by decide, by decide⟩ ⟨Nat.zero_le _, Nat.zero_le _⟩ dX10_served_16 (fun M_9 H locs hp_9 hw => ?_)
    obtain ⟨iM_9, q_10, q_11, q_12, q_13, q_14, q_15⟩ := hp_9
    refine lv_aload_n hx hb dX10_served_19 rfl (lv_at hl 0 rfl) ?_
    refine lv_aload_n hx hb dX10_served_20 rfl (lv_at hl 0 rfl) ?_
    refine ti_callVi (ci := 10) (av := []) C hw (s_X10_minutesLeft l D A cy hJ M_9 iM_9 ) ⟨ml_X10_430, ym_X10_minutesLeft, yv_X10_minutesLeft, yi_X10_minutesLeft, yc_X10_minutesLeft⟩ yd_X10_minutesLeft ob_60 (by decide) rfl rfl hl.1 (Nat.le_of_ble_eq_true rfl) ⟨by decide, by decide⟩ ⟨Nat.zero_le _, Nat.zero_le _⟩ dX10_served_21 (fun r_16 M_17 H locs hp_17 hw => ?_)
    obtain ⟨hm, b0r_16, b1r_16, p0r_16⟩ := hp_17
    have hw := hw.to hm
    refine ti_callVv (ci := 10) (av := [.int r_16]) C hw (s_X10_runs l D A cy hJ M_9 iM_9 q_11 (mL_lw (lk.trans (lk_of q_10.1 q_10.2.1) (lk_I hM_1 (by decide))).1 hL) r_16) ⟨ml_X10_445, ym_X10_runs, yv_X10_runs, yi_X10_runs, yc_X10_runs⟩ yd_X10_runs ob_60 (by decide) rfl rfl hl.1 (Nat.le_of_ble_eq_true rfl) ⟨by decide, by decide⟩ ⟨Nat.zero_le _, Nat.zero_le _⟩ dX10_served_24 (fun M_19 H locs hp_19 hw => ?_)
    obtain ⟨iM_19, q_20, q_21⟩ := hp_19
    refine lv_aload_n hx hb dX10_served_27 rfl (lv_at hl 0 rfl) ?_
    refine ti_get (ci := 10) (k := 48) (N := 67) (T := TX10) (v := .ref (A 60 49)) C hw iw_10 rfl ob_60 (by decide) (by decide) fl_X10_111 rfl rfl dX10_served_28 ?_
    refine lv_bipush (v := 8) hx hb dX10_served_31 (by decide) ?_
    refine lv_iload_n hx hb dX10_served_33 rfl (lv_at hl 1 rfl) ?_
    refine lv_iadd hx hb dX10_served_34 ?_
    refine lv_topi (fun x_22 ex_22 => ?_)
    have lox_22z1 := z1.le_toInt
    have hix_22z1 := z1.toInt_lt
    have tx_22 : x_22.toInt = 8 + z1.toInt := i_add ex_22 (by decide : (8 : Int32).toInt = 8) rfl (by omega) (by omega)
    refine ti_iald (ci := 10) (k := 48) (n := 184) C hw ob_60 (by decide) (fun _ _ => rfl) (vp_in_iff.mpr (by omega)) dX10_served_35 ?_
    refine lv_topi (fun x_23 ex_23 => ?_)
    have yx_23 : tY M_19 60 48 x_22.toNatClampNeg = x_23 := (ex_23.symm)
    exact hQ _ _ _ _ _ _ hw rfl (⟨mF_rw hF iM_19 (rw1.trans (rw1_rq q_20) (rw1.trans (rw1_rq q_10) (rw1_qw (qw_I hM_1 (by decide))))), (rw1.trans (rw1_rq q_20) (rw1.trans (rw1_rq q_10) (rw1_qw (qw_I hM_1 (by decide))))).2.1.1, (rw1.trans (rw1_rq q_20) (rw1.trans (rw1_rq q_10) (rw1_qw (qw_I hM_1 (by decide))))).1⟩) dX10_served_36
  · refine sb_if_ne (tgt := 15) hx hb (by decide : (0 : Int32).toInt = 0) dX10_served_10 (by decide) (fun h => absurd h (by decide)) (fun c_10_6 => ?_)
    refine lv_iconst (v := (-1)) hx hb dX10_served_13 (by decide) ?_
    exact hQ _ _ _ _ _ _ hw rfl (⟨mF_rw hF iM_1 (rw1_qw (qw_I hM_1 (by decide))), (rw1_qw (qw_I hM_1 (by decide))).2.1.1, (rw1_qw (qw_I hM_1 (by decide))).1⟩) dX10_served_14
set_option maxHeartbeats 4000000 in
set_option maxRecDepth 100000 in
theorem s_X10_coming (l : Launch) (D : va_G) (A : Nat → Nat → Nat) (cy : Nat → ClassId) (hJ : ti_inj ti_LM A) (M : ti_M) (hI : mI Tm M) (hF : mF Tm M) (z1 : Int32) (z2 : Int32) (z3 : Int32) : ti_Ki l yX10_coming cX10_coming 5 (some .int) 8 ti_LM D A cy M [.ref (A 60 0), .int z1, .int z2, .int z3] (fun r M2 => mF Tm M2 ∧ tI M2 60 2 = tI M 60 2 ∧ lw M2 M) := by
  refine ti_eI yp_X10_coming hJ ti_LM_nd (Nat.le_of_ble_eq_true rfl) ?_
  intro p e s m args below meth c Q H0 C hQ hw ls hl
  have hx := C.1
  have hb := C.2.1
  have hl : lv_has ls 5 [(0, .ref (A 60 0)), (1, .int z1), (2, .int z2), (3, .int z3)] := hl
  have hL : mL M := hF.2.1
  have hC0 : mC M 0 := hF.2.2.1.1
  have hP0 : mP M 0 := hF.2.2.1.2
  refine lv_aload_n hx hb dX10_coming_0 rfl (lv_at hl 0 rfl) ?_
  refine lv_iconst (v := 0) hx hb dX10_coming_1 (by decide) ?_
  refine ti_putI (ci := 10) (k := 0) (N := 67) (T := TX10) C hw iw_10 tyX10 tyX10_ok nmX10 rfl ob_60 (by decide) (by decide) fl_X10_154 rfl rfl rfl rfl (fn_10 A _) fs_10_0 dX10_coming_2 (fun H locs hw => ?_)
  obtain ⟨M_1, hM_1⟩ : ∃ z : ti_M, z = uI M 60 0 0 := ⟨_, rfl⟩
  have hw := hw.to hM_1.symm
  have iM_1 : mI Tm M_1 := mI_uI hI hM_1 (by decide) (by decide) trivial
  refine lv_aload_n hx hb dX10_coming_5 rfl (lv_at hl 0 rfl) ?_
  refine lv_iload_n hx hb dX10_coming_6 rfl (lv_at hl 1 rfl) ?_
  refine ti_callVi (ci := 10) (av := [.int z1]) C hw (s_X10_isToCome l D A cy hJ M_1 iM_1 z1) ⟨ml_X10_433, ym_X10_isToCome, yv_X10_isToCome, yi_X10_isToCome, yc_X10_isToCome⟩ yd_X10_isToCome ob_60 (by decide) rfl rfl hl.1 (Nat.le_of_ble_eq_true rfl) ⟨by decide, by decide⟩ ⟨Nat.zero_le _, Nat.zero_le _⟩ dX10_coming_7 (fun r_2 M_3 H locs hp_3 hw => ?_)
  obtain ⟨hm, hz⟩ := hp_3
  have hw := hw.to hm
  have lk_5 : (tY M_1 60 3 0).toInt = (tY M 60 3 0).toInt := by rw [(cg (tY_uIE hM_1) 0)]
  have hj_36_15 : ∀  (H : Heap) (locs : List Loc) (ls : Array Slot), ti_H ti_LM D A cy H0 M_1 H locs → lv_has ls 5 [(0, .ref (A 60 0)), (1, .int z1), (2, .int z2), (3, .int z3)] → W p l e (ti_rm 8) s m args below meth c H locs 0 0 Q (F0 m 36 ls []) := by
    intro  H locs ls  hw hl
    refine lv_iconst (v := (-1)) hx hb dX10_coming_36 (by decide) ?_
    exact hQ _ _ _ _ _ _ hw rfl (⟨mF_rw hF iM_1 (rw1_qw (qw_I hM_1 (by decide))), (rw1_qw (qw_I hM_1 (by decide))).2.1.1, (rw1_qw (qw_I hM_1 (by decide))).1⟩) dX10_coming_37
  rcases hz with ⟨rfl, d0_4, d1_4, d2_4, d3_4⟩ | rfl
  · refine sb_if_eq (tgt := 36) hx hb (by decide : (1 : Int32).toInt = 1) dX10_coming_10 (by decide) (fun h => absurd h (by decide)) (fun c_10_5 => ?_)
    refine lv_iload_n hx hb dX10_coming_13 rfl (lv_at hl 2 rfl) ?_
    refine ti_callSi (av := [.int z2]) C hw (s_X10_isPlace l D A cy hJ M_1 iM_1 z2) ⟨ml_X10_414, ys_X10_isPlace, yi_X10_isPlace, yc_X10_isPlace⟩ yd_X10_isPlace rfl hl.1 (Nat.le_of_ble_eq_true rfl) ⟨by decide, by decide⟩ ⟨Nat.zero_le _, Nat.zero_le _⟩ dX10_coming_14 (fun r_8 M_9 H locs hp_9 hw => ?_)
    obtain ⟨hm, hz⟩ := hp_9
    have hw := hw.to hm
    rcases hz with ⟨rfl, d0_10, d1_10⟩ | rfl
    · refine sb_if_eq (tgt := 36) hx hb (by decide : (1 : Int32).toInt = 1) dX10_coming_17 (by decide) (fun h => absurd h (by decide)) (fun c_17_10 => ?_)
      refine lv_iload_n hx hb dX10_coming_20 rfl (lv_at hl 3 rfl) ?_
      refine lv_aload_n hx hb dX10_coming_21 rfl (lv_at hl 0 rfl) ?_
      refine ti_get (ci := 10) (k := 34) (N := 67) (T := TX10) (v := .ref (A 60 35)) C hw iw_10 rfl ob_60 (by decide) (by decide) fl_X10_69 rfl rfl dX10_coming_22 ?_
      refine lv_iconst (v := 0) hx hb dX10_coming_25 (by decide) ?_
      refine ti_iald (ci := 10) (k := 34) (n := 23) C hw ob_60 (by decide) (fun _ _ => rfl) (by unfold vp_in; decide) dX10_coming_26 ?_
      refine lv_topi (fun x_13 ex_13 => ?_)
      have yx_13 : tY M_1 60 34 0 = x_13 := ((congrArg _ (by decide)).symm.trans ex_13.symm)
      have bx_13 : 0 ≤ x_13.toInt ∧ x_13.toInt ≤ 120 := mI_ry (k := 34) (i := 0) iM_1 yx_13.symm (by decide)
      have zx_13 : (tY M_1 60 34 0).toInt = x_13.toInt := by rw [yx_13]
      have wx_13 : tY M 60 34 0 = x_13 := ((cg (tY_uIE hM_1) 0)).symm.trans yx_13
      have zwx_13 : (tY M 60 34 0).toInt = x_13.toInt := by rw [wx_13]
      refine sb_icmp_lt (tgt := 36) hx hb rfl rfl dX10_coming_27 (by decide) (fun c_27_13 => ?_) (fun c_27_13 => ?_)
      · exact hj_36_15  _ _ _  hw (lv_sub hl [0, 1, 2, 3] rfl)
      · refine lv_iload_n hx hb dX10_coming_30 rfl (lv_at hl 3 rfl) ?_
        refine lv_bipush (v := 120) hx hb dX10_coming_31 (by decide) ?_
        refine sb_icmp_lt (tgt := 38) hx hb rfl (by decide : (120 : Int32).toInt = 120) dX10_coming_33 (by decide) (fun c_33_14 => ?_) (fun c_33_14 => ?_)
        · refine lv_aload_n hx hb dX10_coming_38 rfl (lv_at hl 0 rfl) ?_
          refine ti_get (ci := 10) (k := 34) (N := 67) (T := TX10) (v := .ref (A 60 35)) C hw iw_10 rfl ob_60 (by decide) (by decide) fl_X10_69 rfl rfl dX10_coming_39 ?_
          refine lv_iconst (v := 0) hx hb dX10_coming_42 (by decide) ?_
          refine ti_iald (ci := 10) (k := 34) (n := 23) C hw ob_60 (by decide) (fun _ _ => rfl) (by unfold vp_in; decide) dX10_coming_43 ?_
          refine ti_top (y := x_13) ((congrArg _ (by decide)).trans ((cg (tY_uIE hM_1) 0).trans wx_13)) ?_
          refine lv_istore (lv' := [(4, .int x_13), (0, .ref (A 60 0)), (1, .int z1), (2, .int z2), (3, .int z3)]) hx hb dX10_coming_44 hl (by decide) rfl (fun ls hl => ?_)
          have hl_46_20 : ∀ (n_21 : Nat) (x_16 : Int32) (M_19 : ti_M) (H : Heap) (locs : List Loc) (ls : Array Slot), (120 - x_16.toInt : Int).toNat < n_21 → (0 ≤ x_16.toInt) → (x_16.toInt ≤ 120) → (mI Tm M_19) → (rw1 M_19 M) → ti_H ti_LM D A cy H0 M_19 H locs → lv_has ls 5 [(4, .int x_16), (0, .ref (A 60 0)), (1, .int z1), (2, .int z2), (3, .int z3)] → W p l e (ti_rm 8) s m args below meth c H locs 0 0 Q (F0 m 46 ls []) := by
            intro n_21
            induction n_21 with
            | zero => intro x_16 M_19 H locs ls hf_21; exact absurd hf_21 (Nat.not_lt_zero _)
            | succ n_21 ih_21 =>
              intro x_16 M_19 H locs ls hf_21 b_17 b_18 iM_19 f_20 hw hl
              refine lv_iload hx hb dX10_coming_46 (lv_at hl 0 rfl) ?_
              refine lv_iload_n hx hb dX10_coming_48 rfl (lv_at hl 4 rfl) ?_
              refine sb_icmp_gt (tgt := 100) hx hb rfl rfl dX10_coming_49 (by decide) (fun c_49_21 => ?_) (fun c_49_21 => ?_)
              · refine lv_bipush (v := (-2)) hx hb dX10_coming_100 (by decide) ?_
                exact hQ _ _ _ _ _ _ hw rfl (⟨mF_rw hF iM_19 f_20, f_20.2.1.1, f_20.1⟩) dX10_coming_102
              · refine lv_aload_n hx hb dX10_coming_52 rfl (lv_at hl 1 rfl) ?_
                refine ti_callVv (ci := 10) (av := []) C hw (s_X10_lays l D A cy hJ M_19 iM_19 ((f_20.2.2.1 0 (by decide)).1 hC0) ((f_20.2.2.1 0 (by decide)).2 hP0)) ⟨ml_X10_442, ym_X10_lays, yv_X10_lays, yi_X10_lays, yc_X10_lays⟩ yd_X10_lays ob_60 (by decide) rfl rfl hl.1 (Nat.le_of_ble_eq_true rfl) ⟨by decide, by decide⟩ ⟨Nat.zero_le _, Nat.zero_le _⟩ dX10_coming_53 (fun M_24 H locs hp_24 hw => ?_)
                obtain ⟨iM_24, q_25, q_26, q_27, q_28, q_29, q_30⟩ := hp_24
                refine lv_aload_n hx hb dX10_coming_56 rfl (lv_at hl 1 rfl) ?_
                refine ti_get (ci := 10) (k := 44) (N := 67) (T := TX10) (v := .ref (A 60 45)) C hw iw_10 rfl ob_60 (by decide) (by decide) fl_X10_99 rfl rfl dX10_coming_57 ?_
                refine lv_bipush (v := 8) hx hb dX10_coming_60 (by decide) ?_
                refine lv_iload_n hx hb dX10_coming_62 rfl (lv_at hl 2 rfl) ?_
                refine lv_iadd hx hb dX10_coming_63 ?_
                refine lv_topi (fun x_31 ex_31 => ?_)
                have lox_31z1 := z1.le_toInt
                have hix_31z1 := z1.toInt_lt
                have tx_31 : x_31.toInt = 8 + z1.toInt := i_add ex_31 (by decide : (8 : Int32).toInt = 8) rfl (by omega) (by omega)
                refine lv_iload hx hb dX10_coming_64 (lv_at hl 0 rfl) ?_
                refine ti_iast (ci := 10) (k := 44) (n := 184) C hw ob_60 (by decide) (fun _ _ => rfl) (vp_in_iff.mpr (by omega)) dX10_coming_66 (fun H locs hw => ?_)
                obtain ⟨M_32, hM_32⟩ : ∃ z : ti_M, z = uY M_24 60 44 (upd (tY M_24 60 44) (x_31 : Int32).toNatClampNeg x_16) := ⟨_, rfl⟩
                have hw := hw.to hM_32.symm
                have iM_32 : mI Tm M_32 := mI_up (i := x_31.toNatClampNeg) iM_24 hM_32 trivial
                refine lv_aload_n hx hb dX10_coming_67 rfl (lv_at hl 1 rfl) ?_
                refine lv_iload_n hx hb dX10_coming_68 rfl (lv_at hl 4 rfl) ?_
                refine lv_iconst (v := 1) hx hb dX10_coming_69 (by decide) ?_
                refine lv_iadd hx hb dX10_coming_70 ?_
                refine lv_topi (fun x_33 ex_33 => ?_)
                refine lv_aload_n hx hb dX10_coming_71 rfl (lv_at hl 1 rfl) ?_
                refine ti_get (ci := 10) (k := 34) (N := 67) (T := TX10) (v := .ref (A 60 35)) C hw iw_10 rfl ob_60 (by decide) (by decide) fl_X10_69 rfl rfl dX10_coming_72 ?_
                refine lv_iconst (v := 0) hx hb dX10_coming_75 (by decide) ?_
                refine ti_iald (ci := 10) (k := 34) (n := 23) C hw ob_60 (by decide) (fun _ _ => rfl) (by unfold vp_in; decide) dX10_coming_76 ?_
                refine lv_topi (fun x_34 ex_34 => ?_)
                have yx_34 : tY M_32 60 34 0 = x_34 := ((congrArg _ (by decide)).symm.trans ex_34.symm)
                have bx_34 : 0 ≤ x_34.toInt ∧ x_34.toInt ≤ 120 := mI_ry (k := 34) (i := 0) iM_32 yx_34.symm (by decide)
                have zx_34 : (tY M_32 60 34 0).toInt = x_34.toInt := by rw [yx_34]
                have wx_34 : tY M_24 60 34 0 = x_34 := ((cg (tY_nE hM_32 (nk (by decide))) 0)).symm.trans yx_34
                have zwx_34 : (tY M_24 60 34 0).toInt = x_34.toInt := by rw [wx_34]
                refine lv_isub hx hb dX10_coming_77 ?_
                refine lv_topi (fun x_35 ex_35 => ?_)
                refine ti_callVv (ci := 10) (av := [.int x_35]) C hw (s_X10_runs l D A cy hJ M_32 iM_32 (mC_qw (qw_Y hM_32 (by decide)) q_26) (mL_lw (lk.trans (lk_Y hM_32 (by decide)) (lk.trans (lk_of q_25.1 q_25.2.1) (lk_of f_20.1 f_20.2.1))).1 hL) x_35) ⟨ml_X10_445, ym_X10_runs, yv_X10_runs, yi_X10_runs, yc_X10_runs⟩ yd_X10_runs ob_60 (by decide) rfl rfl hl.1 (Nat.le_of_ble_eq_true rfl) ⟨by decide, by decide⟩ ⟨Nat.zero_le _, Nat.zero_le _⟩ dX10_coming_78 (fun M_37 H locs hp_37 hw => ?_)
                obtain ⟨iM_37, q_38, q_39⟩ := hp_37
                refine lv_aload_n hx hb dX10_coming_81 rfl (lv_at hl 1 rfl) ?_
                refine lv_iconst (v := 1) hx hb dX10_coming_82 (by decide) ?_
                refine lv_iload_n hx hb dX10_coming_83 rfl (lv_at hl 3 rfl) ?_
                refine ti_callVi (ci := 10) (av := [.int 1, .int z2]) C hw (s_X10_standsAt_1 l D A cy hJ M_37 iM_37 z2 (by first | omega | decide) (by first | omega | decide)) ⟨ml_X10_417, ym_X10_standsAt, yv_X10_standsAt, yi_X10_standsAt, yc_X10_standsAt⟩ yd_X10_standsAt ob_60 (by decide) rfl rfl hl.1 (Nat.le_of_ble_eq_true rfl) ⟨by decide, by decide⟩ ⟨Nat.zero_le _, Nat.zero_le _⟩ dX10_coming_84 (fun r_40 M_41 H locs hp_41 hw => ?_)
                obtain ⟨hm, b0r_40, b1r_40⟩ := hp_41
                have hw := hw.to hm
                refine lv_iload_n hx hb dX10_coming_87 rfl (lv_at hl 2 rfl) ?_
                refine sb_icmp_ne (tgt := 94) hx hb rfl rfl dX10_coming_88 (by decide) (fun c_88_41 => ?_) (fun c_88_41 => ?_)
                · obtain ⟨x_43, ex_43⟩ : ∃ z : Int32, z = x_16 + 1 := ⟨_, rfl⟩
                  have tx_43 : x_43.toInt = x_16.toInt + 1 := i_add ex_43 rfl (by decide) (by omega) (by omega)
                  refine lv_iinc (v := x_43) (lv' := [(4, .int x_43), (0, .ref (A 60 0)), (1, .int z1), (2, .int z2), (3, .int z3)]) hx hb dX10_coming_94 hl (k := 0) rfl (by rw [ex_43]; rfl) (by decide) rfl (fun ls hl => ?_)
                  refine lv_goto (tgt := 46) hx hb dX10_coming_97 (by decide) ?_
                  exact ih_21 x_43 M_37 _ _ _ (by omega) (by first | omega | decide) (by first | omega | decide) iM_37 (rw1.trans (rw1_rq q_38) (rw1.trans (rw1_qw (qw_Y hM_32 (by decide))) (rw1.trans (rw1_rq q_25) f_20))) hw (lv_sub hl [0, 1, 2, 3, 4] rfl)
                · refine lv_iload hx hb dX10_coming_91 (lv_at hl 0 rfl) ?_
                  exact hQ _ _ _ _ _ _ hw rfl (⟨mF_rw hF iM_37 (rw1.trans (rw1_rq q_38) (rw1.trans (rw1_qw (qw_Y hM_32 (by decide))) (rw1.trans (rw1_rq q_25) f_20))), (rw1.trans (rw1_rq q_38) (rw1.trans (rw1_qw (qw_Y hM_32 (by decide))) (rw1.trans (rw1_rq q_25) f_20))).2.1.1, (rw1.trans (rw1_rq q_38) (rw1.trans (rw1_qw (qw_Y hM_32 (by decide))) (rw1.trans (rw1_rq q_25) f_20))).1⟩) dX10_coming_93
          exact hl_46_20 ((120 - x_13.toInt : Int).toNat + 1) x_13 M_1 _ _ _ (Nat.lt_succ_self _) (by first | omega | decide) (by first | omega | decide) iM_1 (rw1_qw (qw_I hM_1 (by decide))) hw (lv_sub hl [0, 1, 2, 3, 4] rfl)
        · exact hj_36_15  _ _ _  hw (lv_sub hl [0, 1, 2, 3] rfl)
    · refine sb_if_eq (tgt := 36) hx hb (by decide : (0 : Int32).toInt = 0) dX10_coming_17 (by decide) (fun c_17_11 => ?_) (fun h => absurd h (by decide))
      exact hj_36_15  _ _ _  hw (lv_sub hl [0, 1, 2, 3] rfl)
  · refine sb_if_eq (tgt := 36) hx hb (by decide : (0 : Int32).toInt = 0) dX10_coming_10 (by decide) (fun c_10_6 => ?_) (fun h => absurd h (by decide))
    exact hj_36_15  _ _ _  hw (lv_sub hl [0, 1, 2, 3] rfl)
set_option maxHeartbeats 4000000 in
set_option maxRecDepth 100000 in
theorem s_X10_best (l : Launch) (D : va_G) (A : Nat → Nat → Nat) (cy : Nat → ClassId) (hJ : ti_inj ti_LM A) (M : ti_M) (hI : mI Tm M) (hF : mF Tm M) (z1 : Int32) (z2 : Int32) (z3 : Int32) (z4 : Int32) : ti_Ki l yX10_best cX10_best 10 (some .int) 7 ti_LM D A cy M [.ref (A 60 0), .int z1, .int z2, .int z3, .int z4] (fun r M2 => mF Tm M2 ∧ tI M2 60 2 = tI M 60 2 ∧ lw M2 M) := by
  refine ti_eI yp_X10_best hJ ti_LM_nd (Nat.le_of_ble_eq_true rfl) ?_
  intro p e s m args below meth c Q H0 C hQ hw ls hl
  have hx := C.1
  have hb := C.2.1
  have hl : lv_has ls 10 [(0, .ref (A 60 0)), (1, .int z1), (2, .int z2), (3, .int z3), (4, .int z4)] := hl
  have hL : mL M := hF.2.1
  have hC0 : mC M 0 := hF.2.2.1.1
  have hP0 : mP M 0 := hF.2.2.1.2
  refine lv_aload_n hx hb dX10_best_0 rfl (lv_at hl 0 rfl) ?_
  refine lv_iconst (v := 0) hx hb dX10_best_1 (by decide) ?_
  refine ti_putI (ci := 10) (k := 0) (N := 67) (T := TX10) C hw iw_10 tyX10 tyX10_ok nmX10 rfl ob_60 (by decide) (by decide) fl_X10_154 rfl rfl rfl rfl (fn_10 A _) fs_10_0 dX10_best_2 (fun H locs hw => ?_)
  obtain ⟨M_1, hM_1⟩ : ∃ z : ti_M, z = uI M 60 0 0 := ⟨_, rfl⟩
  have hw := hw.to hM_1.symm
  have iM_1 : mI Tm M_1 := mI_uI hI hM_1 (by decide) (by decide) trivial
  refine lv_iload_n hx hb dX10_best_5 rfl (lv_at hl 1 rfl) ?_
  refine ti_callSi (av := [.int z1]) C hw (s_X10_isPower l D A cy hJ M_1 iM_1 z1) ⟨ml_X10_420, ys_X10_isPower, yi_X10_isPower, yc_X10_isPower⟩ yd_X10_isPower rfl hl.1 (Nat.le_of_ble_eq_true rfl) ⟨by decide, by decide⟩ ⟨Nat.zero_le _, Nat.zero_le _⟩ dX10_best_6 (fun r_2 M_3 H locs hp_3 hw => ?_)
  obtain ⟨hm, hz⟩ := hp_3
  have hw := hw.to hm
  have hj_39_19 : ∀  (H : Heap) (locs : List Loc) (ls : Array Slot), ti_H ti_LM D A cy H0 M_1 H locs → lv_has ls 10 [(0, .ref (A 60 0)), (1, .int z1), (2, .int z2), (3, .int z3), (4, .int z4)] → W p l e (ti_rm 7) s m args below meth c H locs 0 0 Q (F0 m 39 ls []) := by
    intro  H locs ls  hw hl
    refine lv_iconst (v := (-1)) hx hb dX10_best_39 (by decide) ?_
    exact hQ _ _ _ _ _ _ hw rfl (⟨mF_rw hF iM_1 (rw1_qw (qw_I hM_1 (by decide))), (rw1_qw (qw_I hM_1 (by decide))).2.1.1, (rw1_qw (qw_I hM_1 (by decide))).1⟩) dX10_best_40
  rcases hz with ⟨rfl, d0_4, d1_4⟩ | rfl
  · refine sb_if_eq (tgt := 39) hx hb (by decide : (1 : Int32).toInt = 1) dX10_best_9 (by decide) (fun h => absurd h (by decide)) (fun c_9_4 => ?_)
    refine lv_aload_n hx hb dX10_best_12 rfl (lv_at hl 0 rfl) ?_
    refine lv_iload_n hx hb dX10_best_13 rfl (lv_at hl 2 rfl) ?_
    refine ti_callVi (ci := 10) (av := [.int z2]) C hw (s_X10_isMan l D A cy hJ M_1 iM_1 z2) ⟨ml_X10_356, ym_X10_isMan, yv_X10_isMan, yi_X10_isMan, yc_X10_isMan⟩ yd_X10_isMan ob_60 (by decide) rfl rfl hl.1 (Nat.le_of_ble_eq_true rfl) ⟨by decide, by decide⟩ ⟨Nat.zero_le _, Nat.zero_le _⟩ dX10_best_14 (fun r_7 M_8 H locs hp_8 hw => ?_)
    obtain ⟨hm, hz⟩ := hp_8
    have hw := hw.to hm
    have lk_10 : (tY M_1 60 3 0).toInt = (tY M 60 3 0).toInt := by rw [(cg (tY_uIE hM_1) 0)]
    rcases hz with ⟨rfl, d0_9, d1_9, d2_9⟩ | rfl
    · refine sb_if_eq (tgt := 39) hx hb (by decide : (1 : Int32).toInt = 1) dX10_best_17 (by decide) (fun h => absurd h (by decide)) (fun c_17_10 => ?_)
      refine lv_aload_n hx hb dX10_best_20 rfl (lv_at hl 0 rfl) ?_
      refine lv_iload_n hx hb dX10_best_21 rfl (lv_at hl 3 rfl) ?_
      refine ti_callVi (ci := 10) (av := [.int z3]) C hw (s_X10_isLong l D A cy hJ M_1 iM_1 z3) ⟨ml_X10_461, ym_X10_isLong, yv_X10_isLong, yi_X10_isLong, yc_X10_isLong⟩ yd_X10_isLong ob_60 (by decide) rfl rfl hl.1 (Nat.le_of_ble_eq_true rfl) ⟨by decide, by decide⟩ ⟨Nat.zero_le _, Nat.zero_le _⟩ dX10_best_22 (fun r_13 M_14 H locs hp_14 hw => ?_)
      obtain ⟨hm, hz⟩ := hp_14
      have hw := hw.to hm
      rcases hz with ⟨rfl, d0_15, d1_15⟩ | rfl
      · refine sb_if_eq (tgt := 39) hx hb (by decide : (1 : Int32).toInt = 1) dX10_best_25 (by decide) (fun h => absurd h (by decide)) (fun c_25_15 => ?_)
        refine lv_iload hx hb dX10_best_28 (lv_at hl 4 rfl) ?_
        refine sb_if_lt (tgt := 39) hx hb rfl dX10_best_30 (by decide) (fun c_30_17 => ?_) (fun c_30_17 => ?_)
        · exact hj_39_19  _ _ _  hw (lv_sub hl [0, 1, 2, 3, 4] rfl)
        · refine lv_iload hx hb dX10_best_33 (lv_at hl 4 rfl) ?_
          refine lv_iconst (v := 1) hx hb dX10_best_35 (by decide) ?_
          refine sb_icmp_le (tgt := 41) hx hb rfl (by decide : (1 : Int32).toInt = 1) dX10_best_36 (by decide) (fun c_36_18 => ?_) (fun c_36_18 => ?_)
          · refine lv_iconst (v := (-1)) hx hb dX10_best_41 (by decide) ?_
            refine lv_istore (lv' := [(5, .int (-1)), (0, .ref (A 60 0)), (1, .int z1), (2, .int z2), (3, .int z3), (4, .int z4)]) hx hb dX10_best_42 hl (by decide) rfl (fun ls hl => ?_)
            refine lv_iconst (v := 0) hx hb dX10_best_44 (by decide) ?_
            refine lv_istore (lv' := [(6, .int 0), (5, .int (-1)), (0, .ref (A 60 0)), (1, .int z1), (2, .int z2), (3, .int z3), (4, .int z4)]) hx hb dX10_best_45 hl (by decide) rfl (fun ls hl => ?_)
            refine lv_iconst (v := 0) hx hb dX10_best_47 (by decide) ?_
            refine lv_istore (lv' := [(7, .int 0), (6, .int 0), (5, .int (-1)), (0, .ref (A 60 0)), (1, .int z1), (2, .int z2), (3, .int z3), (4, .int z4)]) hx hb dX10_best_48 hl (by decide) rfl (fun ls hl => ?_)
            have hl_50_26 : ∀ (n_27 : Nat) (x_20 : Int32) (x_23 : Int32) (x_24 : Int32) (M_25 : ti_M) (H : Heap) (locs : List Loc) (ls : Array Slot), (8 - x_20.toInt : Int).toNat < n_27 → (0 ≤ x_20.toInt) → (x_20.toInt ≤ 8) → (mI Tm M_25) → (rw1 M_25 M) → ti_H ti_LM D A cy H0 M_25 H locs → lv_has ls 10 [(7, .int x_20), (6, .int x_23), (5, .int x_24), (0, .ref (A 60 0)), (1, .int z1), (2, .int z2), (3, .int z3), (4, .int z4)] → W p l e (ti_rm 7) s m args below meth c H locs 0 0 Q (F0 m 50 ls []) := by
              intro n_27
              induction n_27 with
              | zero => intro x_20 x_23 x_24 M_25 H locs ls hf_27; exact absurd hf_27 (Nat.not_lt_zero _)
              | succ n_27 ih_27 =>
                intro x_20 x_23 x_24 M_25 H locs ls hf_27 b_21 b_22 iM_25 f_26 hw hl
                refine lv_iload hx hb dX10_best_50 (lv_at hl 0 rfl) ?_
                refine lv_bipush (v := 8) hx hb dX10_best_52 (by decide) ?_
                refine sb_icmp_ge (tgt := 146) hx hb rfl (by decide : (8 : Int32).toInt = 8) dX10_best_54 (by decide) (fun c_54_27 => ?_) (fun c_54_27 => ?_)
                · refine lv_iload hx hb dX10_best_146 (lv_at hl 7 rfl) ?_
                  refine sb_if_ne (tgt := 156) hx hb rfl dX10_best_148 (by decide) (fun c_148_64 => ?_) (fun c_148_64 => ?_)
                  · refine lv_iload hx hb dX10_best_156 (lv_at hl 1 rfl) ?_
                    exact hQ _ _ _ _ _ _ hw rfl (⟨mF_rw hF iM_25 f_26, f_26.2.1.1, f_26.1⟩) dX10_best_158
                  · refine lv_iload hx hb dX10_best_151 (lv_at hl 2 rfl) ?_
                    refine lv_goto (tgt := 158) hx hb dX10_best_153 (by decide) ?_
                    exact hQ _ _ _ _ _ _ hw rfl (⟨mF_rw hF iM_25 f_26, f_26.2.1.1, f_26.1⟩) dX10_best_158
                · refine lv_aload_n hx hb dX10_best_57 rfl (lv_at hl 3 rfl) ?_
                  refine ti_callVv (ci := 10) (av := []) C hw (s_X10_lays l D A cy hJ M_25 iM_25 ((f_26.2.2.1 0 (by decide)).1 hC0) ((f_26.2.2.1 0 (by decide)).2 hP0)) ⟨ml_X10_442, ym_X10_lays, yv_X10_lays, yi_X10_lays, yc_X10_lays⟩ yd_X10_lays ob_60 (by decide) rfl rfl hl.1 (Nat.le_of_ble_eq_true rfl) ⟨by decide, by decide⟩ ⟨Nat.zero_le _, Nat.zero_le _⟩ dX10_best_58 (fun M_30 H locs hp_30 hw => ?_)
                  obtain ⟨iM_30, q_31, q_32, q_33, q_34, q_35, q_36⟩ := hp_30
                  refine lv_aload_n hx hb dX10_best_61 rfl (lv_at hl 3 rfl) ?_
                  refine ti_get (ci := 10) (k := 49) (N := 67) (T := TX10) (v := .ref (A 60 50)) C hw iw_10 rfl ob_60 (by decide) (by decide) fl_X10_114 rfl rfl dX10_best_62 ?_
                  refine lv_iconst (v := 3) hx hb dX10_best_65 (by decide) ?_
                  refine lv_iload_n hx hb dX10_best_66 rfl (lv_at hl 4 rfl) ?_
                  refine lv_iadd hx hb dX10_best_67 ?_
                  refine lv_topi (fun x_37 ex_37 => ?_)
                  have lox_37z1 := z1.le_toInt
                  have hix_37z1 := z1.toInt_lt
                  have tx_37 : x_37.toInt = 3 + z1.toInt := i_add ex_37 (by decide : (3 : Int32).toInt = 3) rfl (by omega) (by omega)
                  refine lv_iload hx hb dX10_best_68 (lv_at hl 0 rfl) ?_
                  refine ti_iast (ci := 10) (k := 49) (n := 69) C hw ob_60 (by decide) (fun _ _ => rfl) (vp_in_iff.mpr (by omega)) dX10_best_70 (fun H locs hw => ?_)
                  obtain ⟨M_38, hM_38⟩ : ∃ z : ti_M, z = uY M_30 60 49 (upd (tY M_30 60 49) (x_37 : Int32).toNatClampNeg x_20) := ⟨_, rfl⟩
                  have hw := hw.to hM_38.symm
                  have iM_38 : mI Tm M_38 := mI_up (i := x_37.toNatClampNeg) iM_30 hM_38 (ib_mk (lo := 0) (hi := 7) (by omega) (by omega))
                  refine lv_iconst (v := 0) hx hb dX10_best_71 (by decide) ?_
                  refine lv_istore (lv' := [(8, .int 0), (7, .int x_20), (6, .int x_23), (5, .int x_24), (0, .ref (A 60 0)), (1, .int z1), (2, .int z2), (3, .int z3), (4, .int z4)]) hx hb dX10_best_72 hl (by decide) rfl (fun ls hl => ?_)
                  refine lv_iconst (v := 0) hx hb dX10_best_74 (by decide) ?_
                  refine lv_istore (lv' := [(9, .int 0), (8, .int 0), (7, .int x_20), (6, .int x_23), (5, .int x_24), (0, .ref (A 60 0)), (1, .int z1), (2, .int z2), (3, .int z3), (4, .int z4)]) hx hb dX10_best_75 hl (by decide) rfl (fun ls hl => ?_)
                  have hl_77_45 : ∀ (n_46 : Nat) (x_39 : Int32) (x_42 : Int32) (M_43 : ti_M) (H : Heap) (locs : List Loc) (ls : Array Slot), (60 - x_39.toInt : Int).toNat < n_46 → (0 ≤ x_39.toInt) → (x_39.toInt ≤ 60) → (mI Tm M_43) → (rw1 M_43 M) → (mC M_43 1) → ti_H ti_LM D A cy H0 M_43 H locs → lv_has ls 10 [(9, .int x_39), (8, .int x_42), (7, .int x_20), (6, .int x_23), (5, .int x_24), (0, .ref (A 60 0)), (1, .int z1), (2, .int z2), (3, .int z3), (4, .int z4)] → W p l e (ti_rm 7) s m args below meth c H locs 0 0 Q (F0 m 77 ls []) := by
                    intro n_46
                    induction n_46 with
                    | zero => intro x_39 x_42 M_43 H locs ls hf_46; exact absurd hf_46 (Nat.not_lt_zero _)
                    | succ n_46 ih_46 =>
                      intro x_39 x_42 M_43 H locs ls hf_46 b_40 b_41 iM_43 f_44 f_45 hw hl
                      refine lv_iload hx hb dX10_best_77 (lv_at hl 0 rfl) ?_
                      refine lv_iload_n hx hb dX10_best_79 rfl (lv_at hl 8 rfl) ?_
                      refine sb_icmp_ge (tgt := 116) hx hb rfl rfl dX10_best_80 (by decide) (fun c_80_46 => ?_) (fun c_80_46 => ?_)
                      · refine lv_iload hx hb dX10_best_116 (lv_at hl 4 rfl) ?_
                        refine lv_iconst (v := (-1)) hx hb dX10_best_118 (by decide) ?_
                        have hj_140_63 : ∀ (x_62 : Int32) (x_63 : Int32) (H : Heap) (locs : List Loc) (ls : Array Slot), ti_H ti_LM D A cy H0 M_43 H locs → lv_has ls 10 [(9, .int x_39), (8, .int x_42), (7, .int x_20), (6, .int x_62), (5, .int x_63), (0, .ref (A 60 0)), (1, .int z1), (2, .int z2), (3, .int z3), (4, .int z4)] → W p l e (ti_rm 7) s m args below meth c H locs 0 0 Q (F0 m 140 ls []) := by
                          intro x_62 x_63 H locs ls  hw hl
                          obtain ⟨x_64, ex_64⟩ : ∃ z : Int32, z = x_20 + 1 := ⟨_, rfl⟩
                          have tx_64 : x_64.toInt = x_20.toInt + 1 := i_add ex_64 rfl (by decide) (by omega) (by omega)
                          refine lv_iinc (v := x_64) (lv' := [(7, .int x_64), (9, .int x_39), (8, .int x_42), (6, .int x_62), (5, .int x_63), (0, .ref (A 60 0)), (1, .int z1), (2, .int z2), (3, .int z3), (4, .int z4)]) hx hb dX10_best_140 hl (k := 2) rfl (by rw [ex_64]; rfl) (by decide) rfl (fun ls hl => ?_)
                          refine lv_goto (tgt := 50) hx hb dX10_best_143 (by decide) ?_
                          exact ih_27 x_64 x_62 x_63 M_43 _ _ _ (by omega) (by first | omega | decide) (by first | omega | decide) iM_43 f_44 hw (lv_sub hl [0, 3, 4, 5, 6, 7, 8, 9] rfl)
                        have hj_132_61 : ∀  (H : Heap) (locs : List Loc) (ls : Array Slot), ti_H ti_LM D A cy H0 M_43 H locs → lv_has ls 10 [(9, .int x_39), (8, .int x_42), (7, .int x_20), (6, .int x_23), (5, .int x_24), (0, .ref (A 60 0)), (1, .int z1), (2, .int z2), (3, .int z3), (4, .int z4)] → W p l e (ti_rm 7) s m args below meth c H locs 0 0 Q (F0 m 132 ls []) := by
                          intro  H locs ls  hw hl
                          refine lv_iload hx hb dX10_best_132 (lv_at hl 2 rfl) ?_
                          refine lv_istore (lv' := [(5, .int x_20), (9, .int x_39), (8, .int x_42), (7, .int x_20), (6, .int x_23), (0, .ref (A 60 0)), (1, .int z1), (2, .int z2), (3, .int z3), (4, .int z4)]) hx hb dX10_best_134 hl (by decide) rfl (fun ls hl => ?_)
                          refine lv_iload hx hb dX10_best_136 (lv_at hl 2 rfl) ?_
                          refine lv_istore (lv' := [(6, .int x_42), (5, .int x_20), (9, .int x_39), (8, .int x_42), (7, .int x_20), (0, .ref (A 60 0)), (1, .int z1), (2, .int z2), (3, .int z3), (4, .int z4)]) hx hb dX10_best_138 hl (by decide) rfl (fun ls hl => ?_)
                          exact hj_140_63 x_42 x_20 _ _ _  hw (lv_sub hl [2, 3, 4, 0, 1, 5, 6, 7, 8, 9] rfl)
                        refine sb_icmp_eq (tgt := 132) hx hb rfl (by decide : ((-1) : Int32).toInt = (-1)) dX10_best_119 (by decide) (fun c_119_59 => ?_) (fun c_119_59 => ?_)
                        · exact hj_132_61  _ _ _  hw (lv_sub hl [0, 1, 2, 3, 4, 5, 6, 7, 8, 9] rfl)
                        · refine lv_iload hx hb dX10_best_122 (lv_at hl 1 rfl) ?_
                          refine lv_iload hx hb dX10_best_124 (lv_at hl 3 rfl) ?_
                          refine sb_icmp_gt (tgt := 132) hx hb rfl rfl dX10_best_126 (by decide) (fun c_126_60 => ?_) (fun c_126_60 => ?_)
                          · exact hj_132_61  _ _ _  hw (lv_sub hl [0, 1, 2, 3, 4, 5, 6, 7, 8, 9] rfl)
                          · refine lv_goto (tgt := 140) hx hb dX10_best_129 (by decide) ?_
                            exact hj_140_63 x_23 x_24 _ _ _  hw (lv_sub hl [0, 1, 2, 3, 4, 5, 6, 7, 8, 9] rfl)
                      · refine lv_aload_n hx hb dX10_best_83 rfl (lv_at hl 5 rfl) ?_
                        refine lv_iconst (v := 1) hx hb dX10_best_84 (by decide) ?_
                        refine lv_iconst (v := 0) hx hb dX10_best_85 (by decide) ?_
                        refine ti_callVv (ci := 10) (av := [.int 1, .int 0]) C hw (s_X10_passes_1 l D A cy hJ M_43 iM_43 f_45 (mL_lw (lk_of f_44.1 f_44.2.1).1 hL) 0) ⟨ml_X10_407, ym_X10_passes, yv_X10_passes, yi_X10_passes, yc_X10_passes⟩ yd_X10_passes ob_60 (by decide) rfl rfl hl.1 (Nat.le_of_ble_eq_true rfl) ⟨by decide, by decide⟩ ⟨Nat.zero_le _, Nat.zero_le _⟩ dX10_best_86 (fun M_49 H locs hp_49 hw => ?_)
                        obtain ⟨iM_49, q_50, q_51⟩ := hp_49
                        refine lv_iload hx hb dX10_best_89 (lv_at hl 1 rfl) ?_
                        refine lv_aload_n hx hb dX10_best_91 rfl (lv_at hl 5 rfl) ?_
                        refine lv_iconst (v := 1) hx hb dX10_best_92 (by decide) ?_
                        refine lv_iload hx hb dX10_best_93 (lv_at hl 2 rfl) ?_
                        refine ti_callVi (ci := 10) (av := [.int 1, .int x_20]) C hw (s_X10_standsAt_1 l D A cy hJ M_49 iM_49 x_20 (by first | omega | decide) (by first | omega | decide)) ⟨ml_X10_417, ym_X10_standsAt, yv_X10_standsAt, yi_X10_standsAt, yc_X10_standsAt⟩ yd_X10_standsAt ob_60 (by decide) rfl rfl hl.1 (Nat.le_of_ble_eq_true rfl) ⟨by decide, by decide⟩ ⟨Nat.zero_le _, Nat.zero_le _⟩ dX10_best_95 (fun r_52 M_53 H locs hp_53 hw => ?_)
                        obtain ⟨hm, b0r_52, b1r_52⟩ := hp_53
                        have hw := hw.to hm
                        refine lv_iload_n hx hb dX10_best_98 rfl (lv_at hl 7 rfl) ?_
                        have hj_107_57 : ∀ (x_55 : Int32) (H : Heap) (locs : List Loc) (ls : Array Slot), (0 ≤ x_55.toInt) → (x_55.toInt ≤ 1) → ti_H ti_LM D A cy H0 M_49 H locs → lv_has ls 10 [(9, .int x_39), (8, .int x_42), (7, .int x_20), (6, .int x_23), (5, .int x_24), (0, .ref (A 60 0)), (1, .int z1), (2, .int z2), (3, .int z3), (4, .int z4)] → W p l e (ti_rm 7) s m args below meth c H locs 0 0 Q (F0 m 107 ls [.int x_55, .int x_42]) := by
                          intro x_55 H locs ls b_56 b_57 hw hl
                          refine lv_iadd hx hb dX10_best_107 ?_
                          refine lv_topi (fun x_58 ex_58 => ?_)
                          refine lv_istore (lv' := [(8, .int x_58), (9, .int x_39), (7, .int x_20), (6, .int x_23), (5, .int x_24), (0, .ref (A 60 0)), (1, .int z1), (2, .int z2), (3, .int z3), (4, .int z4)]) hx hb dX10_best_108 hl (by decide) rfl (fun ls hl => ?_)
                          obtain ⟨x_59, ex_59⟩ : ∃ z : Int32, z = x_39 + 1 := ⟨_, rfl⟩
                          have tx_59 : x_59.toInt = x_39.toInt + 1 := i_add ex_59 rfl (by decide) (by omega) (by omega)
                          refine lv_iinc (v := x_59) (lv' := [(9, .int x_59), (8, .int x_58), (7, .int x_20), (6, .int x_23), (5, .int x_24), (0, .ref (A 60 0)), (1, .int z1), (2, .int z2), (3, .int z3), (4, .int z4)]) hx hb dX10_best_110 hl (k := 1) rfl (by rw [ex_59]; rfl) (by decide) rfl (fun ls hl => ?_)
                          refine lv_goto (tgt := 77) hx hb dX10_best_113 (by decide) ?_
                          exact ih_46 x_59 x_58 M_49 _ _ _ (by omega) (by first | omega | decide) (by first | omega | decide) iM_49 (rw1.trans (rw1_rq q_50) f_44) q_51 hw (lv_sub hl [0, 1, 2, 3, 4, 5, 6, 7, 8, 9] rfl)
                        refine sb_icmp_ne (tgt := 106) hx hb rfl rfl dX10_best_99 (by decide) (fun c_99_53 => ?_) (fun c_99_53 => ?_)
                        · refine lv_iconst (v := 0) hx hb dX10_best_106 (by decide) ?_
                          exact hj_107_57 0 _ _ _ (by have lt0 : (0 : Int32).toInt = 0 := (by decide); first | omega | decide) (by have lt0 : (0 : Int32).toInt = 0 := (by decide); first | omega | decide) hw (lv_sub hl [0, 1, 2, 3, 4, 5, 6, 7, 8, 9] rfl)
                        · refine lv_iconst (v := 1) hx hb dX10_best_102 (by decide) ?_
                          refine lv_goto (tgt := 107) hx hb dX10_best_103 (by decide) ?_
                          exact hj_107_57 1 _ _ _ (by have lt0 : (1 : Int32).toInt = 1 := (by decide); first | omega | decide) (by have lt0 : (1 : Int32).toInt = 1 := (by decide); first | omega | decide) hw (lv_sub hl [0, 1, 2, 3, 4, 5, 6, 7, 8, 9] rfl)
                  exact hl_77_45 ((60 - 0 : Int).toNat + 1) 0 0 M_38 _ _ _ (Nat.lt_succ_self _) (by have lt0 : (0 : Int32).toInt = 0 := (by decide); first | omega | decide) (by have lt0 : (0 : Int32).toInt = 0 := (by decide); first | omega | decide) iM_38 (rw1.trans (rw1_qw (qw_Y hM_38 (by decide))) (rw1.trans (rw1_rq q_31) f_26)) (mC_qw (qw_Y hM_38 (by decide)) q_32) hw (lv_sub hl [0, 1, 2, 3, 4, 5, 6, 7, 8, 9] rfl)
            exact hl_50_26 ((8 - 0 : Int).toNat + 1) 0 0 (-1) M_1 _ _ _ (Nat.lt_succ_self _) (by have lt0 : ((-1) : Int32).toInt = (-1) := (by decide); have lt1 : (0 : Int32).toInt = 0 := (by decide); first | omega | decide) (by have lt0 : ((-1) : Int32).toInt = (-1) := (by decide); have lt1 : (0 : Int32).toInt = 0 := (by decide); first | omega | decide) iM_1 (rw1_qw (qw_I hM_1 (by decide))) hw (lv_sub hl [0, 1, 2, 3, 4, 5, 6, 7] rfl)
          · exact hj_39_19  _ _ _  hw (lv_sub hl [0, 1, 2, 3, 4] rfl)
      · refine sb_if_eq (tgt := 39) hx hb (by decide : (0 : Int32).toInt = 0) dX10_best_25 (by decide) (fun c_25_16 => ?_) (fun h => absurd h (by decide))
        exact hj_39_19  _ _ _  hw (lv_sub hl [0, 1, 2, 3, 4] rfl)
    · refine sb_if_eq (tgt := 39) hx hb (by decide : (0 : Int32).toInt = 0) dX10_best_17 (by decide) (fun c_17_11 => ?_) (fun h => absurd h (by decide))
      exact hj_39_19  _ _ _  hw (lv_sub hl [0, 1, 2, 3, 4] rfl)
  · refine sb_if_eq (tgt := 39) hx hb (by decide : (0 : Int32).toInt = 0) dX10_best_9 (by decide) (fun c_9_5 => ?_) (fun h => absurd h (by decide))
    exact hj_39_19  _ _ _  hw (lv_sub hl [0, 1, 2, 3, 4] rfl)
set_option maxHeartbeats 4000000 in
set_option maxRecDepth 100000 in
theorem s_X10_fairest (l : Launch) (D : va_G) (A : Nat → Nat → Nat) (cy : Nat → ClassId) (hJ : ti_inj ti_LM A) (M : ti_M) (hI : mI Tm M) (hF : mF Tm M) (z1 : Int32) (z2 : Int32) (z3 : Int32) : ti_Ki l yX10_fairest cX10_fairest 9 (some .int) 7 ti_LM D A cy M [.ref (A 60 0), .int z1, .int z2, .int z3] (fun r M2 => mF Tm M2 ∧ tI M2 60 2 = tI M 60 2 ∧ lw M2 M) := by
  refine ti_eI yp_X10_fairest hJ ti_LM_nd (Nat.le_of_ble_eq_true rfl) ?_
  intro p e s m args below meth c Q H0 C hQ hw ls hl
  have hx := C.1
  have hb := C.2.1
  have hl : lv_has ls 9 [(0, .ref (A 60 0)), (1, .int z1), (2, .int z2), (3, .int z3)] := hl
  have hL : mL M := hF.2.1
  have hC0 : mC M 0 := hF.2.2.1.1
  have hP0 : mP M 0 := hF.2.2.1.2
  refine lv_aload_n hx hb dX10_fairest_0 rfl (lv_at hl 0 rfl) ?_
  refine lv_iconst (v := 0) hx hb dX10_fairest_1 (by decide) ?_
  refine ti_putI (ci := 10) (k := 0) (N := 67) (T := TX10) C hw iw_10 tyX10 tyX10_ok nmX10 rfl ob_60 (by decide) (by decide) fl_X10_154 rfl rfl rfl rfl (fn_10 A _) fs_10_0 dX10_fairest_2 (fun H locs hw => ?_)
  obtain ⟨M_1, hM_1⟩ : ∃ z : ti_M, z = uI M 60 0 0 := ⟨_, rfl⟩
  have hw := hw.to hM_1.symm
  have iM_1 : mI Tm M_1 := mI_uI hI hM_1 (by decide) (by decide) trivial
  refine lv_iload_n hx hb dX10_fairest_5 rfl (lv_at hl 1 rfl) ?_
  refine ti_callSi (av := [.int z1]) C hw (s_X10_isPower l D A cy hJ M_1 iM_1 z1) ⟨ml_X10_420, ys_X10_isPower, yi_X10_isPower, yc_X10_isPower⟩ yd_X10_isPower rfl hl.1 (Nat.le_of_ble_eq_true rfl) ⟨by decide, by decide⟩ ⟨Nat.zero_le _, Nat.zero_le _⟩ dX10_fairest_6 (fun r_2 M_3 H locs hp_3 hw => ?_)
  obtain ⟨hm, hz⟩ := hp_3
  have hw := hw.to hm
  have hj_29_13 : ∀  (H : Heap) (locs : List Loc) (ls : Array Slot), ti_H ti_LM D A cy H0 M_1 H locs → lv_has ls 9 [(0, .ref (A 60 0)), (1, .int z1), (2, .int z2), (3, .int z3)] → W p l e (ti_rm 7) s m args below meth c H locs 0 0 Q (F0 m 29 ls []) := by
    intro  H locs ls  hw hl
    refine lv_iconst (v := (-1)) hx hb dX10_fairest_29 (by decide) ?_
    exact hQ _ _ _ _ _ _ hw rfl (⟨mF_rw hF iM_1 (rw1_qw (qw_I hM_1 (by decide))), (rw1_qw (qw_I hM_1 (by decide))).2.1.1, (rw1_qw (qw_I hM_1 (by decide))).1⟩) dX10_fairest_30
  rcases hz with ⟨rfl, d0_4, d1_4⟩ | rfl
  · refine sb_if_eq (tgt := 29) hx hb (by decide : (1 : Int32).toInt = 1) dX10_fairest_9 (by decide) (fun h => absurd h (by decide)) (fun c_9_4 => ?_)
    refine lv_aload_n hx hb dX10_fairest_12 rfl (lv_at hl 0 rfl) ?_
    refine lv_iload_n hx hb dX10_fairest_13 rfl (lv_at hl 2 rfl) ?_
    refine ti_callVi (ci := 10) (av := [.int z2]) C hw (s_X10_isLong l D A cy hJ M_1 iM_1 z2) ⟨ml_X10_461, ym_X10_isLong, yv_X10_isLong, yi_X10_isLong, yc_X10_isLong⟩ yd_X10_isLong ob_60 (by decide) rfl rfl hl.1 (Nat.le_of_ble_eq_true rfl) ⟨by decide, by decide⟩ ⟨Nat.zero_le _, Nat.zero_le _⟩ dX10_fairest_14 (fun r_7 M_8 H locs hp_8 hw => ?_)
    obtain ⟨hm, hz⟩ := hp_8
    have hw := hw.to hm
    rcases hz with ⟨rfl, d0_9, d1_9⟩ | rfl
    · refine sb_if_eq (tgt := 29) hx hb (by decide : (1 : Int32).toInt = 1) dX10_fairest_17 (by decide) (fun h => absurd h (by decide)) (fun c_17_9 => ?_)
      refine lv_iload_n hx hb dX10_fairest_20 rfl (lv_at hl 3 rfl) ?_
      refine sb_if_lt (tgt := 29) hx hb rfl dX10_fairest_21 (by decide) (fun c_21_11 => ?_) (fun c_21_11 => ?_)
      · exact hj_29_13  _ _ _  hw (lv_sub hl [0, 1, 2, 3] rfl)
      · refine lv_iload_n hx hb dX10_fairest_24 rfl (lv_at hl 3 rfl) ?_
        refine lv_iconst (v := 1) hx hb dX10_fairest_25 (by decide) ?_
        refine sb_icmp_le (tgt := 31) hx hb rfl (by decide : (1 : Int32).toInt = 1) dX10_fairest_26 (by decide) (fun c_26_12 => ?_) (fun c_26_12 => ?_)
        · refine lv_iconst (v := (-1)) hx hb dX10_fairest_31 (by decide) ?_
          refine lv_istore (lv' := [(4, .int (-1)), (0, .ref (A 60 0)), (1, .int z1), (2, .int z2), (3, .int z3)]) hx hb dX10_fairest_32 hl (by decide) rfl (fun ls hl => ?_)
          refine lv_iconst (v := 0) hx hb dX10_fairest_34 (by decide) ?_
          refine lv_istore (lv' := [(5, .int 0), (4, .int (-1)), (0, .ref (A 60 0)), (1, .int z1), (2, .int z2), (3, .int z3)]) hx hb dX10_fairest_35 hl (by decide) rfl (fun ls hl => ?_)
          refine lv_iconst (v := 0) hx hb dX10_fairest_37 (by decide) ?_
          refine lv_istore (lv' := [(6, .int 0), (5, .int 0), (4, .int (-1)), (0, .ref (A 60 0)), (1, .int z1), (2, .int z2), (3, .int z3)]) hx hb dX10_fairest_38 hl (by decide) rfl (fun ls hl => ?_)
          have hl_40_20 : ∀ (n_21 : Nat) (x_14 : Int32) (x_17 : Int32) (x_18 : Int32) (M_19 : ti_M) (H : Heap) (locs : List Loc) (ls : Array Slot), (8 - x_14.toInt : Int).toNat < n_21 → (0 ≤ x_14.toInt) → (x_14.toInt ≤ 8) → (mI Tm M_19) → (rw1 M_19 M) → ti_H ti_LM D A cy H0 M_19 H locs → lv_has ls 9 [(6, .int x_14), (5, .int x_17), (4, .int x_18), (0, .ref (A 60 0)), (1, .int z1), (2, .int z2), (3, .int z3)] → W p l e (ti_rm 7) s m args below meth c H locs 0 0 Q (F0 m 40 ls []) := by
            intro n_21
            induction n_21 with
            | zero => intro x_14 x_17 x_18 M_19 H locs ls hf_21; exact absurd hf_21 (Nat.not_lt_zero _)
            | succ n_21 ih_21 =>
              intro x_14 x_17 x_18 M_19 H locs ls hf_21 b_15 b_16 iM_19 f_20 hw hl
              refine lv_iload hx hb dX10_fairest_40 (lv_at hl 0 rfl) ?_
              refine lv_bipush (v := 8) hx hb dX10_fairest_42 (by decide) ?_
              refine sb_icmp_ge (tgt := 145) hx hb rfl (by decide : (8 : Int32).toInt = 8) dX10_fairest_44 (by decide) (fun c_44_21 => ?_) (fun c_44_21 => ?_)
              · refine lv_iload_n hx hb dX10_fairest_145 rfl (lv_at hl 6 rfl) ?_
                refine sb_if_ne (tgt := 154) hx hb rfl dX10_fairest_146 (by decide) (fun c_146_63 => ?_) (fun c_146_63 => ?_)
                · refine lv_iload hx hb dX10_fairest_154 (lv_at hl 1 rfl) ?_
                  exact hQ _ _ _ _ _ _ hw rfl (⟨mF_rw hF iM_19 f_20, f_20.2.1.1, f_20.1⟩) dX10_fairest_156
                · refine lv_iload hx hb dX10_fairest_149 (lv_at hl 2 rfl) ?_
                  refine lv_goto (tgt := 156) hx hb dX10_fairest_151 (by decide) ?_
                  exact hQ _ _ _ _ _ _ hw rfl (⟨mF_rw hF iM_19 f_20, f_20.2.1.1, f_20.1⟩) dX10_fairest_156
              · refine lv_aload_n hx hb dX10_fairest_47 rfl (lv_at hl 3 rfl) ?_
                refine ti_callVv (ci := 10) (av := []) C hw (s_X10_lays l D A cy hJ M_19 iM_19 ((f_20.2.2.1 0 (by decide)).1 hC0) ((f_20.2.2.1 0 (by decide)).2 hP0)) ⟨ml_X10_442, ym_X10_lays, yv_X10_lays, yi_X10_lays, yc_X10_lays⟩ yd_X10_lays ob_60 (by decide) rfl rfl hl.1 (Nat.le_of_ble_eq_true rfl) ⟨by decide, by decide⟩ ⟨Nat.zero_le _, Nat.zero_le _⟩ dX10_fairest_48 (fun M_24 H locs hp_24 hw => ?_)
                obtain ⟨iM_24, q_25, q_26, q_27, q_28, q_29, q_30⟩ := hp_24
                refine lv_aload_n hx hb dX10_fairest_51 rfl (lv_at hl 3 rfl) ?_
                refine ti_get (ci := 10) (k := 49) (N := 67) (T := TX10) (v := .ref (A 60 50)) C hw iw_10 rfl ob_60 (by decide) (by decide) fl_X10_114 rfl rfl dX10_fairest_52 ?_
                refine lv_iconst (v := 3) hx hb dX10_fairest_55 (by decide) ?_
                refine lv_iload_n hx hb dX10_fairest_56 rfl (lv_at hl 4 rfl) ?_
                refine lv_iadd hx hb dX10_fairest_57 ?_
                refine lv_topi (fun x_31 ex_31 => ?_)
                have lox_31z1 := z1.le_toInt
                have hix_31z1 := z1.toInt_lt
                have tx_31 : x_31.toInt = 3 + z1.toInt := i_add ex_31 (by decide : (3 : Int32).toInt = 3) rfl (by omega) (by omega)
                refine lv_iload hx hb dX10_fairest_58 (lv_at hl 0 rfl) ?_
                refine ti_iast (ci := 10) (k := 49) (n := 69) C hw ob_60 (by decide) (fun _ _ => rfl) (vp_in_iff.mpr (by omega)) dX10_fairest_60 (fun H locs hw => ?_)
                obtain ⟨M_32, hM_32⟩ : ∃ z : ti_M, z = uY M_24 60 49 (upd (tY M_24 60 49) (x_31 : Int32).toNatClampNeg x_14) := ⟨_, rfl⟩
                have hw := hw.to hM_32.symm
                have iM_32 : mI Tm M_32 := mI_up (i := x_31.toNatClampNeg) iM_24 hM_32 (ib_mk (lo := 0) (hi := 7) (by omega) (by omega))
                refine lv_iconst (v := 0) hx hb dX10_fairest_61 (by decide) ?_
                refine lv_istore (lv' := [(7, .int 0), (6, .int x_14), (5, .int x_17), (4, .int x_18), (0, .ref (A 60 0)), (1, .int z1), (2, .int z2), (3, .int z3)]) hx hb dX10_fairest_62 hl (by decide) rfl (fun ls hl => ?_)
                refine lv_iconst (v := 0) hx hb dX10_fairest_64 (by decide) ?_
                refine lv_istore (lv' := [(8, .int 0), (7, .int 0), (6, .int x_14), (5, .int x_17), (4, .int x_18), (0, .ref (A 60 0)), (1, .int z1), (2, .int z2), (3, .int z3)]) hx hb dX10_fairest_65 hl (by decide) rfl (fun ls hl => ?_)
                have hl_67_39 : ∀ (n_40 : Nat) (x_33 : Int32) (x_36 : Int32) (M_37 : ti_M) (H : Heap) (locs : List Loc) (ls : Array Slot), (60 - x_33.toInt : Int).toNat < n_40 → (0 ≤ x_33.toInt) → (x_33.toInt ≤ 60) → (mI Tm M_37) → (rw1 M_37 M) → (mC M_37 1) → ti_H ti_LM D A cy H0 M_37 H locs → lv_has ls 9 [(8, .int x_33), (7, .int x_36), (6, .int x_14), (5, .int x_17), (4, .int x_18), (0, .ref (A 60 0)), (1, .int z1), (2, .int z2), (3, .int z3)] → W p l e (ti_rm 7) s m args below meth c H locs 0 0 Q (F0 m 67 ls []) := by
                  intro n_40
                  induction n_40 with
                  | zero => intro x_33 x_36 M_37 H locs ls hf_40; exact absurd hf_40 (Nat.not_lt_zero _)
                  | succ n_40 ih_40 =>
                    intro x_33 x_36 M_37 H locs ls hf_40 b_34 b_35 iM_37 f_38 f_39 hw hl
                    refine lv_iload hx hb dX10_fairest_67 (lv_at hl 0 rfl) ?_
                    refine lv_iload_n hx hb dX10_fairest_69 rfl (lv_at hl 7 rfl) ?_
                    refine sb_icmp_ge (tgt := 109) hx hb rfl rfl dX10_fairest_70 (by decide) (fun c_70_40 => ?_) (fun c_70_40 => ?_)
                    · refine lv_iload hx hb dX10_fairest_109 (lv_at hl 4 rfl) ?_
                      refine lv_iconst (v := (-1)) hx hb dX10_fairest_111 (by decide) ?_
                      have hj_139_62 : ∀ (x_61 : Int32) (x_62 : Int32) (H : Heap) (locs : List Loc) (ls : Array Slot), ti_H ti_LM D A cy H0 M_37 H locs → lv_has ls 9 [(8, .int x_33), (7, .int x_36), (6, .int x_14), (5, .int x_61), (4, .int x_62), (0, .ref (A 60 0)), (1, .int z1), (2, .int z2), (3, .int z3)] → W p l e (ti_rm 7) s m args below meth c H locs 0 0 Q (F0 m 139 ls []) := by
                        intro x_61 x_62 H locs ls  hw hl
                        obtain ⟨x_63, ex_63⟩ : ∃ z : Int32, z = x_14 + 1 := ⟨_, rfl⟩
                        have tx_63 : x_63.toInt = x_14.toInt + 1 := i_add ex_63 rfl (by decide) (by omega) (by omega)
                        refine lv_iinc (v := x_63) (lv' := [(6, .int x_63), (8, .int x_33), (7, .int x_36), (5, .int x_61), (4, .int x_62), (0, .ref (A 60 0)), (1, .int z1), (2, .int z2), (3, .int z3)]) hx hb dX10_fairest_139 hl (k := 2) rfl (by rw [ex_63]; rfl) (by decide) rfl (fun ls hl => ?_)
                        refine lv_goto (tgt := 40) hx hb dX10_fairest_142 (by decide) ?_
                        exact ih_21 x_63 x_61 x_62 M_37 _ _ _ (by omega) (by first | omega | decide) (by first | omega | decide) iM_37 f_38 hw (lv_sub hl [0, 3, 4, 5, 6, 7, 8] rfl)
                      have hj_128_58 : ∀  (H : Heap) (locs : List Loc) (ls : Array Slot), ti_H ti_LM D A cy H0 M_37 H locs → lv_has ls 9 [(8, .int x_33), (7, .int x_36), (6, .int x_14), (5, .int x_17), (4, .int x_18), (0, .ref (A 60 0)), (1, .int z1), (2, .int z2), (3, .int z3)] → W p l e (ti_rm 7) s m args below meth c H locs 0 0 Q (F0 m 128 ls []) := by
                        intro  H locs ls  hw hl
                        refine lv_iload hx hb dX10_fairest_128 (lv_at hl 2 rfl) ?_
                        refine lv_istore (lv' := [(4, .int x_14), (8, .int x_33), (7, .int x_36), (6, .int x_14), (5, .int x_17), (0, .ref (A 60 0)), (1, .int z1), (2, .int z2), (3, .int z3)]) hx hb dX10_fairest_130 hl (by decide) rfl (fun ls hl => ?_)
                        refine lv_iload hx hb dX10_fairest_132 (lv_at hl 2 rfl) ?_
                        refine ti_callSi (av := [.int x_36]) C hw (s_X10_bitsOf l D A cy hJ M_37 iM_37 x_36) ⟨ml_X10_448, ys_X10_bitsOf, yi_X10_bitsOf, yc_X10_bitsOf⟩ yd_X10_bitsOf rfl hl.1 (Nat.le_of_ble_eq_true rfl) ⟨by decide, by decide⟩ ⟨Nat.zero_le _, Nat.zero_le _⟩ dX10_fairest_134 (fun r_59 M_60 H locs hp_60 hw => ?_)
                        have hm := hp_60
                        have hw := hw.to hm
                        refine lv_istore (lv' := [(5, .int r_59), (4, .int x_14), (8, .int x_33), (7, .int x_36), (6, .int x_14), (0, .ref (A 60 0)), (1, .int z1), (2, .int z2), (3, .int z3)]) hx hb dX10_fairest_137 hl (by decide) rfl (fun ls hl => ?_)
                        exact hj_139_62 r_59 x_14 _ _ _  hw (lv_sub hl [2, 3, 4, 0, 1, 5, 6, 7, 8] rfl)
                      refine sb_icmp_eq (tgt := 128) hx hb rfl (by decide : ((-1) : Int32).toInt = (-1)) dX10_fairest_112 (by decide) (fun c_112_54 => ?_) (fun c_112_54 => ?_)
                      · exact hj_128_58  _ _ _  hw (lv_sub hl [0, 1, 2, 3, 4, 5, 6, 7, 8] rfl)
                      · refine lv_iload hx hb dX10_fairest_115 (lv_at hl 1 rfl) ?_
                        refine ti_callSi (av := [.int x_36]) C hw (s_X10_bitsOf l D A cy hJ M_37 iM_37 x_36) ⟨ml_X10_448, ys_X10_bitsOf, yi_X10_bitsOf, yc_X10_bitsOf⟩ yd_X10_bitsOf rfl hl.1 (Nat.le_of_ble_eq_true rfl) ⟨by decide, by decide⟩ ⟨Nat.zero_le _, Nat.zero_le _⟩ dX10_fairest_117 (fun r_56 M_57 H locs hp_57 hw => ?_)
                        have hm := hp_57
                        have hw := hw.to hm
                        refine lv_iload hx hb dX10_fairest_120 (lv_at hl 3 rfl) ?_
                        refine sb_icmp_gt (tgt := 128) hx hb rfl rfl dX10_fairest_122 (by decide) (fun c_122_57 => ?_) (fun c_122_57 => ?_)
                        · exact hj_128_58  _ _ _  hw (lv_sub hl [0, 1, 2, 3, 4, 5, 6, 7, 8] rfl)
                        · refine lv_goto (tgt := 139) hx hb dX10_fairest_125 (by decide) ?_
                          exact hj_139_62 x_17 x_18 _ _ _  hw (lv_sub hl [0, 1, 2, 3, 4, 5, 6, 7, 8] rfl)
                    · refine lv_aload_n hx hb dX10_fairest_73 rfl (lv_at hl 5 rfl) ?_
                      refine lv_iconst (v := 1) hx hb dX10_fairest_74 (by decide) ?_
                      refine lv_iconst (v := 0) hx hb dX10_fairest_75 (by decide) ?_
                      refine ti_callVv (ci := 10) (av := [.int 1, .int 0]) C hw (s_X10_passes_1 l D A cy hJ M_37 iM_37 f_39 (mL_lw (lk_of f_38.1 f_38.2.1).1 hL) 0) ⟨ml_X10_407, ym_X10_passes, yv_X10_passes, yi_X10_passes, yc_X10_passes⟩ yd_X10_passes ob_60 (by decide) rfl rfl hl.1 (Nat.le_of_ble_eq_true rfl) ⟨by decide, by decide⟩ ⟨Nat.zero_le _, Nat.zero_le _⟩ dX10_fairest_76 (fun M_43 H locs hp_43 hw => ?_)
                      obtain ⟨iM_43, q_44, q_45⟩ := hp_43
                      refine lv_aload_n hx hb dX10_fairest_79 rfl (lv_at hl 5 rfl) ?_
                      refine lv_iconst (v := 1) hx hb dX10_fairest_80 (by decide) ?_
                      refine lv_iload hx hb dX10_fairest_81 (lv_at hl 2 rfl) ?_
                      refine ti_callVi (ci := 10) (av := [.int 1, .int x_14]) C hw (s_X10_standsAt_1 l D A cy hJ M_43 iM_43 x_14 (by first | omega | decide) (by first | omega | decide)) ⟨ml_X10_417, ym_X10_standsAt, yv_X10_standsAt, yi_X10_standsAt, yc_X10_standsAt⟩ yd_X10_standsAt ob_60 (by decide) rfl rfl hl.1 (Nat.le_of_ble_eq_true rfl) ⟨by decide, by decide⟩ ⟨Nat.zero_le _, Nat.zero_le _⟩ dX10_fairest_83 (fun r_46 M_47 H locs hp_47 hw => ?_)
                      obtain ⟨hm, b0r_46, b1r_46⟩ := hp_47
                      have hw := hw.to hm
                      have hj_103_53 : ∀ (x_53 : Int32) (H : Heap) (locs : List Loc) (ls : Array Slot), ti_H ti_LM D A cy H0 M_43 H locs → lv_has ls 9 [(8, .int x_33), (7, .int x_53), (6, .int x_14), (5, .int x_17), (4, .int x_18), (0, .ref (A 60 0)), (1, .int z1), (2, .int z2), (3, .int z3)] → W p l e (ti_rm 7) s m args below meth c H locs 0 0 Q (F0 m 103 ls []) := by
                        intro x_53 H locs ls  hw hl
                        obtain ⟨x_54, ex_54⟩ : ∃ z : Int32, z = x_33 + 1 := ⟨_, rfl⟩
                        have tx_54 : x_54.toInt = x_33.toInt + 1 := i_add ex_54 rfl (by decide) (by omega) (by omega)
                        refine lv_iinc (v := x_54) (lv' := [(8, .int x_54), (7, .int x_53), (6, .int x_14), (5, .int x_17), (4, .int x_18), (0, .ref (A 60 0)), (1, .int z1), (2, .int z2), (3, .int z3)]) hx hb dX10_fairest_103 hl (k := 0) rfl (by rw [ex_54]; rfl) (by decide) rfl (fun ls hl => ?_)
                        refine lv_goto (tgt := 67) hx hb dX10_fairest_106 (by decide) ?_
                        exact ih_40 x_54 x_53 M_43 _ _ _ (by omega) (by first | omega | decide) (by first | omega | decide) iM_43 (rw1.trans (rw1_rq q_44) f_38) q_45 hw (lv_sub hl [0, 1, 2, 3, 4, 5, 6, 7, 8] rfl)
                      refine sb_if_lt (tgt := 103) hx hb rfl dX10_fairest_86 (by decide) (fun c_86_47 => ?_) (fun c_86_47 => ?_)
                      · exact hj_103_53 x_36 _ _ _  hw (lv_sub hl [0, 1, 2, 3, 4, 5, 6, 7, 8] rfl)
                      · refine lv_iload hx hb dX10_fairest_89 (lv_at hl 1 rfl) ?_
                        refine lv_iconst (v := 1) hx hb dX10_fairest_91 (by decide) ?_
                        refine lv_aload_n hx hb dX10_fairest_92 rfl (lv_at hl 5 rfl) ?_
                        refine lv_iconst (v := 1) hx hb dX10_fairest_93 (by decide) ?_
                        refine lv_iload hx hb dX10_fairest_94 (lv_at hl 2 rfl) ?_
                        refine ti_callVi (ci := 10) (av := [.int 1, .int x_14]) C hw (s_X10_standsAt_1 l D A cy hJ M_43 iM_43 x_14 (by first | omega | decide) (by first | omega | decide)) ⟨ml_X10_417, ym_X10_standsAt, yv_X10_standsAt, yi_X10_standsAt, yc_X10_standsAt⟩ yd_X10_standsAt ob_60 (by decide) rfl rfl hl.1 (Nat.le_of_ble_eq_true rfl) ⟨by decide, by decide⟩ ⟨Nat.zero_le _, Nat.zero_le _⟩ dX10_fairest_96 (fun r_49 M_50 H locs hp_50 hw => ?_)
                        obtain ⟨hm, b0r_49, b1r_49⟩ := hp_50
                        have hw := hw.to hm
                        refine lv_ishl hx hb dX10_fairest_99 ?_
                        refine lv_topi (fun x_51 ex_51 => ?_)
                        refine lv_ior hx hb dX10_fairest_100 ?_
                        refine lv_topi (fun x_52 ex_52 => ?_)
                        refine lv_istore (lv' := [(7, .int x_52), (8, .int x_33), (6, .int x_14), (5, .int x_17), (4, .int x_18), (0, .ref (A 60 0)), (1, .int z1), (2, .int z2), (3, .int z3)]) hx hb dX10_fairest_101 hl (by decide) rfl (fun ls hl => ?_)
                        exact hj_103_53 x_52 _ _ _  hw (lv_sub hl [1, 0, 2, 3, 4, 5, 6, 7, 8] rfl)
                exact hl_67_39 ((60 - 0 : Int).toNat + 1) 0 0 M_32 _ _ _ (Nat.lt_succ_self _) (by have lt0 : (0 : Int32).toInt = 0 := (by decide); first | omega | decide) (by have lt0 : (0 : Int32).toInt = 0 := (by decide); first | omega | decide) iM_32 (rw1.trans (rw1_qw (qw_Y hM_32 (by decide))) (rw1.trans (rw1_rq q_25) f_20)) (mC_qw (qw_Y hM_32 (by decide)) q_26) hw (lv_sub hl [0, 1, 2, 3, 4, 5, 6, 7, 8] rfl)
          exact hl_40_20 ((8 - 0 : Int).toNat + 1) 0 0 (-1) M_1 _ _ _ (Nat.lt_succ_self _) (by have lt0 : ((-1) : Int32).toInt = (-1) := (by decide); have lt1 : (0 : Int32).toInt = 0 := (by decide); first | omega | decide) (by have lt0 : ((-1) : Int32).toInt = (-1) := (by decide); have lt1 : (0 : Int32).toInt = 0 := (by decide); first | omega | decide) iM_1 (rw1_qw (qw_I hM_1 (by decide))) hw (lv_sub hl [0, 1, 2, 3, 4, 5, 6] rfl)
        · exact hj_29_13  _ _ _  hw (lv_sub hl [0, 1, 2, 3] rfl)
    · refine sb_if_eq (tgt := 29) hx hb (by decide : (0 : Int32).toInt = 0) dX10_fairest_17 (by decide) (fun c_17_10 => ?_) (fun h => absurd h (by decide))
      exact hj_29_13  _ _ _  hw (lv_sub hl [0, 1, 2, 3] rfl)
  · refine sb_if_eq (tgt := 29) hx hb (by decide : (0 : Int32).toInt = 0) dX10_fairest_9 (by decide) (fun c_9_5 => ?_) (fun h => absurd h (by decide))
    exact hj_29_13  _ _ _  hw (lv_sub hl [0, 1, 2, 3] rfl)
set_option maxHeartbeats 4000000 in
set_option maxRecDepth 100000 in
theorem s_X10_empty (l : Launch) (D : va_G) (A : Nat → Nat → Nat) (cy : Nat → ClassId) (hJ : ti_inj ti_LM A) (M : ti_M) (hI : mI Tm M) (hF : mF Tm M) (z1 : Int32) (z2 : Int32) : ti_Ki l yX10_empty cX10_empty 6 (some .int) 7 ti_LM D A cy M [.ref (A 60 0), .int z1, .int z2] (fun r M2 => mF Tm M2 ∧ tI M2 60 2 = tI M 60 2 ∧ lw M2 M) := by
  refine ti_eI yp_X10_empty hJ ti_LM_nd (Nat.le_of_ble_eq_true rfl) ?_
  intro p e s m args below meth c Q H0 C hQ hw ls hl
  have hx := C.1
  have hb := C.2.1
  have hl : lv_has ls 6 [(0, .ref (A 60 0)), (1, .int z1), (2, .int z2)] := hl
  have hL : mL M := hF.2.1
  have hC0 : mC M 0 := hF.2.2.1.1
  have hP0 : mP M 0 := hF.2.2.1.2
  refine lv_aload_n hx hb dX10_empty_0 rfl (lv_at hl 0 rfl) ?_
  refine lv_iconst (v := 0) hx hb dX10_empty_1 (by decide) ?_
  refine ti_putI (ci := 10) (k := 0) (N := 67) (T := TX10) C hw iw_10 tyX10 tyX10_ok nmX10 rfl ob_60 (by decide) (by decide) fl_X10_154 rfl rfl rfl rfl (fn_10 A _) fs_10_0 dX10_empty_2 (fun H locs hw => ?_)
  obtain ⟨M_1, hM_1⟩ : ∃ z : ti_M, z = uI M 60 0 0 := ⟨_, rfl⟩
  have hw := hw.to hM_1.symm
  have iM_1 : mI Tm M_1 := mI_uI hI hM_1 (by decide) (by decide) trivial
  refine lv_aload_n hx hb dX10_empty_5 rfl (lv_at hl 0 rfl) ?_
  refine lv_iload_n hx hb dX10_empty_6 rfl (lv_at hl 1 rfl) ?_
  refine ti_callVi (ci := 10) (av := [.int z1]) C hw (s_X10_isLong l D A cy hJ M_1 iM_1 z1) ⟨ml_X10_461, ym_X10_isLong, yv_X10_isLong, yi_X10_isLong, yc_X10_isLong⟩ yd_X10_isLong ob_60 (by decide) rfl rfl hl.1 (Nat.le_of_ble_eq_true rfl) ⟨by decide, by decide⟩ ⟨Nat.zero_le _, Nat.zero_le _⟩ dX10_empty_7 (fun r_2 M_3 H locs hp_3 hw => ?_)
  obtain ⟨hm, hz⟩ := hp_3
  have hw := hw.to hm
  have hj_22_8 : ∀  (H : Heap) (locs : List Loc) (ls : Array Slot), ti_H ti_LM D A cy H0 M_1 H locs → lv_has ls 6 [(0, .ref (A 60 0)), (1, .int z1), (2, .int z2)] → W p l e (ti_rm 7) s m args below meth c H locs 0 0 Q (F0 m 22 ls []) := by
    intro  H locs ls  hw hl
    refine lv_iconst (v := (-1)) hx hb dX10_empty_22 (by decide) ?_
    exact hQ _ _ _ _ _ _ hw rfl (⟨mF_rw hF iM_1 (rw1_qw (qw_I hM_1 (by decide))), (rw1_qw (qw_I hM_1 (by decide))).2.1.1, (rw1_qw (qw_I hM_1 (by decide))).1⟩) dX10_empty_23
  rcases hz with ⟨rfl, d0_4, d1_4⟩ | rfl
  · refine sb_if_eq (tgt := 22) hx hb (by decide : (1 : Int32).toInt = 1) dX10_empty_10 (by decide) (fun h => absurd h (by decide)) (fun c_10_4 => ?_)
    refine lv_iload_n hx hb dX10_empty_13 rfl (lv_at hl 2 rfl) ?_
    refine sb_if_lt (tgt := 22) hx hb rfl dX10_empty_14 (by decide) (fun c_14_6 => ?_) (fun c_14_6 => ?_)
    · exact hj_22_8  _ _ _  hw (lv_sub hl [0, 1, 2] rfl)
    · refine lv_iload_n hx hb dX10_empty_17 rfl (lv_at hl 2 rfl) ?_
      refine lv_iconst (v := 1) hx hb dX10_empty_18 (by decide) ?_
      refine sb_icmp_le (tgt := 24) hx hb rfl (by decide : (1 : Int32).toInt = 1) dX10_empty_19 (by decide) (fun c_19_7 => ?_) (fun c_19_7 => ?_)
      · refine lv_aload_n hx hb dX10_empty_24 rfl (lv_at hl 0 rfl) ?_
        refine ti_callVv (ci := 10) (av := []) C hw (s_X10_lays l D A cy hJ M_1 iM_1 (((rw1_qw (qw_I hM_1 (by decide))).2.2.1 0 (by decide)).1 hC0) (((rw1_qw (qw_I hM_1 (by decide))).2.2.1 0 (by decide)).2 hP0)) ⟨ml_X10_442, ym_X10_lays, yv_X10_lays, yi_X10_lays, yc_X10_lays⟩ yd_X10_lays ob_60 (by decide) rfl rfl hl.1 (Nat.le_of_ble_eq_true rfl) ⟨by decide, by decide⟩ ⟨Nat.zero_le _, Nat.zero_le _⟩ dX10_empty_25 (fun M_10 H locs hp_10 hw => ?_)
        obtain ⟨iM_10, q_11, q_12, q_13, q_14, q_15, q_16⟩ := hp_10
        refine lv_iconst (v := 0) hx hb dX10_empty_28 (by decide) ?_
        refine lv_istore_n (lv' := [(3, .int 0), (0, .ref (A 60 0)), (1, .int z1), (2, .int z2)]) hx hb dX10_empty_29 rfl hl (by decide) rfl (fun ls hl => ?_)
        refine lv_bipush (v := (-2)) hx hb dX10_empty_30 (by decide) ?_
        refine lv_istore (lv' := [(4, .int (-2)), (3, .int 0), (0, .ref (A 60 0)), (1, .int z1), (2, .int z2)]) hx hb dX10_empty_32 hl (by decide) rfl (fun ls hl => ?_)
        refine lv_iconst (v := 0) hx hb dX10_empty_34 (by decide) ?_
        refine lv_istore (lv' := [(5, .int 0), (4, .int (-2)), (3, .int 0), (0, .ref (A 60 0)), (1, .int z1), (2, .int z2)]) hx hb dX10_empty_35 hl (by decide) rfl (fun ls hl => ?_)
        have hl_37_24 : ∀ (n_25 : Nat) (x_17 : Int32) (x_20 : Int32) (x_21 : Int32) (M_22 : ti_M) (H : Heap) (locs : List Loc) (ls : Array Slot), (60 - x_17.toInt : Int).toNat < n_25 → (0 ≤ x_17.toInt) → (x_17.toInt ≤ 60) → (mI Tm M_22) → (rw1 M_22 M) → (mC M_22 1) → ti_H ti_LM D A cy H0 M_22 H locs → lv_has ls 6 [(5, .int x_17), (4, .int x_20), (3, .int x_21), (0, .ref (A 60 0)), (1, .int z1), (2, .int z2)] → W p l e (ti_rm 7) s m args below meth c H locs 0 0 Q (F0 m 37 ls []) := by
          intro n_25
          induction n_25 with
          | zero => intro x_17 x_20 x_21 M_22 H locs ls hf_25; exact absurd hf_25 (Nat.not_lt_zero _)
          | succ n_25 ih_25 =>
            intro x_17 x_20 x_21 M_22 H locs ls hf_25 b_18 b_19 iM_22 f_23 f_24 hw hl
            refine lv_iload hx hb dX10_empty_37 (lv_at hl 0 rfl) ?_
            refine lv_iload_n hx hb dX10_empty_39 rfl (lv_at hl 4 rfl) ?_
            refine sb_icmp_ge (tgt := 87) hx hb rfl rfl dX10_empty_40 (by decide) (fun c_40_25 => ?_) (fun c_40_25 => ?_)
            · refine lv_iload_n hx hb dX10_empty_87 rfl (lv_at hl 5 rfl) ?_
              refine sb_if_ne (tgt := 95) hx hb rfl dX10_empty_88 (by decide) (fun c_88_39 => ?_) (fun c_88_39 => ?_)
              · refine lv_iload hx hb dX10_empty_95 (lv_at hl 1 rfl) ?_
                exact hQ _ _ _ _ _ _ hw rfl (⟨mF_rw hF iM_22 f_23, f_23.2.1.1, f_23.1⟩) dX10_empty_97
              · refine lv_iload_n hx hb dX10_empty_91 rfl (lv_at hl 2 rfl) ?_
                refine lv_goto (tgt := 97) hx hb dX10_empty_92 (by decide) ?_
                exact hQ _ _ _ _ _ _ hw rfl (⟨mF_rw hF iM_22 f_23, f_23.2.1.1, f_23.1⟩) dX10_empty_97
            · refine lv_aload_n hx hb dX10_empty_43 rfl (lv_at hl 3 rfl) ?_
              refine lv_iconst (v := 1) hx hb dX10_empty_44 (by decide) ?_
              refine lv_iconst (v := 0) hx hb dX10_empty_45 (by decide) ?_
              refine ti_callVv (ci := 10) (av := [.int 1, .int 0]) C hw (s_X10_passes_1 l D A cy hJ M_22 iM_22 f_24 (mL_lw (lk_of f_23.1 f_23.2.1).1 hL) 0) ⟨ml_X10_407, ym_X10_passes, yv_X10_passes, yi_X10_passes, yc_X10_passes⟩ yd_X10_passes ob_60 (by decide) rfl rfl hl.1 (Nat.le_of_ble_eq_true rfl) ⟨by decide, by decide⟩ ⟨Nat.zero_le _, Nat.zero_le _⟩ dX10_empty_46 (fun M_28 H locs hp_28 hw => ?_)
              obtain ⟨iM_28, q_29, q_30⟩ := hp_28
              refine lv_aload_n hx hb dX10_empty_49 rfl (lv_at hl 3 rfl) ?_
              refine ti_get (ci := 10) (k := 38) (N := 67) (T := TX10) (v := .ref (A 60 39)) C hw iw_10 rfl ob_60 (by decide) (by decide) fl_X10_81 rfl rfl dX10_empty_50 ?_
              refine lv_iconst (v := 1) hx hb dX10_empty_53 (by decide) ?_
              refine ti_iald (ci := 10) (k := 38) (n := 23) C hw ob_60 (by decide) (fun _ _ => rfl) (by unfold vp_in; decide) dX10_empty_54 ?_
              refine lv_topi (fun x_31 ex_31 => ?_)
              have yx_31 : tY M_28 60 38 1 = x_31 := ((congrArg _ (by decide)).symm.trans ex_31.symm)
              have bx_31 : 0 ≤ x_31.toInt ∧ x_31.toInt ≤ 8 := mI_ry (k := 38) (i := 1) iM_28 yx_31.symm
              have zx_31 : (tY M_28 60 38 1).toInt = x_31.toInt := by rw [yx_31]
              have hj_81_38 : ∀ (x_37 : Int32) (x_38 : Int32) (H : Heap) (locs : List Loc) (ls : Array Slot), ti_H ti_LM D A cy H0 M_28 H locs → lv_has ls 6 [(5, .int x_17), (4, .int x_37), (3, .int x_38), (0, .ref (A 60 0)), (1, .int z1), (2, .int z2)] → W p l e (ti_rm 7) s m args below meth c H locs 0 0 Q (F0 m 81 ls []) := by
                intro x_37 x_38 H locs ls  hw hl
                obtain ⟨x_39, ex_39⟩ : ∃ z : Int32, z = x_17 + 1 := ⟨_, rfl⟩
                have tx_39 : x_39.toInt = x_17.toInt + 1 := i_add ex_39 rfl (by decide) (by omega) (by omega)
                refine lv_iinc (v := x_39) (lv' := [(5, .int x_39), (4, .int x_37), (3, .int x_38), (0, .ref (A 60 0)), (1, .int z1), (2, .int z2)]) hx hb dX10_empty_81 hl (k := 0) rfl (by rw [ex_39]; rfl) (by decide) rfl (fun ls hl => ?_)
                refine lv_goto (tgt := 37) hx hb dX10_empty_84 (by decide) ?_
                exact ih_25 x_39 x_37 x_38 M_28 _ _ _ (by omega) (by first | omega | decide) (by first | omega | decide) iM_28 (rw1.trans (rw1_rq q_29) f_23) q_30 hw (lv_sub hl [0, 1, 2, 3, 4, 5] rfl)
              refine sb_if_le (tgt := 61) hx hb rfl dX10_empty_55 (by decide) (fun c_55_31 => ?_) (fun c_55_31 => ?_)
              · obtain ⟨x_33, ex_33⟩ : ∃ z : Int32, z = x_21 + 1 := ⟨_, rfl⟩
                refine lv_iinc (v := x_33) (lv' := [(3, .int x_33), (5, .int x_17), (4, .int x_20), (0, .ref (A 60 0)), (1, .int z1), (2, .int z2)]) hx hb dX10_empty_61 hl (k := 2) rfl (by rw [ex_33]; rfl) (by decide) rfl (fun ls hl => ?_)
                refine lv_iload hx hb dX10_empty_64 (lv_at hl 2 rfl) ?_
                refine lv_bipush (v := (-2)) hx hb dX10_empty_66 (by decide) ?_
                refine sb_icmp_ne (tgt := 81) hx hb rfl (by decide : ((-2) : Int32).toInt = (-2)) dX10_empty_68 (by decide) (fun c_68_33 => ?_) (fun c_68_33 => ?_)
                · exact hj_81_38 x_20 x_33 _ _ _  hw (lv_sub hl [1, 2, 0, 3, 4, 5] rfl)
                · refine lv_aload_n hx hb dX10_empty_71 rfl (lv_at hl 3 rfl) ?_
                  refine ti_get (ci := 10) (k := 34) (N := 67) (T := TX10) (v := .ref (A 60 35)) C hw iw_10 rfl ob_60 (by decide) (by decide) fl_X10_69 rfl rfl dX10_empty_72 ?_
                  refine lv_iconst (v := 1) hx hb dX10_empty_75 (by decide) ?_
                  refine ti_iald (ci := 10) (k := 34) (n := 23) C hw ob_60 (by decide) (fun _ _ => rfl) (by unfold vp_in; decide) dX10_empty_76 ?_
                  refine lv_topi (fun x_35 ex_35 => ?_)
                  have yx_35 : tY M_28 60 34 1 = x_35 := ((congrArg _ (by decide)).symm.trans ex_35.symm)
                  have zx_35 : (tY M_28 60 34 1).toInt = x_35.toInt := by rw [yx_35]
                  refine lv_iconst (v := 1) hx hb dX10_empty_77 (by decide) ?_
                  refine lv_isub hx hb dX10_empty_78 ?_
                  refine lv_topi (fun x_36 ex_36 => ?_)
                  refine lv_istore (lv' := [(4, .int x_36), (3, .int x_33), (5, .int x_17), (0, .ref (A 60 0)), (1, .int z1), (2, .int z2)]) hx hb dX10_empty_79 hl (by decide) rfl (fun ls hl => ?_)
                  exact hj_81_38 x_36 x_33 _ _ _  hw (lv_sub hl [2, 0, 1, 3, 4, 5] rfl)
              · refine lv_goto (tgt := 81) hx hb dX10_empty_58 (by decide) ?_
                exact hj_81_38 x_20 x_21 _ _ _  hw (lv_sub hl [0, 1, 2, 3, 4, 5] rfl)
        exact hl_37_24 ((60 - 0 : Int).toNat + 1) 0 (-2) 0 M_10 _ _ _ (Nat.lt_succ_self _) (by have lt0 : ((-2) : Int32).toInt = (-2) := (by decide); have lt1 : (0 : Int32).toInt = 0 := (by decide); first | omega | decide) (by have lt0 : ((-2) : Int32).toInt = (-2) := (by decide); have lt1 : (0 : Int32).toInt = 0 := (by decide); first | omega | decide) iM_10 (rw1.trans (rw1_rq q_11) (rw1_qw (qw_I hM_1 (by decide)))) q_12 hw (lv_sub hl [0, 1, 2, 3, 4, 5] rfl)
      · exact hj_22_8  _ _ _  hw (lv_sub hl [0, 1, 2] rfl)
  · refine sb_if_eq (tgt := 22) hx hb (by decide : (0 : Int32).toInt = 0) dX10_empty_10 (by decide) (fun c_10_5 => ?_) (fun h => absurd h (by decide))
    exact hj_22_8  _ _ _  hw (lv_sub hl [0, 1, 2] rfl)
set_option maxHeartbeats 4000000 in
set_option maxRecDepth 100000 in
theorem s_X10_chance (l : Launch) (D : va_G) (A : Nat → Nat → Nat) (cy : Nat → ClassId) (hJ : ti_inj ti_LM A) (M : ti_M) (hI : mI Tm M) (hF : mF Tm M) (z1 : Int32) (z2 : Int32) (z3 : Int32) : ti_Ki l yX10_chance cX10_chance 8 (some .int) 7 ti_LM D A cy M [.ref (A 60 0), .int z1, .int z2, .int z3] (fun r M2 => mF Tm M2 ∧ tI M2 60 2 = tI M 60 2 ∧ lw M2 M) := by
  refine ti_eI yp_X10_chance hJ ti_LM_nd (Nat.le_of_ble_eq_true rfl) ?_
  intro p e s m args below meth c Q H0 C hQ hw ls hl
  have hx := C.1
  have hb := C.2.1
  have hl : lv_has ls 8 [(0, .ref (A 60 0)), (1, .int z1), (2, .int z2), (3, .int z3)] := hl
  have hL : mL M := hF.2.1
  have hC0 : mC M 0 := hF.2.2.1.1
  have hP0 : mP M 0 := hF.2.2.1.2
  refine lv_aload_n hx hb dX10_chance_0 rfl (lv_at hl 0 rfl) ?_
  refine lv_iconst (v := 0) hx hb dX10_chance_1 (by decide) ?_
  refine ti_putI (ci := 10) (k := 0) (N := 67) (T := TX10) C hw iw_10 tyX10 tyX10_ok nmX10 rfl ob_60 (by decide) (by decide) fl_X10_154 rfl rfl rfl rfl (fn_10 A _) fs_10_0 dX10_chance_2 (fun H locs hw => ?_)
  obtain ⟨M_1, hM_1⟩ : ∃ z : ti_M, z = uI M 60 0 0 := ⟨_, rfl⟩
  have hw := hw.to hM_1.symm
  have iM_1 : mI Tm M_1 := mI_uI hI hM_1 (by decide) (by decide) trivial
  refine lv_iload_n hx hb dX10_chance_5 rfl (lv_at hl 1 rfl) ?_
  have hj_25_13 : ∀  (H : Heap) (locs : List Loc) (ls : Array Slot), ti_H ti_LM D A cy H0 M_1 H locs → lv_has ls 8 [(0, .ref (A 60 0)), (1, .int z1), (2, .int z2), (3, .int z3)] → W p l e (ti_rm 7) s m args below meth c H locs 0 0 Q (F0 m 25 ls []) := by
    intro  H locs ls  hw hl
    refine lv_iconst (v := (-1)) hx hb dX10_chance_25 (by decide) ?_
    exact hQ _ _ _ _ _ _ hw rfl (⟨mF_rw hF iM_1 (rw1_qw (qw_I hM_1 (by decide))), (rw1_qw (qw_I hM_1 (by decide))).2.1.1, (rw1_qw (qw_I hM_1 (by decide))).1⟩) dX10_chance_26
  refine sb_if_lt (tgt := 25) hx hb rfl dX10_chance_6 (by decide) (fun c_6_1 => ?_) (fun c_6_1 => ?_)
  · exact hj_25_13  _ _ _  hw (lv_sub hl [0, 1, 2, 3] rfl)
  · refine lv_aload_n hx hb dX10_chance_9 rfl (lv_at hl 0 rfl) ?_
    refine lv_iload_n hx hb dX10_chance_10 rfl (lv_at hl 2 rfl) ?_
    refine ti_callVi (ci := 10) (av := [.int z2]) C hw (s_X10_isMan l D A cy hJ M_1 iM_1 z2) ⟨ml_X10_356, ym_X10_isMan, yv_X10_isMan, yi_X10_isMan, yc_X10_isMan⟩ yd_X10_isMan ob_60 (by decide) rfl rfl hl.1 (Nat.le_of_ble_eq_true rfl) ⟨by decide, by decide⟩ ⟨Nat.zero_le _, Nat.zero_le _⟩ dX10_chance_11 (fun r_3 M_4 H locs hp_4 hw => ?_)
    obtain ⟨hm, hz⟩ := hp_4
    have hw := hw.to hm
    have lk_6 : (tY M_1 60 3 0).toInt = (tY M 60 3 0).toInt := by rw [(cg (tY_uIE hM_1) 0)]
    rcases hz with ⟨rfl, d0_5, d1_5, d2_5⟩ | rfl
    · refine sb_if_eq (tgt := 25) hx hb (by decide : (1 : Int32).toInt = 1) dX10_chance_14 (by decide) (fun h => absurd h (by decide)) (fun c_14_6 => ?_)
      refine lv_aload_n hx hb dX10_chance_17 rfl (lv_at hl 0 rfl) ?_
      refine lv_iload_n hx hb dX10_chance_18 rfl (lv_at hl 3 rfl) ?_
      refine ti_callVi (ci := 10) (av := [.int z3]) C hw (s_X10_isLong l D A cy hJ M_1 iM_1 z3) ⟨ml_X10_461, ym_X10_isLong, yv_X10_isLong, yi_X10_isLong, yc_X10_isLong⟩ yd_X10_isLong ob_60 (by decide) rfl rfl hl.1 (Nat.le_of_ble_eq_true rfl) ⟨by decide, by decide⟩ ⟨Nat.zero_le _, Nat.zero_le _⟩ dX10_chance_19 (fun r_9 M_10 H locs hp_10 hw => ?_)
      obtain ⟨hm, hz⟩ := hp_10
      have hw := hw.to hm
      rcases hz with ⟨rfl, d0_11, d1_11⟩ | rfl
      · refine sb_if_ne (tgt := 27) hx hb (by decide : (1 : Int32).toInt = 1) dX10_chance_22 (by decide) (fun c_22_11 => ?_) (fun h => absurd h (by decide))
        refine lv_iload_n hx hb dX10_chance_27 rfl (lv_at hl 1 rfl) ?_
        refine lv_istore (lv' := [(4, .int z1), (0, .ref (A 60 0)), (1, .int z1), (2, .int z2), (3, .int z3)]) hx hb dX10_chance_28 hl (by decide) rfl (fun ls hl => ?_)
        refine lv_iconst (v := 0) hx hb dX10_chance_30 (by decide) ?_
        refine lv_istore (lv' := [(5, .int 0), (4, .int z1), (0, .ref (A 60 0)), (1, .int z1), (2, .int z2), (3, .int z3)]) hx hb dX10_chance_31 hl (by decide) rfl (fun ls hl => ?_)
        refine lv_iconst (v := 0) hx hb dX10_chance_33 (by decide) ?_
        refine lv_istore (lv' := [(6, .int 0), (5, .int 0), (4, .int z1), (0, .ref (A 60 0)), (1, .int z1), (2, .int z2), (3, .int z3)]) hx hb dX10_chance_34 hl (by decide) rfl (fun ls hl => ?_)
        have hl_36_20 : ∀ (n_21 : Nat) (x_14 : Int32) (x_17 : Int32) (x_18 : Int32) (M_19 : ti_M) (H : Heap) (locs : List Loc) (ls : Array Slot), (10 - x_14.toInt : Int).toNat < n_21 → (0 ≤ x_14.toInt) → (x_14.toInt ≤ 10) → (mI Tm M_19) → (rw1 M_19 M) → ti_H ti_LM D A cy H0 M_19 H locs → lv_has ls 8 [(6, .int x_14), (5, .int x_17), (4, .int x_18), (0, .ref (A 60 0)), (1, .int z1), (2, .int z2), (3, .int z3)] → W p l e (ti_rm 7) s m args below meth c H locs 0 0 Q (F0 m 36 ls []) := by
          intro n_21
          induction n_21 with
          | zero => intro x_14 x_17 x_18 M_19 H locs ls hf_21; exact absurd hf_21 (Nat.not_lt_zero _)
          | succ n_21 ih_21 =>
            intro x_14 x_17 x_18 M_19 H locs ls hf_21 b_15 b_16 iM_19 f_20 hw hl
            refine lv_iload hx hb dX10_chance_36 (lv_at hl 0 rfl) ?_
            refine lv_bipush (v := 10) hx hb dX10_chance_38 (by decide) ?_
            refine sb_icmp_ge (tgt := 113) hx hb rfl (by decide : (10 : Int32).toInt = 10) dX10_chance_40 (by decide) (fun c_40_21 => ?_) (fun c_40_21 => ?_)
            · refine lv_iload hx hb dX10_chance_113 (lv_at hl 1 rfl) ?_
              exact hQ _ _ _ _ _ _ hw rfl (⟨mF_rw hF iM_19 f_20, f_20.2.1.1, f_20.1⟩) dX10_chance_115
            · refine lv_aload_n hx hb dX10_chance_43 rfl (lv_at hl 3 rfl) ?_
              refine ti_callVv (ci := 10) (av := []) C hw (s_X10_lays l D A cy hJ M_19 iM_19 ((f_20.2.2.1 0 (by decide)).1 hC0) ((f_20.2.2.1 0 (by decide)).2 hP0)) ⟨ml_X10_442, ym_X10_lays, yv_X10_lays, yi_X10_lays, yc_X10_lays⟩ yd_X10_lays ob_60 (by decide) rfl rfl hl.1 (Nat.le_of_ble_eq_true rfl) ⟨by decide, by decide⟩ ⟨Nat.zero_le _, Nat.zero_le _⟩ dX10_chance_44 (fun M_24 H locs hp_24 hw => ?_)
              obtain ⟨iM_24, q_25, q_26, q_27, q_28, q_29, q_30⟩ := hp_24
              refine lv_aload_n hx hb dX10_chance_47 rfl (lv_at hl 3 rfl) ?_
              refine ti_get (ci := 10) (k := 36) (N := 67) (T := TX10) (v := .ref (A 60 37)) C hw iw_10 rfl ob_60 (by decide) (by decide) fl_X10_75 rfl rfl dX10_chance_48 ?_
              refine lv_iconst (v := 1) hx hb dX10_chance_51 (by decide) ?_
              refine lv_iload hx hb dX10_chance_52 (lv_at hl 2 rfl) ?_
              refine ti_iast (ci := 10) (k := 36) (n := 23) C hw ob_60 (by decide) (fun _ _ => rfl) (by unfold vp_in; decide) dX10_chance_54 (fun H locs hw => ?_)
              obtain ⟨M_31, hM_31⟩ : ∃ z : ti_M, z = uY M_24 60 36 (upd (tY M_24 60 36) (1 : Int32).toNatClampNeg x_18) := ⟨_, rfl⟩
              have hw := hw.to hM_31.symm
              have iM_31 : mI Tm M_31 := mI_up (i := 1) iM_24 hM_31 trivial
              refine lv_iconst (v := 0) hx hb dX10_chance_55 (by decide) ?_
              refine lv_istore (lv' := [(7, .int 0), (6, .int x_14), (5, .int x_17), (4, .int x_18), (0, .ref (A 60 0)), (1, .int z1), (2, .int z2), (3, .int z3)]) hx hb dX10_chance_56 hl (by decide) rfl (fun ls hl => ?_)
              have hl_58_37 : ∀ (n_38 : Nat) (x_32 : Int32) (M_35 : ti_M) (H : Heap) (locs : List Loc) (ls : Array Slot), (60 - x_32.toInt : Int).toNat < n_38 → (0 ≤ x_32.toInt) → (x_32.toInt ≤ 60) → (mI Tm M_35) → (rw1 M_35 M) → (mC M_35 1) → ti_H ti_LM D A cy H0 M_35 H locs → lv_has ls 8 [(7, .int x_32), (6, .int x_14), (5, .int x_17), (4, .int x_18), (0, .ref (A 60 0)), (1, .int z1), (2, .int z2), (3, .int z3)] → W p l e (ti_rm 7) s m args below meth c H locs 0 0 Q (F0 m 58 ls []) := by
                intro n_38
                induction n_38 with
                | zero => intro x_32 M_35 H locs ls hf_38; exact absurd hf_38 (Nat.not_lt_zero _)
                | succ n_38 ih_38 =>
                  intro x_32 M_35 H locs ls hf_38 b_33 b_34 iM_35 f_36 f_37 hw hl
                  refine lv_iload hx hb dX10_chance_58 (lv_at hl 0 rfl) ?_
                  refine lv_iload_n hx hb dX10_chance_60 rfl (lv_at hl 7 rfl) ?_
                  refine sb_icmp_ge (tgt := 76) hx hb rfl rfl dX10_chance_61 (by decide) (fun c_61_38 => ?_) (fun c_61_38 => ?_)
                  · refine lv_aload_n hx hb dX10_chance_76 rfl (lv_at hl 4 rfl) ?_
                    refine ti_get (ci := 10) (k := 36) (N := 67) (T := TX10) (v := .ref (A 60 37)) C hw iw_10 rfl ob_60 (by decide) (by decide) fl_X10_75 rfl rfl dX10_chance_77 ?_
                    refine lv_iconst (v := 1) hx hb dX10_chance_80 (by decide) ?_
                    refine ti_iald (ci := 10) (k := 36) (n := 23) C hw ob_60 (by decide) (fun _ _ => rfl) (by unfold vp_in; decide) dX10_chance_81 ?_
                    refine lv_topi (fun x_45 ex_45 => ?_)
                    have yx_45 : tY M_35 60 36 1 = x_45 := ((congrArg _ (by decide)).symm.trans ex_45.symm)
                    refine lv_istore (lv' := [(4, .int x_45), (7, .int x_32), (6, .int x_14), (5, .int x_17), (0, .ref (A 60 0)), (1, .int z1), (2, .int z2), (3, .int z3)]) hx hb dX10_chance_82 hl (by decide) rfl (fun ls hl => ?_)
                    refine lv_iload hx hb dX10_chance_84 (lv_at hl 3 rfl) ?_
                    refine lv_aload_n hx hb dX10_chance_86 rfl (lv_at hl 4 rfl) ?_
                    refine ti_get (ci := 10) (k := 40) (N := 67) (T := TX10) (v := .ref (A 60 41)) C hw iw_10 rfl ob_60 (by decide) (by decide) fl_X10_87 rfl rfl dX10_chance_87 ?_
                    refine lv_bipush (v := 8) hx hb dX10_chance_90 (by decide) ?_
                    refine lv_iload_n hx hb dX10_chance_92 rfl (lv_at hl 6 rfl) ?_
                    refine lv_iadd hx hb dX10_chance_93 ?_
                    refine lv_topi (fun x_46 ex_46 => ?_)
                    have lox_46z2 := z2.le_toInt
                    have hix_46z2 := z2.toInt_lt
                    have tx_46 : x_46.toInt = 8 + z2.toInt := i_add ex_46 (by decide : (8 : Int32).toInt = 8) rfl (by omega) (by omega)
                    refine ti_iald (ci := 10) (k := 40) (n := 184) C hw ob_60 (by decide) (fun _ _ => rfl) (vp_in_iff.mpr (by omega)) dX10_chance_94 ?_
                    refine lv_topi (fun x_47 ex_47 => ?_)
                    have yx_47 : tY M_35 60 40 x_46.toNatClampNeg = x_47 := (ex_47.symm)
                    have zx_47 : (tY M_35 60 40 x_46.toNatClampNeg).toInt = x_47.toInt := by rw [yx_47]
                    refine lv_iconst (v := 2) hx hb dX10_chance_95 (by decide) ?_
                    have hj_104_51 : ∀ (x_49 : Int32) (H : Heap) (locs : List Loc) (ls : Array Slot), (0 ≤ x_49.toInt) → (x_49.toInt ≤ 1) → ti_H ti_LM D A cy H0 M_35 H locs → lv_has ls 8 [(4, .int x_45), (7, .int x_32), (6, .int x_14), (5, .int x_17), (0, .ref (A 60 0)), (1, .int z1), (2, .int z2), (3, .int z3)] → W p l e (ti_rm 7) s m args below meth c H locs 0 0 Q (F0 m 104 ls [.int x_49, .int x_17]) := by
                      intro x_49 H locs ls b_50 b_51 hw hl
                      refine lv_iadd hx hb dX10_chance_104 ?_
                      refine lv_topi (fun x_52 ex_52 => ?_)
                      refine lv_istore (lv' := [(5, .int x_52), (4, .int x_45), (7, .int x_32), (6, .int x_14), (0, .ref (A 60 0)), (1, .int z1), (2, .int z2), (3, .int z3)]) hx hb dX10_chance_105 hl (by decide) rfl (fun ls hl => ?_)
                      obtain ⟨x_53, ex_53⟩ : ∃ z : Int32, z = x_14 + 1 := ⟨_, rfl⟩
                      have tx_53 : x_53.toInt = x_14.toInt + 1 := i_add ex_53 rfl (by decide) (by omega) (by omega)
                      refine lv_iinc (v := x_53) (lv' := [(6, .int x_53), (5, .int x_52), (4, .int x_45), (7, .int x_32), (0, .ref (A 60 0)), (1, .int z1), (2, .int z2), (3, .int z3)]) hx hb dX10_chance_107 hl (k := 3) rfl (by rw [ex_53]; rfl) (by decide) rfl (fun ls hl => ?_)
                      refine lv_goto (tgt := 36) hx hb dX10_chance_110 (by decide) ?_
                      exact ih_21 x_53 x_52 x_45 M_35 _ _ _ (by omega) (by first | omega | decide) (by first | omega | decide) iM_35 f_36 hw (lv_sub hl [0, 1, 2, 4, 5, 6, 7] rfl)
                    refine sb_icmp_ne (tgt := 103) hx hb rfl (by decide : (2 : Int32).toInt = 2) dX10_chance_96 (by decide) (fun c_96_47 => ?_) (fun c_96_47 => ?_)
                    · refine lv_iconst (v := 0) hx hb dX10_chance_103 (by decide) ?_
                      exact hj_104_51 0 _ _ _ (by have lt0 : (0 : Int32).toInt = 0 := (by decide); first | omega | decide) (by have lt0 : (0 : Int32).toInt = 0 := (by decide); first | omega | decide) hw (lv_sub hl [0, 1, 2, 3, 4, 5, 6, 7] rfl)
                    · refine lv_iconst (v := 1) hx hb dX10_chance_99 (by decide) ?_
                      refine lv_goto (tgt := 104) hx hb dX10_chance_100 (by decide) ?_
                      exact hj_104_51 1 _ _ _ (by have lt0 : (1 : Int32).toInt = 1 := (by decide); first | omega | decide) (by have lt0 : (1 : Int32).toInt = 1 := (by decide); first | omega | decide) hw (lv_sub hl [0, 1, 2, 3, 4, 5, 6, 7] rfl)
                  · refine lv_aload_n hx hb dX10_chance_64 rfl (lv_at hl 4 rfl) ?_
                    refine lv_iconst (v := 1) hx hb dX10_chance_65 (by decide) ?_
                    refine lv_iconst (v := 1) hx hb dX10_chance_66 (by decide) ?_
                    refine ti_callVv (ci := 10) (av := [.int 1, .int 1]) C hw (s_X10_passes_1 l D A cy hJ M_35 iM_35 f_37 (mL_lw (lk_of f_36.1 f_36.2.1).1 hL) 1) ⟨ml_X10_407, ym_X10_passes, yv_X10_passes, yi_X10_passes, yc_X10_passes⟩ yd_X10_passes ob_60 (by decide) rfl rfl hl.1 (Nat.le_of_ble_eq_true rfl) ⟨by decide, by decide⟩ ⟨Nat.zero_le _, Nat.zero_le _⟩ dX10_chance_67 (fun M_41 H locs hp_41 hw => ?_)
                    obtain ⟨iM_41, q_42, q_43⟩ := hp_41
                    obtain ⟨x_44, ex_44⟩ : ∃ z : Int32, z = x_32 + 1 := ⟨_, rfl⟩
                    have tx_44 : x_44.toInt = x_32.toInt + 1 := i_add ex_44 rfl (by decide) (by omega) (by omega)
                    refine lv_iinc (v := x_44) (lv' := [(7, .int x_44), (6, .int x_14), (5, .int x_17), (4, .int x_18), (0, .ref (A 60 0)), (1, .int z1), (2, .int z2), (3, .int z3)]) hx hb dX10_chance_70 hl (k := 0) rfl (by rw [ex_44]; rfl) (by decide) rfl (fun ls hl => ?_)
                    refine lv_goto (tgt := 58) hx hb dX10_chance_73 (by decide) ?_
                    exact ih_38 x_44 M_41 _ _ _ (by omega) (by first | omega | decide) (by first | omega | decide) iM_41 (rw1.trans (rw1_rq q_42) f_36) q_43 hw (lv_sub hl [0, 1, 2, 3, 4, 5, 6, 7] rfl)
              exact hl_58_37 ((60 - 0 : Int).toNat + 1) 0 M_31 _ _ _ (Nat.lt_succ_self _) (by have lt0 : (0 : Int32).toInt = 0 := (by decide); first | omega | decide) (by have lt0 : (0 : Int32).toInt = 0 := (by decide); first | omega | decide) iM_31 (rw1.trans (rw1_qw (qw_Y hM_31 (by decide))) (rw1.trans (rw1_rq q_25) f_20)) (mC_qw (qw_Y hM_31 (by decide)) q_26) hw (lv_sub hl [0, 1, 2, 3, 4, 5, 6, 7] rfl)
        exact hl_36_20 ((10 - 0 : Int).toNat + 1) 0 0 z1 M_1 _ _ _ (Nat.lt_succ_self _) (by have lt0 : (0 : Int32).toInt = 0 := (by decide); first | omega | decide) (by have lt0 : (0 : Int32).toInt = 0 := (by decide); first | omega | decide) iM_1 (rw1_qw (qw_I hM_1 (by decide))) hw (lv_sub hl [0, 1, 2, 3, 4, 5, 6] rfl)
      · refine sb_if_ne (tgt := 27) hx hb (by decide : (0 : Int32).toInt = 0) dX10_chance_22 (by decide) (fun h => absurd h (by decide)) (fun c_22_12 => ?_)
        exact hj_25_13  _ _ _  hw (lv_sub hl [0, 1, 2, 3] rfl)
    · refine sb_if_eq (tgt := 25) hx hb (by decide : (0 : Int32).toInt = 0) dX10_chance_14 (by decide) (fun c_14_7 => ?_) (fun h => absurd h (by decide))
      exact hj_25_13  _ _ _  hw (lv_sub hl [0, 1, 2, 3] rfl)
set_option maxHeartbeats 4000000 in
set_option maxRecDepth 100000 in
theorem s_X10_endOf (l : Launch) (D : va_G) (A : Nat → Nat → Nat) (cy : Nat → ClassId) (hJ : ti_inj ti_LM A) (M : ti_M) (hI : mI Tm M) (a n : Int32) (h1 : 0 ≤ a.toInt) (h2 : a.toInt ≤ 7) : ti_Ki l yX10_endOf cX10_endOf 5 (some .int) 1 ti_LM D A cy M [.ref (A 60 0), .int a, .int n] (fun r M2 => M2 = M) := by
  refine ti_eI yp_X10_endOf hJ ti_LM_nd (Nat.le_of_ble_eq_true rfl) ?_
  intro p e s m args below meth c Q H0 C hQ hw ls hl
  have hx := C.1
  have hb := C.2.1
  have hl : lv_has ls 5 [(0, .ref (A 60 0)), (1, .int a), (2, .int n)] := hl
  refine lv_bipush (v := 8) hx hb dX10_endOf_0 (by decide) ?_
  refine lv_iload_n hx hb dX10_endOf_2 rfl (lv_at hl 1 rfl) ?_
  refine lv_iadd hx hb dX10_endOf_3 ?_
  refine lv_topi (fun x_1 ex_1 => ?_)
  have tx_1 : x_1.toInt = 8 + a.toInt := i_add ex_1 (by decide : (8 : Int32).toInt = 8) rfl (by omega) (by omega)
  refine lv_istore_n (lv' := [(3, .int x_1), (0, .ref (A 60 0)), (1, .int a), (2, .int n)]) hx hb dX10_endOf_4 rfl hl (by decide) rfl (fun ls hl => ?_)
  refine lv_aload_n hx hb dX10_endOf_5 rfl (lv_at hl 1 rfl) ?_
  refine ti_get (ci := 10) (k := 40) (N := 67) (T := TX10) (v := .ref (A 60 41)) C hw iw_10 rfl ob_60 (by decide) (by decide) fl_X10_87 rfl rfl dX10_endOf_6 ?_
  refine lv_iload_n hx hb dX10_endOf_9 rfl (lv_at hl 0 rfl) ?_
  refine ti_iald (ci := 10) (k := 40) (n := 184) C hw ob_60 (by decide) (fun _ _ => rfl) (vp_in_iff.mpr (by omega)) dX10_endOf_10 ?_
  refine lv_topi (fun x_2 ex_2 => ?_)
  have yx_2 : tY M 60 40 x_1.toNatClampNeg = x_2 := (ex_2.symm)
  have zx_2 : (tY M 60 40 x_1.toNatClampNeg).toInt = x_2.toInt := by rw [yx_2]
  refine lv_iconst (v := 2) hx hb dX10_endOf_11 (by decide) ?_
  have hj_43_8 : ∀  (H : Heap) (locs : List Loc) (ls : Array Slot), ti_H ti_LM D A cy H0 M H locs → lv_has ls 5 [(3, .int x_1), (0, .ref (A 60 0)), (1, .int a), (2, .int n)] → W p l e (ti_rm 1) s m args below meth c H locs 0 0 Q (F0 m 43 ls []) := by
    intro  H locs ls  hw hl
    refine lv_aload_n hx hb dX10_endOf_43 rfl (lv_at hl 1 rfl) ?_
    refine lv_iconst (v := 1) hx hb dX10_endOf_44 (by decide) ?_
    refine lv_iload_n hx hb dX10_endOf_45 rfl (lv_at hl 2 rfl) ?_
    refine ti_callVi (ci := 10) (av := [.int 1, .int a]) C hw (s_X10_placeOf_1 l D A cy hJ M hI a) ⟨ml_X10_411, ym_X10_placeOf, yv_X10_placeOf, yi_X10_placeOf, yc_X10_placeOf⟩ yd_X10_placeOf ob_60 (by decide) rfl rfl hl.1 (Nat.le_of_ble_eq_true rfl) ⟨by decide, by decide⟩ ⟨Nat.zero_le _, Nat.zero_le _⟩ dX10_endOf_46 (fun r_9 M_10 H locs hp_10 hw => ?_)
    obtain ⟨hm, hz⟩ := hp_10
    have hw := hw.to hm
    have hj_57_16 : ∀ (x_14 : Int32) (H : Heap) (locs : List Loc) (ls : Array Slot), ((-1) ≤ x_14.toInt) → (x_14.toInt ≤ 7) → ti_H ti_LM D A cy H0 M H locs → lv_has ls 5 [(4, .int x_14), (3, .int x_1), (0, .ref (A 60 0)), (1, .int a), (2, .int n)] → W p l e (ti_rm 1) s m args below meth c H locs 0 0 Q (F0 m 57 ls []) := by
      intro x_14 H locs ls b_15 b_16 hw hl
      refine lv_iconst (v := 0) hx hb dX10_endOf_57 (by decide) ?_
      refine lv_goto (tgt := 66) hx hb dX10_endOf_58 (by decide) ?_
      exact hQ _ _ _ _ _ _ hw rfl rfl dX10_endOf_66
    rcases hz with ⟨rfl, z1_11⟩ | ⟨z1_11, z2_11, z3_11, z4_11⟩
    · refine lv_istore (lv' := [(4, .int (-1)), (3, .int x_1), (0, .ref (A 60 0)), (1, .int a), (2, .int n)]) hx hb dX10_endOf_49 hl (by decide) rfl (fun ls hl => ?_)
      refine lv_iload hx hb dX10_endOf_51 (lv_at hl 0 rfl) ?_
      refine lv_iconst (v := (-1)) hx hb dX10_endOf_53 (by decide) ?_
      refine sb_icmp_ne (tgt := 61) hx hb (by decide : ((-1) : Int32).toInt = (-1)) (by decide : ((-1) : Int32).toInt = (-1)) dX10_endOf_54 (by decide) (fun h => absurd h (by decide)) (fun c_54_11 => ?_)
      exact hj_57_16 (-1) _ _ _ (by have lt0 : ((-1) : Int32).toInt = (-1) := (by decide); first | omega | decide) (by have lt0 : ((-1) : Int32).toInt = (-1) := (by decide); first | omega | decide) hw (lv_sub hl [0, 1, 2, 3, 4] rfl)
    · refine lv_istore (lv' := [(4, .int r_9), (3, .int x_1), (0, .ref (A 60 0)), (1, .int a), (2, .int n)]) hx hb dX10_endOf_49 hl (by decide) rfl (fun ls hl => ?_)
      refine lv_iload hx hb dX10_endOf_51 (lv_at hl 0 rfl) ?_
      refine lv_iconst (v := (-1)) hx hb dX10_endOf_53 (by decide) ?_
      refine sb_icmp_ne (tgt := 61) hx hb rfl (by decide : ((-1) : Int32).toInt = (-1)) dX10_endOf_54 (by decide) (fun c_54_12 => ?_) (fun c_54_12 => ?_)
      · refine lv_bipush (v := 100) hx hb dX10_endOf_61 (by decide) ?_
        refine lv_iload hx hb dX10_endOf_63 (lv_at hl 0 rfl) ?_
        refine lv_isub hx hb dX10_endOf_65 ?_
        refine lv_topi (fun x_17 ex_17 => ?_)
        have tx_17 : x_17.toInt = 100 - r_9.toInt := i_sub ex_17 (by decide : (100 : Int32).toInt = 100) rfl (by omega) (by omega)
        exact hQ _ _ _ _ _ _ hw rfl rfl dX10_endOf_66
      · exact hj_57_16 r_9 _ _ _ (by first | omega | decide) (by first | omega | decide) hw (lv_sub hl [0, 1, 2, 3, 4] rfl)
  refine sb_icmp_ne (tgt := 43) hx hb rfl (by decide : (2 : Int32).toInt = 2) dX10_endOf_12 (by decide) (fun c_12_2 => ?_) (fun c_12_2 => ?_)
  · exact hj_43_8  _ _ _  hw (lv_sub hl [0, 1, 2, 3] rfl)
  · refine lv_aload_n hx hb dX10_endOf_15 rfl (lv_at hl 1 rfl) ?_
    refine ti_get (ci := 10) (k := 48) (N := 67) (T := TX10) (v := .ref (A 60 49)) C hw iw_10 rfl ob_60 (by decide) (by decide) fl_X10_111 rfl rfl dX10_endOf_16 ?_
    refine lv_iload_n hx hb dX10_endOf_19 rfl (lv_at hl 0 rfl) ?_
    refine ti_iald (ci := 10) (k := 48) (n := 184) C hw ob_60 (by decide) (fun _ _ => rfl) (vp_in_iff.mpr (by omega)) dX10_endOf_20 ?_
    refine lv_topi (fun x_4 ex_4 => ?_)
    have yx_4 : tY M 60 48 x_1.toNatClampNeg = x_4 := (ex_4.symm)
    refine lv_aload_n hx hb dX10_endOf_21 rfl (lv_at hl 1 rfl) ?_
    refine ti_get (ci := 10) (k := 34) (N := 67) (T := TX10) (v := .ref (A 60 35)) C hw iw_10 rfl ob_60 (by decide) (by decide) fl_X10_69 rfl rfl dX10_endOf_22 ?_
    refine lv_iconst (v := 0) hx hb dX10_endOf_25 (by decide) ?_
    refine ti_iald (ci := 10) (k := 34) (n := 23) C hw ob_60 (by decide) (fun _ _ => rfl) (by unfold vp_in; decide) dX10_endOf_26 ?_
    refine lv_topi (fun x_5 ex_5 => ?_)
    have yx_5 : tY M 60 34 0 = x_5 := ((congrArg _ (by decide)).symm.trans ex_5.symm)
    have bx_5 : 0 ≤ x_5.toInt ∧ x_5.toInt ≤ 120 := mI_ry (k := 34) (i := 0) hI yx_5.symm (by decide)
    have zx_5 : (tY M 60 34 0).toInt = x_5.toInt := by rw [yx_5]
    refine lv_iload_n hx hb dX10_endOf_27 rfl (lv_at hl 3 rfl) ?_
    refine lv_iadd hx hb dX10_endOf_28 ?_
    refine lv_topi (fun x_6 ex_6 => ?_)
    refine sb_icmp_ge (tgt := 43) hx hb rfl rfl dX10_endOf_29 (by decide) (fun c_29_6 => ?_) (fun c_29_6 => ?_)
    · exact hj_43_8  _ _ _  hw (lv_sub hl [0, 1, 2, 3] rfl)
    · refine lv_sipush (v := 1000) hx hb dX10_endOf_32 (by decide) ?_
      refine lv_aload_n hx hb dX10_endOf_35 rfl (lv_at hl 1 rfl) ?_
      refine ti_get (ci := 10) (k := 48) (N := 67) (T := TX10) (v := .ref (A 60 49)) C hw iw_10 rfl ob_60 (by decide) (by decide) fl_X10_111 rfl rfl dX10_endOf_36 ?_
      refine lv_iload_n hx hb dX10_endOf_39 rfl (lv_at hl 0 rfl) ?_
      refine ti_iald (ci := 10) (k := 48) (n := 184) C hw ob_60 (by decide) (fun _ _ => rfl) (vp_in_iff.mpr (by omega)) dX10_endOf_40 ?_
      refine ti_top (y := x_4) ((yx_4)) ?_
      refine lv_isub hx hb dX10_endOf_41 ?_
      refine lv_topi (fun x_8 ex_8 => ?_)
      exact hQ _ _ _ _ _ _ hw rfl rfl dX10_endOf_42
set_option maxHeartbeats 4000000 in
set_option maxRecDepth 100000 in
theorem s_X10_layGame (l : Launch) (D : va_G) (A : Nat → Nat → Nat) (cy : Nat → ClassId) (hJ : ti_inj ti_LM A) (M : ti_M) (hI : mI Tm M) (hF : mF Tm M) (z1 : Int32) (z2 : Int32) (z3 : Int32) (h1 : 0 ≤ z1.toInt) (h2 : z1.toInt ≤ 7) (h3 : 0 ≤ z2.toInt) (h4 : z2.toInt ≤ 7) (h5 : (tY M 60 34 0).toInt ≤ 59) : ti_Kv l yX10_layGame cX10_layGame 6 8 ti_LM D A cy M [.ref (A 60 0), .int z1, .int z2, .int z3] (fun M2 => mI Tm M2 ∧ rw1 M2 M) := by
  refine ti_eV yp_X10_layGame hJ ti_LM_nd (Nat.le_of_ble_eq_true rfl) ?_
  intro p e s m args below meth c Q H0 C hQ hw ls hl
  have hx := C.1
  have hb := C.2.1
  have hl : lv_has ls 6 [(0, .ref (A 60 0)), (1, .int z1), (2, .int z2), (3, .int z3)] := hl
  have hL : mL M := hF.2.1
  have hC0 : mC M 0 := hF.2.2.1.1
  have hP0 : mP M 0 := hF.2.2.1.2
  refine lv_aload_n hx hb dX10_layGame_0 rfl (lv_at hl 0 rfl) ?_
  refine lv_iconst (v := 4) hx hb dX10_layGame_1 (by decide) ?_
  refine lv_bipush (v := 60) hx hb dX10_layGame_2 (by decide) ?_
  refine lv_aload_n hx hb dX10_layGame_4 rfl (lv_at hl 0 rfl) ?_
  refine ti_get (ci := 10) (k := 34) (N := 67) (T := TX10) (v := .ref (A 60 35)) C hw iw_10 rfl ob_60 (by decide) (by decide) fl_X10_69 rfl rfl dX10_layGame_5 ?_
  refine lv_iconst (v := 0) hx hb dX10_layGame_8 (by decide) ?_
  refine ti_iald (ci := 10) (k := 34) (n := 23) C hw ob_60 (by decide) (fun _ _ => rfl) (by unfold vp_in; decide) dX10_layGame_9 ?_
  refine lv_topi (fun x_1 ex_1 => ?_)
  have yx_1 : tY M 60 34 0 = x_1 := ((congrArg _ (by decide)).symm.trans ex_1.symm)
  have bx_1 : 0 ≤ x_1.toInt ∧ x_1.toInt ≤ 120 := mI_ry (k := 34) (i := 0) hI yx_1.symm (by decide)
  have zx_1 : (tY M 60 34 0).toInt = x_1.toInt := by rw [yx_1]
  refine lv_isub hx hb dX10_layGame_10 ?_
  refine lv_topi (fun x_2 ex_2 => ?_)
  have tx_2 : x_2.toInt = 60 - x_1.toInt := i_sub ex_2 (by decide : (60 : Int32).toInt = 60) rfl (by omega) (by omega)
  refine ti_min C ml_X10_380 hl.1 (by decide) (Nat.le_of_ble_eq_true rfl) ⟨Nat.zero_le _, Nat.zero_le _⟩ dX10_layGame_11 ?_
  refine lv_topi (fun x_3 ex_3 => ?_)
  have bx_3 := i_min ex_3 (by decide : (4 : Int32).toInt = 4) rfl
  refine ti_putI (ci := 10) (k := 56) (N := 67) (T := TX10) C hw iw_10 tyX10 tyX10_ok nmX10 rfl ob_60 (by decide) (by decide) fl_X10_451 rfl rfl rfl rfl (fn_10 A _) fs_10_56 dX10_layGame_14 (fun H locs hw => ?_)
  obtain ⟨M_4, hM_4⟩ : ∃ z : ti_M, z = uI M 60 56 x_3 := ⟨_, rfl⟩
  have hw := hw.to hM_4.symm
  have iM_4 : mI Tm M_4 := mI_uI hI hM_4 (by decide) (by decide) (ib_mk (lo := 0) (hi := 4) (by omega) (by omega))
  have vM_4 : (tI M_4 60 56).toInt = (x_3 : Int32).toInt := by rw [tI_uE hM_4]
  refine lv_iconst (v := 0) hx hb dX10_layGame_17 (by decide) ?_
  refine lv_istore (lv' := [(4, .int 0), (0, .ref (A 60 0)), (1, .int z1), (2, .int z2), (3, .int z3)]) hx hb dX10_layGame_18 hl (by decide) rfl (fun ls hl => ?_)
  have hl_20_9 : ∀ (n_10 : Nat) (x_5 : Int32) (M_8 : ti_M) (H : Heap) (locs : List Loc) (ls : Array Slot), (4 - x_5.toInt : Int).toNat < n_10 → (0 ≤ x_5.toInt) → (x_5.toInt ≤ 4) → (mI Tm M_8) → (rw1 M_8 M) → ti_H ti_LM D A cy H0 M_8 H locs → lv_has ls 6 [(4, .int x_5), (0, .ref (A 60 0)), (1, .int z1), (2, .int z2), (3, .int z3)] → W p l e (ti_rm 8) s m args below meth c H locs 0 0 Q (F0 m 20 ls []) := by
    intro n_10
    induction n_10 with
    | zero => intro x_5 M_8 H locs ls hf_10; exact absurd hf_10 (Nat.not_lt_zero _)
    | succ n_10 ih_10 =>
      intro x_5 M_8 H locs ls hf_10 b_6 b_7 iM_8 f_9 hw hl
      refine lv_iload hx hb dX10_layGame_20 (lv_at hl 0 rfl) ?_
      refine lv_aload_n hx hb dX10_layGame_22 rfl (lv_at hl 1 rfl) ?_
      refine ti_get (ci := 10) (k := 56) (N := 67) (T := TX10) C hw iw_10 rfl ob_60 (by decide) (by decide) fl_X10_451 rfl rfl dX10_layGame_23 ?_
      refine lv_topi (fun x_11 ex_11 => ?_)
      have bx_11 : 0 ≤ x_11.toInt ∧ x_11.toInt ≤ 4 := mI_rd iM_8 ex_11
      have ux_11 : (tI M_8 60 56).toInt = x_11.toInt := by rw [ex_11]
      refine sb_icmp_ge (tgt := 134) hx hb rfl rfl dX10_layGame_26 (by decide) (fun c_26_11 => ?_) (fun c_26_11 => ?_)
      · exact hQ _ _ _ _ _ hw (⟨iM_8, f_9⟩) dX10_layGame_134
      · refine lv_iconst (v := 0) hx hb dX10_layGame_29 (by decide) ?_
        refine lv_istore (lv' := [(5, .int 0), (4, .int x_5), (0, .ref (A 60 0)), (1, .int z1), (2, .int z2), (3, .int z3)]) hx hb dX10_layGame_30 hl (by decide) rfl (fun ls hl => ?_)
        have hl_32_17 : ∀ (n_18 : Nat) (x_13 : Int32) (M_16 : ti_M) (H : Heap) (locs : List Loc) (ls : Array Slot), (4 - x_13.toInt : Int).toNat < n_18 → (0 ≤ x_13.toInt) → (x_13.toInt ≤ 4) → (mI Tm M_16) → (rw1 M_16 M) → ti_H ti_LM D A cy H0 M_16 H locs → lv_has ls 6 [(5, .int x_13), (4, .int x_5), (0, .ref (A 60 0)), (1, .int z1), (2, .int z2), (3, .int z3)] → W p l e (ti_rm 8) s m args below meth c H locs 0 0 Q (F0 m 32 ls []) := by
          intro n_18
          induction n_18 with
          | zero => intro x_13 M_16 H locs ls hf_18; exact absurd hf_18 (Nat.not_lt_zero _)
          | succ n_18 ih_18 =>
            intro x_13 M_16 H locs ls hf_18 b_14 b_15 iM_16 f_17 hw hl
            refine lv_iload hx hb dX10_layGame_32 (lv_at hl 0 rfl) ?_
            refine lv_aload_n hx hb dX10_layGame_34 rfl (lv_at hl 2 rfl) ?_
            refine ti_get (ci := 10) (k := 56) (N := 67) (T := TX10) C hw iw_10 rfl ob_60 (by decide) (by decide) fl_X10_451 rfl rfl dX10_layGame_35 ?_
            refine lv_topi (fun x_19 ex_19 => ?_)
            have bx_19 : 0 ≤ x_19.toInt ∧ x_19.toInt ≤ 4 := mI_rd iM_16 ex_19
            have ux_19 : (tI M_16 60 56).toInt = x_19.toInt := by rw [ex_19]
            refine sb_icmp_ge (tgt := 128) hx hb rfl rfl dX10_layGame_38 (by decide) (fun c_38_19 => ?_) (fun c_38_19 => ?_)
            · obtain ⟨x_51, ex_51⟩ : ∃ z : Int32, z = x_5 + 1 := ⟨_, rfl⟩
              have tx_51 : x_51.toInt = x_5.toInt + 1 := i_add ex_51 rfl (by decide) (by omega) (by omega)
              refine lv_iinc (v := x_51) (lv' := [(4, .int x_51), (5, .int x_13), (0, .ref (A 60 0)), (1, .int z1), (2, .int z2), (3, .int z3)]) hx hb dX10_layGame_128 hl (k := 1) rfl (by rw [ex_51]; rfl) (by decide) rfl (fun ls hl => ?_)
              refine lv_goto (tgt := 20) hx hb dX10_layGame_131 (by decide) ?_
              exact ih_10 x_51 M_16 _ _ _ (by omega) (by first | omega | decide) (by first | omega | decide) iM_16 f_17 hw (lv_sub hl [0, 2, 3, 4, 5] rfl)
            · refine lv_aload_n hx hb dX10_layGame_41 rfl (lv_at hl 2 rfl) ?_
              refine ti_callVv (ci := 10) (av := []) C hw (s_X10_lays l D A cy hJ M_16 iM_16 ((f_17.2.2.1 0 (by decide)).1 hC0) ((f_17.2.2.1 0 (by decide)).2 hP0)) ⟨ml_X10_442, ym_X10_lays, yv_X10_lays, yi_X10_lays, yc_X10_lays⟩ yd_X10_lays ob_60 (by decide) rfl rfl hl.1 (Nat.le_of_ble_eq_true rfl) ⟨by decide, by decide⟩ ⟨Nat.zero_le _, Nat.zero_le _⟩ dX10_layGame_42 (fun M_22 H locs hp_22 hw => ?_)
              obtain ⟨iM_22, q_23, q_24, q_25, q_26, q_27, q_28⟩ := hp_22
              refine lv_aload_n hx hb dX10_layGame_45 rfl (lv_at hl 2 rfl) ?_
              refine ti_get (ci := 10) (k := 44) (N := 67) (T := TX10) (v := .ref (A 60 45)) C hw iw_10 rfl ob_60 (by decide) (by decide) fl_X10_99 rfl rfl dX10_layGame_46 ?_
              refine lv_bipush (v := 8) hx hb dX10_layGame_49 (by decide) ?_
              refine lv_iload_n hx hb dX10_layGame_51 rfl (lv_at hl 3 rfl) ?_
              refine lv_iadd hx hb dX10_layGame_52 ?_
              refine lv_topi (fun x_29 ex_29 => ?_)
              have lox_29z1 := z1.le_toInt
              have hix_29z1 := z1.toInt_lt
              have tx_29 : x_29.toInt = 8 + z1.toInt := i_add ex_29 (by decide : (8 : Int32).toInt = 8) rfl (by omega) (by omega)
              refine lv_aload_n hx hb dX10_layGame_53 rfl (lv_at hl 2 rfl) ?_
              refine ti_get (ci := 10) (k := 34) (N := 67) (T := TX10) (v := .ref (A 60 35)) C hw iw_10 rfl ob_60 (by decide) (by decide) fl_X10_69 rfl rfl dX10_layGame_54 ?_
              refine lv_iconst (v := 0) hx hb dX10_layGame_57 (by decide) ?_
              refine ti_iald (ci := 10) (k := 34) (n := 23) C hw ob_60 (by decide) (fun _ _ => rfl) (by unfold vp_in; decide) dX10_layGame_58 ?_
              refine lv_topi (fun x_30 ex_30 => ?_)
              have yx_30 : tY M_22 60 34 0 = x_30 := ((congrArg _ (by decide)).symm.trans ex_30.symm)
              have bx_30 : 0 ≤ x_30.toInt ∧ x_30.toInt ≤ 120 := mI_ry (k := 34) (i := 0) iM_22 yx_30.symm (by decide)
              have zx_30 : (tY M_22 60 34 0).toInt = x_30.toInt := by rw [yx_30]
              refine lv_iload hx hb dX10_layGame_59 (lv_at hl 1 rfl) ?_
              refine lv_iadd hx hb dX10_layGame_61 ?_
              refine lv_topi (fun x_31 ex_31 => ?_)
              have tx_31 : x_31.toInt = x_30.toInt + x_5.toInt := i_add ex_31 rfl rfl (by omega) (by omega)
              refine ti_iast (ci := 10) (k := 44) (n := 184) C hw ob_60 (by decide) (fun _ _ => rfl) (vp_in_iff.mpr (by omega)) dX10_layGame_62 (fun H locs hw => ?_)
              obtain ⟨M_32, hM_32⟩ : ∃ z : ti_M, z = uY M_22 60 44 (upd (tY M_22 60 44) (x_29 : Int32).toNatClampNeg x_31) := ⟨_, rfl⟩
              have hw := hw.to hM_32.symm
              have iM_32 : mI Tm M_32 := mI_up (i := x_29.toNatClampNeg) iM_22 hM_32 trivial
              refine lv_aload_n hx hb dX10_layGame_63 rfl (lv_at hl 2 rfl) ?_
              refine ti_get (ci := 10) (k := 44) (N := 67) (T := TX10) (v := .ref (A 60 45)) C hw iw_10 rfl ob_60 (by decide) (by decide) fl_X10_99 rfl rfl dX10_layGame_64 ?_
              refine lv_bipush (v := 8) hx hb dX10_layGame_67 (by decide) ?_
              refine lv_iload_n hx hb dX10_layGame_69 rfl (lv_at hl 4 rfl) ?_
              refine lv_iadd hx hb dX10_layGame_70 ?_
              refine lv_topi (fun x_33 ex_33 => ?_)
              have lox_33z2 := z2.le_toInt
              have hix_33z2 := z2.toInt_lt
              have tx_33 : x_33.toInt = 8 + z2.toInt := i_add ex_33 (by decide : (8 : Int32).toInt = 8) rfl (by omega) (by omega)
              refine lv_aload_n hx hb dX10_layGame_71 rfl (lv_at hl 2 rfl) ?_
              refine ti_get (ci := 10) (k := 34) (N := 67) (T := TX10) (v := .ref (A 60 35)) C hw iw_10 rfl ob_60 (by decide) (by decide) fl_X10_69 rfl rfl dX10_layGame_72 ?_
              refine lv_iconst (v := 0) hx hb dX10_layGame_75 (by decide) ?_
              refine ti_iald (ci := 10) (k := 34) (n := 23) C hw ob_60 (by decide) (fun _ _ => rfl) (by unfold vp_in; decide) dX10_layGame_76 ?_
              refine ti_top (y := x_30) ((congrArg _ (by decide)).trans ((cg (tY_nE hM_32 (nk (by decide))) 0).trans yx_30)) ?_
              refine lv_iload hx hb dX10_layGame_77 (lv_at hl 0 rfl) ?_
              refine lv_iadd hx hb dX10_layGame_79 ?_
              refine lv_topi (fun x_34 ex_34 => ?_)
              have tx_34 : x_34.toInt = x_30.toInt + x_13.toInt := i_add ex_34 rfl rfl (by omega) (by omega)
              refine ti_iast (ci := 10) (k := 44) (n := 184) C hw ob_60 (by decide) (fun _ _ => rfl) (vp_in_iff.mpr (by omega)) dX10_layGame_80 (fun H locs hw => ?_)
              obtain ⟨M_35, hM_35⟩ : ∃ z : ti_M, z = uY M_32 60 44 (upd (tY M_32 60 44) (x_33 : Int32).toNatClampNeg x_34) := ⟨_, rfl⟩
              have hw := hw.to hM_35.symm
              have iM_35 : mI Tm M_35 := mI_up (i := x_33.toNatClampNeg) iM_32 hM_35 trivial
              refine lv_aload_n hx hb dX10_layGame_81 rfl (lv_at hl 2 rfl) ?_
              refine lv_iload_n hx hb dX10_layGame_82 rfl (lv_at hl 5 rfl) ?_
              refine ti_callVv (ci := 10) (av := [.int z3]) C hw (s_X10_runs l D A cy hJ M_35 iM_35 (mC_qw (qw.trans (qw_Y hM_35 (by decide)) (qw_Y hM_32 (by decide))) q_24) (mL_lw (lk.trans (lk_Y hM_35 (by decide)) (lk.trans (lk_Y hM_32 (by decide)) (lk.trans (lk_of q_23.1 q_23.2.1) (lk_of f_17.1 f_17.2.1)))).1 hL) z3) ⟨ml_X10_445, ym_X10_runs, yv_X10_runs, yi_X10_runs, yc_X10_runs⟩ yd_X10_runs ob_60 (by decide) rfl rfl hl.1 (Nat.le_of_ble_eq_true rfl) ⟨by decide, by decide⟩ ⟨Nat.zero_le _, Nat.zero_le _⟩ dX10_layGame_83 (fun M_37 H locs hp_37 hw => ?_)
              obtain ⟨iM_37, q_38, q_39⟩ := hp_37
              refine lv_aload_n hx hb dX10_layGame_86 rfl (lv_at hl 2 rfl) ?_
              refine ti_get (ci := 10) (k := 54) (N := 67) (T := TX10) (v := .ref (A 60 55)) C hw iw_10 rfl ob_60 (by decide) (by decide) fl_X10_123 rfl rfl dX10_layGame_87 ?_
              refine lv_iconst (v := 4) hx hb dX10_layGame_90 (by decide) ?_
              refine lv_iload hx hb dX10_layGame_91 (lv_at hl 1 rfl) ?_
              refine lv_imul hx hb dX10_layGame_93 ?_
              refine lv_topi (fun x_40 ex_40 => ?_)
              have tx_40 : x_40.toInt = 4 * x_5.toInt := i_mul ex_40 (by decide : (4 : Int32).toInt = 4) rfl (by omega) (by omega)
              refine lv_iload hx hb dX10_layGame_94 (lv_at hl 0 rfl) ?_
              refine lv_iadd hx hb dX10_layGame_96 ?_
              refine lv_topi (fun x_41 ex_41 => ?_)
              have tx_41 : x_41.toInt = x_40.toInt + x_13.toInt := i_add ex_41 rfl rfl (by omega) (by omega)
              refine lv_aload_n hx hb dX10_layGame_97 rfl (lv_at hl 2 rfl) ?_
              refine lv_iload_n hx hb dX10_layGame_98 rfl (lv_at hl 3 rfl) ?_
              refine lv_iload_n hx hb dX10_layGame_99 rfl (lv_at hl 5 rfl) ?_
              refine ti_callVi (ci := 10) (av := [.int z1, .int z3]) C hw (s_X10_endOf l D A cy hJ M_37 iM_37 z1 z3 (by first | omega | decide) (by first | omega | decide)) ⟨ml_X10_454, ym_X10_endOf, yv_X10_endOf, yi_X10_endOf, yc_X10_endOf⟩ yd_X10_endOf ob_60 (by decide) rfl rfl hl.1 (Nat.le_of_ble_eq_true rfl) ⟨by decide, by decide⟩ ⟨Nat.zero_le _, Nat.zero_le _⟩ dX10_layGame_100 (fun r_42 M_43 H locs hp_43 hw => ?_)
              have hm := hp_43
              have hw := hw.to hm
              refine ti_iast (ci := 10) (k := 54) (n := 16) C hw ob_60 (by decide) (fun _ _ => rfl) (vp_in_iff.mpr (by omega)) dX10_layGame_103 (fun H locs hw => ?_)
              obtain ⟨M_44, hM_44⟩ : ∃ z : ti_M, z = uY M_37 60 54 (upd (tY M_37 60 54) (x_41 : Int32).toNatClampNeg r_42) := ⟨_, rfl⟩
              have hw := hw.to hM_44.symm
              have iM_44 : mI Tm M_44 := mI_up (i := x_41.toNatClampNeg) iM_37 hM_44 trivial
              refine lv_aload_n hx hb dX10_layGame_104 rfl (lv_at hl 2 rfl) ?_
              refine ti_get (ci := 10) (k := 55) (N := 67) (T := TX10) (v := .ref (A 60 56)) C hw iw_10 rfl ob_60 (by decide) (by decide) fl_X10_126 rfl rfl dX10_layGame_105 ?_
              refine lv_iconst (v := 4) hx hb dX10_layGame_108 (by decide) ?_
              refine lv_iload hx hb dX10_layGame_109 (lv_at hl 1 rfl) ?_
              refine lv_imul hx hb dX10_layGame_111 ?_
              refine lv_topi (fun x_45 ex_45 => ?_)
              have tx_45 : x_45.toInt = 4 * x_5.toInt := i_mul ex_45 (by decide : (4 : Int32).toInt = 4) rfl (by omega) (by omega)
              refine lv_iload hx hb dX10_layGame_112 (lv_at hl 0 rfl) ?_
              refine lv_iadd hx hb dX10_layGame_114 ?_
              refine lv_topi (fun x_46 ex_46 => ?_)
              have tx_46 : x_46.toInt = x_45.toInt + x_13.toInt := i_add ex_46 rfl rfl (by omega) (by omega)
              refine lv_aload_n hx hb dX10_layGame_115 rfl (lv_at hl 2 rfl) ?_
              refine lv_iload_n hx hb dX10_layGame_116 rfl (lv_at hl 4 rfl) ?_
              refine lv_iload_n hx hb dX10_layGame_117 rfl (lv_at hl 5 rfl) ?_
              refine ti_callVi (ci := 10) (av := [.int z2, .int z3]) C hw (s_X10_endOf l D A cy hJ M_44 iM_44 z2 z3 (by first | omega | decide) (by first | omega | decide)) ⟨ml_X10_454, ym_X10_endOf, yv_X10_endOf, yi_X10_endOf, yc_X10_endOf⟩ yd_X10_endOf ob_60 (by decide) rfl rfl hl.1 (Nat.le_of_ble_eq_true rfl) ⟨by decide, by decide⟩ ⟨Nat.zero_le _, Nat.zero_le _⟩ dX10_layGame_118 (fun r_47 M_48 H locs hp_48 hw => ?_)
              have hm := hp_48
              have hw := hw.to hm
              refine ti_iast (ci := 10) (k := 55) (n := 16) C hw ob_60 (by decide) (fun _ _ => rfl) (vp_in_iff.mpr (by omega)) dX10_layGame_121 (fun H locs hw => ?_)
              obtain ⟨M_49, hM_49⟩ : ∃ z : ti_M, z = uY M_44 60 55 (upd (tY M_44 60 55) (x_46 : Int32).toNatClampNeg r_47) := ⟨_, rfl⟩
              have hw := hw.to hM_49.symm
              have iM_49 : mI Tm M_49 := mI_up (i := x_46.toNatClampNeg) iM_44 hM_49 trivial
              obtain ⟨x_50, ex_50⟩ : ∃ z : Int32, z = x_13 + 1 := ⟨_, rfl⟩
              have tx_50 : x_50.toInt = x_13.toInt + 1 := i_add ex_50 rfl (by decide) (by omega) (by omega)
              refine lv_iinc (v := x_50) (lv' := [(5, .int x_50), (4, .int x_5), (0, .ref (A 60 0)), (1, .int z1), (2, .int z2), (3, .int z3)]) hx hb dX10_layGame_122 hl (k := 0) rfl (by rw [ex_50]; rfl) (by decide) rfl (fun ls hl => ?_)
              refine lv_goto (tgt := 32) hx hb dX10_layGame_125 (by decide) ?_
              exact ih_18 x_50 M_49 _ _ _ (by omega) (by first | omega | decide) (by first | omega | decide) iM_49 (rw1.trans (rw1_qw (qw_Y hM_49 (by decide))) (rw1.trans (rw1_qw (qw_Y hM_44 (by decide))) (rw1.trans (rw1_rq q_38) (rw1.trans (rw1_qw (qw_Y hM_35 (by decide))) (rw1.trans (rw1_qw (qw_Y hM_32 (by decide))) (rw1.trans (rw1_rq q_23) f_17)))))) hw (lv_sub hl [0, 1, 2, 3, 4, 5] rfl)
        exact hl_32_17 ((4 - 0 : Int).toNat + 1) 0 M_8 _ _ _ (Nat.lt_succ_self _) (by have lt0 : (0 : Int32).toInt = 0 := (by decide); first | omega | decide) (by have lt0 : (0 : Int32).toInt = 0 := (by decide); first | omega | decide) iM_8 f_9 hw (lv_sub hl [0, 1, 2, 3, 4, 5] rfl)
  exact hl_20_9 ((4 - 0 : Int).toNat + 1) 0 M_4 _ _ _ (Nat.lt_succ_self _) (by have lt0 : (0 : Int32).toInt = 0 := (by decide); first | omega | decide) (by have lt0 : (0 : Int32).toInt = 0 := (by decide); first | omega | decide) iM_4 (rw1_qw (qw_I hM_4 (by decide))) hw (lv_sub hl [0, 1, 2, 3, 4] rfl)
set_option maxHeartbeats 4000000 in
set_option maxRecDepth 100000 in
theorem s_X10_isRest (l : Launch) (D : va_G) (A : Nat → Nat → Nat) (cy : Nat → ClassId) (hJ : ti_inj ti_LM A) (M : ti_M) (hI : mI Tm M) (a b : Int32) (h1 : 0 ≤ a.toInt) (h2 : a.toInt ≤ 3) (h3 : 0 ≤ b.toInt) (h4 : b.toInt ≤ 3) : ti_Ki l yX10_isRest cX10_isRest 4 (some .boolean) 0 ti_LM D A cy M [.ref (A 60 0), .int a, .int b] (fun r M2 => M2 = M ∧ 0 ≤ r.toInt ∧ r.toInt ≤ 1) := by
  refine ti_eI yp_X10_isRest hJ ti_LM_nd (Nat.le_of_ble_eq_true rfl) ?_
  intro p e s m args below meth c Q H0 C hQ hw ls hl
  have hx := C.1
  have hb := C.2.1
  have hl : lv_has ls 4 [(0, .ref (A 60 0)), (1, .int a), (2, .int b)] := hl
  refine lv_iconst (v := 0) hx hb dX10_isRest_0 (by decide) ?_
  refine lv_istore_n (lv' := [(3, .int 0), (0, .ref (A 60 0)), (1, .int a), (2, .int b)]) hx hb dX10_isRest_1 rfl hl (by decide) rfl (fun ls hl => ?_)
  have hl_2_3 : ∀ (n_4 : Nat) (x_1 : Int32) (H : Heap) (locs : List Loc) (ls : Array Slot), (4 - x_1.toInt : Int).toNat < n_4 → (0 ≤ x_1.toInt) → (x_1.toInt ≤ 4) → ti_H ti_LM D A cy H0 M H locs → lv_has ls 4 [(3, .int x_1), (0, .ref (A 60 0)), (1, .int a), (2, .int b)] → W p l e (ti_rm 0) s m args below meth c H locs 0 0 Q (F0 m 2 ls []) := by
    intro n_4
    induction n_4 with
    | zero => intro x_1 H locs ls hf_4; exact absurd hf_4 (Nat.not_lt_zero _)
    | succ n_4 ih_4 =>
      intro x_1 H locs ls hf_4 b_2 b_3 hw hl
      refine lv_iload_n hx hb dX10_isRest_2 rfl (lv_at hl 0 rfl) ?_
      refine lv_aload_n hx hb dX10_isRest_3 rfl (lv_at hl 1 rfl) ?_
      refine ti_get (ci := 10) (k := 56) (N := 67) (T := TX10) C hw iw_10 rfl ob_60 (by decide) (by decide) fl_X10_451 rfl rfl dX10_isRest_4 ?_
      refine lv_topi (fun x_5 ex_5 => ?_)
      have bx_5 : 0 ≤ x_5.toInt ∧ x_5.toInt ≤ 4 := mI_rd hI ex_5
      have ux_5 : (tI M 60 56).toInt = x_5.toInt := by rw [ex_5]
      refine sb_icmp_ge (tgt := 64) hx hb rfl rfl dX10_isRest_7 (by decide) (fun c_7_5 => ?_) (fun c_7_5 => ?_)
      · refine lv_iconst (v := 1) hx hb dX10_isRest_64 (by decide) ?_
        exact hQ _ _ _ _ _ _ hw rfl (⟨rfl, by first | omega | decide, by first | omega | decide⟩) dX10_isRest_65
      · refine lv_aload_n hx hb dX10_isRest_10 rfl (lv_at hl 1 rfl) ?_
        refine ti_get (ci := 10) (k := 54) (N := 67) (T := TX10) (v := .ref (A 60 55)) C hw iw_10 rfl ob_60 (by decide) (by decide) fl_X10_123 rfl rfl dX10_isRest_11 ?_
        refine lv_iconst (v := 4) hx hb dX10_isRest_14 (by decide) ?_
        refine lv_iload_n hx hb dX10_isRest_15 rfl (lv_at hl 0 rfl) ?_
        refine lv_imul hx hb dX10_isRest_16 ?_
        refine lv_topi (fun x_7 ex_7 => ?_)
        have tx_7 : x_7.toInt = 4 * x_1.toInt := i_mul ex_7 (by decide : (4 : Int32).toInt = 4) rfl (by omega) (by omega)
        refine lv_iload_n hx hb dX10_isRest_17 rfl (lv_at hl 3 rfl) ?_
        refine lv_iadd hx hb dX10_isRest_18 ?_
        refine lv_topi (fun x_8 ex_8 => ?_)
        have tx_8 : x_8.toInt = x_7.toInt + b.toInt := i_add ex_8 rfl rfl (by omega) (by omega)
        refine ti_iald (ci := 10) (k := 54) (n := 16) C hw ob_60 (by decide) (fun _ _ => rfl) (vp_in_iff.mpr (by omega)) dX10_isRest_19 ?_
        refine lv_topi (fun x_9 ex_9 => ?_)
        have yx_9 : tY M 60 54 x_8.toNatClampNeg = x_9 := (ex_9.symm)
        refine lv_aload_n hx hb dX10_isRest_20 rfl (lv_at hl 1 rfl) ?_
        refine ti_get (ci := 10) (k := 54) (N := 67) (T := TX10) (v := .ref (A 60 55)) C hw iw_10 rfl ob_60 (by decide) (by decide) fl_X10_123 rfl rfl dX10_isRest_21 ?_
        refine lv_iconst (v := 4) hx hb dX10_isRest_24 (by decide) ?_
        refine lv_iload_n hx hb dX10_isRest_25 rfl (lv_at hl 2 rfl) ?_
        refine lv_imul hx hb dX10_isRest_26 ?_
        refine lv_topi (fun x_10 ex_10 => ?_)
        have tx_10 : x_10.toInt = 4 * a.toInt := i_mul ex_10 (by decide : (4 : Int32).toInt = 4) rfl (by omega) (by omega)
        refine lv_iload_n hx hb dX10_isRest_27 rfl (lv_at hl 3 rfl) ?_
        refine lv_iadd hx hb dX10_isRest_28 ?_
        refine lv_topi (fun x_11 ex_11 => ?_)
        have tx_11 : x_11.toInt = x_10.toInt + b.toInt := i_add ex_11 rfl rfl (by omega) (by omega)
        refine ti_iald (ci := 10) (k := 54) (n := 16) C hw ob_60 (by decide) (fun _ _ => rfl) (vp_in_iff.mpr (by omega)) dX10_isRest_29 ?_
        refine lv_topi (fun x_12 ex_12 => ?_)
        have yx_12 : tY M 60 54 x_11.toNatClampNeg = x_12 := (ex_12.symm)
        have hj_56_20 : ∀  (H : Heap) (locs : List Loc) (ls : Array Slot), ti_H ti_LM D A cy H0 M H locs → lv_has ls 4 [(3, .int x_1), (0, .ref (A 60 0)), (1, .int a), (2, .int b)] → W p l e (ti_rm 0) s m args below meth c H locs 0 0 Q (F0 m 56 ls []) := by
          intro  H locs ls  hw hl
          refine lv_iconst (v := 0) hx hb dX10_isRest_56 (by decide) ?_
          exact hQ _ _ _ _ _ _ hw rfl (⟨rfl, by first | omega | decide, by first | omega | decide⟩) dX10_isRest_57
        refine sb_icmp_gt (tgt := 56) hx hb rfl rfl dX10_isRest_30 (by decide) (fun c_30_12 => ?_) (fun c_30_12 => ?_)
        · exact hj_56_20  _ _ _  hw (lv_sub hl [0, 1, 2, 3] rfl)
        · refine lv_aload_n hx hb dX10_isRest_33 rfl (lv_at hl 1 rfl) ?_
          refine ti_get (ci := 10) (k := 55) (N := 67) (T := TX10) (v := .ref (A 60 56)) C hw iw_10 rfl ob_60 (by decide) (by decide) fl_X10_126 rfl rfl dX10_isRest_34 ?_
          refine lv_iconst (v := 4) hx hb dX10_isRest_37 (by decide) ?_
          refine lv_iload_n hx hb dX10_isRest_38 rfl (lv_at hl 2 rfl) ?_
          refine lv_imul hx hb dX10_isRest_39 ?_
          refine lv_topi (fun x_14 ex_14 => ?_)
          have tx_14 : x_14.toInt = 4 * a.toInt := i_mul ex_14 (by decide : (4 : Int32).toInt = 4) rfl (by omega) (by omega)
          refine lv_iload_n hx hb dX10_isRest_40 rfl (lv_at hl 0 rfl) ?_
          refine lv_iadd hx hb dX10_isRest_41 ?_
          refine lv_topi (fun x_15 ex_15 => ?_)
          have tx_15 : x_15.toInt = x_14.toInt + x_1.toInt := i_add ex_15 rfl rfl (by omega) (by omega)
          refine ti_iald (ci := 10) (k := 55) (n := 16) C hw ob_60 (by decide) (fun _ _ => rfl) (vp_in_iff.mpr (by omega)) dX10_isRest_42 ?_
          refine lv_topi (fun x_16 ex_16 => ?_)
          have yx_16 : tY M 60 55 x_15.toNatClampNeg = x_16 := (ex_16.symm)
          refine lv_aload_n hx hb dX10_isRest_43 rfl (lv_at hl 1 rfl) ?_
          refine ti_get (ci := 10) (k := 55) (N := 67) (T := TX10) (v := .ref (A 60 56)) C hw iw_10 rfl ob_60 (by decide) (by decide) fl_X10_126 rfl rfl dX10_isRest_44 ?_
          refine lv_iconst (v := 4) hx hb dX10_isRest_47 (by decide) ?_
          refine lv_iload_n hx hb dX10_isRest_48 rfl (lv_at hl 2 rfl) ?_
          refine lv_imul hx hb dX10_isRest_49 ?_
          refine lv_topi (fun x_17 ex_17 => ?_)
          have tx_17 : x_17.toInt = 4 * a.toInt := i_mul ex_17 (by decide : (4 : Int32).toInt = 4) rfl (by omega) (by omega)
          refine lv_iload_n hx hb dX10_isRest_50 rfl (lv_at hl 3 rfl) ?_
          refine lv_iadd hx hb dX10_isRest_51 ?_
          refine lv_topi (fun x_18 ex_18 => ?_)
          have tx_18 : x_18.toInt = x_17.toInt + b.toInt := i_add ex_18 rfl rfl (by omega) (by omega)
          refine ti_iald (ci := 10) (k := 55) (n := 16) C hw ob_60 (by decide) (fun _ _ => rfl) (vp_in_iff.mpr (by omega)) dX10_isRest_52 ?_
          refine lv_topi (fun x_19 ex_19 => ?_)
          have yx_19 : tY M 60 55 x_18.toNatClampNeg = x_19 := (ex_19.symm)
          refine sb_icmp_le (tgt := 58) hx hb rfl rfl dX10_isRest_53 (by decide) (fun c_53_19 => ?_) (fun c_53_19 => ?_)
          · obtain ⟨x_21, ex_21⟩ : ∃ z : Int32, z = x_1 + 1 := ⟨_, rfl⟩
            have tx_21 : x_21.toInt = x_1.toInt + 1 := i_add ex_21 rfl (by decide) (by omega) (by omega)
            refine lv_iinc (v := x_21) (lv' := [(3, .int x_21), (0, .ref (A 60 0)), (1, .int a), (2, .int b)]) hx hb dX10_isRest_58 hl (k := 0) rfl (by rw [ex_21]; rfl) (by decide) rfl (fun ls hl => ?_)
            refine lv_goto (tgt := 2) hx hb dX10_isRest_61 (by decide) ?_
            exact ih_4 x_21 _ _ _ (by omega) (by first | omega | decide) (by first | omega | decide) hw (lv_sub hl [0, 1, 2, 3] rfl)
          · exact hj_56_20  _ _ _  hw (lv_sub hl [0, 1, 2, 3] rfl)
  exact hl_2_3 ((4 - 0 : Int).toNat + 1) 0 _ _ _ (Nat.lt_succ_self _) (by have lt0 : (0 : Int32).toInt = 0 := (by decide); first | omega | decide) (by have lt0 : (0 : Int32).toInt = 0 := (by decide); first | omega | decide) hw (lv_sub hl [0, 1, 2, 3] rfl)
set_option maxHeartbeats 4000000 in
set_option maxRecDepth 100000 in
theorem s_X10_restOf (l : Launch) (D : va_G) (A : Nat → Nat → Nat) (cy : Nat → ClassId) (hJ : ti_inj ti_LM A) (M : ti_M) (hI : mI Tm M)  (a : Int32) : ti_Ki l yX10_restOf cX10_restOf 5 (some .int) 1 ti_LM D A cy M [.ref (A 60 0), .int a] (fun r M2 => M2 = M) := by
  refine ti_eI yp_X10_restOf hJ ti_LM_nd (Nat.le_of_ble_eq_true rfl) ?_
  intro p e s m args below meth c Q H0 C hQ hw ls hl
  have hx := C.1
  have hb := C.2.1
  have hl : lv_has ls 5 [(0, .ref (A 60 0)), (1, .int a)] := hl
  refine lv_iconst (v := 0) hx hb dX10_restOf_0 (by decide) ?_
  refine lv_istore_n (lv' := [(2, .int 0), (0, .ref (A 60 0)), (1, .int a)]) hx hb dX10_restOf_1 rfl hl (by decide) rfl (fun ls hl => ?_)
  refine lv_iconst (v := 0) hx hb dX10_restOf_2 (by decide) ?_
  refine lv_istore_n (lv' := [(3, .int 0), (2, .int 0), (0, .ref (A 60 0)), (1, .int a)]) hx hb dX10_restOf_3 rfl hl (by decide) rfl (fun ls hl => ?_)
  have hl_4_4 : ∀ (n_5 : Nat) (x_1 : Int32) (x_4 : Int32) (H : Heap) (locs : List Loc) (ls : Array Slot), (4 - x_1.toInt : Int).toNat < n_5 → (0 ≤ x_1.toInt) → (x_1.toInt ≤ 4) → ti_H ti_LM D A cy H0 M H locs → lv_has ls 5 [(3, .int x_1), (2, .int x_4), (0, .ref (A 60 0)), (1, .int a)] → W p l e (ti_rm 1) s m args below meth c H locs 0 0 Q (F0 m 4 ls []) := by
    intro n_5
    induction n_5 with
    | zero => intro x_1 x_4 H locs ls hf_5; exact absurd hf_5 (Nat.not_lt_zero _)
    | succ n_5 ih_5 =>
      intro x_1 x_4 H locs ls hf_5 b_2 b_3 hw hl
      refine lv_iload_n hx hb dX10_restOf_4 rfl (lv_at hl 0 rfl) ?_
      refine lv_aload_n hx hb dX10_restOf_5 rfl (lv_at hl 2 rfl) ?_
      refine ti_get (ci := 10) (k := 56) (N := 67) (T := TX10) C hw iw_10 rfl ob_60 (by decide) (by decide) fl_X10_451 rfl rfl dX10_restOf_6 ?_
      refine lv_topi (fun x_6 ex_6 => ?_)
      have bx_6 : 0 ≤ x_6.toInt ∧ x_6.toInt ≤ 4 := mI_rd hI ex_6
      have ux_6 : (tI M 60 56).toInt = x_6.toInt := by rw [ex_6]
      refine sb_icmp_ge (tgt := 79) hx hb rfl rfl dX10_restOf_9 (by decide) (fun c_9_6 => ?_) (fun c_9_6 => ?_)
      · refine lv_iload_n hx hb dX10_restOf_79 rfl (lv_at hl 3 rfl) ?_
        refine lv_iconst (v := (-1)) hx hb dX10_restOf_80 (by decide) ?_
        refine sb_icmp_ne (tgt := 88) hx hb rfl (by decide : ((-1) : Int32).toInt = (-1)) dX10_restOf_81 (by decide) (fun c_81_27 => ?_) (fun c_81_27 => ?_)
        · refine lv_bipush (v := (-2)) hx hb dX10_restOf_88 (by decide) ?_
          exact hQ _ _ _ _ _ _ hw rfl rfl dX10_restOf_90
        · refine lv_iload_n hx hb dX10_restOf_84 rfl (lv_at hl 1 rfl) ?_
          refine lv_goto (tgt := 90) hx hb dX10_restOf_85 (by decide) ?_
          exact hQ _ _ _ _ _ _ hw rfl rfl dX10_restOf_90
      · refine lv_iconst (v := 0) hx hb dX10_restOf_12 (by decide) ?_
        refine lv_istore (lv' := [(4, .int 0), (3, .int x_1), (2, .int x_4), (0, .ref (A 60 0)), (1, .int a)]) hx hb dX10_restOf_13 hl (by decide) rfl (fun ls hl => ?_)
        have hl_15_11 : ∀ (n_12 : Nat) (x_8 : Int32) (x_11 : Int32) (H : Heap) (locs : List Loc) (ls : Array Slot), (4 - x_8.toInt : Int).toNat < n_12 → (0 ≤ x_8.toInt) → (x_8.toInt ≤ 4) → ti_H ti_LM D A cy H0 M H locs → lv_has ls 5 [(4, .int x_8), (3, .int x_1), (2, .int x_11), (0, .ref (A 60 0)), (1, .int a)] → W p l e (ti_rm 1) s m args below meth c H locs 0 0 Q (F0 m 15 ls []) := by
          intro n_12
          induction n_12 with
          | zero => intro x_8 x_11 H locs ls hf_12; exact absurd hf_12 (Nat.not_lt_zero _)
          | succ n_12 ih_12 =>
            intro x_8 x_11 H locs ls hf_12 b_9 b_10 hw hl
            refine lv_iload hx hb dX10_restOf_15 (lv_at hl 0 rfl) ?_
            refine lv_aload_n hx hb dX10_restOf_17 rfl (lv_at hl 3 rfl) ?_
            refine ti_get (ci := 10) (k := 56) (N := 67) (T := TX10) C hw iw_10 rfl ob_60 (by decide) (by decide) fl_X10_451 rfl rfl dX10_restOf_18 ?_
            refine ti_top (y := x_6) (ex_6.symm) ?_
            have u_13 : (tI M 60 56).toInt = (x_6 : Int32).toInt := by rw [(ex_6.symm)]
            refine sb_icmp_ge (tgt := 73) hx hb rfl rfl dX10_restOf_21 (by decide) (fun c_21_13 => ?_) (fun c_21_13 => ?_)
            · obtain ⟨x_27, ex_27⟩ : ∃ z : Int32, z = x_1 + 1 := ⟨_, rfl⟩
              have tx_27 : x_27.toInt = x_1.toInt + 1 := i_add ex_27 rfl (by decide) (by omega) (by omega)
              refine lv_iinc (v := x_27) (lv' := [(3, .int x_27), (4, .int x_8), (2, .int x_11), (0, .ref (A 60 0)), (1, .int a)]) hx hb dX10_restOf_73 hl (k := 1) rfl (by rw [ex_27]; rfl) (by decide) rfl (fun ls hl => ?_)
              refine lv_goto (tgt := 4) hx hb dX10_restOf_76 (by decide) ?_
              exact ih_5 x_27 x_11 _ _ _ (by omega) (by first | omega | decide) (by first | omega | decide) hw (lv_sub hl [0, 2, 3, 4] rfl)
            · refine lv_aload_n hx hb dX10_restOf_24 rfl (lv_at hl 3 rfl) ?_
              refine lv_iload_n hx hb dX10_restOf_25 rfl (lv_at hl 1 rfl) ?_
              refine lv_iload hx hb dX10_restOf_26 (lv_at hl 0 rfl) ?_
              refine ti_callVi (ci := 10) (av := [.int x_1, .int x_8]) C hw (s_X10_isRest l D A cy hJ M hI x_1 x_8 (by first | omega | decide) (by first | omega | decide) (by first | omega | decide) (by first | omega | decide)) ⟨ml_X10_457, ym_X10_isRest, yv_X10_isRest, yi_X10_isRest, yc_X10_isRest⟩ yd_X10_isRest ob_60 (by decide) rfl rfl hl.1 (Nat.le_of_ble_eq_true rfl) ⟨by decide, by decide⟩ ⟨Nat.zero_le _, Nat.zero_le _⟩ dX10_restOf_28 (fun r_15 M_16 H locs hp_16 hw => ?_)
              obtain ⟨hm, b0r_15, b1r_15⟩ := hp_16
              have hw := hw.to hm
              have hj_67_25 : ∀ (x_25 : Int32) (H : Heap) (locs : List Loc) (ls : Array Slot), ti_H ti_LM D A cy H0 M H locs → lv_has ls 5 [(4, .int x_8), (3, .int x_1), (2, .int x_25), (0, .ref (A 60 0)), (1, .int a)] → W p l e (ti_rm 1) s m args below meth c H locs 0 0 Q (F0 m 67 ls []) := by
                intro x_25 H locs ls  hw hl
                obtain ⟨x_26, ex_26⟩ : ∃ z : Int32, z = x_8 + 1 := ⟨_, rfl⟩
                have tx_26 : x_26.toInt = x_8.toInt + 1 := i_add ex_26 rfl (by decide) (by omega) (by omega)
                refine lv_iinc (v := x_26) (lv' := [(4, .int x_26), (3, .int x_1), (2, .int x_25), (0, .ref (A 60 0)), (1, .int a)]) hx hb dX10_restOf_67 hl (k := 0) rfl (by rw [ex_26]; rfl) (by decide) rfl (fun ls hl => ?_)
                refine lv_goto (tgt := 15) hx hb dX10_restOf_70 (by decide) ?_
                exact ih_12 x_26 x_25 _ _ _ (by omega) (by first | omega | decide) (by first | omega | decide) hw (lv_sub hl [0, 1, 2, 3, 4] rfl)
              refine sb_if_ne (tgt := 37) hx hb rfl dX10_restOf_31 (by decide) (fun c_31_16 => ?_) (fun c_31_16 => ?_)
              · refine lv_iload_n hx hb dX10_restOf_37 rfl (lv_at hl 2 rfl) ?_
                refine lv_iload_n hx hb dX10_restOf_38 rfl (lv_at hl 4 rfl) ?_
                refine sb_icmp_ne (tgt := 64) hx hb rfl rfl dX10_restOf_39 (by decide) (fun c_39_17 => ?_) (fun c_39_17 => ?_)
                · obtain ⟨x_24, ex_24⟩ : ∃ z : Int32, z = x_11 + 1 := ⟨_, rfl⟩
                  refine lv_iinc (v := x_24) (lv' := [(2, .int x_24), (4, .int x_8), (3, .int x_1), (0, .ref (A 60 0)), (1, .int a)]) hx hb dX10_restOf_64 hl (k := 2) rfl (by rw [ex_24]; rfl) (by decide) rfl (fun ls hl => ?_)
                  exact hj_67_25 x_24 _ _ _  hw (lv_sub hl [1, 2, 0, 3, 4] rfl)
                · refine lv_bipush (v := 100) hx hb dX10_restOf_42 (by decide) ?_
                  refine lv_aload_n hx hb dX10_restOf_44 rfl (lv_at hl 3 rfl) ?_
                  refine ti_get (ci := 10) (k := 34) (N := 67) (T := TX10) (v := .ref (A 60 35)) C hw iw_10 rfl ob_60 (by decide) (by decide) fl_X10_69 rfl rfl dX10_restOf_45 ?_
                  refine lv_iconst (v := 0) hx hb dX10_restOf_48 (by decide) ?_
                  refine ti_iald (ci := 10) (k := 34) (n := 23) C hw ob_60 (by decide) (fun _ _ => rfl) (by unfold vp_in; decide) dX10_restOf_49 ?_
                  refine lv_topi (fun x_19 ex_19 => ?_)
                  have yx_19 : tY M 60 34 0 = x_19 := ((congrArg _ (by decide)).symm.trans ex_19.symm)
                  have bx_19 : 0 ≤ x_19.toInt ∧ x_19.toInt ≤ 120 := mI_ry (k := 34) (i := 0) hI yx_19.symm (by decide)
                  have zx_19 : (tY M 60 34 0).toInt = x_19.toInt := by rw [yx_19]
                  refine lv_iload_n hx hb dX10_restOf_50 rfl (lv_at hl 1 rfl) ?_
                  refine lv_iadd hx hb dX10_restOf_51 ?_
                  refine lv_topi (fun x_20 ex_20 => ?_)
                  have tx_20 : x_20.toInt = x_19.toInt + x_1.toInt := i_add ex_20 rfl rfl (by omega) (by omega)
                  refine lv_imul hx hb dX10_restOf_52 ?_
                  refine lv_topi (fun x_21 ex_21 => ?_)
                  have tx_21 : x_21.toInt = 100 * x_20.toInt := i_mul ex_21 (by decide : (100 : Int32).toInt = 100) rfl (by omega) (by omega)
                  refine lv_aload_n hx hb dX10_restOf_53 rfl (lv_at hl 3 rfl) ?_
                  refine ti_get (ci := 10) (k := 34) (N := 67) (T := TX10) (v := .ref (A 60 35)) C hw iw_10 rfl ob_60 (by decide) (by decide) fl_X10_69 rfl rfl dX10_restOf_54 ?_
                  refine lv_iconst (v := 0) hx hb dX10_restOf_57 (by decide) ?_
                  refine ti_iald (ci := 10) (k := 34) (n := 23) C hw ob_60 (by decide) (fun _ _ => rfl) (by unfold vp_in; decide) dX10_restOf_58 ?_
                  refine ti_top (y := x_19) ((congrArg _ (by decide)).trans (yx_19)) ?_
                  refine lv_iadd hx hb dX10_restOf_59 ?_
                  refine lv_topi (fun x_22 ex_22 => ?_)
                  have tx_22 : x_22.toInt = x_21.toInt + x_19.toInt := i_add ex_22 rfl rfl (by omega) (by omega)
                  refine lv_iload hx hb dX10_restOf_60 (lv_at hl 0 rfl) ?_
                  refine lv_iadd hx hb dX10_restOf_62 ?_
                  refine lv_topi (fun x_23 ex_23 => ?_)
                  have tx_23 : x_23.toInt = x_22.toInt + x_8.toInt := i_add ex_23 rfl rfl (by omega) (by omega)
                  exact hQ _ _ _ _ _ _ hw rfl rfl dX10_restOf_63
              · refine lv_goto (tgt := 67) hx hb dX10_restOf_34 (by decide) ?_
                exact hj_67_25 x_11 _ _ _  hw (lv_sub hl [0, 1, 2, 3, 4] rfl)
        exact hl_15_11 ((4 - 0 : Int).toNat + 1) 0 x_4 _ _ _ (Nat.lt_succ_self _) (by have lt0 : (0 : Int32).toInt = 0 := (by decide); first | omega | decide) (by have lt0 : (0 : Int32).toInt = 0 := (by decide); first | omega | decide) hw (lv_sub hl [0, 1, 2, 3, 4] rfl)
  exact hl_4_4 ((4 - 0 : Int).toNat + 1) 0 0 _ _ _ (Nat.lt_succ_self _) (by have lt0 : (0 : Int32).toInt = 0 := (by decide); first | omega | decide) (by have lt0 : (0 : Int32).toInt = 0 := (by decide); first | omega | decide) hw (lv_sub hl [0, 1, 2, 3] rfl)
set_option maxHeartbeats 4000000 in
set_option maxRecDepth 100000 in
theorem s_X10_rests (l : Launch) (D : va_G) (A : Nat → Nat → Nat) (cy : Nat → ClassId) (hJ : ti_inj ti_LM A) (M : ti_M) (hI : mI Tm M) (hF : mF Tm M) (z1 : Int32) (z2 : Int32) (z3 : Int32) : ti_Ki l yX10_rests cX10_rests 4 (some .int) 9 ti_LM D A cy M [.ref (A 60 0), .int z1, .int z2, .int z3] (fun r M2 => mF Tm M2 ∧ tI M2 60 2 = tI M 60 2 ∧ lw M2 M) := by
  refine ti_eI yp_X10_rests hJ ti_LM_nd (Nat.le_of_ble_eq_true rfl) ?_
  intro p e s m args below meth c Q H0 C hQ hw ls hl
  have hx := C.1
  have hb := C.2.1
  have hl : lv_has ls 4 [(0, .ref (A 60 0)), (1, .int z1), (2, .int z2), (3, .int z3)] := hl
  have hL : mL M := hF.2.1
  have hC0 : mC M 0 := hF.2.2.1.1
  have hP0 : mP M 0 := hF.2.2.1.2
  refine lv_aload_n hx hb dX10_rests_0 rfl (lv_at hl 0 rfl) ?_
  refine lv_iconst (v := 0) hx hb dX10_rests_1 (by decide) ?_
  refine ti_putI (ci := 10) (k := 0) (N := 67) (T := TX10) C hw iw_10 tyX10 tyX10_ok nmX10 rfl ob_60 (by decide) (by decide) fl_X10_154 rfl rfl rfl rfl (fn_10 A _) fs_10_0 dX10_rests_2 (fun H locs hw => ?_)
  obtain ⟨M_1, hM_1⟩ : ∃ z : ti_M, z = uI M 60 0 0 := ⟨_, rfl⟩
  have hw := hw.to hM_1.symm
  have iM_1 : mI Tm M_1 := mI_uI hI hM_1 (by decide) (by decide) trivial
  refine lv_aload_n hx hb dX10_rests_5 rfl (lv_at hl 0 rfl) ?_
  refine lv_iload_n hx hb dX10_rests_6 rfl (lv_at hl 1 rfl) ?_
  refine lv_iload_n hx hb dX10_rests_7 rfl (lv_at hl 2 rfl) ?_
  refine lv_iload_n hx hb dX10_rests_8 rfl (lv_at hl 3 rfl) ?_
  refine ti_callVi (ci := 10) (av := [.int z1, .int z2, .int z3]) C hw (s_X10_isGame l D A cy hJ M_1 iM_1 z1 z2 z3) ⟨ml_X10_464, ym_X10_isGame, yv_X10_isGame, yi_X10_isGame, yc_X10_isGame⟩ yd_X10_isGame ob_60 (by decide) rfl rfl hl.1 (Nat.le_of_ble_eq_true rfl) ⟨by decide, by decide⟩ ⟨Nat.zero_le _, Nat.zero_le _⟩ dX10_rests_9 (fun r_2 M_3 H locs hp_3 hw => ?_)
  obtain ⟨hm, hz⟩ := hp_3
  have hw := hw.to hm
  rcases hz with ⟨rfl, d0_4, d1_4, d2_4, d3_4, d4_4, d5_4, d6_4⟩ | rfl
  · refine sb_if_ne (tgt := 17) hx hb (by decide : (1 : Int32).toInt = 1) dX10_rests_12 (by decide) (fun c_12_4 => ?_) (fun h => absurd h (by decide))
    refine lv_aload_n hx hb dX10_rests_17 rfl (lv_at hl 0 rfl) ?_
    refine lv_iload_n hx hb dX10_rests_18 rfl (lv_at hl 1 rfl) ?_
    refine lv_iload_n hx hb dX10_rests_19 rfl (lv_at hl 2 rfl) ?_
    refine lv_iload_n hx hb dX10_rests_20 rfl (lv_at hl 3 rfl) ?_
    have lk_9 : (tY M_1 60 34 0).toInt = (tY M 60 34 0).toInt := by rw [(cg (tY_uIE hM_1) 0)]
    refine ti_callVv (ci := 10) (av := [.int z1, .int z2, .int z3]) C hw (s_X10_layGame l D A cy hJ M_1 iM_1 (mF_qw hF iM_1 (qw_I hM_1 (by decide))) z1 z2 z3 (by first | omega | decide) (by first | omega | decide) (by first | omega | decide) (by first | omega | decide) (by first | omega | decide)) ⟨ml_X10_468, ym_X10_layGame, yv_X10_layGame, yi_X10_layGame, yc_X10_layGame⟩ yd_X10_layGame ob_60 (by decide) rfl rfl hl.1 (Nat.le_of_ble_eq_true rfl) ⟨by decide, by decide⟩ ⟨Nat.zero_le _, Nat.zero_le _⟩ dX10_rests_21 (fun M_8 H locs hp_8 hw => ?_)
    obtain ⟨iM_8, q_10⟩ := hp_8
    refine lv_aload_n hx hb dX10_rests_24 rfl (lv_at hl 0 rfl) ?_
    refine lv_iconst (v := (-1)) hx hb dX10_rests_25 (by decide) ?_
    refine ti_callVi (ci := 10) (av := [.int (-1)]) C hw (s_X10_restOf l D A cy hJ M_8 iM_8 (-1)) ⟨ml_X10_471, ym_X10_restOf, yv_X10_restOf, yi_X10_restOf, yc_X10_restOf⟩ yd_X10_restOf ob_60 (by decide) rfl rfl hl.1 (Nat.le_of_ble_eq_true rfl) ⟨by decide, by decide⟩ ⟨Nat.zero_le _, Nat.zero_le _⟩ dX10_rests_26 (fun r_11 M_12 H locs hp_12 hw => ?_)
    have hm := hp_12
    have hw := hw.to hm
    exact hQ _ _ _ _ _ _ hw rfl (⟨mF_rw hF iM_8 (rw1.trans q_10 (rw1_qw (qw_I hM_1 (by decide)))), (rw1.trans q_10 (rw1_qw (qw_I hM_1 (by decide)))).2.1.1, (rw1.trans q_10 (rw1_qw (qw_I hM_1 (by decide)))).1⟩) dX10_rests_29
  · refine sb_if_ne (tgt := 17) hx hb (by decide : (0 : Int32).toInt = 0) dX10_rests_12 (by decide) (fun h => absurd h (by decide)) (fun c_12_5 => ?_)
    refine lv_iconst (v := (-1)) hx hb dX10_rests_15 (by decide) ?_
    exact hQ _ _ _ _ _ _ hw rfl (⟨mF_rw hF iM_1 (rw1_qw (qw_I hM_1 (by decide))), (rw1_qw (qw_I hM_1 (by decide))).2.1.1, (rw1_qw (qw_I hM_1 (by decide))).1⟩) dX10_rests_16
set_option maxHeartbeats 4000000 in
set_option maxRecDepth 100000 in
theorem s_X10_rest (l : Launch) (D : va_G) (A : Nat → Nat → Nat) (cy : Nat → ClassId) (hJ : ti_inj ti_LM A) (M : ti_M) (hI : mI Tm M) (hF : mF Tm M) (z1 : Int32) (z2 : Int32) (z3 : Int32) (z4 : Int32) : ti_Ki l yX10_rest cX10_rest 5 (some .int) 9 ti_LM D A cy M [.ref (A 60 0), .int z1, .int z2, .int z3, .int z4] (fun r M2 => mF Tm M2 ∧ tI M2 60 2 = tI M 60 2 ∧ lw M2 M) := by
  refine ti_eI yp_X10_rest hJ ti_LM_nd (Nat.le_of_ble_eq_true rfl) ?_
  intro p e s m args below meth c Q H0 C hQ hw ls hl
  have hx := C.1
  have hb := C.2.1
  have hl : lv_has ls 5 [(0, .ref (A 60 0)), (1, .int z1), (2, .int z2), (3, .int z3), (4, .int z4)] := hl
  have hL : mL M := hF.2.1
  have hC0 : mC M 0 := hF.2.2.1.1
  have hP0 : mP M 0 := hF.2.2.1.2
  refine lv_aload_n hx hb dX10_rest_0 rfl (lv_at hl 0 rfl) ?_
  refine lv_iconst (v := 0) hx hb dX10_rest_1 (by decide) ?_
  refine ti_putI (ci := 10) (k := 0) (N := 67) (T := TX10) C hw iw_10 tyX10 tyX10_ok nmX10 rfl ob_60 (by decide) (by decide) fl_X10_154 rfl rfl rfl rfl (fn_10 A _) fs_10_0 dX10_rest_2 (fun H locs hw => ?_)
  obtain ⟨M_1, hM_1⟩ : ∃ z : ti_M, z = uI M 60 0 0 := ⟨_, rfl⟩
  have hw := hw.to hM_1.symm
  have iM_1 : mI Tm M_1 := mI_uI hI hM_1 (by decide) (by decide) trivial
  refine lv_aload_n hx hb dX10_rest_5 rfl (lv_at hl 0 rfl) ?_
  refine lv_iload_n hx hb dX10_rest_6 rfl (lv_at hl 1 rfl) ?_
  refine lv_iload_n hx hb dX10_rest_7 rfl (lv_at hl 2 rfl) ?_
  refine lv_iload_n hx hb dX10_rest_8 rfl (lv_at hl 3 rfl) ?_
  refine ti_callVi (ci := 10) (av := [.int z1, .int z2, .int z3]) C hw (s_X10_isGame l D A cy hJ M_1 iM_1 z1 z2 z3) ⟨ml_X10_464, ym_X10_isGame, yv_X10_isGame, yi_X10_isGame, yc_X10_isGame⟩ yd_X10_isGame ob_60 (by decide) rfl rfl hl.1 (Nat.le_of_ble_eq_true rfl) ⟨by decide, by decide⟩ ⟨Nat.zero_le _, Nat.zero_le _⟩ dX10_rest_9 (fun r_2 M_3 H locs hp_3 hw => ?_)
  obtain ⟨hm, hz⟩ := hp_3
  have hw := hw.to hm
  have hj_20_7 : ∀  (H : Heap) (locs : List Loc) (ls : Array Slot), ti_H ti_LM D A cy H0 M_1 H locs → lv_has ls 5 [(0, .ref (A 60 0)), (1, .int z1), (2, .int z2), (3, .int z3), (4, .int z4)] → W p l e (ti_rm 9) s m args below meth c H locs 0 0 Q (F0 m 20 ls []) := by
    intro  H locs ls  hw hl
    refine lv_iconst (v := (-1)) hx hb dX10_rest_20 (by decide) ?_
    exact hQ _ _ _ _ _ _ hw rfl (⟨mF_rw hF iM_1 (rw1_qw (qw_I hM_1 (by decide))), (rw1_qw (qw_I hM_1 (by decide))).2.1.1, (rw1_qw (qw_I hM_1 (by decide))).1⟩) dX10_rest_21
  rcases hz with ⟨rfl, d0_4, d1_4, d2_4, d3_4, d4_4, d5_4, d6_4⟩ | rfl
  · refine sb_if_eq (tgt := 20) hx hb (by decide : (1 : Int32).toInt = 1) dX10_rest_12 (by decide) (fun h => absurd h (by decide)) (fun c_12_4 => ?_)
    refine lv_iload hx hb dX10_rest_15 (lv_at hl 4 rfl) ?_
    refine sb_if_ge (tgt := 22) hx hb rfl dX10_rest_17 (by decide) (fun c_17_6 => ?_) (fun c_17_6 => ?_)
    · refine lv_aload_n hx hb dX10_rest_22 rfl (lv_at hl 0 rfl) ?_
      refine lv_iload_n hx hb dX10_rest_23 rfl (lv_at hl 1 rfl) ?_
      refine lv_iload_n hx hb dX10_rest_24 rfl (lv_at hl 2 rfl) ?_
      refine lv_iload_n hx hb dX10_rest_25 rfl (lv_at hl 3 rfl) ?_
      have lk_10 : (tY M_1 60 34 0).toInt = (tY M 60 34 0).toInt := by rw [(cg (tY_uIE hM_1) 0)]
      refine ti_callVv (ci := 10) (av := [.int z1, .int z2, .int z3]) C hw (s_X10_layGame l D A cy hJ M_1 iM_1 (mF_qw hF iM_1 (qw_I hM_1 (by decide))) z1 z2 z3 (by first | omega | decide) (by first | omega | decide) (by first | omega | decide) (by first | omega | decide) (by first | omega | decide)) ⟨ml_X10_468, ym_X10_layGame, yv_X10_layGame, yi_X10_layGame, yc_X10_layGame⟩ yd_X10_layGame ob_60 (by decide) rfl rfl hl.1 (Nat.le_of_ble_eq_true rfl) ⟨by decide, by decide⟩ ⟨Nat.zero_le _, Nat.zero_le _⟩ dX10_rest_26 (fun M_9 H locs hp_9 hw => ?_)
      obtain ⟨iM_9, q_11⟩ := hp_9
      refine lv_aload_n hx hb dX10_rest_29 rfl (lv_at hl 0 rfl) ?_
      refine lv_iload hx hb dX10_rest_30 (lv_at hl 4 rfl) ?_
      refine ti_callVi (ci := 10) (av := [.int z4]) C hw (s_X10_restOf l D A cy hJ M_9 iM_9 z4) ⟨ml_X10_471, ym_X10_restOf, yv_X10_restOf, yi_X10_restOf, yc_X10_restOf⟩ yd_X10_restOf ob_60 (by decide) rfl rfl hl.1 (Nat.le_of_ble_eq_true rfl) ⟨by decide, by decide⟩ ⟨Nat.zero_le _, Nat.zero_le _⟩ dX10_rest_32 (fun r_12 M_13 H locs hp_13 hw => ?_)
      have hm := hp_13
      have hw := hw.to hm
      exact hQ _ _ _ _ _ _ hw rfl (⟨mF_rw hF iM_9 (rw1.trans q_11 (rw1_qw (qw_I hM_1 (by decide)))), (rw1.trans q_11 (rw1_qw (qw_I hM_1 (by decide)))).2.1.1, (rw1.trans q_11 (rw1_qw (qw_I hM_1 (by decide)))).1⟩) dX10_rest_35
    · exact hj_20_7  _ _ _  hw (lv_sub hl [0, 1, 2, 3, 4] rfl)
  · refine sb_if_eq (tgt := 20) hx hb (by decide : (0 : Int32).toInt = 0) dX10_rest_12 (by decide) (fun c_12_5 => ?_) (fun h => absurd h (by decide))
    exact hj_20_7  _ _ _  hw (lv_sub hl [0, 1, 2, 3, 4] rfl)
set_option maxHeartbeats 4000000 in
set_option maxRecDepth 100000 in
theorem s_X10_isWay (l : Launch) (D : va_G) (A : Nat → Nat → Nat) (cy : Nat → ClassId) (hJ : ti_inj ti_LM A) (M : ti_M) (hI : mI Tm M) (hF : mF Tm M) (z1 : Int32) (z2 : Int32) (h1 : 0 ≤ z1.toInt) (h2 : z1.toInt ≤ 7) : ti_Ki l yX10_isWay cX10_isWay 7 (some .boolean) 7 ti_LM D A cy M [.ref (A 60 0), .int z1, .int z2] (fun r M2 => mI Tm M2 ∧ rw1 M2 M ∧ 0 ≤ r.toInt ∧ r.toInt ≤ 1) := by
  refine ti_eI yp_X10_isWay hJ ti_LM_nd (Nat.le_of_ble_eq_true rfl) ?_
  intro p e s m args below meth c Q H0 C hQ hw ls hl
  have hx := C.1
  have hb := C.2.1
  have hl : lv_has ls 7 [(0, .ref (A 60 0)), (1, .int z1), (2, .int z2)] := hl
  have hL : mL M := hF.2.1
  have hC0 : mC M 0 := hF.2.2.1.1
  have hP0 : mP M 0 := hF.2.2.1.2
  refine lv_iconst (v := (-1)) hx hb dX10_isWay_0 (by decide) ?_
  refine lv_istore_n (lv' := [(3, .int (-1)), (0, .ref (A 60 0)), (1, .int z1), (2, .int z2)]) hx hb dX10_isWay_1 rfl hl (by decide) rfl (fun ls hl => ?_)
  refine lv_iconst (v := 0) hx hb dX10_isWay_2 (by decide) ?_
  refine lv_istore (lv' := [(4, .int 0), (3, .int (-1)), (0, .ref (A 60 0)), (1, .int z1), (2, .int z2)]) hx hb dX10_isWay_3 hl (by decide) rfl (fun ls hl => ?_)
  have hl_5_6 : ∀ (n_7 : Nat) (x_1 : Int32) (x_4 : Int32) (H : Heap) (locs : List Loc) (ls : Array Slot), (24 - x_1.toInt : Int).toNat < n_7 → (0 ≤ x_1.toInt) → (x_1.toInt ≤ 24) → ((-1) ≤ x_4.toInt) → (x_4.toInt ≤ 59) → ti_H ti_LM D A cy H0 M H locs → lv_has ls 7 [(4, .int x_1), (3, .int x_4), (0, .ref (A 60 0)), (1, .int z1), (2, .int z2)] → W p l e (ti_rm 7) s m args below meth c H locs 0 0 Q (F0 m 5 ls []) := by
    intro n_7
    induction n_7 with
    | zero => intro x_1 x_4 H locs ls hf_7; exact absurd hf_7 (Nat.not_lt_zero _)
    | succ n_7 ih_7 =>
      intro x_1 x_4 H locs ls hf_7 b_2 b_3 b_5 b_6 hw hl
      refine lv_iload hx hb dX10_isWay_5 (lv_at hl 0 rfl) ?_
      refine lv_aload_n hx hb dX10_isWay_7 rfl (lv_at hl 2 rfl) ?_
      refine ti_callVi (ci := 10) (av := []) C hw (s_X10_knownMany l D A cy hJ M hI ) ⟨ml_X10_474, ym_X10_knownMany, yv_X10_knownMany, yi_X10_knownMany, yc_X10_knownMany⟩ yd_X10_knownMany ob_60 (by decide) rfl rfl hl.1 (Nat.le_of_ble_eq_true rfl) ⟨by decide, by decide⟩ ⟨Nat.zero_le _, Nat.zero_le _⟩ dX10_isWay_8 (fun r_8 M_9 H locs hp_9 hw => ?_)
      obtain ⟨hm, b0r_8, b1r_8⟩ := hp_9
      have hw := hw.to hm
      refine sb_icmp_ge (tgt := 53) hx hb rfl rfl dX10_isWay_11 (by decide) (fun c_11_9 => ?_) (fun c_11_9 => ?_)
      · refine lv_aload_n hx hb dX10_isWay_53 rfl (lv_at hl 2 rfl) ?_
        refine lv_iconst (v := 1) hx hb dX10_isWay_54 (by decide) ?_
        refine ti_callVv (ci := 10) (av := [.int 1]) C hw (s_X10_starts_1 l D A cy hJ M hI ) ⟨ml_X10_353, ym_X10_starts, yv_X10_starts, yi_X10_starts, yc_X10_starts⟩ yd_X10_starts ob_60 (by decide) rfl rfl hl.1 (Nat.le_of_ble_eq_true rfl) ⟨by decide, by decide⟩ ⟨Nat.zero_le _, Nat.zero_le _⟩ dX10_isWay_55 (fun M_22 H locs hp_22 hw => ?_)
        obtain ⟨iM_22, q_23, q_24, p0r_21⟩ := hp_22
        refine lv_aload_n hx hb dX10_isWay_58 rfl (lv_at hl 2 rfl) ?_
        refine ti_get (ci := 10) (k := 44) (N := 67) (T := TX10) (v := .ref (A 60 45)) C hw iw_10 rfl ob_60 (by decide) (by decide) fl_X10_99 rfl rfl dX10_isWay_59 ?_
        refine lv_bipush (v := 8) hx hb dX10_isWay_62 (by decide) ?_
        refine lv_iload_n hx hb dX10_isWay_64 rfl (lv_at hl 3 rfl) ?_
        refine lv_iadd hx hb dX10_isWay_65 ?_
        refine lv_topi (fun x_25 ex_25 => ?_)
        have lox_25z1 := z1.le_toInt
        have hix_25z1 := z1.toInt_lt
        have tx_25 : x_25.toInt = 8 + z1.toInt := i_add ex_25 (by decide : (8 : Int32).toInt = 8) rfl (by omega) (by omega)
        refine lv_iload_n hx hb dX10_isWay_66 rfl (lv_at hl 4 rfl) ?_
        refine ti_iast (ci := 10) (k := 44) (n := 184) C hw ob_60 (by decide) (fun _ _ => rfl) (vp_in_iff.mpr (by omega)) dX10_isWay_67 (fun H locs hw => ?_)
        obtain ⟨M_26, hM_26⟩ : ∃ z : ti_M, z = uY M_22 60 44 (upd (tY M_22 60 44) (x_25 : Int32).toNatClampNeg z2) := ⟨_, rfl⟩
        have hw := hw.to hM_26.symm
        have iM_26 : mI Tm M_26 := mI_up (i := x_25.toNatClampNeg) iM_22 hM_26 trivial
        refine lv_iconst (v := 0) hx hb dX10_isWay_68 (by decide) ?_
        refine lv_istore (lv' := [(4, .int 0), (3, .int x_4), (0, .ref (A 60 0)), (1, .int z1), (2, .int z2)]) hx hb dX10_isWay_69 hl (by decide) rfl (fun ls hl => ?_)
        have hl_71_32 : ∀ (n_33 : Nat) (x_27 : Int32) (M_30 : ti_M) (H : Heap) (locs : List Loc) (ls : Array Slot), (60 - x_27.toInt : Int).toNat < n_33 → (0 ≤ x_27.toInt) → (x_27.toInt ≤ 60) → (mI Tm M_30) → (rw1 M_30 M) → (mC M_30 1) → ti_H ti_LM D A cy H0 M_30 H locs → lv_has ls 7 [(4, .int x_27), (3, .int x_4), (0, .ref (A 60 0)), (1, .int z1), (2, .int z2)] → W p l e (ti_rm 7) s m args below meth c H locs 0 0 Q (F0 m 71 ls []) := by
          intro n_33
          induction n_33 with
          | zero => intro x_27 M_30 H locs ls hf_33; exact absurd hf_33 (Nat.not_lt_zero _)
          | succ n_33 ih_33 =>
            intro x_27 M_30 H locs ls hf_33 b_28 b_29 iM_30 f_31 f_32 hw hl
            refine lv_iload hx hb dX10_isWay_71 (lv_at hl 0 rfl) ?_
            refine lv_iload_n hx hb dX10_isWay_73 rfl (lv_at hl 1 rfl) ?_
            refine sb_icmp_gt (tgt := 182) hx hb rfl rfl dX10_isWay_74 (by decide) (fun c_74_33 => ?_) (fun c_74_33 => ?_)
            · refine lv_iconst (v := 1) hx hb dX10_isWay_182 (by decide) ?_
              exact hQ _ _ _ _ _ _ hw rfl (⟨iM_30, f_31, by first | omega | decide, by first | omega | decide⟩) dX10_isWay_183
            · refine lv_aload_n hx hb dX10_isWay_77 rfl (lv_at hl 2 rfl) ?_
              refine lv_iconst (v := 1) hx hb dX10_isWay_78 (by decide) ?_
              refine lv_iconst (v := 0) hx hb dX10_isWay_79 (by decide) ?_
              refine ti_callVv (ci := 10) (av := [.int 1, .int 0]) C hw (s_X10_passes_1 l D A cy hJ M_30 iM_30 f_32 (mL_lw (lk_of f_31.1 f_31.2.1).1 hL) 0) ⟨ml_X10_407, ym_X10_passes, yv_X10_passes, yi_X10_passes, yc_X10_passes⟩ yd_X10_passes ob_60 (by decide) rfl rfl hl.1 (Nat.le_of_ble_eq_true rfl) ⟨by decide, by decide⟩ ⟨Nat.zero_le _, Nat.zero_le _⟩ dX10_isWay_80 (fun M_36 H locs hp_36 hw => ?_)
              obtain ⟨iM_36, q_37, q_38⟩ := hp_36
              refine lv_iconst (v := 0) hx hb dX10_isWay_83 (by decide) ?_
              refine lv_istore (lv' := [(5, .int 0), (4, .int x_27), (3, .int x_4), (0, .ref (A 60 0)), (1, .int z1), (2, .int z2)]) hx hb dX10_isWay_84 hl (by decide) rfl (fun ls hl => ?_)
              have hl_86_41 : ∀ (n_42 : Nat) (x_39 : Int32) (H : Heap) (locs : List Loc) (ls : Array Slot), (24 - x_39.toInt : Int).toNat < n_42 → (0 ≤ x_39.toInt) → (x_39.toInt ≤ 24) → ti_H ti_LM D A cy H0 M_36 H locs → lv_has ls 7 [(5, .int x_39), (4, .int x_27), (3, .int x_4), (0, .ref (A 60 0)), (1, .int z1), (2, .int z2)] → W p l e (ti_rm 7) s m args below meth c H locs 0 0 Q (F0 m 86 ls []) := by
                intro n_42
                induction n_42 with
                | zero => intro x_39 H locs ls hf_42; exact absurd hf_42 (Nat.not_lt_zero _)
                | succ n_42 ih_42 =>
                  intro x_39 H locs ls hf_42 b_40 b_41 hw hl
                  refine lv_iload hx hb dX10_isWay_86 (lv_at hl 0 rfl) ?_
                  refine lv_aload_n hx hb dX10_isWay_88 rfl (lv_at hl 3 rfl) ?_
                  refine ti_callVi (ci := 10) (av := []) C hw (s_X10_knownMany l D A cy hJ M_36 iM_36 ) ⟨ml_X10_474, ym_X10_knownMany, yv_X10_knownMany, yi_X10_knownMany, yc_X10_knownMany⟩ yd_X10_knownMany ob_60 (by decide) rfl rfl hl.1 (Nat.le_of_ble_eq_true rfl) ⟨by decide, by decide⟩ ⟨Nat.zero_le _, Nat.zero_le _⟩ dX10_isWay_89 (fun r_43 M_44 H locs hp_44 hw => ?_)
                  obtain ⟨hm, b0r_43, b1r_43⟩ := hp_44
                  have hw := hw.to hm
                  refine sb_icmp_ge (tgt := 176) hx hb rfl rfl dX10_isWay_92 (by decide) (fun c_92_44 => ?_) (fun c_92_44 => ?_)
                  · obtain ⟨x_62, ex_62⟩ : ∃ z : Int32, z = x_27 + 1 := ⟨_, rfl⟩
                    have tx_62 : x_62.toInt = x_27.toInt + 1 := i_add ex_62 rfl (by decide) (by omega) (by omega)
                    refine lv_iinc (v := x_62) (lv' := [(4, .int x_62), (5, .int x_39), (3, .int x_4), (0, .ref (A 60 0)), (1, .int z1), (2, .int z2)]) hx hb dX10_isWay_176 hl (k := 1) rfl (by rw [ex_62]; rfl) (by decide) rfl (fun ls hl => ?_)
                    refine lv_goto (tgt := 71) hx hb dX10_isWay_179 (by decide) ?_
                    exact ih_33 x_62 M_36 _ _ _ (by omega) (by first | omega | decide) (by first | omega | decide) iM_36 (rw1.trans (rw1_rq q_37) f_31) q_38 hw (lv_sub hl [0, 2, 3, 4, 5] rfl)
                  · refine lv_aload_n hx hb dX10_isWay_95 rfl (lv_at hl 3 rfl) ?_
                    refine ti_get (ci := 10) (k := 64) (N := 67) (T := TX10) (v := .ref (A 60 65)) C hw iw_10 rfl ob_60 (by decide) (by decide) fl_X10_147 rfl rfl dX10_isWay_96 ?_
                    refine lv_iload hx hb dX10_isWay_99 (lv_at hl 0 rfl) ?_
                    refine ti_zald (ci := 10) (k := 64) (n := 24) C hw ob_60 (by decide) (fun _ _ => rfl) (vp_in_iff.mpr (by omega)) dX10_isWay_101 ?_
                    refine lv_topi (fun x_46 ex_46 => ?_)
                    have hj_170_60 : ∀  (H : Heap) (locs : List Loc) (ls : Array Slot), ti_H ti_LM D A cy H0 M_36 H locs → lv_has ls 7 [(5, .int x_39), (4, .int x_27), (3, .int x_4), (0, .ref (A 60 0)), (1, .int z1), (2, .int z2)] → W p l e (ti_rm 7) s m args below meth c H locs 0 0 Q (F0 m 170 ls []) := by
                      intro  H locs ls  hw hl
                      obtain ⟨x_61, ex_61⟩ : ∃ z : Int32, z = x_39 + 1 := ⟨_, rfl⟩
                      have tx_61 : x_61.toInt = x_39.toInt + 1 := i_add ex_61 rfl (by decide) (by omega) (by omega)
                      refine lv_iinc (v := x_61) (lv' := [(5, .int x_61), (4, .int x_27), (3, .int x_4), (0, .ref (A 60 0)), (1, .int z1), (2, .int z2)]) hx hb dX10_isWay_170 hl (k := 0) rfl (by rw [ex_61]; rfl) (by decide) rfl (fun ls hl => ?_)
                      refine lv_goto (tgt := 86) hx hb dX10_isWay_173 (by decide) ?_
                      exact ih_42 x_61 _ _ _ (by omega) (by first | omega | decide) (by first | omega | decide) hw (lv_sub hl [0, 1, 2, 3, 4, 5] rfl)
                    refine sb_if_ne (tgt := 170) hx hb rfl dX10_isWay_102 (by decide) (fun c_102_46 => ?_) (fun c_102_46 => ?_)
                    · exact hj_170_60  _ _ _  hw (lv_sub hl [0, 1, 2, 3, 4, 5] rfl)
                    · refine lv_aload_n hx hb dX10_isWay_105 rfl (lv_at hl 3 rfl) ?_
                      refine ti_get (ci := 10) (k := 63) (N := 67) (T := TX10) (v := .ref (A 60 64)) C hw iw_10 rfl ob_60 (by decide) (by decide) fl_X10_144 rfl rfl dX10_isWay_106 ?_
                      refine lv_iload hx hb dX10_isWay_109 (lv_at hl 0 rfl) ?_
                      refine ti_iald (ci := 10) (k := 63) (n := 24) C hw ob_60 (by decide) (fun _ _ => rfl) (vp_in_iff.mpr (by omega)) dX10_isWay_111 ?_
                      refine lv_topi (fun x_48 ex_48 => ?_)
                      have yx_48 : tY M_36 60 63 x_39.toNatClampNeg = x_48 := (ex_48.symm)
                      have bx_48 : (-1) ≤ x_48.toInt ∧ x_48.toInt ≤ 23 := mI_ry (k := 63) (i := x_39.toNatClampNeg) iM_36 yx_48.symm
                      refine lv_iconst (v := (-1)) hx hb dX10_isWay_112 (by decide) ?_
                      refine sb_icmp_ne (tgt := 170) hx hb rfl (by decide : ((-1) : Int32).toInt = (-1)) dX10_isWay_113 (by decide) (fun c_113_48 => ?_) (fun c_113_48 => ?_)
                      · exact hj_170_60  _ _ _  hw (lv_sub hl [0, 1, 2, 3, 4, 5] rfl)
                      · refine lv_aload_n hx hb dX10_isWay_116 rfl (lv_at hl 3 rfl) ?_
                        refine ti_get (ci := 10) (k := 60) (N := 67) (T := TX10) (v := .ref (A 60 61)) C hw iw_10 rfl ob_60 (by decide) (by decide) fl_X10_135 rfl rfl dX10_isWay_117 ?_
                        refine lv_iload hx hb dX10_isWay_120 (lv_at hl 0 rfl) ?_
                        refine ti_iald (ci := 10) (k := 60) (n := 24) C hw ob_60 (by decide) (fun _ _ => rfl) (vp_in_iff.mpr (by omega)) dX10_isWay_122 ?_
                        refine lv_topi (fun x_50 ex_50 => ?_)
                        have yx_50 : tY M_36 60 60 x_39.toNatClampNeg = x_50 := (ex_50.symm)
                        have bx_50 : 0 ≤ x_50.toInt ∧ x_50.toInt ≤ 59 := mI_ry (k := 60) (i := x_39.toNatClampNeg) iM_36 yx_50.symm
                        refine lv_iload hx hb dX10_isWay_123 (lv_at hl 1 rfl) ?_
                        refine sb_icmp_eq (tgt := 131) hx hb rfl rfl dX10_isWay_125 (by decide) (fun c_125_50 => ?_) (fun c_125_50 => ?_)
                        · refine lv_aload_n hx hb dX10_isWay_131 rfl (lv_at hl 3 rfl) ?_
                          refine lv_iconst (v := 1) hx hb dX10_isWay_132 (by decide) ?_
                          refine lv_aload_n hx hb dX10_isWay_133 rfl (lv_at hl 3 rfl) ?_
                          refine ti_get (ci := 10) (k := 61) (N := 67) (T := TX10) (v := .ref (A 60 62)) C hw iw_10 rfl ob_60 (by decide) (by decide) fl_X10_138 rfl rfl dX10_isWay_134 ?_
                          refine lv_iload hx hb dX10_isWay_137 (lv_at hl 0 rfl) ?_
                          refine ti_iald (ci := 10) (k := 61) (n := 24) C hw ob_60 (by decide) (fun _ _ => rfl) (vp_in_iff.mpr (by omega)) dX10_isWay_139 ?_
                          refine lv_topi (fun x_52 ex_52 => ?_)
                          have yx_52 : tY M_36 60 61 x_39.toNatClampNeg = x_52 := (ex_52.symm)
                          have bx_52 : 0 ≤ x_52.toInt ∧ x_52.toInt ≤ 7 := mI_ry (k := 61) (i := x_39.toNatClampNeg) iM_36 yx_52.symm
                          refine ti_callVi (ci := 10) (av := [.int 1, .int x_52]) C hw (s_X10_standsAt_1 l D A cy hJ M_36 iM_36 x_52 (by first | omega | decide) (by first | omega | decide)) ⟨ml_X10_417, ym_X10_standsAt, yv_X10_standsAt, yi_X10_standsAt, yc_X10_standsAt⟩ yd_X10_standsAt ob_60 (by decide) rfl rfl hl.1 (Nat.le_of_ble_eq_true rfl) ⟨by decide, by decide⟩ ⟨Nat.zero_le _, Nat.zero_le _⟩ dX10_isWay_140 (fun r_53 M_54 H locs hp_54 hw => ?_)
                          obtain ⟨hm, b0r_53, b1r_53⟩ := hp_54
                          have hw := hw.to hm
                          refine lv_istore (lv' := [(6, .int r_53), (5, .int x_39), (4, .int x_27), (3, .int x_4), (0, .ref (A 60 0)), (1, .int z1), (2, .int z2)]) hx hb dX10_isWay_143 hl (by decide) rfl (fun ls hl => ?_)
                          refine lv_iload hx hb dX10_isWay_145 (lv_at hl 0 rfl) ?_
                          refine lv_bipush (v := (-2)) hx hb dX10_isWay_147 (by decide) ?_
                          have hj_158_58 : ∀ (x_56 : Int32) (H : Heap) (locs : List Loc) (ls : Array Slot), ((-2) ≤ x_56.toInt) → (x_56.toInt ≤ 7) → ti_H ti_LM D A cy H0 M_36 H locs → lv_has ls 7 [(6, .int r_53), (5, .int x_39), (4, .int x_27), (3, .int x_4), (0, .ref (A 60 0)), (1, .int z1), (2, .int z2)] → W p l e (ti_rm 7) s m args below meth c H locs 0 0 Q (F0 m 158 ls [.int x_56]) := by
                            intro x_56 H locs ls b_57 b_58 hw hl
                            refine lv_aload_n hx hb dX10_isWay_158 rfl (lv_at hl 4 rfl) ?_
                            refine ti_get (ci := 10) (k := 62) (N := 67) (T := TX10) (v := .ref (A 60 63)) C hw iw_10 rfl ob_60 (by decide) (by decide) fl_X10_141 rfl rfl dX10_isWay_159 ?_
                            refine lv_iload hx hb dX10_isWay_162 (lv_at hl 1 rfl) ?_
                            refine ti_iald (ci := 10) (k := 62) (n := 24) C hw ob_60 (by decide) (fun _ _ => rfl) (vp_in_iff.mpr (by omega)) dX10_isWay_164 ?_
                            refine lv_topi (fun x_59 ex_59 => ?_)
                            have yx_59 : tY M_36 60 62 x_39.toNatClampNeg = x_59 := (ex_59.symm)
                            refine sb_icmp_eq (tgt := 170) hx hb rfl rfl dX10_isWay_165 (by decide) (fun c_165_59 => ?_) (fun c_165_59 => ?_)
                            · exact hj_170_60  _ _ _  hw (lv_sub hl [1, 2, 3, 4, 5, 6] rfl)
                            · refine lv_iconst (v := 0) hx hb dX10_isWay_168 (by decide) ?_
                              exact hQ _ _ _ _ _ _ hw rfl (⟨iM_36, (rw1.trans (rw1_rq q_37) f_31), by first | omega | decide, by first | omega | decide⟩) dX10_isWay_169
                          refine sb_icmp_ne (tgt := 156) hx hb rfl (by decide : ((-2) : Int32).toInt = (-2)) dX10_isWay_149 (by decide) (fun c_149_54 => ?_) (fun c_149_54 => ?_)
                          · refine lv_iload hx hb dX10_isWay_156 (lv_at hl 0 rfl) ?_
                            exact hj_158_58 r_53 _ _ _ (by first | omega | decide) (by first | omega | decide) hw (lv_sub hl [0, 1, 2, 3, 4, 5, 6] rfl)
                          · refine lv_iconst (v := (-1)) hx hb dX10_isWay_152 (by decide) ?_
                            refine lv_goto (tgt := 158) hx hb dX10_isWay_153 (by decide) ?_
                            exact hj_158_58 (-1) _ _ _ (by have lt0 : ((-1) : Int32).toInt = (-1) := (by decide); first | omega | decide) (by have lt0 : ((-1) : Int32).toInt = (-1) := (by decide); first | omega | decide) hw (lv_sub hl [0, 1, 2, 3, 4, 5, 6] rfl)
                        · refine lv_goto (tgt := 170) hx hb dX10_isWay_128 (by decide) ?_
                          exact hj_170_60  _ _ _  hw (lv_sub hl [0, 1, 2, 3, 4, 5] rfl)
              exact hl_86_41 ((24 - 0 : Int).toNat + 1) 0 _ _ _ (Nat.lt_succ_self _) (by have lt0 : (0 : Int32).toInt = 0 := (by decide); first | omega | decide) (by have lt0 : (0 : Int32).toInt = 0 := (by decide); first | omega | decide) hw (lv_sub hl [0, 1, 2, 3, 4, 5] rfl)
        exact hl_71_32 ((60 - 0 : Int).toNat + 1) 0 M_26 _ _ _ (Nat.lt_succ_self _) (by have lt0 : (0 : Int32).toInt = 0 := (by decide); first | omega | decide) (by have lt0 : (0 : Int32).toInt = 0 := (by decide); first | omega | decide) iM_26 (rw1.trans (rw1_qw (qw_Y hM_26 (by decide))) (rw1_rq q_23)) (mC_qw (qw_Y hM_26 (by decide)) q_24) hw (lv_sub hl [0, 1, 2, 3, 4] rfl)
      · refine lv_aload_n hx hb dX10_isWay_14 rfl (lv_at hl 2 rfl) ?_
        refine ti_get (ci := 10) (k := 64) (N := 67) (T := TX10) (v := .ref (A 60 65)) C hw iw_10 rfl ob_60 (by decide) (by decide) fl_X10_147 rfl rfl dX10_isWay_15 ?_
        refine lv_iload hx hb dX10_isWay_18 (lv_at hl 0 rfl) ?_
        refine ti_zald (ci := 10) (k := 64) (n := 24) C hw ob_60 (by decide) (fun _ _ => rfl) (vp_in_iff.mpr (by omega)) dX10_isWay_20 ?_
        refine lv_topi (fun x_11 ex_11 => ?_)
        have hj_47_19 : ∀ (x_17 : Int32) (H : Heap) (locs : List Loc) (ls : Array Slot), ((-1) ≤ x_17.toInt) → (x_17.toInt ≤ 59) → ti_H ti_LM D A cy H0 M H locs → lv_has ls 7 [(4, .int x_1), (3, .int x_17), (0, .ref (A 60 0)), (1, .int z1), (2, .int z2)] → W p l e (ti_rm 7) s m args below meth c H locs 0 0 Q (F0 m 47 ls []) := by
          intro x_17 H locs ls b_18 b_19 hw hl
          obtain ⟨x_20, ex_20⟩ : ∃ z : Int32, z = x_1 + 1 := ⟨_, rfl⟩
          have tx_20 : x_20.toInt = x_1.toInt + 1 := i_add ex_20 rfl (by decide) (by omega) (by omega)
          refine lv_iinc (v := x_20) (lv' := [(4, .int x_20), (3, .int x_17), (0, .ref (A 60 0)), (1, .int z1), (2, .int z2)]) hx hb dX10_isWay_47 hl (k := 0) rfl (by rw [ex_20]; rfl) (by decide) rfl (fun ls hl => ?_)
          refine lv_goto (tgt := 5) hx hb dX10_isWay_50 (by decide) ?_
          exact ih_7 x_20 x_17 _ _ _ (by omega) (by first | omega | decide) (by first | omega | decide) (by first | omega | decide) (by first | omega | decide) hw (lv_sub hl [0, 1, 2, 3, 4] rfl)
        refine sb_if_ne (tgt := 47) hx hb rfl dX10_isWay_21 (by decide) (fun c_21_11 => ?_) (fun c_21_11 => ?_)
        · exact hj_47_19 x_4 _ _ _ (by first | omega | decide) (by first | omega | decide) hw (lv_sub hl [0, 1, 2, 3, 4] rfl)
        · refine lv_aload_n hx hb dX10_isWay_24 rfl (lv_at hl 2 rfl) ?_
          refine ti_get (ci := 10) (k := 63) (N := 67) (T := TX10) (v := .ref (A 60 64)) C hw iw_10 rfl ob_60 (by decide) (by decide) fl_X10_144 rfl rfl dX10_isWay_25 ?_
          refine lv_iload hx hb dX10_isWay_28 (lv_at hl 0 rfl) ?_
          refine ti_iald (ci := 10) (k := 63) (n := 24) C hw ob_60 (by decide) (fun _ _ => rfl) (vp_in_iff.mpr (by omega)) dX10_isWay_30 ?_
          refine lv_topi (fun x_13 ex_13 => ?_)
          have yx_13 : tY M 60 63 x_1.toNatClampNeg = x_13 := (ex_13.symm)
          have bx_13 : (-1) ≤ x_13.toInt ∧ x_13.toInt ≤ 23 := mI_ry (k := 63) (i := x_1.toNatClampNeg) hI yx_13.symm
          refine lv_iconst (v := (-1)) hx hb dX10_isWay_31 (by decide) ?_
          refine sb_icmp_ne (tgt := 47) hx hb rfl (by decide : ((-1) : Int32).toInt = (-1)) dX10_isWay_32 (by decide) (fun c_32_13 => ?_) (fun c_32_13 => ?_)
          · exact hj_47_19 x_4 _ _ _ (by first | omega | decide) (by first | omega | decide) hw (lv_sub hl [0, 1, 2, 3, 4] rfl)
          · refine lv_iload_n hx hb dX10_isWay_35 rfl (lv_at hl 1 rfl) ?_
            refine lv_aload_n hx hb dX10_isWay_36 rfl (lv_at hl 2 rfl) ?_
            refine ti_get (ci := 10) (k := 60) (N := 67) (T := TX10) (v := .ref (A 60 61)) C hw iw_10 rfl ob_60 (by decide) (by decide) fl_X10_135 rfl rfl dX10_isWay_37 ?_
            refine lv_iload hx hb dX10_isWay_40 (lv_at hl 0 rfl) ?_
            refine ti_iald (ci := 10) (k := 60) (n := 24) C hw ob_60 (by decide) (fun _ _ => rfl) (vp_in_iff.mpr (by omega)) dX10_isWay_42 ?_
            refine lv_topi (fun x_15 ex_15 => ?_)
            have yx_15 : tY M 60 60 x_1.toNatClampNeg = x_15 := (ex_15.symm)
            have bx_15 : 0 ≤ x_15.toInt ∧ x_15.toInt ≤ 59 := mI_ry (k := 60) (i := x_1.toNatClampNeg) hI yx_15.symm
            refine ti_max C ml_X10_477 hl.1 (by decide) (Nat.le_of_ble_eq_true rfl) ⟨Nat.zero_le _, Nat.zero_le _⟩ dX10_isWay_43 ?_
            refine lv_topi (fun x_16 ex_16 => ?_)
            have bx_16 := i_max ex_16 rfl rfl
            refine lv_istore_n (lv' := [(3, .int x_16), (4, .int x_1), (0, .ref (A 60 0)), (1, .int z1), (2, .int z2)]) hx hb dX10_isWay_46 rfl hl (by decide) rfl (fun ls hl => ?_)
            exact hj_47_19 x_16 _ _ _ (by first | omega | decide) (by first | omega | decide) hw (lv_sub hl [1, 0, 2, 3, 4] rfl)
  exact hl_5_6 ((24 - 0 : Int).toNat + 1) 0 (-1) _ _ _ (Nat.lt_succ_self _) (by have lt0 : ((-1) : Int32).toInt = (-1) := (by decide); have lt1 : (0 : Int32).toInt = 0 := (by decide); first | omega | decide) (by have lt0 : ((-1) : Int32).toInt = (-1) := (by decide); have lt1 : (0 : Int32).toInt = 0 := (by decide); first | omega | decide) (by have lt0 : ((-1) : Int32).toInt = (-1) := (by decide); have lt1 : (0 : Int32).toInt = 0 := (by decide); first | omega | decide) (by have lt0 : ((-1) : Int32).toInt = (-1) := (by decide); have lt1 : (0 : Int32).toInt = 0 := (by decide); first | omega | decide) hw (lv_sub hl [0, 1, 2, 3, 4] rfl)
set_option maxHeartbeats 4000000 in
set_option maxRecDepth 100000 in
theorem s_X10_layCame (l : Launch) (D : va_G) (A : Nat → Nat → Nat) (cy : Nat → ClassId) (hJ : ti_inj ti_LM A) (M : ti_M) (hI : mI Tm M) (hF : mF Tm M) (z1 : Int32) : ti_Ki l yX10_layCame cX10_layCame 5 (some .int) 8 ti_LM D A cy M [.ref (A 60 0), .int z1] (fun r M2 => mI Tm M2 ∧ rw1 M2 M) := by
  refine ti_eI yp_X10_layCame hJ ti_LM_nd (Nat.le_of_ble_eq_true rfl) ?_
  intro p e s m args below meth c Q H0 C hQ hw ls hl
  have hx := C.1
  have hb := C.2.1
  have hl : lv_has ls 5 [(0, .ref (A 60 0)), (1, .int z1)] := hl
  have hL : mL M := hF.2.1
  have hC0 : mC M 0 := hF.2.2.1.1
  have hP0 : mP M 0 := hF.2.2.1.2
  refine lv_iconst (v := 0) hx hb dX10_layCame_0 (by decide) ?_
  refine lv_istore_n (lv' := [(2, .int 0), (0, .ref (A 60 0)), (1, .int z1)]) hx hb dX10_layCame_1 rfl hl (by decide) rfl (fun ls hl => ?_)
  have hl_2_5 : ∀ (n_6 : Nat) (x_1 : Int32) (M_4 : ti_M) (H : Heap) (locs : List Loc) (ls : Array Slot), (24 - x_1.toInt : Int).toNat < n_6 → (0 ≤ x_1.toInt) → (x_1.toInt ≤ 24) → (mI Tm M_4) → (rw1 M_4 M) → ti_H ti_LM D A cy H0 M_4 H locs → lv_has ls 5 [(2, .int x_1), (0, .ref (A 60 0)), (1, .int z1)] → W p l e (ti_rm 8) s m args below meth c H locs 0 0 Q (F0 m 2 ls []) := by
    intro n_6
    induction n_6 with
    | zero => intro x_1 M_4 H locs ls hf_6; exact absurd hf_6 (Nat.not_lt_zero _)
    | succ n_6 ih_6 =>
      intro x_1 M_4 H locs ls hf_6 b_2 b_3 iM_4 f_5 hw hl
      refine lv_iload_n hx hb dX10_layCame_2 rfl (lv_at hl 0 rfl) ?_
      refine lv_aload_n hx hb dX10_layCame_3 rfl (lv_at hl 1 rfl) ?_
      refine ti_callVi (ci := 10) (av := []) C hw (s_X10_knownMany l D A cy hJ M_4 iM_4 ) ⟨ml_X10_474, ym_X10_knownMany, yv_X10_knownMany, yi_X10_knownMany, yc_X10_knownMany⟩ yd_X10_knownMany ob_60 (by decide) rfl rfl hl.1 (Nat.le_of_ble_eq_true rfl) ⟨by decide, by decide⟩ ⟨Nat.zero_le _, Nat.zero_le _⟩ dX10_layCame_4 (fun r_7 M_8 H locs hp_8 hw => ?_)
      obtain ⟨hm, b0r_7, b1r_7⟩ := hp_8
      have hw := hw.to hm
      refine sb_icmp_ge (tgt := 23) hx hb rfl rfl dX10_layCame_7 (by decide) (fun c_7_8 => ?_) (fun c_7_8 => ?_)
      · refine lv_aload_n hx hb dX10_layCame_23 rfl (lv_at hl 1 rfl) ?_
        refine ti_callVi (ci := 10) (av := []) C hw (s_X10_knownMany l D A cy hJ M_4 iM_4 ) ⟨ml_X10_474, ym_X10_knownMany, yv_X10_knownMany, yi_X10_knownMany, yc_X10_knownMany⟩ yd_X10_knownMany ob_60 (by decide) rfl rfl hl.1 (Nat.le_of_ble_eq_true rfl) ⟨by decide, by decide⟩ ⟨Nat.zero_le _, Nat.zero_le _⟩ dX10_layCame_24 (fun r_12 M_13 H locs hp_13 hw => ?_)
        obtain ⟨hm, b0r_12, b1r_12⟩ := hp_13
        have hw := hw.to hm
        refine lv_iconst (v := 1) hx hb dX10_layCame_27 (by decide) ?_
        refine lv_isub hx hb dX10_layCame_28 ?_
        refine lv_topi (fun x_14 ex_14 => ?_)
        have tx_14 : x_14.toInt = r_12.toInt - 1 := i_sub ex_14 rfl (by decide : (1 : Int32).toInt = 1) (by omega) (by omega)
        refine lv_istore_n (lv' := [(2, .int x_14), (0, .ref (A 60 0)), (1, .int z1)]) hx hb dX10_layCame_29 rfl hl (by decide) rfl (fun ls hl => ?_)
        have hl_30_19 : ∀ (n_20 : Nat) (x_15 : Int32) (M_18 : ti_M) (H : Heap) (locs : List Loc) (ls : Array Slot), (x_15.toInt + 1 : Int).toNat < n_20 → ((-1) ≤ x_15.toInt) → (x_15.toInt ≤ 23) → (mI Tm M_18) → (rw1 M_18 M) → ti_H ti_LM D A cy H0 M_18 H locs → lv_has ls 5 [(2, .int x_15), (0, .ref (A 60 0)), (1, .int z1)] → W p l e (ti_rm 8) s m args below meth c H locs 0 0 Q (F0 m 30 ls []) := by
          intro n_20
          induction n_20 with
          | zero => intro x_15 M_18 H locs ls hf_20; exact absurd hf_20 (Nat.not_lt_zero _)
          | succ n_20 ih_20 =>
            intro x_15 M_18 H locs ls hf_20 b_16 b_17 iM_18 f_19 hw hl
            refine lv_iload_n hx hb dX10_layCame_30 rfl (lv_at hl 0 rfl) ?_
            refine sb_if_lt (tgt := 71) hx hb rfl dX10_layCame_31 (by decide) (fun c_31_20 => ?_) (fun c_31_20 => ?_)
            · refine lv_iconst (v := 0) hx hb dX10_layCame_71 (by decide) ?_
              refine lv_istore_n (lv' := [(2, .int 0), (0, .ref (A 60 0)), (1, .int z1)]) hx hb dX10_layCame_72 rfl hl (by decide) rfl (fun ls hl => ?_)
              refine lv_iconst (v := 0) hx hb dX10_layCame_73 (by decide) ?_
              refine lv_istore_n (lv' := [(3, .int 0), (2, .int 0), (0, .ref (A 60 0)), (1, .int z1)]) hx hb dX10_layCame_74 rfl hl (by decide) rfl (fun ls hl => ?_)
              have hl_75_35 : ∀ (n_36 : Nat) (x_30 : Int32) (x_33 : Int32) (M_34 : ti_M) (H : Heap) (locs : List Loc) (ls : Array Slot), (8 - x_30.toInt : Int).toNat < n_36 → (0 ≤ x_30.toInt) → (x_30.toInt ≤ 8) → (mI Tm M_34) → (rw1 M_34 M) → ti_H ti_LM D A cy H0 M_34 H locs → lv_has ls 5 [(3, .int x_30), (2, .int x_33), (0, .ref (A 60 0)), (1, .int z1)] → W p l e (ti_rm 8) s m args below meth c H locs 0 0 Q (F0 m 75 ls []) := by
                intro n_36
                induction n_36 with
                | zero => intro x_30 x_33 M_34 H locs ls hf_36; exact absurd hf_36 (Nat.not_lt_zero _)
                | succ n_36 ih_36 =>
                  intro x_30 x_33 M_34 H locs ls hf_36 b_31 b_32 iM_34 f_35 hw hl
                  refine lv_iload_n hx hb dX10_layCame_75 rfl (lv_at hl 0 rfl) ?_
                  refine lv_aload_n hx hb dX10_layCame_76 rfl (lv_at hl 2 rfl) ?_
                  refine ti_get (ci := 10) (k := 3) (N := 67) (T := TX10) (v := .ref (A 60 4)) C hw iw_10 rfl ob_60 (by decide) (by decide) fl_X10_13 rfl rfl dX10_layCame_77 ?_
                  refine lv_iconst (v := 0) hx hb dX10_layCame_80 (by decide) ?_
                  refine ti_iald (ci := 10) (k := 3) (n := 22) C hw ob_60 (by decide) (fun _ _ => rfl) (by unfold vp_in; decide) dX10_layCame_81 ?_
                  refine lv_topi (fun x_37 ex_37 => ?_)
                  have yx_37 : tY M_34 60 3 0 = x_37 := ((congrArg _ (by decide)).symm.trans ex_37.symm)
                  have bx_37 : 0 ≤ x_37.toInt ∧ x_37.toInt ≤ 8 := mI_rn (i := 0) iM_34 yx_37.symm (fun _ h => h)
                  have zx_37 : (tY M_34 60 3 0).toInt = x_37.toInt := by rw [yx_37]
                  have wx_37 : tY M 60 3 0 = x_37 := ((cg (f_35.1 3 (by decide) (by decide)) 0)).symm.trans yx_37
                  have zwx_37 : (tY M 60 3 0).toInt = x_37.toInt := by rw [wx_37]
                  refine sb_icmp_ge (tgt := 139) hx hb rfl rfl dX10_layCame_82 (by decide) (fun c_82_37 => ?_) (fun c_82_37 => ?_)
                  · refine lv_iload_n hx hb dX10_layCame_139 rfl (lv_at hl 1 rfl) ?_
                    exact hQ _ _ _ _ _ _ hw rfl (⟨iM_34, f_35⟩) dX10_layCame_140
                  · refine lv_iconst (v := 0) hx hb dX10_layCame_85 (by decide) ?_
                    refine lv_istore (lv' := [(4, .int 0), (3, .int x_30), (2, .int x_33), (0, .ref (A 60 0)), (1, .int z1)]) hx hb dX10_layCame_86 hl (by decide) rfl (fun ls hl => ?_)
                    have hl_88_44 : ∀ (n_45 : Nat) (x_39 : Int32) (x_42 : Int32) (M_43 : ti_M) (H : Heap) (locs : List Loc) (ls : Array Slot), (60 - x_39.toInt : Int).toNat < n_45 → (0 ≤ x_39.toInt) → (x_39.toInt ≤ 60) → (mI Tm M_43) → (rw1 M_43 M) → ti_H ti_LM D A cy H0 M_43 H locs → lv_has ls 5 [(4, .int x_39), (3, .int x_30), (2, .int x_42), (0, .ref (A 60 0)), (1, .int z1)] → W p l e (ti_rm 8) s m args below meth c H locs 0 0 Q (F0 m 88 ls []) := by
                      intro n_45
                      induction n_45 with
                      | zero => intro x_39 x_42 M_43 H locs ls hf_45; exact absurd hf_45 (Nat.not_lt_zero _)
                      | succ n_45 ih_45 =>
                        intro x_39 x_42 M_43 H locs ls hf_45 b_40 b_41 iM_43 f_44 hw hl
                        refine lv_iload hx hb dX10_layCame_88 (lv_at hl 0 rfl) ?_
                        refine lv_bipush (v := 59) hx hb dX10_layCame_90 (by decide) ?_
                        refine sb_icmp_gt (tgt := 133) hx hb rfl (by decide : (59 : Int32).toInt = 59) dX10_layCame_92 (by decide) (fun c_92_45 => ?_) (fun c_92_45 => ?_)
                        · obtain ⟨x_61, ex_61⟩ : ∃ z : Int32, z = x_30 + 1 := ⟨_, rfl⟩
                          have tx_61 : x_61.toInt = x_30.toInt + 1 := i_add ex_61 rfl (by decide) (by omega) (by omega)
                          refine lv_iinc (v := x_61) (lv' := [(3, .int x_61), (4, .int x_39), (2, .int x_42), (0, .ref (A 60 0)), (1, .int z1)]) hx hb dX10_layCame_133 hl (k := 1) rfl (by rw [ex_61]; rfl) (by decide) rfl (fun ls hl => ?_)
                          refine lv_goto (tgt := 75) hx hb dX10_layCame_136 (by decide) ?_
                          exact ih_36 x_61 x_42 M_43 _ _ _ (by omega) (by first | omega | decide) (by first | omega | decide) iM_43 f_44 hw (lv_sub hl [0, 2, 3, 4] rfl)
                        · refine lv_aload_n hx hb dX10_layCame_95 rfl (lv_at hl 3 rfl) ?_
                          refine lv_iload_n hx hb dX10_layCame_96 rfl (lv_at hl 1 rfl) ?_
                          refine lv_iload hx hb dX10_layCame_97 (lv_at hl 0 rfl) ?_
                          refine ti_callVi (ci := 10) (av := [.int x_30, .int x_39]) C hw (s_X10_isWay l D A cy hJ M_43 iM_43 (mF_rw hF iM_43 f_44) x_30 x_39 (by first | omega | decide) (by first | omega | decide)) ⟨ml_X10_479, ym_X10_isWay, yv_X10_isWay, yi_X10_isWay, yc_X10_isWay⟩ yd_X10_isWay ob_60 (by decide) rfl rfl hl.1 (Nat.le_of_ble_eq_true rfl) ⟨by decide, by decide⟩ ⟨Nat.zero_le _, Nat.zero_le _⟩ dX10_layCame_99 (fun r_47 M_48 H locs hp_48 hw => ?_)
                          obtain ⟨iM_48, q_49, b0r_47, b1r_47⟩ := hp_48
                          have hj_127_59 : ∀ (x_57 : Int32) (M_58 : ti_M) (H : Heap) (locs : List Loc) (ls : Array Slot), (mI Tm M_58) → (rw1 M_58 M) → ti_H ti_LM D A cy H0 M_58 H locs → lv_has ls 5 [(4, .int x_39), (3, .int x_30), (2, .int x_57), (0, .ref (A 60 0)), (1, .int z1)] → W p l e (ti_rm 8) s m args below meth c H locs 0 0 Q (F0 m 127 ls []) := by
                            intro x_57 M_58 H locs ls iM_58 f_59 hw hl
                            obtain ⟨x_60, ex_60⟩ : ∃ z : Int32, z = x_39 + 1 := ⟨_, rfl⟩
                            have tx_60 : x_60.toInt = x_39.toInt + 1 := i_add ex_60 rfl (by decide) (by omega) (by omega)
                            refine lv_iinc (v := x_60) (lv' := [(4, .int x_60), (3, .int x_30), (2, .int x_57), (0, .ref (A 60 0)), (1, .int z1)]) hx hb dX10_layCame_127 hl (k := 0) rfl (by rw [ex_60]; rfl) (by decide) rfl (fun ls hl => ?_)
                            refine lv_goto (tgt := 88) hx hb dX10_layCame_130 (by decide) ?_
                            exact ih_45 x_60 x_57 M_58 _ _ _ (by omega) (by first | omega | decide) (by first | omega | decide) iM_58 f_59 hw (lv_sub hl [0, 1, 2, 3, 4] rfl)
                          refine sb_if_ne (tgt := 108) hx hb rfl dX10_layCame_102 (by decide) (fun c_102_49 => ?_) (fun c_102_49 => ?_)
                          · refine lv_iload_n hx hb dX10_layCame_108 rfl (lv_at hl 2 rfl) ?_
                            refine lv_iload_n hx hb dX10_layCame_109 rfl (lv_at hl 4 rfl) ?_
                            have hj_124_55 : ∀ (M_54 : ti_M) (H : Heap) (locs : List Loc) (ls : Array Slot), (mI Tm M_54) → (rw1 M_54 M) → ti_H ti_LM D A cy H0 M_54 H locs → lv_has ls 5 [(4, .int x_39), (3, .int x_30), (2, .int x_42), (0, .ref (A 60 0)), (1, .int z1)] → W p l e (ti_rm 8) s m args below meth c H locs 0 0 Q (F0 m 124 ls []) := by
                              intro M_54 H locs ls iM_54 f_55 hw hl
                              obtain ⟨x_56, ex_56⟩ : ∃ z : Int32, z = x_42 + 1 := ⟨_, rfl⟩
                              refine lv_iinc (v := x_56) (lv' := [(2, .int x_56), (4, .int x_39), (3, .int x_30), (0, .ref (A 60 0)), (1, .int z1)]) hx hb dX10_layCame_124 hl (k := 2) rfl (by rw [ex_56]; rfl) (by decide) rfl (fun ls hl => ?_)
                              exact hj_127_59 x_56 M_54 _ _ _ iM_54 f_55 hw (lv_sub hl [1, 2, 0, 3, 4] rfl)
                            refine sb_icmp_ne (tgt := 124) hx hb rfl rfl dX10_layCame_110 (by decide) (fun c_110_50 => ?_) (fun c_110_50 => ?_)
                            · exact hj_124_55 M_48 _ _ _ iM_48 (rw1.trans q_49 f_44) hw (lv_sub hl [0, 1, 2, 3, 4] rfl)
                            · refine lv_aload_n hx hb dX10_layCame_113 rfl (lv_at hl 3 rfl) ?_
                              refine lv_iload_n hx hb dX10_layCame_114 rfl (lv_at hl 1 rfl) ?_
                              refine ti_putI (ci := 10) (k := 65) (N := 67) (T := TX10) C hw iw_10 tyX10 tyX10_ok nmX10 rfl ob_60 (by decide) (by decide) fl_X10_482 rfl rfl rfl rfl (fn_10 A _) fs_10_65 dX10_layCame_115 (fun H locs hw => ?_)
                              obtain ⟨M_52, hM_52⟩ : ∃ z : ti_M, z = uI M_48 60 65 x_30 := ⟨_, rfl⟩
                              have hw := hw.to hM_52.symm
                              have iM_52 : mI Tm M_52 := mI_uI iM_48 hM_52 (by decide) (by decide) trivial
                              refine lv_aload_n hx hb dX10_layCame_118 rfl (lv_at hl 3 rfl) ?_
                              refine lv_iload hx hb dX10_layCame_119 (lv_at hl 0 rfl) ?_
                              refine ti_putI (ci := 10) (k := 66) (N := 67) (T := TX10) C hw iw_10 tyX10 tyX10_ok nmX10 rfl ob_60 (by decide) (by decide) fl_X10_485 rfl rfl rfl rfl (fn_10 A _) fs_10_66 dX10_layCame_121 (fun H locs hw => ?_)
                              obtain ⟨M_53, hM_53⟩ : ∃ z : ti_M, z = uI M_52 60 66 x_39 := ⟨_, rfl⟩
                              have hw := hw.to hM_53.symm
                              have iM_53 : mI Tm M_53 := mI_uI iM_52 hM_53 (by decide) (by decide) trivial
                              exact hj_124_55 M_53 _ _ _ iM_53 (rw1.trans (rw1_qw (qw_I hM_53 (by decide))) (rw1.trans (rw1_qw (qw_I hM_52 (by decide))) (rw1.trans q_49 f_44))) hw (lv_sub hl [0, 1, 2, 3, 4] rfl)
                          · refine lv_goto (tgt := 127) hx hb dX10_layCame_105 (by decide) ?_
                            exact hj_127_59 x_42 M_48 _ _ _ iM_48 (rw1.trans q_49 f_44) hw (lv_sub hl [0, 1, 2, 3, 4] rfl)
                    exact hl_88_44 ((60 - 0 : Int).toNat + 1) 0 x_33 M_34 _ _ _ (Nat.lt_succ_self _) (by have lt0 : (0 : Int32).toInt = 0 := (by decide); first | omega | decide) (by have lt0 : (0 : Int32).toInt = 0 := (by decide); first | omega | decide) iM_34 f_35 hw (lv_sub hl [0, 1, 2, 3, 4] rfl)
              exact hl_75_35 ((8 - 0 : Int).toNat + 1) 0 0 M_18 _ _ _ (Nat.lt_succ_self _) (by have lt0 : (0 : Int32).toInt = 0 := (by decide); first | omega | decide) (by have lt0 : (0 : Int32).toInt = 0 := (by decide); first | omega | decide) iM_18 f_19 hw (lv_sub hl [0, 1, 2, 3] rfl)
            · refine lv_aload_n hx hb dX10_layCame_34 rfl (lv_at hl 1 rfl) ?_
              refine ti_get (ci := 10) (k := 64) (N := 67) (T := TX10) (v := .ref (A 60 65)) C hw iw_10 rfl ob_60 (by decide) (by decide) fl_X10_147 rfl rfl dX10_layCame_35 ?_
              refine lv_iload_n hx hb dX10_layCame_38 rfl (lv_at hl 0 rfl) ?_
              refine ti_zald (ci := 10) (k := 64) (n := 24) C hw ob_60 (by decide) (fun _ _ => rfl) (vp_in_iff.mpr (by omega)) dX10_layCame_39 ?_
              refine lv_topi (fun x_22 ex_22 => ?_)
              have hj_65_28 : ∀ (M_27 : ti_M) (H : Heap) (locs : List Loc) (ls : Array Slot), (mI Tm M_27) → (rw1 M_27 M) → ti_H ti_LM D A cy H0 M_27 H locs → lv_has ls 5 [(2, .int x_15), (0, .ref (A 60 0)), (1, .int z1)] → W p l e (ti_rm 8) s m args below meth c H locs 0 0 Q (F0 m 65 ls []) := by
                intro M_27 H locs ls iM_27 f_28 hw hl
                obtain ⟨x_29, ex_29⟩ : ∃ z : Int32, z = x_15 + (-1) := ⟨_, rfl⟩
                have tx_29 : x_29.toInt = x_15.toInt + (-1) := i_add ex_29 rfl (by decide) (by omega) (by omega)
                refine lv_iinc (v := x_29) (lv' := [(2, .int x_29), (0, .ref (A 60 0)), (1, .int z1)]) hx hb dX10_layCame_65 hl (k := 0) rfl (by rw [ex_29]; rfl) (by decide) rfl (fun ls hl => ?_)
                refine lv_goto (tgt := 30) hx hb dX10_layCame_68 (by decide) ?_
                exact ih_20 x_29 M_27 _ _ _ (by omega) (by first | omega | decide) (by first | omega | decide) iM_27 f_28 hw (lv_sub hl [0, 1, 2] rfl)
              refine sb_if_ne (tgt := 65) hx hb rfl dX10_layCame_40 (by decide) (fun c_40_22 => ?_) (fun c_40_22 => ?_)
              · exact hj_65_28 M_18 _ _ _ iM_18 f_19 hw (lv_sub hl [0, 1, 2] rfl)
              · refine lv_aload_n hx hb dX10_layCame_43 rfl (lv_at hl 1 rfl) ?_
                refine ti_get (ci := 10) (k := 63) (N := 67) (T := TX10) (v := .ref (A 60 64)) C hw iw_10 rfl ob_60 (by decide) (by decide) fl_X10_144 rfl rfl dX10_layCame_44 ?_
                refine lv_iload_n hx hb dX10_layCame_47 rfl (lv_at hl 0 rfl) ?_
                refine ti_iald (ci := 10) (k := 63) (n := 24) C hw ob_60 (by decide) (fun _ _ => rfl) (vp_in_iff.mpr (by omega)) dX10_layCame_48 ?_
                refine lv_topi (fun x_24 ex_24 => ?_)
                have yx_24 : tY M_18 60 63 x_15.toNatClampNeg = x_24 := (ex_24.symm)
                have bx_24 : (-1) ≤ x_24.toInt ∧ x_24.toInt ≤ 23 := mI_ry (k := 63) (i := x_15.toNatClampNeg) iM_18 yx_24.symm
                refine lv_iconst (v := (-1)) hx hb dX10_layCame_49 (by decide) ?_
                refine sb_icmp_eq (tgt := 65) hx hb rfl (by decide : ((-1) : Int32).toInt = (-1)) dX10_layCame_50 (by decide) (fun c_50_24 => ?_) (fun c_50_24 => ?_)
                · exact hj_65_28 M_18 _ _ _ iM_18 f_19 hw (lv_sub hl [0, 1, 2] rfl)
                · refine lv_aload_n hx hb dX10_layCame_53 rfl (lv_at hl 1 rfl) ?_
                  refine ti_get (ci := 10) (k := 64) (N := 67) (T := TX10) (v := .ref (A 60 65)) C hw iw_10 rfl ob_60 (by decide) (by decide) fl_X10_147 rfl rfl dX10_layCame_54 ?_
                  refine lv_aload_n hx hb dX10_layCame_57 rfl (lv_at hl 1 rfl) ?_
                  refine ti_get (ci := 10) (k := 63) (N := 67) (T := TX10) (v := .ref (A 60 64)) C hw iw_10 rfl ob_60 (by decide) (by decide) fl_X10_144 rfl rfl dX10_layCame_58 ?_
                  refine lv_iload_n hx hb dX10_layCame_61 rfl (lv_at hl 0 rfl) ?_
                  refine ti_iald (ci := 10) (k := 63) (n := 24) C hw ob_60 (by decide) (fun _ _ => rfl) (vp_in_iff.mpr (by omega)) dX10_layCame_62 ?_
                  refine ti_top (y := x_24) ((yx_24)) ?_
                  refine lv_iconst (v := 1) hx hb dX10_layCame_63 (by decide) ?_
                  refine ti_zast (ci := 10) (k := 64) (n := 24) C hw ob_60 (by decide) (fun _ _ => rfl) (vp_in_iff.mpr (by omega)) dX10_layCame_64 (fun H locs hw => ?_)
                  obtain ⟨M_26, hM_26⟩ : ∃ z : ti_M, z = uY M_18 60 64 (upd (tY M_18 60 64) (x_24 : Int32).toNatClampNeg (vp_nar .boolean 1)) := ⟨_, rfl⟩
                  have hw := hw.to hM_26.symm
                  have iM_26 : mI Tm M_26 := mI_up (i := x_24.toNatClampNeg) iM_18 hM_26 trivial
                  exact hj_65_28 M_26 _ _ _ iM_26 (rw1.trans (rw1_qw (qw_Y hM_26 (by decide))) f_19) hw (lv_sub hl [0, 1, 2] rfl)
        exact hl_30_19 ((x_14.toInt + 1 : Int).toNat + 1) x_14 M_4 _ _ _ (Nat.lt_succ_self _) (by first | omega | decide) (by first | omega | decide) iM_4 f_5 hw (lv_sub hl [0, 1, 2] rfl)
      · refine lv_aload_n hx hb dX10_layCame_10 rfl (lv_at hl 1 rfl) ?_
        refine ti_get (ci := 10) (k := 64) (N := 67) (T := TX10) (v := .ref (A 60 65)) C hw iw_10 rfl ob_60 (by decide) (by decide) fl_X10_147 rfl rfl dX10_layCame_11 ?_
        refine lv_iload_n hx hb dX10_layCame_14 rfl (lv_at hl 0 rfl) ?_
        refine lv_iconst (v := 0) hx hb dX10_layCame_15 (by decide) ?_
        refine ti_zast (ci := 10) (k := 64) (n := 24) C hw ob_60 (by decide) (fun _ _ => rfl) (vp_in_iff.mpr (by omega)) dX10_layCame_16 (fun H locs hw => ?_)
        obtain ⟨M_10, hM_10⟩ : ∃ z : ti_M, z = uY M_4 60 64 (upd (tY M_4 60 64) (x_1 : Int32).toNatClampNeg (vp_nar .boolean 0)) := ⟨_, rfl⟩
        have hw := hw.to hM_10.symm
        have iM_10 : mI Tm M_10 := mI_up (i := x_1.toNatClampNeg) iM_4 hM_10 trivial
        obtain ⟨x_11, ex_11⟩ : ∃ z : Int32, z = x_1 + 1 := ⟨_, rfl⟩
        have tx_11 : x_11.toInt = x_1.toInt + 1 := i_add ex_11 rfl (by decide) (by omega) (by omega)
        refine lv_iinc (v := x_11) (lv' := [(2, .int x_11), (0, .ref (A 60 0)), (1, .int z1)]) hx hb dX10_layCame_17 hl (k := 0) rfl (by rw [ex_11]; rfl) (by decide) rfl (fun ls hl => ?_)
        refine lv_goto (tgt := 2) hx hb dX10_layCame_20 (by decide) ?_
        exact ih_6 x_11 M_10 _ _ _ (by omega) (by first | omega | decide) (by first | omega | decide) iM_10 (rw1.trans (rw1_qw (qw_Y hM_10 (by decide))) f_5) hw (lv_sub hl [0, 1, 2] rfl)
  exact hl_2_5 ((24 - 0 : Int).toNat + 1) 0 M _ _ _ (Nat.lt_succ_self _) (by have lt0 : (0 : Int32).toInt = 0 := (by decide); first | omega | decide) (by have lt0 : (0 : Int32).toInt = 0 := (by decide); first | omega | decide) hI rw1.refl hw (lv_sub hl [0, 1, 2] rfl)
set_option maxHeartbeats 4000000 in
set_option maxRecDepth 100000 in
theorem s_X10_came (l : Launch) (D : va_G) (A : Nat → Nat → Nat) (cy : Nat → ClassId) (hJ : ti_inj ti_LM A) (M : ti_M) (hI : mI Tm M) (hF : mF Tm M) : ti_Ki l yX10_came cX10_came 1 (some .int) 9 ti_LM D A cy M [.ref (A 60 0)] (fun r M2 => mF Tm M2 ∧ tI M2 60 2 = tI M 60 2 ∧ lw M2 M) := by
  refine ti_eI yp_X10_came hJ ti_LM_nd (Nat.le_of_ble_eq_true rfl) ?_
  intro p e s m args below meth c Q H0 C hQ hw ls hl
  have hx := C.1
  have hb := C.2.1
  have hl : lv_has ls 1 [(0, .ref (A 60 0))] := hl
  have hL : mL M := hF.2.1
  have hC0 : mC M 0 := hF.2.2.1.1
  have hP0 : mP M 0 := hF.2.2.1.2
  refine lv_aload_n hx hb dX10_came_0 rfl (lv_at hl 0 rfl) ?_
  refine lv_iconst (v := 0) hx hb dX10_came_1 (by decide) ?_
  refine ti_putI (ci := 10) (k := 0) (N := 67) (T := TX10) C hw iw_10 tyX10 tyX10_ok nmX10 rfl ob_60 (by decide) (by decide) fl_X10_154 rfl rfl rfl rfl (fn_10 A _) fs_10_0 dX10_came_2 (fun H locs hw => ?_)
  obtain ⟨M_1, hM_1⟩ : ∃ z : ti_M, z = uI M 60 0 0 := ⟨_, rfl⟩
  have hw := hw.to hM_1.symm
  have iM_1 : mI Tm M_1 := mI_uI hI hM_1 (by decide) (by decide) trivial
  refine lv_aload_n hx hb dX10_came_5 rfl (lv_at hl 0 rfl) ?_
  refine lv_iconst (v := (-1)) hx hb dX10_came_6 (by decide) ?_
  refine ti_callVi (ci := 10) (av := [.int (-1)]) C hw (s_X10_layCame l D A cy hJ M_1 iM_1 (mF_rw hF iM_1 (rw1_qw (qw_I hM_1 (by decide)))) (-1)) ⟨ml_X10_488, ym_X10_layCame, yv_X10_layCame, yi_X10_layCame, yc_X10_layCame⟩ yd_X10_layCame ob_60 (by decide) rfl rfl hl.1 (Nat.le_of_ble_eq_true rfl) ⟨by decide, by decide⟩ ⟨Nat.zero_le _, Nat.zero_le _⟩ dX10_came_7 (fun r_2 M_3 H locs hp_3 hw => ?_)
  obtain ⟨iM_3, q_4⟩ := hp_3
  exact hQ _ _ _ _ _ _ hw rfl (⟨mF_rw hF iM_3 (rw1.trans q_4 (rw1_qw (qw_I hM_1 (by decide)))), (rw1.trans q_4 (rw1_qw (qw_I hM_1 (by decide)))).2.1.1, (rw1.trans q_4 (rw1_qw (qw_I hM_1 (by decide)))).1⟩) dX10_came_10
set_option maxHeartbeats 4000000 in
set_option maxRecDepth 100000 in
theorem s_X10_one (l : Launch) (D : va_G) (A : Nat → Nat → Nat) (cy : Nat → ClassId) (hJ : ti_inj ti_LM A) (M : ti_M) (hI : mI Tm M) (hF : mF Tm M) (z1 : Int32) (z2 : Int32) : ti_Ki l yX10_one cX10_one 3 (some .int) 9 ti_LM D A cy M [.ref (A 60 0), .int z1, .int z2] (fun r M2 => mF Tm M2 ∧ tI M2 60 2 = tI M 60 2 ∧ lw M2 M) := by
  refine ti_eI yp_X10_one hJ ti_LM_nd (Nat.le_of_ble_eq_true rfl) ?_
  intro p e s m args below meth c Q H0 C hQ hw ls hl
  have hx := C.1
  have hb := C.2.1
  have hl : lv_has ls 3 [(0, .ref (A 60 0)), (1, .int z1), (2, .int z2)] := hl
  have hL : mL M := hF.2.1
  have hC0 : mC M 0 := hF.2.2.1.1
  have hP0 : mP M 0 := hF.2.2.1.2
  refine lv_aload_n hx hb dX10_one_0 rfl (lv_at hl 0 rfl) ?_
  refine lv_iconst (v := 0) hx hb dX10_one_1 (by decide) ?_
  refine ti_putI (ci := 10) (k := 0) (N := 67) (T := TX10) C hw iw_10 tyX10 tyX10_ok nmX10 rfl ob_60 (by decide) (by decide) fl_X10_154 rfl rfl rfl rfl (fn_10 A _) fs_10_0 dX10_one_2 (fun H locs hw => ?_)
  obtain ⟨M_1, hM_1⟩ : ∃ z : ti_M, z = uI M 60 0 0 := ⟨_, rfl⟩
  have hw := hw.to hM_1.symm
  have iM_1 : mI Tm M_1 := mI_uI hI hM_1 (by decide) (by decide) trivial
  refine lv_iload_n hx hb dX10_one_5 rfl (lv_at hl 1 rfl) ?_
  have hj_18_4 : ∀  (H : Heap) (locs : List Loc) (ls : Array Slot), ti_H ti_LM D A cy H0 M_1 H locs → lv_has ls 3 [(0, .ref (A 60 0)), (1, .int z1), (2, .int z2)] → W p l e (ti_rm 9) s m args below meth c H locs 0 0 Q (F0 m 18 ls []) := by
    intro  H locs ls  hw hl
    refine lv_iconst (v := (-1)) hx hb dX10_one_18 (by decide) ?_
    exact hQ _ _ _ _ _ _ hw rfl (⟨mF_rw hF iM_1 (rw1_qw (qw_I hM_1 (by decide))), (rw1_qw (qw_I hM_1 (by decide))).2.1.1, (rw1_qw (qw_I hM_1 (by decide))).1⟩) dX10_one_19
  refine sb_if_lt (tgt := 18) hx hb rfl dX10_one_6 (by decide) (fun c_6_1 => ?_) (fun c_6_1 => ?_)
  · exact hj_18_4  _ _ _  hw (lv_sub hl [0, 1, 2] rfl)
  · refine lv_iload_n hx hb dX10_one_9 rfl (lv_at hl 2 rfl) ?_
    refine sb_if_lt (tgt := 18) hx hb rfl dX10_one_10 (by decide) (fun c_10_2 => ?_) (fun c_10_2 => ?_)
    · exact hj_18_4  _ _ _  hw (lv_sub hl [0, 1, 2] rfl)
    · refine lv_iload_n hx hb dX10_one_13 rfl (lv_at hl 2 rfl) ?_
      refine lv_iconst (v := 1) hx hb dX10_one_14 (by decide) ?_
      refine sb_icmp_le (tgt := 20) hx hb rfl (by decide : (1 : Int32).toInt = 1) dX10_one_15 (by decide) (fun c_15_3 => ?_) (fun c_15_3 => ?_)
      · refine lv_iload_n hx hb dX10_one_20 rfl (lv_at hl 1 rfl) ?_
        refine lv_aload_n hx hb dX10_one_21 rfl (lv_at hl 0 rfl) ?_
        refine lv_iload_n hx hb dX10_one_22 rfl (lv_at hl 1 rfl) ?_
        refine ti_callVi (ci := 10) (av := [.int z1]) C hw (s_X10_layCame l D A cy hJ M_1 iM_1 (mF_rw hF iM_1 (rw1_qw (qw_I hM_1 (by decide)))) z1) ⟨ml_X10_488, ym_X10_layCame, yv_X10_layCame, yi_X10_layCame, yc_X10_layCame⟩ yd_X10_layCame ob_60 (by decide) rfl rfl hl.1 (Nat.le_of_ble_eq_true rfl) ⟨by decide, by decide⟩ ⟨Nat.zero_le _, Nat.zero_le _⟩ dX10_one_23 (fun r_5 M_6 H locs hp_6 hw => ?_)
        obtain ⟨iM_6, q_7⟩ := hp_6
        refine sb_icmp_lt (tgt := 32) hx hb rfl rfl dX10_one_26 (by decide) (fun c_26_7 => ?_) (fun c_26_7 => ?_)
        · refine lv_iload_n hx hb dX10_one_32 rfl (lv_at hl 2 rfl) ?_
          refine sb_if_ne (tgt := 43) hx hb rfl dX10_one_33 (by decide) (fun c_33_8 => ?_) (fun c_33_8 => ?_)
          · refine lv_aload_n hx hb dX10_one_43 rfl (lv_at hl 0 rfl) ?_
            refine ti_get (ci := 10) (k := 66) (N := 67) (T := TX10) C hw iw_10 rfl ob_60 (by decide) (by decide) fl_X10_485 rfl rfl dX10_one_44 ?_
            refine lv_topi (fun x_11 ex_11 => ?_)
            exact hQ _ _ _ _ _ _ hw rfl (⟨mF_rw hF iM_6 (rw1.trans q_7 (rw1_qw (qw_I hM_1 (by decide)))), (rw1.trans q_7 (rw1_qw (qw_I hM_1 (by decide)))).2.1.1, (rw1.trans q_7 (rw1_qw (qw_I hM_1 (by decide)))).1⟩) dX10_one_47
          · refine lv_aload_n hx hb dX10_one_36 rfl (lv_at hl 0 rfl) ?_
            refine ti_get (ci := 10) (k := 65) (N := 67) (T := TX10) C hw iw_10 rfl ob_60 (by decide) (by decide) fl_X10_482 rfl rfl dX10_one_37 ?_
            refine lv_topi (fun x_10 ex_10 => ?_)
            refine lv_goto (tgt := 47) hx hb dX10_one_40 (by decide) ?_
            exact hQ _ _ _ _ _ _ hw rfl (⟨mF_rw hF iM_6 (rw1.trans q_7 (rw1_qw (qw_I hM_1 (by decide)))), (rw1.trans q_7 (rw1_qw (qw_I hM_1 (by decide)))).2.1.1, (rw1.trans q_7 (rw1_qw (qw_I hM_1 (by decide)))).1⟩) dX10_one_47
        · refine lv_bipush (v := (-2)) hx hb dX10_one_29 (by decide) ?_
          exact hQ _ _ _ _ _ _ hw rfl (⟨mF_rw hF iM_6 (rw1.trans q_7 (rw1_qw (qw_I hM_1 (by decide)))), (rw1.trans q_7 (rw1_qw (qw_I hM_1 (by decide)))).2.1.1, (rw1.trans q_7 (rw1_qw (qw_I hM_1 (by decide)))).1⟩) dX10_one_31
      · exact hj_18_4  _ _ _  hw (lv_sub hl [0, 1, 2] rfl)
set_option maxHeartbeats 4000000 in
set_option maxRecDepth 100000 in
theorem s_X10_gain (l : Launch) (D : va_G) (A : Nat → Nat → Nat) (cy : Nat → ClassId) (hJ : ti_inj ti_LM A) (M : ti_M) (hI : mI Tm M) (hF : mF Tm M) (z1 : Int32) (z2 : Int32) : ti_Ki l yX10_gain cX10_gain 6 (some .int) 8 ti_LM D A cy M [.ref (A 60 0), .int z1, .int z2] (fun r M2 => mF Tm M2 ∧ tI M2 60 2 = tI M 60 2 ∧ lw M2 M) := by
  refine ti_eI yp_X10_gain hJ ti_LM_nd (Nat.le_of_ble_eq_true rfl) ?_
  intro p e s m args below meth c Q H0 C hQ hw ls hl
  have hx := C.1
  have hb := C.2.1
  have hl : lv_has ls 6 [(0, .ref (A 60 0)), (1, .int z1), (2, .int z2)] := hl
  have hL : mL M := hF.2.1
  have hC0 : mC M 0 := hF.2.2.1.1
  have hP0 : mP M 0 := hF.2.2.1.2
  refine lv_aload_n hx hb dX10_gain_0 rfl (lv_at hl 0 rfl) ?_
  refine lv_iconst (v := 0) hx hb dX10_gain_1 (by decide) ?_
  refine ti_putI (ci := 10) (k := 0) (N := 67) (T := TX10) C hw iw_10 tyX10 tyX10_ok nmX10 rfl ob_60 (by decide) (by decide) fl_X10_154 rfl rfl rfl rfl (fn_10 A _) fs_10_0 dX10_gain_2 (fun H locs hw => ?_)
  obtain ⟨M_1, hM_1⟩ : ∃ z : ti_M, z = uI M 60 0 0 := ⟨_, rfl⟩
  have hw := hw.to hM_1.symm
  have iM_1 : mI Tm M_1 := mI_uI hI hM_1 (by decide) (by decide) trivial
  refine lv_iload_n hx hb dX10_gain_5 rfl (lv_at hl 1 rfl) ?_
  refine ti_callSi (av := [.int z1]) C hw (s_X10_isPlace l D A cy hJ M_1 iM_1 z1) ⟨ml_X10_414, ys_X10_isPlace, yi_X10_isPlace, yc_X10_isPlace⟩ yd_X10_isPlace rfl hl.1 (Nat.le_of_ble_eq_true rfl) ⟨by decide, by decide⟩ ⟨Nat.zero_le _, Nat.zero_le _⟩ dX10_gain_6 (fun r_2 M_3 H locs hp_3 hw => ?_)
  obtain ⟨hm, hz⟩ := hp_3
  have hw := hw.to hm
  have hj_30_13 : ∀  (H : Heap) (locs : List Loc) (ls : Array Slot), ti_H ti_LM D A cy H0 M_1 H locs → lv_has ls 6 [(0, .ref (A 60 0)), (1, .int z1), (2, .int z2)] → W p l e (ti_rm 8) s m args below meth c H locs 0 0 Q (F0 m 30 ls []) := by
    intro  H locs ls  hw hl
    refine lv_iconst (v := (-1)) hx hb dX10_gain_30 (by decide) ?_
    exact hQ _ _ _ _ _ _ hw rfl (⟨mF_rw hF iM_1 (rw1_qw (qw_I hM_1 (by decide))), (rw1_qw (qw_I hM_1 (by decide))).2.1.1, (rw1_qw (qw_I hM_1 (by decide))).1⟩) dX10_gain_31
  rcases hz with ⟨rfl, d0_4, d1_4⟩ | rfl
  · refine sb_if_eq (tgt := 30) hx hb (by decide : (1 : Int32).toInt = 1) dX10_gain_9 (by decide) (fun h => absurd h (by decide)) (fun c_9_4 => ?_)
    refine lv_iload_n hx hb dX10_gain_12 rfl (lv_at hl 1 rfl) ?_
    refine lv_aload_n hx hb dX10_gain_13 rfl (lv_at hl 0 rfl) ?_
    refine ti_get (ci := 10) (k := 38) (N := 67) (T := TX10) (v := .ref (A 60 39)) C hw iw_10 rfl ob_60 (by decide) (by decide) fl_X10_81 rfl rfl dX10_gain_14 ?_
    refine lv_iconst (v := 0) hx hb dX10_gain_17 (by decide) ?_
    refine ti_iald (ci := 10) (k := 38) (n := 23) C hw ob_60 (by decide) (fun _ _ => rfl) (by unfold vp_in; decide) dX10_gain_18 ?_
    refine lv_topi (fun x_7 ex_7 => ?_)
    have yx_7 : tY M_1 60 38 0 = x_7 := ((congrArg _ (by decide)).symm.trans ex_7.symm)
    have bx_7 : 0 ≤ x_7.toInt ∧ x_7.toInt ≤ 8 := mI_ry (k := 38) (i := 0) iM_1 yx_7.symm
    have zx_7 : (tY M_1 60 38 0).toInt = x_7.toInt := by rw [yx_7]
    have wx_7 : tY M 60 38 0 = x_7 := ((cg (tY_uIE hM_1) 0)).symm.trans yx_7
    have zwx_7 : (tY M 60 38 0).toInt = x_7.toInt := by rw [wx_7]
    refine sb_icmp_ge (tgt := 30) hx hb rfl rfl dX10_gain_19 (by decide) (fun c_19_7 => ?_) (fun c_19_7 => ?_)
    · exact hj_30_13  _ _ _  hw (lv_sub hl [0, 1, 2] rfl)
    · refine lv_aload_n hx hb dX10_gain_22 rfl (lv_at hl 0 rfl) ?_
      refine lv_iload_n hx hb dX10_gain_23 rfl (lv_at hl 2 rfl) ?_
      refine ti_callVi (ci := 10) (av := [.int z2]) C hw (s_X10_isLong l D A cy hJ M_1 iM_1 z2) ⟨ml_X10_461, ym_X10_isLong, yv_X10_isLong, yi_X10_isLong, yc_X10_isLong⟩ yd_X10_isLong ob_60 (by decide) rfl rfl hl.1 (Nat.le_of_ble_eq_true rfl) ⟨by decide, by decide⟩ ⟨Nat.zero_le _, Nat.zero_le _⟩ dX10_gain_24 (fun r_9 M_10 H locs hp_10 hw => ?_)
      obtain ⟨hm, hz⟩ := hp_10
      have hw := hw.to hm
      rcases hz with ⟨rfl, d0_11, d1_11⟩ | rfl
      · refine sb_if_ne (tgt := 32) hx hb (by decide : (1 : Int32).toInt = 1) dX10_gain_27 (by decide) (fun c_27_11 => ?_) (fun h => absurd h (by decide))
        refine lv_aload_n hx hb dX10_gain_32 rfl (lv_at hl 0 rfl) ?_
        refine ti_callVv (ci := 10) (av := []) C hw (s_X10_lays l D A cy hJ M_1 iM_1 (((rw1_qw (qw_I hM_1 (by decide))).2.2.1 0 (by decide)).1 hC0) (((rw1_qw (qw_I hM_1 (by decide))).2.2.1 0 (by decide)).2 hP0)) ⟨ml_X10_442, ym_X10_lays, yv_X10_lays, yi_X10_lays, yc_X10_lays⟩ yd_X10_lays ob_60 (by decide) rfl rfl hl.1 (Nat.le_of_ble_eq_true rfl) ⟨by decide, by decide⟩ ⟨Nat.zero_le _, Nat.zero_le _⟩ dX10_gain_33 (fun M_15 H locs hp_15 hw => ?_)
        obtain ⟨iM_15, q_16, q_17, q_18, q_19, q_20, q_21⟩ := hp_15
        refine lv_aload_n hx hb dX10_gain_36 rfl (lv_at hl 0 rfl) ?_
        refine lv_iload_n hx hb dX10_gain_37 rfl (lv_at hl 2 rfl) ?_
        refine ti_callVv (ci := 10) (av := [.int z2]) C hw (s_X10_runs l D A cy hJ M_15 iM_15 q_17 (mL_lw (lk.trans (lk_of q_16.1 q_16.2.1) (lk_I hM_1 (by decide))).1 hL) z2) ⟨ml_X10_445, ym_X10_runs, yv_X10_runs, yi_X10_runs, yc_X10_runs⟩ yd_X10_runs ob_60 (by decide) rfl rfl hl.1 (Nat.le_of_ble_eq_true rfl) ⟨by decide, by decide⟩ ⟨Nat.zero_le _, Nat.zero_le _⟩ dX10_gain_38 (fun M_23 H locs hp_23 hw => ?_)
        obtain ⟨iM_23, q_24, q_25⟩ := hp_23
        refine lv_iconst (v := 0) hx hb dX10_gain_41 (by decide) ?_
        refine lv_istore_n (lv' := [(3, .int 0), (0, .ref (A 60 0)), (1, .int z1), (2, .int z2)]) hx hb dX10_gain_42 rfl hl (by decide) rfl (fun ls hl => ?_)
        have hl_43_31 : ∀ (n_32 : Nat) (x_26 : Int32) (M_29 : ti_M) (H : Heap) (locs : List Loc) (ls : Array Slot), (8 - x_26.toInt : Int).toNat < n_32 → (0 ≤ x_26.toInt) → (x_26.toInt ≤ 8) → (mI Tm M_29) → (rw1 M_29 M) → (mC M_29 1) → ti_H ti_LM D A cy H0 M_29 H locs → lv_has ls 6 [(3, .int x_26), (0, .ref (A 60 0)), (1, .int z1), (2, .int z2)] → W p l e (ti_rm 8) s m args below meth c H locs 0 0 Q (F0 m 43 ls []) := by
          intro n_32
          induction n_32 with
          | zero => intro x_26 M_29 H locs ls hf_32; exact absurd hf_32 (Nat.not_lt_zero _)
          | succ n_32 ih_32 =>
            intro x_26 M_29 H locs ls hf_32 b_27 b_28 iM_29 f_30 f_31 hw hl
            refine lv_iload_n hx hb dX10_gain_43 rfl (lv_at hl 0 rfl) ?_
            refine lv_bipush (v := 8) hx hb dX10_gain_44 (by decide) ?_
            refine sb_icmp_ge (tgt := 98) hx hb rfl (by decide : (8 : Int32).toInt = 8) dX10_gain_46 (by decide) (fun c_46_32 => ?_) (fun c_46_32 => ?_)
            · refine lv_aload_n hx hb dX10_gain_98 rfl (lv_at hl 1 rfl) ?_
              refine ti_callVv (ci := 10) (av := []) C hw (s_X10_lays l D A cy hJ M_29 iM_29 ((f_30.2.2.1 0 (by decide)).1 hC0) ((f_30.2.2.1 0 (by decide)).2 hP0)) ⟨ml_X10_442, ym_X10_lays, yv_X10_lays, yi_X10_lays, yc_X10_lays⟩ yd_X10_lays ob_60 (by decide) rfl rfl hl.1 (Nat.le_of_ble_eq_true rfl) ⟨by decide, by decide⟩ ⟨Nat.zero_le _, Nat.zero_le _⟩ dX10_gain_99 (fun M_45 H locs hp_45 hw => ?_)
              obtain ⟨iM_45, q_46, q_47, q_48, q_49, q_50, q_51⟩ := hp_45
              refine lv_iload_n hx hb dX10_gain_102 rfl (lv_at hl 2 rfl) ?_
              refine lv_istore_n (lv' := [(3, .int z1), (0, .ref (A 60 0)), (1, .int z1), (2, .int z2)]) hx hb dX10_gain_103 rfl hl (by decide) rfl (fun ls hl => ?_)
              have hl_104_59 : ∀ (n_60 : Nat) (x_52 : Int32) (M_55 : ti_M) (H : Heap) (locs : List Loc) (ls : Array Slot), (8 - x_52.toInt : Int).toNat < n_60 → (0 ≤ x_52.toInt) → (x_52.toInt ≤ 8) → (mI Tm M_55) → (rw1 M_55 M) → (mC M_55 1) → (z1.toInt ≤ x_52.toInt) → (tY M_55 60 38 1 = tY M 60 38 0) → ti_H ti_LM D A cy H0 M_55 H locs → lv_has ls 6 [(3, .int x_52), (0, .ref (A 60 0)), (1, .int z1), (2, .int z2)] → W p l e (ti_rm 8) s m args below meth c H locs 0 0 Q (F0 m 104 ls []) := by
                intro n_60
                induction n_60 with
                | zero => intro x_52 M_55 H locs ls hf_60; exact absurd hf_60 (Nat.not_lt_zero _)
                | succ n_60 ih_60 =>
                  intro x_52 M_55 H locs ls hf_60 b_53 b_54 iM_55 f_56 f_57 j_58 j_59 hw hl
                  refine lv_iload_n hx hb dX10_gain_104 rfl (lv_at hl 0 rfl) ?_
                  refine lv_aload_n hx hb dX10_gain_105 rfl (lv_at hl 1 rfl) ?_
                  refine ti_get (ci := 10) (k := 38) (N := 67) (T := TX10) (v := .ref (A 60 39)) C hw iw_10 rfl ob_60 (by decide) (by decide) fl_X10_81 rfl rfl dX10_gain_106 ?_
                  refine lv_iconst (v := 0) hx hb dX10_gain_109 (by decide) ?_
                  refine ti_iald (ci := 10) (k := 38) (n := 23) C hw ob_60 (by decide) (fun _ _ => rfl) (by unfold vp_in; decide) dX10_gain_110 ?_
                  refine ti_top (y := x_7) ((congrArg _ (by decide)).trans ((f_56.2.2.2).trans wx_7)) ?_
                  refine sb_icmp_ge (tgt := 137) hx hb rfl rfl dX10_gain_111 (by decide) (fun c_111_60 => ?_) (fun c_111_60 => ?_)
                  · refine lv_aload_n hx hb dX10_gain_137 rfl (lv_at hl 1 rfl) ?_
                    refine ti_get (ci := 10) (k := 38) (N := 67) (T := TX10) (v := .ref (A 60 39)) C hw iw_10 rfl ob_60 (by decide) (by decide) fl_X10_81 rfl rfl dX10_gain_138 ?_
                    refine lv_iconst (v := 1) hx hb dX10_gain_141 (by decide) ?_
                    refine lv_aload_n hx hb dX10_gain_142 rfl (lv_at hl 1 rfl) ?_
                    refine ti_get (ci := 10) (k := 38) (N := 67) (T := TX10) (v := .ref (A 60 39)) C hw iw_10 rfl ob_60 (by decide) (by decide) fl_X10_81 rfl rfl dX10_gain_143 ?_
                    refine lv_iconst (v := 0) hx hb dX10_gain_146 (by decide) ?_
                    refine ti_iald (ci := 10) (k := 38) (n := 23) C hw ob_60 (by decide) (fun _ _ => rfl) (by unfold vp_in; decide) dX10_gain_147 ?_
                    refine ti_top (y := x_7) ((congrArg _ (by decide)).trans ((f_56.2.2.2).trans wx_7)) ?_
                    refine lv_iload_n hx hb dX10_gain_148 rfl (lv_at hl 2 rfl) ?_
                    refine lv_isub hx hb dX10_gain_149 ?_
                    refine lv_topi (fun x_67 ex_67 => ?_)
                    have lox_67x_7 := x_7.le_toInt
                    have hix_67x_7 := x_7.toInt_lt
                    have lox_67z1 := z1.le_toInt
                    have hix_67z1 := z1.toInt_lt
                    have tx_67 : x_67.toInt = x_7.toInt - z1.toInt := i_sub ex_67 rfl rfl (by omega) (by omega)
                    refine ti_iast (ci := 10) (k := 38) (n := 23) C hw ob_60 (by decide) (fun _ _ => rfl) (by unfold vp_in; decide) dX10_gain_150 (fun H locs hw => ?_)
                    obtain ⟨M_68, hM_68⟩ : ∃ z : ti_M, z = uY M_55 60 38 (upd (tY M_55 60 38) (1 : Int32).toNatClampNeg x_67) := ⟨_, rfl⟩
                    have hw := hw.to hM_68.symm
                    have iM_68 : mI Tm M_68 := mI_up (i := 1) iM_55 hM_68 (ib_mk (lo := 0) (hi := 8) (by omega) (by omega))
                    have rwM_68 : rw1 M_68 M_55 := rw1_38 iM_55 hM_68 (by decide)
                    have lk_69 : (tY M_68 60 38 0).toInt = (tY M 60 38 0).toInt := by rw [(((cg (tY_uE hM_68) 0).trans (pk_un (by decide))).trans f_56.2.2.2)]
                    have mcM_68 := mC_38 f_57 hM_68 (by decide) (by rw [j_59]; omega)
                    refine lv_iconst (v := 0) hx hb dX10_gain_151 (by decide) ?_
                    refine lv_istore_n (lv' := [(3, .int 0), (0, .ref (A 60 0)), (1, .int z1), (2, .int z2)]) hx hb dX10_gain_152 rfl hl (by decide) rfl (fun ls hl => ?_)
                    have hl_153_75 : ∀ (n_76 : Nat) (x_70 : Int32) (M_73 : ti_M) (H : Heap) (locs : List Loc) (ls : Array Slot), (8 - x_70.toInt : Int).toNat < n_76 → (0 ≤ x_70.toInt) → (x_70.toInt ≤ 8) → (mI Tm M_73) → (rw1 M_73 M) → (mC M_73 1) → ti_H ti_LM D A cy H0 M_73 H locs → lv_has ls 6 [(3, .int x_70), (0, .ref (A 60 0)), (1, .int z1), (2, .int z2)] → W p l e (ti_rm 8) s m args below meth c H locs 0 0 Q (F0 m 153 ls []) := by
                      intro n_76
                      induction n_76 with
                      | zero => intro x_70 M_73 H locs ls hf_76; exact absurd hf_76 (Nat.not_lt_zero _)
                      | succ n_76 ih_76 =>
                        intro x_70 M_73 H locs ls hf_76 b_71 b_72 iM_73 f_74 f_75 hw hl
                        refine lv_iload_n hx hb dX10_gain_153 rfl (lv_at hl 0 rfl) ?_
                        refine lv_aload_n hx hb dX10_gain_154 rfl (lv_at hl 1 rfl) ?_
                        refine ti_get (ci := 10) (k := 3) (N := 67) (T := TX10) (v := .ref (A 60 4)) C hw iw_10 rfl ob_60 (by decide) (by decide) fl_X10_13 rfl rfl dX10_gain_155 ?_
                        refine lv_iconst (v := 0) hx hb dX10_gain_158 (by decide) ?_
                        refine ti_iald (ci := 10) (k := 3) (n := 22) C hw ob_60 (by decide) (fun _ _ => rfl) (by unfold vp_in; decide) dX10_gain_159 ?_
                        refine lv_topi (fun x_77 ex_77 => ?_)
                        have yx_77 : tY M_73 60 3 0 = x_77 := ((congrArg _ (by decide)).symm.trans ex_77.symm)
                        have bx_77 : 0 ≤ x_77.toInt ∧ x_77.toInt ≤ 8 := mI_rn (i := 0) iM_73 yx_77.symm (fun _ h => h)
                        have zx_77 : (tY M_73 60 3 0).toInt = x_77.toInt := by rw [yx_77]
                        have wx_77 : tY M 60 3 0 = x_77 := ((cg (f_74.1 3 (by decide) (by decide)) 0)).symm.trans yx_77
                        have zwx_77 : (tY M 60 3 0).toInt = x_77.toInt := by rw [wx_77]
                        refine sb_icmp_ge (tgt := 214) hx hb rfl rfl dX10_gain_160 (by decide) (fun c_160_77 => ?_) (fun c_160_77 => ?_)
                        · refine lv_aload_n hx hb dX10_gain_214 rfl (lv_at hl 1 rfl) ?_
                          refine lv_iload_n hx hb dX10_gain_215 rfl (lv_at hl 3 rfl) ?_
                          refine ti_callVv (ci := 10) (av := [.int z2]) C hw (s_X10_runs l D A cy hJ M_73 iM_73 f_75 (mL_lw (lk_of f_74.1 f_74.2.1).1 hL) z2) ⟨ml_X10_445, ym_X10_runs, yv_X10_runs, yi_X10_runs, yc_X10_runs⟩ yd_X10_runs ob_60 (by decide) rfl rfl hl.1 (Nat.le_of_ble_eq_true rfl) ⟨by decide, by decide⟩ ⟨Nat.zero_le _, Nat.zero_le _⟩ dX10_gain_216 (fun M_94 H locs hp_94 hw => ?_)
                          obtain ⟨iM_94, q_95, q_96⟩ := hp_94
                          refine lv_iconst (v := 0) hx hb dX10_gain_219 (by decide) ?_
                          refine lv_istore_n (lv' := [(3, .int 0), (0, .ref (A 60 0)), (1, .int z1), (2, .int z2)]) hx hb dX10_gain_220 rfl hl (by decide) rfl (fun ls hl => ?_)
                          refine lv_iload_n hx hb dX10_gain_221 rfl (lv_at hl 2 rfl) ?_
                          refine lv_istore (lv' := [(4, .int z1), (3, .int 0), (0, .ref (A 60 0)), (1, .int z1), (2, .int z2)]) hx hb dX10_gain_222 hl (by decide) rfl (fun ls hl => ?_)
                          have hl_224_100 : ∀ (n_101 : Nat) (x_97 : Int32) (x_100 : Int32) (H : Heap) (locs : List Loc) (ls : Array Slot), (8 - x_97.toInt : Int).toNat < n_101 → (0 ≤ x_97.toInt) → (x_97.toInt ≤ 8) → ti_H ti_LM D A cy H0 M_94 H locs → lv_has ls 6 [(4, .int x_97), (3, .int x_100), (0, .ref (A 60 0)), (1, .int z1), (2, .int z2)] → W p l e (ti_rm 8) s m args below meth c H locs 0 0 Q (F0 m 224 ls []) := by
                            intro n_101
                            induction n_101 with
                            | zero => intro x_97 x_100 H locs ls hf_101; exact absurd hf_101 (Nat.not_lt_zero _)
                            | succ n_101 ih_101 =>
                              intro x_97 x_100 H locs ls hf_101 b_98 b_99 hw hl
                              refine lv_iload hx hb dX10_gain_224 (lv_at hl 0 rfl) ?_
                              refine lv_aload_n hx hb dX10_gain_226 rfl (lv_at hl 2 rfl) ?_
                              refine ti_get (ci := 10) (k := 38) (N := 67) (T := TX10) (v := .ref (A 60 39)) C hw iw_10 rfl ob_60 (by decide) (by decide) fl_X10_81 rfl rfl dX10_gain_227 ?_
                              refine lv_iconst (v := 0) hx hb dX10_gain_230 (by decide) ?_
                              refine ti_iald (ci := 10) (k := 38) (n := 23) C hw ob_60 (by decide) (fun _ _ => rfl) (by unfold vp_in; decide) dX10_gain_231 ?_
                              refine ti_top (y := x_7) ((congrArg _ (by decide)).trans ((q_95.2.2.2 (by decide)).trans ((f_74.2.2.2).trans wx_7))) ?_
                              refine sb_icmp_ge (tgt := 298) hx hb rfl rfl dX10_gain_232 (by decide) (fun c_232_101 => ?_) (fun c_232_101 => ?_)
                              · refine lv_iload_n hx hb dX10_gain_298 rfl (lv_at hl 1 rfl) ?_
                                exact hQ _ _ _ _ _ _ hw rfl (⟨mF_rw hF iM_94 (rw1.trans (rw1_rq q_95) f_74), (rw1.trans (rw1_rq q_95) f_74).2.1.1, (rw1.trans (rw1_rq q_95) f_74).1⟩) dX10_gain_299
                              · refine lv_bipush (v := 8) hx hb dX10_gain_235 (by decide) ?_
                                refine lv_aload_n hx hb dX10_gain_237 rfl (lv_at hl 2 rfl) ?_
                                refine ti_get (ci := 10) (k := 39) (N := 67) (T := TX10) (v := .ref (A 60 40)) C hw iw_10 rfl ob_60 (by decide) (by decide) fl_X10_84 rfl rfl dX10_gain_238 ?_
                                refine lv_iload hx hb dX10_gain_241 (lv_at hl 0 rfl) ?_
                                refine ti_iald (ci := 10) (k := 39) (n := 184) C hw ob_60 (by decide) (fun _ _ => rfl) (vp_in_iff.mpr (by omega)) dX10_gain_243 ?_
                                refine lv_topi (fun x_103 ex_103 => ?_)
                                have yx_103 : tY M_94 60 39 x_97.toNatClampNeg = x_103 := (ex_103.symm)
                                have bx_103 : 0 ≤ x_103.toInt ∧ x_103.toInt ≤ 7 := mI_ry (k := 39) (i := x_97.toNatClampNeg) iM_94 yx_103.symm
                                refine lv_iadd hx hb dX10_gain_244 ?_
                                refine lv_topi (fun x_104 ex_104 => ?_)
                                have tx_104 : x_104.toInt = 8 + x_103.toInt := i_add ex_104 (by decide : (8 : Int32).toInt = 8) rfl (by omega) (by omega)
                                refine lv_istore (lv' := [(5, .int x_104), (4, .int x_97), (3, .int x_100), (0, .ref (A 60 0)), (1, .int z1), (2, .int z2)]) hx hb dX10_gain_245 hl (by decide) rfl (fun ls hl => ?_)
                                refine lv_aload_n hx hb dX10_gain_247 rfl (lv_at hl 3 rfl) ?_
                                refine ti_get (ci := 10) (k := 40) (N := 67) (T := TX10) (v := .ref (A 60 41)) C hw iw_10 rfl ob_60 (by decide) (by decide) fl_X10_87 rfl rfl dX10_gain_248 ?_
                                refine lv_iload hx hb dX10_gain_251 (lv_at hl 0 rfl) ?_
                                refine ti_iald (ci := 10) (k := 40) (n := 184) C hw ob_60 (by decide) (fun _ _ => rfl) (vp_in_iff.mpr (by omega)) dX10_gain_253 ?_
                                refine lv_topi (fun x_105 ex_105 => ?_)
                                have yx_105 : tY M_94 60 40 x_104.toNatClampNeg = x_105 := (ex_105.symm)
                                have zx_105 : (tY M_94 60 40 x_104.toNatClampNeg).toInt = x_105.toInt := by rw [yx_105]
                                refine lv_iconst (v := 2) hx hb dX10_gain_254 (by decide) ?_
                                have hj_292_112 : ∀ (x_112 : Int32) (H : Heap) (locs : List Loc) (ls : Array Slot), ti_H ti_LM D A cy H0 M_94 H locs → lv_has ls 6 [(5, .int x_104), (4, .int x_97), (3, .int x_112), (0, .ref (A 60 0)), (1, .int z1), (2, .int z2)] → W p l e (ti_rm 8) s m args below meth c H locs 0 0 Q (F0 m 292 ls []) := by
                                  intro x_112 H locs ls  hw hl
                                  obtain ⟨x_113, ex_113⟩ : ∃ z : Int32, z = x_97 + 1 := ⟨_, rfl⟩
                                  have tx_113 : x_113.toInt = x_97.toInt + 1 := i_add ex_113 rfl (by decide) (by omega) (by omega)
                                  refine lv_iinc (v := x_113) (lv' := [(4, .int x_113), (5, .int x_104), (3, .int x_112), (0, .ref (A 60 0)), (1, .int z1), (2, .int z2)]) hx hb dX10_gain_292 hl (k := 1) rfl (by rw [ex_113]; rfl) (by decide) rfl (fun ls hl => ?_)
                                  refine lv_goto (tgt := 224) hx hb dX10_gain_295 (by decide) ?_
                                  exact ih_101 x_113 x_112 _ _ _ (by omega) (by first | omega | decide) (by first | omega | decide) hw (lv_sub hl [0, 2, 3, 4, 5] rfl)
                                refine sb_icmp_ne (tgt := 292) hx hb rfl (by decide : (2 : Int32).toInt = 2) dX10_gain_255 (by decide) (fun c_255_105 => ?_) (fun c_255_105 => ?_)
                                · exact hj_292_112 x_100 _ _ _  hw (lv_sub hl [0, 1, 2, 3, 4, 5] rfl)
                                · refine lv_aload_n hx hb dX10_gain_258 rfl (lv_at hl 3 rfl) ?_
                                  refine ti_get (ci := 10) (k := 48) (N := 67) (T := TX10) (v := .ref (A 60 49)) C hw iw_10 rfl ob_60 (by decide) (by decide) fl_X10_111 rfl rfl dX10_gain_259 ?_
                                  refine lv_iload hx hb dX10_gain_262 (lv_at hl 0 rfl) ?_
                                  refine ti_iald (ci := 10) (k := 48) (n := 184) C hw ob_60 (by decide) (fun _ _ => rfl) (vp_in_iff.mpr (by omega)) dX10_gain_264 ?_
                                  refine lv_topi (fun x_107 ex_107 => ?_)
                                  have yx_107 : tY M_94 60 48 x_104.toNatClampNeg = x_107 := (ex_107.symm)
                                  refine lv_aload_n hx hb dX10_gain_265 rfl (lv_at hl 3 rfl) ?_
                                  refine ti_get (ci := 10) (k := 57) (N := 67) (T := TX10) (v := .ref (A 60 58)) C hw iw_10 rfl ob_60 (by decide) (by decide) fl_X10_129 rfl rfl dX10_gain_266 ?_
                                  refine lv_aload_n hx hb dX10_gain_269 rfl (lv_at hl 3 rfl) ?_
                                  refine ti_get (ci := 10) (k := 39) (N := 67) (T := TX10) (v := .ref (A 60 40)) C hw iw_10 rfl ob_60 (by decide) (by decide) fl_X10_84 rfl rfl dX10_gain_270 ?_
                                  refine lv_iload hx hb dX10_gain_273 (lv_at hl 1 rfl) ?_
                                  refine ti_iald (ci := 10) (k := 39) (n := 184) C hw ob_60 (by decide) (fun _ _ => rfl) (vp_in_iff.mpr (by omega)) dX10_gain_275 ?_
                                  refine ti_top (y := x_103) ((yx_103)) ?_
                                  refine ti_iald (ci := 10) (k := 57) (n := 8) C hw ob_60 (by decide) (fun _ _ => rfl) (vp_in_iff.mpr (by omega)) dX10_gain_276 ?_
                                  refine lv_topi (fun x_108 ex_108 => ?_)
                                  have yx_108 : tY M_94 60 57 x_103.toNatClampNeg = x_108 := (ex_108.symm)
                                  refine sb_icmp_ge (tgt := 292) hx hb rfl rfl dX10_gain_277 (by decide) (fun c_277_108 => ?_) (fun c_277_108 => ?_)
                                  · exact hj_292_112 x_100 _ _ _  hw (lv_sub hl [0, 1, 2, 3, 4, 5] rfl)
                                  · refine lv_iload_n hx hb dX10_gain_280 rfl (lv_at hl 2 rfl) ?_
                                    refine lv_iconst (v := 1) hx hb dX10_gain_281 (by decide) ?_
                                    refine lv_aload_n hx hb dX10_gain_282 rfl (lv_at hl 3 rfl) ?_
                                    refine ti_get (ci := 10) (k := 39) (N := 67) (T := TX10) (v := .ref (A 60 40)) C hw iw_10 rfl ob_60 (by decide) (by decide) fl_X10_84 rfl rfl dX10_gain_283 ?_
                                    refine lv_iload hx hb dX10_gain_286 (lv_at hl 1 rfl) ?_
                                    refine ti_iald (ci := 10) (k := 39) (n := 184) C hw ob_60 (by decide) (fun _ _ => rfl) (vp_in_iff.mpr (by omega)) dX10_gain_288 ?_
                                    refine ti_top (y := x_103) ((yx_103)) ?_
                                    refine lv_ishl hx hb dX10_gain_289 ?_
                                    refine lv_topi (fun x_110 ex_110 => ?_)
                                    refine lv_ior hx hb dX10_gain_290 ?_
                                    refine lv_topi (fun x_111 ex_111 => ?_)
                                    refine lv_istore_n (lv' := [(3, .int x_111), (5, .int x_104), (4, .int x_97), (0, .ref (A 60 0)), (1, .int z1), (2, .int z2)]) hx hb dX10_gain_291 rfl hl (by decide) rfl (fun ls hl => ?_)
                                    exact hj_292_112 x_111 _ _ _  hw (lv_sub hl [1, 2, 0, 3, 4, 5] rfl)
                          exact hl_224_100 ((8 - z1.toInt : Int).toNat + 1) z1 0 _ _ _ (Nat.lt_succ_self _) (by have lt0 : (0 : Int32).toInt = 0 := (by decide); first | omega | decide) (by have lt0 : (0 : Int32).toInt = 0 := (by decide); first | omega | decide) hw (lv_sub hl [0, 1, 2, 3, 4] rfl)
                        · refine lv_bipush (v := 8) hx hb dX10_gain_163 (by decide) ?_
                          refine lv_iload_n hx hb dX10_gain_165 rfl (lv_at hl 0 rfl) ?_
                          refine lv_iadd hx hb dX10_gain_166 ?_
                          refine lv_topi (fun x_79 ex_79 => ?_)
                          have tx_79 : x_79.toInt = 8 + x_70.toInt := i_add ex_79 (by decide : (8 : Int32).toInt = 8) rfl (by omega) (by omega)
                          refine lv_istore (lv' := [(4, .int x_79), (3, .int x_70), (0, .ref (A 60 0)), (1, .int z1), (2, .int z2)]) hx hb dX10_gain_167 hl (by decide) rfl (fun ls hl => ?_)
                          refine lv_aload_n hx hb dX10_gain_169 rfl (lv_at hl 2 rfl) ?_
                          refine ti_get (ci := 10) (k := 40) (N := 67) (T := TX10) (v := .ref (A 60 41)) C hw iw_10 rfl ob_60 (by decide) (by decide) fl_X10_87 rfl rfl dX10_gain_170 ?_
                          refine lv_iload hx hb dX10_gain_173 (lv_at hl 0 rfl) ?_
                          refine ti_iald (ci := 10) (k := 40) (n := 184) C hw ob_60 (by decide) (fun _ _ => rfl) (vp_in_iff.mpr (by omega)) dX10_gain_175 ?_
                          refine lv_topi (fun x_80 ex_80 => ?_)
                          have yx_80 : tY M_73 60 40 x_79.toNatClampNeg = x_80 := (ex_80.symm)
                          have zx_80 : (tY M_73 60 40 x_79.toNatClampNeg).toInt = x_80.toInt := by rw [yx_80]
                          have hj_208_91 : ∀ (M_89 : ti_M) (H : Heap) (locs : List Loc) (ls : Array Slot), (mI Tm M_89) → (rw1 M_89 M) → (mC M_89 1) → ti_H ti_LM D A cy H0 M_89 H locs → lv_has ls 6 [(4, .int x_79), (3, .int x_70), (0, .ref (A 60 0)), (1, .int z1), (2, .int z2)] → W p l e (ti_rm 8) s m args below meth c H locs 0 0 Q (F0 m 208 ls []) := by
                            intro M_89 H locs ls iM_89 f_90 f_91 hw hl
                            obtain ⟨x_92, ex_92⟩ : ∃ z : Int32, z = x_70 + 1 := ⟨_, rfl⟩
                            have tx_92 : x_92.toInt = x_70.toInt + 1 := i_add ex_92 rfl (by decide) (by omega) (by omega)
                            refine lv_iinc (v := x_92) (lv' := [(3, .int x_92), (4, .int x_79), (0, .ref (A 60 0)), (1, .int z1), (2, .int z2)]) hx hb dX10_gain_208 hl (k := 1) rfl (by rw [ex_92]; rfl) (by decide) rfl (fun ls hl => ?_)
                            refine lv_goto (tgt := 153) hx hb dX10_gain_211 (by decide) ?_
                            exact ih_76 x_92 M_89 _ _ _ (by omega) (by first | omega | decide) (by first | omega | decide) iM_89 f_90 f_91 hw (lv_sub hl [0, 2, 3, 4] rfl)
                          have hj_200_87 : ∀  (H : Heap) (locs : List Loc) (ls : Array Slot), ti_H ti_LM D A cy H0 M_73 H locs → lv_has ls 6 [(4, .int x_79), (3, .int x_70), (0, .ref (A 60 0)), (1, .int z1), (2, .int z2)] → W p l e (ti_rm 8) s m args below meth c H locs 0 0 Q (F0 m 200 ls []) := by
                            intro  H locs ls  hw hl
                            refine lv_aload_n hx hb dX10_gain_200 rfl (lv_at hl 2 rfl) ?_
                            refine ti_get (ci := 10) (k := 40) (N := 67) (T := TX10) (v := .ref (A 60 41)) C hw iw_10 rfl ob_60 (by decide) (by decide) fl_X10_87 rfl rfl dX10_gain_201 ?_
                            refine lv_iload hx hb dX10_gain_204 (lv_at hl 0 rfl) ?_
                            refine lv_iconst (v := 3) hx hb dX10_gain_206 (by decide) ?_
                            refine ti_iast (ci := 10) (k := 40) (n := 184) C hw ob_60 (by decide) (fun _ _ => rfl) (vp_in_iff.mpr (by omega)) dX10_gain_207 (fun H locs hw => ?_)
                            obtain ⟨M_88, hM_88⟩ : ∃ z : ti_M, z = uY M_73 60 40 (upd (tY M_73 60 40) (x_79 : Int32).toNatClampNeg 3) := ⟨_, rfl⟩
                            have hw := hw.to hM_88.symm
                            have iM_88 : mI Tm M_88 := mI_up (i := x_79.toNatClampNeg) iM_73 hM_88 trivial
                            have rwM_88 : rw1 M_88 M_73 := rw1_40 iM_73 hM_88 (by show 8 ≤ (x_79).toInt.toNat ∧ (x_79).toInt.toNat < 16; omega)
                            have mcM_88 := mC_40 f_75 hM_88 (by decide)
                            exact hj_208_91 M_88 _ _ _ iM_88 (rw1.trans rwM_88 f_74) mcM_88 hw (lv_sub hl [0, 1, 2, 3, 4] rfl)
                          refine sb_if_eq (tgt := 200) hx hb rfl dX10_gain_176 (by decide) (fun c_176_80 => ?_) (fun c_176_80 => ?_)
                          · exact hj_200_87  _ _ _  hw (lv_sub hl [0, 1, 2, 3, 4] rfl)
                          · refine lv_aload_n hx hb dX10_gain_179 rfl (lv_at hl 2 rfl) ?_
                            refine ti_get (ci := 10) (k := 40) (N := 67) (T := TX10) (v := .ref (A 60 41)) C hw iw_10 rfl ob_60 (by decide) (by decide) fl_X10_87 rfl rfl dX10_gain_180 ?_
                            refine lv_iload hx hb dX10_gain_183 (lv_at hl 0 rfl) ?_
                            refine ti_iald (ci := 10) (k := 40) (n := 184) C hw ob_60 (by decide) (fun _ _ => rfl) (vp_in_iff.mpr (by omega)) dX10_gain_185 ?_
                            refine ti_top (y := x_80) ((yx_80)) ?_
                            refine lv_iconst (v := 1) hx hb dX10_gain_186 (by decide) ?_
                            refine sb_icmp_ne (tgt := 208) hx hb rfl (by decide : (1 : Int32).toInt = 1) dX10_gain_187 (by decide) (fun c_187_81 => ?_) (fun c_187_81 => ?_)
                            · exact hj_208_91 M_73 _ _ _ iM_73 f_74 f_75 hw (lv_sub hl [0, 1, 2, 3, 4] rfl)
                            · refine lv_aload_n hx hb dX10_gain_190 rfl (lv_at hl 2 rfl) ?_
                              refine lv_iconst (v := 1) hx hb dX10_gain_191 (by decide) ?_
                              refine lv_iload_n hx hb dX10_gain_192 rfl (lv_at hl 1 rfl) ?_
                              refine ti_callVi (ci := 10) (av := [.int 1, .int x_70]) C hw (s_X10_placeOf_1 l D A cy hJ M_73 iM_73 x_70) ⟨ml_X10_411, ym_X10_placeOf, yv_X10_placeOf, yi_X10_placeOf, yc_X10_placeOf⟩ yd_X10_placeOf ob_60 (by decide) rfl rfl hl.1 (Nat.le_of_ble_eq_true rfl) ⟨by decide, by decide⟩ ⟨Nat.zero_le _, Nat.zero_le _⟩ dX10_gain_193 (fun r_83 M_84 H locs hp_84 hw => ?_)
                              obtain ⟨hm, hz⟩ := hp_84
                              have hw := hw.to hm
                              rcases hz with ⟨rfl, z1_85⟩ | ⟨z1_85, z2_85, z3_85, z4_85⟩
                              · refine lv_iconst (v := (-1)) hx hb dX10_gain_196 (by decide) ?_
                                refine sb_icmp_ne (tgt := 208) hx hb (by decide : ((-1) : Int32).toInt = (-1)) (by decide : ((-1) : Int32).toInt = (-1)) dX10_gain_197 (by decide) (fun h => absurd h (by decide)) (fun c_197_85 => ?_)
                                exact hj_200_87  _ _ _  hw (lv_sub hl [0, 1, 2, 3, 4] rfl)
                              · refine lv_iconst (v := (-1)) hx hb dX10_gain_196 (by decide) ?_
                                refine sb_icmp_ne (tgt := 208) hx hb rfl (by decide : ((-1) : Int32).toInt = (-1)) dX10_gain_197 (by decide) (fun c_197_86 => ?_) (fun c_197_86 => ?_)
                                · exact hj_208_91 M_73 _ _ _ iM_73 f_74 f_75 hw (lv_sub hl [0, 1, 2, 3, 4] rfl)
                                · exact hj_200_87  _ _ _  hw (lv_sub hl [0, 1, 2, 3, 4] rfl)
                    exact hl_153_75 ((8 - 0 : Int).toNat + 1) 0 M_68 _ _ _ (Nat.lt_succ_self _) (by have lt0 : (0 : Int32).toInt = 0 := (by decide); first | omega | decide) (by have lt0 : (0 : Int32).toInt = 0 := (by decide); first | omega | decide) iM_68 (rw1.trans rwM_68 f_56) mcM_68 hw (lv_sub hl [0, 1, 2, 3] rfl)
                  · refine lv_aload_n hx hb dX10_gain_114 rfl (lv_at hl 1 rfl) ?_
                    refine ti_get (ci := 10) (k := 39) (N := 67) (T := TX10) (v := .ref (A 60 40)) C hw iw_10 rfl ob_60 (by decide) (by decide) fl_X10_84 rfl rfl dX10_gain_115 ?_
                    refine lv_bipush (v := 8) hx hb dX10_gain_118 (by decide) ?_
                    refine lv_iload_n hx hb dX10_gain_120 rfl (lv_at hl 0 rfl) ?_
                    refine lv_iadd hx hb dX10_gain_121 ?_
                    refine lv_topi (fun x_62 ex_62 => ?_)
                    have tx_62 : x_62.toInt = 8 + x_52.toInt := i_add ex_62 (by decide : (8 : Int32).toInt = 8) rfl (by omega) (by omega)
                    refine lv_iload_n hx hb dX10_gain_122 rfl (lv_at hl 2 rfl) ?_
                    refine lv_isub hx hb dX10_gain_123 ?_
                    refine lv_topi (fun x_63 ex_63 => ?_)
                    have lox_63x_62 := x_62.le_toInt
                    have hix_63x_62 := x_62.toInt_lt
                    have lox_63z1 := z1.le_toInt
                    have hix_63z1 := z1.toInt_lt
                    have tx_63 : x_63.toInt = x_62.toInt - z1.toInt := i_sub ex_63 rfl rfl (by omega) (by omega)
                    refine lv_aload_n hx hb dX10_gain_124 rfl (lv_at hl 1 rfl) ?_
                    refine ti_get (ci := 10) (k := 39) (N := 67) (T := TX10) (v := .ref (A 60 40)) C hw iw_10 rfl ob_60 (by decide) (by decide) fl_X10_84 rfl rfl dX10_gain_125 ?_
                    refine lv_iload_n hx hb dX10_gain_128 rfl (lv_at hl 0 rfl) ?_
                    refine ti_iald (ci := 10) (k := 39) (n := 184) C hw ob_60 (by decide) (fun _ _ => rfl) (vp_in_iff.mpr (by omega)) dX10_gain_129 ?_
                    refine lv_topi (fun x_64 ex_64 => ?_)
                    have yx_64 : tY M_55 60 39 x_52.toNatClampNeg = x_64 := (ex_64.symm)
                    have bx_64 : 0 ≤ x_64.toInt ∧ x_64.toInt ≤ 7 := mI_ry (k := 39) (i := x_52.toNatClampNeg) iM_55 yx_64.symm
                    refine ti_iast (ci := 10) (k := 39) (n := 184) C hw ob_60 (by decide) (fun _ _ => rfl) (vp_in_iff.mpr (by omega)) dX10_gain_130 (fun H locs hw => ?_)
                    obtain ⟨M_65, hM_65⟩ : ∃ z : ti_M, z = uY M_55 60 39 (upd (tY M_55 60 39) (x_63 : Int32).toNatClampNeg x_64) := ⟨_, rfl⟩
                    have hw := hw.to hM_65.symm
                    have iM_65 : mI Tm M_65 := mI_up (i := x_63.toNatClampNeg) iM_55 hM_65 (ib_mk (lo := 0) (hi := 7) (by omega) (by omega))
                    have rwM_65 : rw1 M_65 M_55 := rw1_39 iM_55 hM_65 (by show 8 ≤ (x_63).toInt.toNat ∧ (x_63).toInt.toNat < 16; omega)
                    have mcM_65 := mC_39 f_57 hM_65
                    obtain ⟨x_66, ex_66⟩ : ∃ z : Int32, z = x_52 + 1 := ⟨_, rfl⟩
                    have tx_66 : x_66.toInt = x_52.toInt + 1 := i_add ex_66 rfl (by decide) (by omega) (by omega)
                    refine lv_iinc (v := x_66) (lv' := [(3, .int x_66), (0, .ref (A 60 0)), (1, .int z1), (2, .int z2)]) hx hb dX10_gain_131 hl (k := 0) rfl (by rw [ex_66]; rfl) (by decide) rfl (fun ls hl => ?_)
                    refine lv_goto (tgt := 104) hx hb dX10_gain_134 (by decide) ?_
                    exact ih_60 x_66 M_65 _ _ _ (by omega) (by first | omega | decide) (by first | omega | decide) iM_65 (rw1.trans rwM_65 f_56) mcM_65 (by first | omega | decide) ((cg (tY_nE hM_65 (nk (by decide))) 1).trans j_59) hw (lv_sub hl [0, 1, 2, 3] rfl)
              exact hl_104_59 ((8 - z1.toInt : Int).toNat + 1) z1 M_45 _ _ _ (Nat.lt_succ_self _) (by first | omega | decide) (by first | omega | decide) iM_45 (rw1.trans (rw1_rq q_46) f_30) q_47 (by first | omega | decide) (q_51.trans (f_30.2.2.2)) hw (lv_sub hl [0, 1, 2, 3] rfl)
            · refine lv_aload_n hx hb dX10_gain_49 rfl (lv_at hl 1 rfl) ?_
              refine ti_get (ci := 10) (k := 57) (N := 67) (T := TX10) (v := .ref (A 60 58)) C hw iw_10 rfl ob_60 (by decide) (by decide) fl_X10_129 rfl rfl dX10_gain_50 ?_
              refine lv_iload_n hx hb dX10_gain_53 rfl (lv_at hl 0 rfl) ?_
              refine lv_iload_n hx hb dX10_gain_54 rfl (lv_at hl 0 rfl) ?_
              refine lv_aload_n hx hb dX10_gain_55 rfl (lv_at hl 1 rfl) ?_
              refine ti_get (ci := 10) (k := 3) (N := 67) (T := TX10) (v := .ref (A 60 4)) C hw iw_10 rfl ob_60 (by decide) (by decide) fl_X10_13 rfl rfl dX10_gain_56 ?_
              refine lv_iconst (v := 0) hx hb dX10_gain_59 (by decide) ?_
              refine ti_iald (ci := 10) (k := 3) (n := 22) C hw ob_60 (by decide) (fun _ _ => rfl) (by unfold vp_in; decide) dX10_gain_60 ?_
              refine lv_topi (fun x_34 ex_34 => ?_)
              have yx_34 : tY M_29 60 3 0 = x_34 := ((congrArg _ (by decide)).symm.trans ex_34.symm)
              have bx_34 : 0 ≤ x_34.toInt ∧ x_34.toInt ≤ 8 := mI_rn (i := 0) iM_29 yx_34.symm (fun _ h => h)
              have zx_34 : (tY M_29 60 3 0).toInt = x_34.toInt := by rw [yx_34]
              have wx_34 : tY M 60 3 0 = x_34 := ((cg (f_30.1 3 (by decide) (by decide)) 0)).symm.trans yx_34
              have zwx_34 : (tY M 60 3 0).toInt = x_34.toInt := by rw [wx_34]
              have hj_91_41 : ∀ (x_41 : Int32) (H : Heap) (locs : List Loc) (ls : Array Slot), ti_H ti_LM D A cy H0 M_29 H locs → lv_has ls 6 [(3, .int x_26), (0, .ref (A 60 0)), (1, .int z1), (2, .int z2)] → W p l e (ti_rm 8) s m args below meth c H locs 0 0 Q (F0 m 91 ls [.int x_41, .int x_26, .ref (A 60 58)]) := by
                intro x_41 H locs ls  hw hl
                refine ti_iast (ci := 10) (k := 57) (n := 8) C hw ob_60 (by decide) (fun _ _ => rfl) (vp_in_iff.mpr (by omega)) dX10_gain_91 (fun H locs hw => ?_)
                obtain ⟨M_42, hM_42⟩ : ∃ z : ti_M, z = uY M_29 60 57 (upd (tY M_29 60 57) (x_26 : Int32).toNatClampNeg x_41) := ⟨_, rfl⟩
                have hw := hw.to hM_42.symm
                have iM_42 : mI Tm M_42 := mI_up (i := x_26.toNatClampNeg) iM_29 hM_42 trivial
                obtain ⟨x_43, ex_43⟩ : ∃ z : Int32, z = x_26 + 1 := ⟨_, rfl⟩
                have tx_43 : x_43.toInt = x_26.toInt + 1 := i_add ex_43 rfl (by decide) (by omega) (by omega)
                refine lv_iinc (v := x_43) (lv' := [(3, .int x_43), (0, .ref (A 60 0)), (1, .int z1), (2, .int z2)]) hx hb dX10_gain_92 hl (k := 0) rfl (by rw [ex_43]; rfl) (by decide) rfl (fun ls hl => ?_)
                refine lv_goto (tgt := 43) hx hb dX10_gain_95 (by decide) ?_
                exact ih_32 x_43 M_42 _ _ _ (by omega) (by first | omega | decide) (by first | omega | decide) iM_42 (rw1.trans (rw1_qw (qw_Y hM_42 (by decide))) f_30) (mC_qw (qw_Y hM_42 (by decide)) f_31) hw (lv_sub hl [0, 1, 2, 3] rfl)
              have hj_89_40 : ∀  (H : Heap) (locs : List Loc) (ls : Array Slot), ti_H ti_LM D A cy H0 M_29 H locs → lv_has ls 6 [(3, .int x_26), (0, .ref (A 60 0)), (1, .int z1), (2, .int z2)] → W p l e (ti_rm 8) s m args below meth c H locs 0 0 Q (F0 m 89 ls [.int x_26, .ref (A 60 58)]) := by
                intro  H locs ls  hw hl
                refine lv_bipush (v := 120) hx hb dX10_gain_89 (by decide) ?_
                exact hj_91_41 120 _ _ _  hw (lv_sub hl [0, 1, 2, 3] rfl)
              refine sb_icmp_ge (tgt := 89) hx hb rfl rfl dX10_gain_61 (by decide) (fun c_61_34 => ?_) (fun c_61_34 => ?_)
              · exact hj_89_40  _ _ _  hw (lv_sub hl [0, 1, 2, 3] rfl)
              · refine lv_aload_n hx hb dX10_gain_64 rfl (lv_at hl 1 rfl) ?_
                refine ti_get (ci := 10) (k := 40) (N := 67) (T := TX10) (v := .ref (A 60 41)) C hw iw_10 rfl ob_60 (by decide) (by decide) fl_X10_87 rfl rfl dX10_gain_65 ?_
                refine lv_bipush (v := 8) hx hb dX10_gain_68 (by decide) ?_
                refine lv_iload_n hx hb dX10_gain_70 rfl (lv_at hl 0 rfl) ?_
                refine lv_iadd hx hb dX10_gain_71 ?_
                refine lv_topi (fun x_36 ex_36 => ?_)
                have tx_36 : x_36.toInt = 8 + x_26.toInt := i_add ex_36 (by decide : (8 : Int32).toInt = 8) rfl (by omega) (by omega)
                refine ti_iald (ci := 10) (k := 40) (n := 184) C hw ob_60 (by decide) (fun _ _ => rfl) (vp_in_iff.mpr (by omega)) dX10_gain_72 ?_
                refine lv_topi (fun x_37 ex_37 => ?_)
                have yx_37 : tY M_29 60 40 x_36.toNatClampNeg = x_37 := (ex_37.symm)
                have zx_37 : (tY M_29 60 40 x_36.toNatClampNeg).toInt = x_37.toInt := by rw [yx_37]
                refine lv_iconst (v := 2) hx hb dX10_gain_73 (by decide) ?_
                refine sb_icmp_ne (tgt := 89) hx hb rfl (by decide : (2 : Int32).toInt = 2) dX10_gain_74 (by decide) (fun c_74_37 => ?_) (fun c_74_37 => ?_)
                · exact hj_89_40  _ _ _  hw (lv_sub hl [0, 1, 2, 3] rfl)
                · refine lv_aload_n hx hb dX10_gain_77 rfl (lv_at hl 1 rfl) ?_
                  refine ti_get (ci := 10) (k := 48) (N := 67) (T := TX10) (v := .ref (A 60 49)) C hw iw_10 rfl ob_60 (by decide) (by decide) fl_X10_111 rfl rfl dX10_gain_78 ?_
                  refine lv_bipush (v := 8) hx hb dX10_gain_81 (by decide) ?_
                  refine lv_iload_n hx hb dX10_gain_83 rfl (lv_at hl 0 rfl) ?_
                  refine lv_iadd hx hb dX10_gain_84 ?_
                  refine lv_topi (fun x_39 ex_39 => ?_)
                  have tx_39 : x_39.toInt = 8 + x_26.toInt := i_add ex_39 (by decide : (8 : Int32).toInt = 8) rfl (by omega) (by omega)
                  refine ti_iald (ci := 10) (k := 48) (n := 184) C hw ob_60 (by decide) (fun _ _ => rfl) (vp_in_iff.mpr (by omega)) dX10_gain_85 ?_
                  refine lv_topi (fun x_40 ex_40 => ?_)
                  have yx_40 : tY M_29 60 48 x_39.toNatClampNeg = x_40 := (ex_40.symm)
                  refine lv_goto (tgt := 91) hx hb dX10_gain_86 (by decide) ?_
                  exact hj_91_41 x_40 _ _ _  hw (lv_sub hl [0, 1, 2, 3] rfl)
        exact hl_43_31 ((8 - 0 : Int).toNat + 1) 0 M_23 _ _ _ (Nat.lt_succ_self _) (by have lt0 : (0 : Int32).toInt = 0 := (by decide); first | omega | decide) (by have lt0 : (0 : Int32).toInt = 0 := (by decide); first | omega | decide) iM_23 (rw1.trans (rw1_rq q_24) (rw1.trans (rw1_rq q_16) (rw1_qw (qw_I hM_1 (by decide))))) q_25 hw (lv_sub hl [0, 1, 2, 3] rfl)
      · refine sb_if_ne (tgt := 32) hx hb (by decide : (0 : Int32).toInt = 0) dX10_gain_27 (by decide) (fun h => absurd h (by decide)) (fun c_27_12 => ?_)
        exact hj_30_13  _ _ _  hw (lv_sub hl [0, 1, 2] rfl)
  · refine sb_if_eq (tgt := 30) hx hb (by decide : (0 : Int32).toInt = 0) dX10_gain_9 (by decide) (fun c_9_5 => ?_) (fun h => absurd h (by decide))
    exact hj_30_13  _ _ _  hw (lv_sub hl [0, 1, 2] rfl)
set_option maxHeartbeats 4000000 in
set_option maxRecDepth 100000 in
theorem s_X10_tried (l : Launch) (D : va_G) (A : Nat → Nat → Nat) (cy : Nat → ClassId) (hJ : ti_inj ti_LM A) (M : ti_M) (hI : mI Tm M) (hF : mF Tm M) (z1 : Int32) (z2 : Int32) (z3 : Int32) : ti_Ki l yX10_tried cX10_tried 6 (some .int) 8 ti_LM D A cy M [.ref (A 60 0), .int z1, .int z2, .int z3] (fun r M2 => mF Tm M2 ∧ tI M2 60 2 = tI M 60 2 ∧ lw M2 M) := by
  refine ti_eI yp_X10_tried hJ ti_LM_nd (Nat.le_of_ble_eq_true rfl) ?_
  intro p e s m args below meth c Q H0 C hQ hw ls hl
  have hx := C.1
  have hb := C.2.1
  have hl : lv_has ls 6 [(0, .ref (A 60 0)), (1, .int z1), (2, .int z2), (3, .int z3)] := hl
  have hL : mL M := hF.2.1
  have hC0 : mC M 0 := hF.2.2.1.1
  have hP0 : mP M 0 := hF.2.2.1.2
  refine lv_aload_n hx hb dX10_tried_0 rfl (lv_at hl 0 rfl) ?_
  refine lv_iconst (v := 0) hx hb dX10_tried_1 (by decide) ?_
  refine ti_putI (ci := 10) (k := 0) (N := 67) (T := TX10) C hw iw_10 tyX10 tyX10_ok nmX10 rfl ob_60 (by decide) (by decide) fl_X10_154 rfl rfl rfl rfl (fn_10 A _) fs_10_0 dX10_tried_2 (fun H locs hw => ?_)
  obtain ⟨M_1, hM_1⟩ : ∃ z : ti_M, z = uI M 60 0 0 := ⟨_, rfl⟩
  have hw := hw.to hM_1.symm
  have iM_1 : mI Tm M_1 := mI_uI hI hM_1 (by decide) (by decide) trivial
  refine lv_iload_n hx hb dX10_tried_5 rfl (lv_at hl 1 rfl) ?_
  refine lv_iconst (v := 2) hx hb dX10_tried_6 (by decide) ?_
  have hj_61_22 : ∀ (x_20 : Int32) (H : Heap) (locs : List Loc) (ls : Array Slot), (0 ≤ x_20.toInt) → (x_20.toInt ≤ 1) → ti_H ti_LM D A cy H0 M_1 H locs → lv_has ls 6 [(4, .int x_20), (0, .ref (A 60 0)), (1, .int z1), (2, .int z2), (3, .int z3)] → W p l e (ti_rm 8) s m args below meth c H locs 0 0 Q (F0 m 61 ls []) := by
    intro x_20 H locs ls b_21 b_22 hw hl
    refine lv_iconst (v := (-1)) hx hb dX10_tried_61 (by decide) ?_
    exact hQ _ _ _ _ _ _ hw rfl (⟨mF_rw hF iM_1 (rw1_qw (qw_I hM_1 (by decide))), (rw1_qw (qw_I hM_1 (by decide))).2.1.1, (rw1_qw (qw_I hM_1 (by decide))).1⟩) dX10_tried_62
  have hj_43_14 : ∀  (H : Heap) (locs : List Loc) (ls : Array Slot), (z1.toInt ≠ 2 ∨ (0 ≤ z2.toInt ∧ z2.toInt ≤ 7 ∧ z2.toInt < (tY M 60 3 0).toInt)) → ti_H ti_LM D A cy H0 M_1 H locs → lv_has ls 6 [(4, .int 1), (0, .ref (A 60 0)), (1, .int z1), (2, .int z2), (3, .int z3)] → W p l e (ti_rm 8) s m args below meth c H locs 0 0 Q (F0 m 43 ls []) := by
    intro  H locs ls j_14 hw hl
    refine lv_iload_n hx hb dX10_tried_43 rfl (lv_at hl 4 rfl) ?_
    refine sb_if_lt (tgt := 61) hx hb rfl dX10_tried_44 (by decide) (fun c_44_14 => ?_) (fun c_44_14 => ?_)
    · exact hj_61_22 1 _ _ _ (by have lt0 : (1 : Int32).toInt = 1 := (by decide); first | omega | decide) (by have lt0 : (1 : Int32).toInt = 1 := (by decide); first | omega | decide) hw (lv_sub hl [0, 1, 2, 3, 4] rfl)
    · refine lv_iload_n hx hb dX10_tried_47 rfl (lv_at hl 4 rfl) ?_
      refine lv_bipush (v := 60) hx hb dX10_tried_48 (by decide) ?_
      refine sb_icmp_gt (tgt := 61) hx hb rfl (by decide : (60 : Int32).toInt = 60) dX10_tried_50 (by decide) (fun c_50_15 => ?_) (fun c_50_15 => ?_)
      · exact hj_61_22 1 _ _ _ (by have lt0 : (1 : Int32).toInt = 1 := (by decide); first | omega | decide) (by have lt0 : (1 : Int32).toInt = 1 := (by decide); first | omega | decide) hw (lv_sub hl [0, 1, 2, 3, 4] rfl)
      · refine lv_iload_n hx hb dX10_tried_53 rfl (lv_at hl 4 rfl) ?_
        refine lv_aload_n hx hb dX10_tried_54 rfl (lv_at hl 1 rfl) ?_
        refine ti_callVi (ci := 10) (av := []) C hw (s_X10_minutesLeft l D A cy hJ M_1 iM_1 ) ⟨ml_X10_430, ym_X10_minutesLeft, yv_X10_minutesLeft, yi_X10_minutesLeft, yc_X10_minutesLeft⟩ yd_X10_minutesLeft ob_60 (by decide) rfl rfl hl.1 (Nat.le_of_ble_eq_true rfl) ⟨by decide, by decide⟩ ⟨Nat.zero_le _, Nat.zero_le _⟩ dX10_tried_55 (fun r_17 M_18 H locs hp_18 hw => ?_)
        obtain ⟨hm, b0r_17, b1r_17, p0r_17⟩ := hp_18
        have hw := hw.to hm
        refine sb_icmp_le (tgt := 63) hx hb rfl rfl dX10_tried_58 (by decide) (fun c_58_18 => ?_) (fun c_58_18 => ?_)
        · refine lv_aload_n hx hb dX10_tried_63 rfl (lv_at hl 1 rfl) ?_
          refine ti_callVv (ci := 10) (av := []) C hw (s_X10_lays l D A cy hJ M_1 iM_1 (((rw1_qw (qw_I hM_1 (by decide))).2.2.1 0 (by decide)).1 hC0) (((rw1_qw (qw_I hM_1 (by decide))).2.2.1 0 (by decide)).2 hP0)) ⟨ml_X10_442, ym_X10_lays, yv_X10_lays, yi_X10_lays, yc_X10_lays⟩ yd_X10_lays ob_60 (by decide) rfl rfl hl.1 (Nat.le_of_ble_eq_true rfl) ⟨by decide, by decide⟩ ⟨Nat.zero_le _, Nat.zero_le _⟩ dX10_tried_64 (fun M_24 H locs hp_24 hw => ?_)
          obtain ⟨iM_24, q_25, q_26, q_27, q_28, q_29, q_30⟩ := hp_24
          refine lv_iload_n hx hb dX10_tried_67 rfl (lv_at hl 2 rfl) ?_
          refine lv_iconst (v := 2) hx hb dX10_tried_68 (by decide) ?_
          have hj_119_53 : ∀ (M_51 : ti_M) (H : Heap) (locs : List Loc) (ls : Array Slot), (mI Tm M_51) → (rw1 M_51 M) → (mC M_51 1) → ti_H ti_LM D A cy H0 M_51 H locs → lv_has ls 6 [(4, .int 1), (0, .ref (A 60 0)), (1, .int z1), (2, .int z2), (3, .int z3)] → W p l e (ti_rm 8) s m args below meth c H locs 0 0 Q (F0 m 119 ls []) := by
            intro M_51 H locs ls iM_51 f_52 f_53 hw hl
            refine lv_iconst (v := 0) hx hb dX10_tried_119 (by decide) ?_
            refine lv_istore (lv' := [(5, .int 0), (4, .int 1), (0, .ref (A 60 0)), (1, .int z1), (2, .int z2), (3, .int z3)]) hx hb dX10_tried_120 hl (by decide) rfl (fun ls hl => ?_)
            have hl_122_59 : ∀ (n_60 : Nat) (x_54 : Int32) (M_57 : ti_M) (H : Heap) (locs : List Loc) (ls : Array Slot), (8 - x_54.toInt : Int).toNat < n_60 → (0 ≤ x_54.toInt) → (x_54.toInt ≤ 8) → (mI Tm M_57) → (rw1 M_57 M) → (mC M_57 1) → ti_H ti_LM D A cy H0 M_57 H locs → lv_has ls 6 [(5, .int x_54), (4, .int 1), (0, .ref (A 60 0)), (1, .int z1), (2, .int z2), (3, .int z3)] → W p l e (ti_rm 8) s m args below meth c H locs 0 0 Q (F0 m 122 ls []) := by
              intro n_60
              induction n_60 with
              | zero => intro x_54 M_57 H locs ls hf_60; exact absurd hf_60 (Nat.not_lt_zero _)
              | succ n_60 ih_60 =>
                intro x_54 M_57 H locs ls hf_60 b_55 b_56 iM_57 f_58 f_59 hw hl
                refine lv_iload hx hb dX10_tried_122 (lv_at hl 0 rfl) ?_
                refine lv_aload_n hx hb dX10_tried_124 rfl (lv_at hl 2 rfl) ?_
                refine ti_get (ci := 10) (k := 3) (N := 67) (T := TX10) (v := .ref (A 60 4)) C hw iw_10 rfl ob_60 (by decide) (by decide) fl_X10_13 rfl rfl dX10_tried_125 ?_
                refine lv_iconst (v := 0) hx hb dX10_tried_128 (by decide) ?_
                refine ti_iald (ci := 10) (k := 3) (n := 22) C hw ob_60 (by decide) (fun _ _ => rfl) (by unfold vp_in; decide) dX10_tried_129 ?_
                refine lv_topi (fun x_61 ex_61 => ?_)
                have yx_61 : tY M_57 60 3 0 = x_61 := ((congrArg _ (by decide)).symm.trans ex_61.symm)
                have bx_61 : 0 ≤ x_61.toInt ∧ x_61.toInt ≤ 8 := mI_rn (i := 0) iM_57 yx_61.symm (fun _ h => h)
                have zx_61 : (tY M_57 60 3 0).toInt = x_61.toInt := by rw [yx_61]
                have wx_61 : tY M 60 3 0 = x_61 := ((cg (f_58.1 3 (by decide) (by decide)) 0)).symm.trans yx_61
                have zwx_61 : (tY M 60 3 0).toInt = x_61.toInt := by rw [wx_61]
                have hj_170_72 : ∀  (H : Heap) (locs : List Loc) (ls : Array Slot), ti_H ti_LM D A cy H0 M_57 H locs → lv_has ls 6 [(5, .int x_54), (4, .int 1), (0, .ref (A 60 0)), (1, .int z1), (2, .int z2), (3, .int z3)] → W p l e (ti_rm 8) s m args below meth c H locs 0 0 Q (F0 m 170 ls []) := by
                  intro  H locs ls  hw hl
                  refine lv_aload_n hx hb dX10_tried_170 rfl (lv_at hl 2 rfl) ?_
                  refine lv_iload_n hx hb dX10_tried_171 rfl (lv_at hl 3 rfl) ?_
                  refine ti_putI (ci := 10) (k := 53) (N := 67) (T := TX10) C hw iw_10 tyX10 tyX10_ok nmX10 rfl ob_60 (by decide) (by decide) fl_X10_120 rfl rfl rfl rfl (fn_10 A _) fs_10_53 dX10_tried_172 (fun H locs hw => ?_)
                  obtain ⟨M_73, hM_73⟩ : ∃ z : ti_M, z = uI M_57 60 53 z1 := ⟨_, rfl⟩
                  have hw := hw.to hM_73.symm
                  have iM_73 : mI Tm M_73 := mI_uI iM_57 hM_73 (by decide) (by decide) trivial
                  refine lv_aload_n hx hb dX10_tried_175 rfl (lv_at hl 2 rfl) ?_
                  refine lv_iload_n hx hb dX10_tried_176 rfl (lv_at hl 5 rfl) ?_
                  refine ti_callVv (ci := 10) (av := [.int z3]) C hw (s_X10_runs l D A cy hJ M_73 iM_73 (mC_qw (qw_I hM_73 (by decide)) f_59) (mL_lw (lk.trans (lk_I hM_73 (by decide)) (lk_of f_58.1 f_58.2.1)).1 hL) z3) ⟨ml_X10_445, ym_X10_runs, yv_X10_runs, yi_X10_runs, yc_X10_runs⟩ yd_X10_runs ob_60 (by decide) rfl rfl hl.1 (Nat.le_of_ble_eq_true rfl) ⟨by decide, by decide⟩ ⟨Nat.zero_le _, Nat.zero_le _⟩ dX10_tried_177 (fun M_75 H locs hp_75 hw => ?_)
                  obtain ⟨iM_75, q_76, q_77⟩ := hp_75
                  refine lv_aload_n hx hb dX10_tried_180 rfl (lv_at hl 2 rfl) ?_
                  refine lv_iconst (v := (-1)) hx hb dX10_tried_181 (by decide) ?_
                  refine ti_putI (ci := 10) (k := 53) (N := 67) (T := TX10) C hw iw_10 tyX10 tyX10_ok nmX10 rfl ob_60 (by decide) (by decide) fl_X10_120 rfl rfl rfl rfl (fn_10 A _) fs_10_53 dX10_tried_182 (fun H locs hw => ?_)
                  obtain ⟨M_78, hM_78⟩ : ∃ z : ti_M, z = uI M_75 60 53 (-1) := ⟨_, rfl⟩
                  have hw := hw.to hM_78.symm
                  have iM_78 : mI Tm M_78 := mI_uI iM_75 hM_78 (by decide) (by decide) trivial
                  refine lv_aload_n hx hb dX10_tried_185 rfl (lv_at hl 2 rfl) ?_
                  refine lv_iconst (v := 1) hx hb dX10_tried_186 (by decide) ?_
                  refine ti_callVi (ci := 10) (av := [.int 1]) C hw (s_X10_servedMany_1 l D A cy hJ M_78 iM_78 ) ⟨ml_X10_491, ym_X10_servedMany, yv_X10_servedMany, yi_X10_servedMany, yc_X10_servedMany⟩ yd_X10_servedMany ob_60 (by decide) rfl rfl hl.1 (Nat.le_of_ble_eq_true rfl) ⟨by decide, by decide⟩ ⟨Nat.zero_le _, Nat.zero_le _⟩ dX10_tried_187 (fun r_79 M_80 H locs hp_80 hw => ?_)
                  have hm := hp_80
                  have hw := hw.to hm
                  exact hQ _ _ _ _ _ _ hw rfl (⟨mF_rw hF iM_78 (rw1.trans (rw1_qw (qw_I hM_78 (by decide))) (rw1.trans (rw1_rq q_76) (rw1.trans (rw1_qw (qw_I hM_73 (by decide))) f_58))), (rw1.trans (rw1_qw (qw_I hM_78 (by decide))) (rw1.trans (rw1_rq q_76) (rw1.trans (rw1_qw (qw_I hM_73 (by decide))) f_58))).2.1.1, (rw1.trans (rw1_qw (qw_I hM_78 (by decide))) (rw1.trans (rw1_rq q_76) (rw1.trans (rw1_qw (qw_I hM_73 (by decide))) f_58))).1⟩) dX10_tried_190
                refine sb_icmp_ge (tgt := 170) hx hb rfl rfl dX10_tried_130 (by decide) (fun c_130_61 => ?_) (fun c_130_61 => ?_)
                · exact hj_170_72  _ _ _  hw (lv_sub hl [0, 1, 2, 3, 4, 5] rfl)
                · refine lv_iload_n hx hb dX10_tried_133 rfl (lv_at hl 3 rfl) ?_
                  refine lv_iconst (v := 5) hx hb dX10_tried_134 (by decide) ?_
                  refine sb_icmp_ne (tgt := 170) hx hb rfl (by decide : (5 : Int32).toInt = 5) dX10_tried_135 (by decide) (fun c_135_62 => ?_) (fun c_135_62 => ?_)
                  · exact hj_170_72  _ _ _  hw (lv_sub hl [0, 1, 2, 3, 4, 5] rfl)
                  · refine lv_aload_n hx hb dX10_tried_138 rfl (lv_at hl 2 rfl) ?_
                    refine ti_get (ci := 10) (k := 40) (N := 67) (T := TX10) (v := .ref (A 60 41)) C hw iw_10 rfl ob_60 (by decide) (by decide) fl_X10_87 rfl rfl dX10_tried_139 ?_
                    refine lv_iload hx hb dX10_tried_142 (lv_at hl 0 rfl) ?_
                    refine ti_iald (ci := 10) (k := 40) (n := 184) C hw ob_60 (by decide) (fun _ _ => rfl) (vp_in_iff.mpr (by omega)) dX10_tried_144 ?_
                    refine lv_topi (fun x_64 ex_64 => ?_)
                    have yx_64 : tY M_57 60 40 x_54.toNatClampNeg = x_64 := (ex_64.symm)
                    have zx_64 : (tY M_57 60 40 x_54.toNatClampNeg).toInt = x_64.toInt := by rw [yx_64]
                    have hj_164_71 : ∀ (M_69 : ti_M) (H : Heap) (locs : List Loc) (ls : Array Slot), (mI Tm M_69) → (rw1 M_69 M) → (mC M_69 1) → ti_H ti_LM D A cy H0 M_69 H locs → lv_has ls 6 [(5, .int x_54), (4, .int 1), (0, .ref (A 60 0)), (1, .int z1), (2, .int z2), (3, .int z3)] → W p l e (ti_rm 8) s m args below meth c H locs 0 0 Q (F0 m 164 ls []) := by
                      intro M_69 H locs ls iM_69 f_70 f_71 hw hl
                      obtain ⟨x_72, ex_72⟩ : ∃ z : Int32, z = x_54 + 1 := ⟨_, rfl⟩
                      have tx_72 : x_72.toInt = x_54.toInt + 1 := i_add ex_72 rfl (by decide) (by omega) (by omega)
                      refine lv_iinc (v := x_72) (lv' := [(5, .int x_72), (4, .int 1), (0, .ref (A 60 0)), (1, .int z1), (2, .int z2), (3, .int z3)]) hx hb dX10_tried_164 hl (k := 0) rfl (by rw [ex_72]; rfl) (by decide) rfl (fun ls hl => ?_)
                      refine lv_goto (tgt := 122) hx hb dX10_tried_167 (by decide) ?_
                      exact ih_60 x_72 M_69 _ _ _ (by omega) (by first | omega | decide) (by first | omega | decide) iM_69 f_70 f_71 hw (lv_sub hl [0, 1, 2, 3, 4, 5] rfl)
                    refine sb_if_ne (tgt := 164) hx hb rfl dX10_tried_145 (by decide) (fun c_145_64 => ?_) (fun c_145_64 => ?_)
                    · exact hj_164_71 M_57 _ _ _ iM_57 f_58 f_59 hw (lv_sub hl [0, 1, 2, 3, 4, 5] rfl)
                    · refine lv_aload_n hx hb dX10_tried_148 rfl (lv_at hl 2 rfl) ?_
                      refine ti_get (ci := 10) (k := 44) (N := 67) (T := TX10) (v := .ref (A 60 45)) C hw iw_10 rfl ob_60 (by decide) (by decide) fl_X10_99 rfl rfl dX10_tried_149 ?_
                      refine lv_bipush (v := 8) hx hb dX10_tried_152 (by decide) ?_
                      refine lv_iload hx hb dX10_tried_154 (lv_at hl 0 rfl) ?_
                      refine lv_iadd hx hb dX10_tried_156 ?_
                      refine lv_topi (fun x_66 ex_66 => ?_)
                      have tx_66 : x_66.toInt = 8 + x_54.toInt := i_add ex_66 (by decide : (8 : Int32).toInt = 8) rfl (by omega) (by omega)
                      refine lv_aload_n hx hb dX10_tried_157 rfl (lv_at hl 2 rfl) ?_
                      refine ti_get (ci := 10) (k := 34) (N := 67) (T := TX10) (v := .ref (A 60 35)) C hw iw_10 rfl ob_60 (by decide) (by decide) fl_X10_69 rfl rfl dX10_tried_158 ?_
                      refine lv_iconst (v := 0) hx hb dX10_tried_161 (by decide) ?_
                      refine ti_iald (ci := 10) (k := 34) (n := 23) C hw ob_60 (by decide) (fun _ _ => rfl) (by unfold vp_in; decide) dX10_tried_162 ?_
                      refine lv_topi (fun x_67 ex_67 => ?_)
                      have yx_67 : tY M_57 60 34 0 = x_67 := ((congrArg _ (by decide)).symm.trans ex_67.symm)
                      have bx_67 : 0 ≤ x_67.toInt ∧ x_67.toInt ≤ 120 := mI_ry (k := 34) (i := 0) iM_57 yx_67.symm (by decide)
                      have zx_67 : (tY M_57 60 34 0).toInt = x_67.toInt := by rw [yx_67]
                      refine ti_iast (ci := 10) (k := 44) (n := 184) C hw ob_60 (by decide) (fun _ _ => rfl) (vp_in_iff.mpr (by omega)) dX10_tried_163 (fun H locs hw => ?_)
                      obtain ⟨M_68, hM_68⟩ : ∃ z : ti_M, z = uY M_57 60 44 (upd (tY M_57 60 44) (x_66 : Int32).toNatClampNeg x_67) := ⟨_, rfl⟩
                      have hw := hw.to hM_68.symm
                      have iM_68 : mI Tm M_68 := mI_up (i := x_66.toNatClampNeg) iM_57 hM_68 trivial
                      exact hj_164_71 M_68 _ _ _ iM_68 (rw1.trans (rw1_qw (qw_Y hM_68 (by decide))) f_58) (mC_qw (qw_Y hM_68 (by decide)) f_59) hw (lv_sub hl [0, 1, 2, 3, 4, 5] rfl)
            exact hl_122_59 ((8 - 0 : Int).toNat + 1) 0 M_51 _ _ _ (Nat.lt_succ_self _) (by have lt0 : (0 : Int32).toInt = 0 := (by decide); first | omega | decide) (by have lt0 : (0 : Int32).toInt = 0 := (by decide); first | omega | decide) iM_51 f_52 f_53 hw (lv_sub hl [0, 1, 2, 3, 4, 5] rfl)
          refine sb_icmp_ne (tgt := 119) hx hb rfl (by decide : (2 : Int32).toInt = 2) dX10_tried_69 (by decide) (fun c_69_30 => ?_) (fun c_69_30 => ?_)
          · exact hj_119_53 M_24 _ _ _ iM_24 (rw1.trans (rw1_rq q_25) (rw1_qw (qw_I hM_1 (by decide)))) q_26 hw (lv_sub hl [0, 1, 2, 3, 4] rfl)
          · refine lv_aload_n hx hb dX10_tried_72 rfl (lv_at hl 1 rfl) ?_
            refine ti_get (ci := 10) (k := 40) (N := 67) (T := TX10) (v := .ref (A 60 41)) C hw iw_10 rfl ob_60 (by decide) (by decide) fl_X10_87 rfl rfl dX10_tried_73 ?_
            refine lv_iload_n hx hb dX10_tried_76 rfl (lv_at hl 3 rfl) ?_
            refine ti_iald (ci := 10) (k := 40) (n := 184) C hw ob_60 (by decide) (fun _ _ => rfl) (vp_in_iff.mpr (by omega)) dX10_tried_77 ?_
            refine lv_topi (fun x_32 ex_32 => ?_)
            have yx_32 : tY M_24 60 40 z2.toNatClampNeg = x_32 := (ex_32.symm)
            have zx_32 : (tY M_24 60 40 z2.toNatClampNeg).toInt = x_32.toInt := by rw [yx_32]
            refine lv_iconst (v := 1) hx hb dX10_tried_78 (by decide) ?_
            have hj_100_46 : ∀ (M_44 : ti_M) (H : Heap) (locs : List Loc) (ls : Array Slot), (mI Tm M_44) → (rw1 M_44 M) → (mC M_44 1) → ti_H ti_LM D A cy H0 M_44 H locs → lv_has ls 6 [(4, .int 1), (0, .ref (A 60 0)), (1, .int z1), (2, .int z2), (3, .int z3)] → W p l e (ti_rm 8) s m args below meth c H locs 0 0 Q (F0 m 100 ls []) := by
              intro M_44 H locs ls iM_44 f_45 f_46 hw hl
              refine lv_aload_n hx hb dX10_tried_100 rfl (lv_at hl 1 rfl) ?_
              refine ti_get (ci := 10) (k := 40) (N := 67) (T := TX10) (v := .ref (A 60 41)) C hw iw_10 rfl ob_60 (by decide) (by decide) fl_X10_87 rfl rfl dX10_tried_101 ?_
              refine lv_iload_n hx hb dX10_tried_104 rfl (lv_at hl 3 rfl) ?_
              refine ti_iald (ci := 10) (k := 40) (n := 184) C hw ob_60 (by decide) (fun _ _ => rfl) (vp_in_iff.mpr (by omega)) dX10_tried_105 ?_
              refine lv_topi (fun x_47 ex_47 => ?_)
              have yx_47 : tY M_44 60 40 z2.toNatClampNeg = x_47 := (ex_47.symm)
              have zx_47 : (tY M_44 60 40 z2.toNatClampNeg).toInt = x_47.toInt := by rw [yx_47]
              refine sb_if_ne (tgt := 119) hx hb rfl dX10_tried_106 (by decide) (fun c_106_47 => ?_) (fun c_106_47 => ?_)
              · exact hj_119_53 M_44 _ _ _ iM_44 f_45 f_46 hw (lv_sub hl [0, 1, 2, 3, 4] rfl)
              · refine lv_aload_n hx hb dX10_tried_109 rfl (lv_at hl 1 rfl) ?_
                refine ti_get (ci := 10) (k := 40) (N := 67) (T := TX10) (v := .ref (A 60 41)) C hw iw_10 rfl ob_60 (by decide) (by decide) fl_X10_87 rfl rfl dX10_tried_110 ?_
                refine lv_bipush (v := 8) hx hb dX10_tried_113 (by decide) ?_
                refine lv_iload_n hx hb dX10_tried_115 rfl (lv_at hl 3 rfl) ?_
                refine lv_iadd hx hb dX10_tried_116 ?_
                refine lv_topi (fun x_49 ex_49 => ?_)
                have lox_49z2 := z2.le_toInt
                have hix_49z2 := z2.toInt_lt
                have tx_49 : x_49.toInt = 8 + z2.toInt := i_add ex_49 (by decide : (8 : Int32).toInt = 8) rfl (by omega) (by omega)
                refine lv_iconst (v := 3) hx hb dX10_tried_117 (by decide) ?_
                refine ti_iast (ci := 10) (k := 40) (n := 184) C hw ob_60 (by decide) (fun _ _ => rfl) (vp_in_iff.mpr (by omega)) dX10_tried_118 (fun H locs hw => ?_)
                obtain ⟨M_50, hM_50⟩ : ∃ z : ti_M, z = uY M_44 60 40 (upd (tY M_44 60 40) (x_49 : Int32).toNatClampNeg 3) := ⟨_, rfl⟩
                have hw := hw.to hM_50.symm
                have iM_50 : mI Tm M_50 := mI_up (i := x_49.toNatClampNeg) iM_44 hM_50 trivial
                have rwM_50 : rw1 M_50 M_44 := rw1_40 iM_44 hM_50 (by show 8 ≤ (x_49).toInt.toNat ∧ (x_49).toInt.toNat < 16; omega)
                have mcM_50 := mC_40 f_46 hM_50 (by decide)
                exact hj_119_53 M_50 _ _ _ iM_50 (rw1.trans rwM_50 f_45) mcM_50 hw (lv_sub hl [0, 1, 2, 3, 4] rfl)
            refine sb_icmp_ne (tgt := 100) hx hb rfl (by decide : (1 : Int32).toInt = 1) dX10_tried_79 (by decide) (fun c_79_32 => ?_) (fun c_79_32 => ?_)
            · exact hj_100_46 M_24 _ _ _ iM_24 (rw1.trans (rw1_rq q_25) (rw1_qw (qw_I hM_1 (by decide)))) q_26 hw (lv_sub hl [0, 1, 2, 3, 4] rfl)
            · refine lv_aload_n hx hb dX10_tried_82 rfl (lv_at hl 1 rfl) ?_
              refine lv_iconst (v := 1) hx hb dX10_tried_83 (by decide) ?_
              refine lv_aload_n hx hb dX10_tried_84 rfl (lv_at hl 1 rfl) ?_
              refine lv_iconst (v := 1) hx hb dX10_tried_85 (by decide) ?_
              refine lv_iload_n hx hb dX10_tried_86 rfl (lv_at hl 3 rfl) ?_
              refine ti_callVi (ci := 10) (av := [.int 1, .int z2]) C hw (s_X10_placeOf_1 l D A cy hJ M_24 iM_24 z2) ⟨ml_X10_411, ym_X10_placeOf, yv_X10_placeOf, yi_X10_placeOf, yc_X10_placeOf⟩ yd_X10_placeOf ob_60 (by decide) rfl rfl hl.1 (Nat.le_of_ble_eq_true rfl) ⟨by decide, by decide⟩ ⟨Nat.zero_le _, Nat.zero_le _⟩ dX10_tried_87 (fun r_34 M_35 H locs hp_35 hw => ?_)
              obtain ⟨hm, hz⟩ := hp_35
              have hw := hw.to hm
              have lk_37 : (tY M_24 60 3 0).toInt = (tY M 60 3 0).toInt := by rw [((cg (q_25.1 3 (by decide) (by decide)) 0).trans (cg (tY_uIE hM_1) 0))]
              rcases hz with ⟨rfl, z1_36⟩ | ⟨z1_36, z2_36, z3_36, z4_36⟩
              · obtain ⟨p9, k1, k2⟩ := q_27 z2.toInt.toNat (by omega) (by omega) (by have t1 : tY M_24 60 40 (8 * 1 + z2.toInt.toNat) = tY M_24 60 40 z2.toNatClampNeg := (q_28 z2.toInt.toNat (by omega)).trans (q_29 z2.toInt.toNat (by omega)).symm; rw [t1, (yx_32)]; omega); exact absurd (k2.trans (by omega)) (z1_36 p9 k1)
              · refine lv_iconst (v := 3) hx hb dX10_tried_90 (by decide) ?_
                refine lv_aload_n hx hb dX10_tried_91 rfl (lv_at hl 1 rfl) ?_
                refine ti_get (ci := 10) (k := 34) (N := 67) (T := TX10) (v := .ref (A 60 35)) C hw iw_10 rfl ob_60 (by decide) (by decide) fl_X10_69 rfl rfl dX10_tried_92 ?_
                refine lv_iconst (v := 0) hx hb dX10_tried_95 (by decide) ?_
                refine ti_iald (ci := 10) (k := 34) (n := 23) C hw ob_60 (by decide) (fun _ _ => rfl) (by unfold vp_in; decide) dX10_tried_96 ?_
                refine lv_topi (fun x_38 ex_38 => ?_)
                have yx_38 : tY M_24 60 34 0 = x_38 := ((congrArg _ (by decide)).symm.trans ex_38.symm)
                have bx_38 : 0 ≤ x_38.toInt ∧ x_38.toInt ≤ 120 := mI_ry (k := 34) (i := 0) iM_24 yx_38.symm (by decide)
                have zx_38 : (tY M_24 60 34 0).toInt = x_38.toInt := by rw [yx_38]
                refine ti_callVv (ci := 10) (av := [.int 1, .int r_34, .int 3, .int x_38]) C hw (s_X10_leaves_1 l D A cy hJ M_24 iM_24 q_26 r_34 3 x_38 (by first | omega | decide | (have l0 : (0 : Int32).toInt = 0 := (by decide); have l2 : (2 : Int32).toInt = 2 := (by decide); have l3 : (3 : Int32).toInt = 3 := (by decide); omega)) (by first | omega | decide | (have l0 : (0 : Int32).toInt = 0 := (by decide); have l2 : (2 : Int32).toInt = 2 := (by decide); have l3 : (3 : Int32).toInt = 3 := (by decide); omega)) (by first | omega | decide | (have l0 : (0 : Int32).toInt = 0 := (by decide); have l2 : (2 : Int32).toInt = 2 := (by decide); have l3 : (3 : Int32).toInt = 3 := (by decide); omega))) ⟨ml_X10_377, ym_X10_leaves, yv_X10_leaves, yi_X10_leaves, yc_X10_leaves⟩ yd_X10_leaves ob_60 (by decide) rfl rfl hl.1 (Nat.le_of_ble_eq_true rfl) ⟨by decide, by decide⟩ ⟨Nat.zero_le _, Nat.zero_le _⟩ dX10_tried_97 (fun M_40 H locs hp_40 hw => ?_)
                obtain ⟨iM_40, q_41, q_42, q_43, p0r_39⟩ := hp_40
                exact hj_100_46 M_40 _ _ _ iM_40 (rw1.trans (rw1_rq q_41) (rw1.trans (rw1_rq q_25) (rw1_qw (qw_I hM_1 (by decide))))) q_42 hw (lv_sub hl [0, 1, 2, 3, 4] rfl)
        · exact hj_61_22 1 _ _ _ (by have lt0 : (1 : Int32).toInt = 1 := (by decide); first | omega | decide) (by have lt0 : (1 : Int32).toInt = 1 := (by decide); first | omega | decide) hw (lv_sub hl [0, 1, 2, 3, 4] rfl)
  refine sb_icmp_ne (tgt := 18) hx hb rfl (by decide : (2 : Int32).toInt = 2) dX10_tried_7 (by decide) (fun c_7_1 => ?_) (fun c_7_1 => ?_)
  · refine lv_iload_n hx hb dX10_tried_18 rfl (lv_at hl 1 rfl) ?_
    have hj_35_9 : ∀  (H : Heap) (locs : List Loc) (ls : Array Slot), ti_H ti_LM D A cy H0 M_1 H locs → lv_has ls 6 [(0, .ref (A 60 0)), (1, .int z1), (2, .int z2), (3, .int z3)] → W p l e (ti_rm 8) s m args below meth c H locs 0 0 Q (F0 m 35 ls []) := by
      intro  H locs ls  hw hl
      refine lv_iconst (v := 0) hx hb dX10_tried_35 (by decide) ?_
      refine lv_istore (lv' := [(4, .int 0), (0, .ref (A 60 0)), (1, .int z1), (2, .int z2), (3, .int z3)]) hx hb dX10_tried_36 hl (by decide) rfl (fun ls hl => ?_)
      refine lv_iload hx hb dX10_tried_38 (lv_at hl 0 rfl) ?_
      refine sb_if_eq (tgt := 61) hx hb (by decide : (0 : Int32).toInt = 0) dX10_tried_40 (by decide) (fun c_40_12 => ?_) (fun h => absurd h (by decide))
      exact hj_61_22 0 _ _ _ (by have lt0 : (0 : Int32).toInt = 0 := (by decide); first | omega | decide) (by have lt0 : (0 : Int32).toInt = 0 := (by decide); first | omega | decide) hw (lv_sub hl [0, 1, 2, 3, 4] rfl)
    refine sb_if_lt (tgt := 35) hx hb rfl dX10_tried_19 (by decide) (fun c_19_6 => ?_) (fun c_19_6 => ?_)
    · exact hj_35_9  _ _ _  hw (lv_sub hl [0, 1, 2, 3] rfl)
    · refine lv_iload_n hx hb dX10_tried_22 rfl (lv_at hl 1 rfl) ?_
      refine lv_iconst (v := 5) hx hb dX10_tried_23 (by decide) ?_
      refine sb_icmp_gt (tgt := 35) hx hb rfl (by decide : (5 : Int32).toInt = 5) dX10_tried_24 (by decide) (fun c_24_7 => ?_) (fun c_24_7 => ?_)
      · exact hj_35_9  _ _ _  hw (lv_sub hl [0, 1, 2, 3] rfl)
      · refine lv_iload_n hx hb dX10_tried_27 rfl (lv_at hl 2 rfl) ?_
        refine sb_if_ne (tgt := 35) hx hb rfl dX10_tried_28 (by decide) (fun c_28_8 => ?_) (fun c_28_8 => ?_)
        · exact hj_35_9  _ _ _  hw (lv_sub hl [0, 1, 2, 3] rfl)
        · refine lv_iconst (v := 1) hx hb dX10_tried_31 (by decide) ?_
          refine lv_goto (tgt := 36) hx hb dX10_tried_32 (by decide) ?_
          refine lv_istore (lv' := [(4, .int 1), (0, .ref (A 60 0)), (1, .int z1), (2, .int z2), (3, .int z3)]) hx hb dX10_tried_36 hl (by decide) rfl (fun ls hl => ?_)
          refine lv_iload hx hb dX10_tried_38 (lv_at hl 0 rfl) ?_
          refine sb_if_eq (tgt := 61) hx hb (by decide : (1 : Int32).toInt = 1) dX10_tried_40 (by decide) (fun h => absurd h (by decide)) (fun c_40_11 => ?_)
          exact hj_43_14  _ _ _ (by first | omega | decide) hw (lv_sub hl [0, 1, 2, 3, 4] rfl)
  · refine lv_aload_n hx hb dX10_tried_10 rfl (lv_at hl 0 rfl) ?_
    refine lv_iload_n hx hb dX10_tried_11 rfl (lv_at hl 2 rfl) ?_
    refine ti_callVi (ci := 10) (av := [.int z2]) C hw (s_X10_isMan l D A cy hJ M_1 iM_1 z2) ⟨ml_X10_356, ym_X10_isMan, yv_X10_isMan, yi_X10_isMan, yc_X10_isMan⟩ yd_X10_isMan ob_60 (by decide) rfl rfl hl.1 (Nat.le_of_ble_eq_true rfl) ⟨by decide, by decide⟩ ⟨Nat.zero_le _, Nat.zero_le _⟩ dX10_tried_12 (fun r_3 M_4 H locs hp_4 hw => ?_)
    obtain ⟨hm, hz⟩ := hp_4
    have hw := hw.to hm
    have lk_6 : (tY M_1 60 3 0).toInt = (tY M 60 3 0).toInt := by rw [(cg (tY_uIE hM_1) 0)]
    rcases hz with ⟨rfl, d0_5, d1_5, d2_5⟩ | rfl
    · refine lv_goto (tgt := 36) hx hb dX10_tried_15 (by decide) ?_
      refine lv_istore (lv' := [(4, .int 1), (0, .ref (A 60 0)), (1, .int z1), (2, .int z2), (3, .int z3)]) hx hb dX10_tried_36 hl (by decide) rfl (fun ls hl => ?_)
      refine lv_iload hx hb dX10_tried_38 (lv_at hl 0 rfl) ?_
      refine sb_if_eq (tgt := 61) hx hb (by decide : (1 : Int32).toInt = 1) dX10_tried_40 (by decide) (fun h => absurd h (by decide)) (fun c_40_9 => ?_)
      exact hj_43_14  _ _ _ (by first | omega | decide) hw (lv_sub hl [0, 1, 2, 3, 4] rfl)
    · refine lv_goto (tgt := 36) hx hb dX10_tried_15 (by decide) ?_
      refine lv_istore (lv' := [(4, .int 0), (0, .ref (A 60 0)), (1, .int z1), (2, .int z2), (3, .int z3)]) hx hb dX10_tried_36 hl (by decide) rfl (fun ls hl => ?_)
      refine lv_iload hx hb dX10_tried_38 (lv_at hl 0 rfl) ?_
      refine sb_if_eq (tgt := 61) hx hb (by decide : (0 : Int32).toInt = 0) dX10_tried_40 (by decide) (fun c_40_10 => ?_) (fun h => absurd h (by decide))
      exact hj_61_22 0 _ _ _ (by have lt0 : (0 : Int32).toInt = 0 := (by decide); first | omega | decide) (by have lt0 : (0 : Int32).toInt = 0 := (by decide); first | omega | decide) hw (lv_sub hl [0, 1, 2, 3, 4] rfl)

variable {Tc : gC} {Tm : gM}
def ff (M : ti_M) : Int := if (tI M 60 25).toInt = 0 then 1 else 0
def pg (M : ti_M) : Int := 2 * (tI M 60 21).toInt + (if (tI M 60 23).toInt = 4 then 1 else 0)
theorem ff_b (M : ti_M) : 0 ≤ ff M ∧ ff M ≤ 1 := by unfold ff; split <;> omega
theorem ff_1 {M : ti_M} (h : (tI M 60 25).toInt = 0) : ff M = 1 := by unfold ff; rw [if_pos h]
theorem ff_0 {M : ti_M} (h : ¬ (tI M 60 25).toInt = 0) : ff M = 0 := by unfold ff; rw [if_neg h]
theorem ff_n {M : ti_M} (h : ff M = 0) : (tI M 60 25).toInt ≠ 0 := by intro q; rw [ff_1 q] at h; exact absurd h (by decide)
theorem ff_e {N M : ti_M} (h : tI N 60 25 = tI M 60 25) : ff N = ff M := by unfold ff; rw [h]
theorem ff_f {N M : ti_M} (h : (tI M 60 25).toInt = 0 ∨ (tI N 60 25).toInt ≠ 0) : ff N ≤ ff M := by
  rcases h with h | h
  · rw [ff_1 h]; exact (ff_b N).2
  · rw [ff_0 h]; exact (ff_b M).1
theorem pg_e {N M : ti_M} (h : tI N 60 21 = tI M 60 21) (h2 : tI N 60 23 = tI M 60 23) : pg N = pg M := by unfold pg; rw [h, h2]
theorem pg_b (M : ti_M) : 2 * (tI M 60 21).toInt ≤ pg M ∧ pg M ≤ 2 * (tI M 60 21).toInt + 1 := by unfold pg; split <;> omega
theorem pg_3 {M : ti_M} (h : (tI M 60 23).toInt ≠ 4) : pg M = 2 * (tI M 60 21).toInt := by unfold pg; rw [if_neg h]; omega
theorem pg_s {N M : ti_M} (h1 : (tI M 60 21).toInt ≤ (tI N 60 21).toInt) (h : (tI M 60 21).toInt < (tI N 60 21).toInt ∨ (tI N 60 23).toInt = (tI M 60 23).toInt ∨ (tI N 60 23).toInt = 4) : pg M ≤ pg N := by unfold pg; split <;> split <;> omega
theorem pg_t {N M : ti_M} (h1 : (tI M 60 21).toInt ≤ (tI N 60 21).toInt) (h : (tI M 60 21).toInt < (tI N 60 21).toInt ∨ (tI N 60 23).toInt = 4) : pg M ≤ pg N ∧ 2 * (tI M 60 21).toInt + 1 ≤ pg N := by unfold pg; constructor <;> (repeat' split) <;> omega
theorem ff_I {k : Nat} {N M : ti_M} {v : Int32} (e : N = uI M 60 k v) (h : k ≠ 25) : ff N = ff M := ff_e (tI_nE e (nk (Ne.symm h)))
theorem pg_I {k : Nat} {N M : ti_M} {v : Int32} (e : N = uI M 60 k v) (h : k ≠ 21 ∧ k ≠ 23) : pg N = pg M := pg_e (tI_nE e (nk (Ne.symm h.1))) (tI_nE e (nk (Ne.symm h.2)))
theorem b30 {M : ti_M} (h : mI Tm M) : 0 ≤ (tI M 60 30).toInt ∧ (tI M 60 30).toInt ≤ 64 := h.1 30
theorem b29 {M : ti_M} (h : mI Tm M) : 0 ≤ (tI M 60 29).toInt ∧ (tI M 60 29).toInt ≤ 8 := h.1 29
theorem b18 {M : ti_M} (h : mI Tm M) : 0 ≤ (tY M 60 3 18).toInt ∧ (tY M 60 3 18).toInt ≤ 64 := mI_rn (i := 18) h rfl (fun _ h => h)
theorem us_f {M : ti_M} {a d : Nat} (h : ff M = 0) : us M a d := Or.inl (ff_n h)
theorem z0 {x : Int32} (h : x.toInt = 0) : x = 0 := Int32.toInt_inj.mp (by rw [h]; decide)
theorem us_q {x y : Nat} {N M : ti_M} {a d : Nat} (h : us M a d) (r : pr x y N M) (hf : ff N ≤ ff M) : us N a d := us_pr h r (by
  by_cases q : (tI M 60 25).toInt = 0
  · exact Or.inl q
  · refine Or.inr (ff_n ?_)
    rw [ff_0 q] at hf
    have := (ff_b N).1
    omega)
theorem l_tk {N M : ti_M} (h : mI Tm N ∧ pr 21 24 N M ∧ (tI M 60 21).toInt ≤ (tI N 60 21).toInt ∧ ((tI M 60 21).toInt < (tI N 60 21).toInt ∨ (tI N 60 23).toInt = 4)) : mI Tm N ∧ pr 21 24 N M ∧ pg M ≤ pg N ∧ ff N = ff M ∧ (tI N 60 29).toInt = (tI M 60 29).toInt ∧ (tI N 60 30).toInt = (tI M 60 30).toInt ∧ (tY N 60 3 18).toInt = (tY M 60 3 18).toInt ∧ 2 * (tI M 60 21).toInt + 1 ≤ pg N :=
  ⟨h.1, h.2.1, (pg_t h.2.2.1 h.2.2.2).1, ff_e (h.2.1.2 25 (by decide)), by rw [h.2.1.2 29 (by decide)], by rw [h.2.1.2 30 (by decide)], by rw [tY_fr h.2.1.1], (pg_t h.2.2.1 h.2.2.2).2⟩
theorem l_wr {N M : ti_M} {P1 P2 P3 : Prop} (h : mI Tm N ∧ pr 25 26 N M ∧ P1 ∧ P2 ∧ P3 ∧ (tI N 60 25).toInt ≠ 0) : mI Tm N ∧ pr 25 26 N M ∧ pg N = pg M ∧ ff N = 0 ∧ (tI N 60 29).toInt = (tI M 60 29).toInt ∧ (tI N 60 30).toInt = (tI M 60 30).toInt ∧ (tY N 60 3 18).toInt = (tY M 60 3 18).toInt :=
  ⟨h.1, h.2.1, pg_e (h.2.1.2 21 (by decide)) (h.2.1.2 23 (by decide)), ff_0 h.2.2.2.2.2, by rw [h.2.1.2 29 (by decide)], by rw [h.2.1.2 30 (by decide)], by rw [tY_fr h.2.1.1]⟩
theorem l_go {N M : ti_M} {P4 P5 : Prop} (h : mI Tm N ∧ pr 21 24 N M ∧ ((tI M 60 21).toInt ≤ (tI N 60 21).toInt) ∧ ((tI M 60 21).toInt < (tI N 60 21).toInt ∨ (tI N 60 23).toInt = (tI M 60 23).toInt ∨ (tI N 60 23).toInt = 4) ∧ P4 ∧ P5) : mI Tm N ∧ pr 21 24 N M ∧ pg M ≤ pg N ∧ ff N = ff M ∧ (tI N 60 29).toInt = (tI M 60 29).toInt ∧ (tI N 60 30).toInt = (tI M 60 30).toInt ∧ (tY N 60 3 18).toInt = (tY M 60 3 18).toInt :=
  ⟨h.1, h.2.1, pg_s h.2.2.1 h.2.2.2.1, ff_e (h.2.1.2 25 (by decide)), by rw [h.2.1.2 29 (by decide)], by rw [h.2.1.2 30 (by decide)], by rw [tY_fr h.2.1.1]⟩
theorem l_kn {N M : ti_M} {P1 P2 : Prop} (h : mI Tm N ∧ pr 25 30 N M ∧ P1 ∧ P2 ∧ ((tI M 60 25).toInt = 0 ∨ (tI N 60 25).toInt ≠ 0) ∧ ((tI N 60 29).toInt = (tI M 60 29).toInt) ∧ (((tI M 60 25).toInt ≠ 0 ∧ (tI N 60 30).toInt = (tI M 60 30).toInt) ∨ ((tI M 60 25).toInt = 0 ∧ (((tI N 60 25).toInt ≠ 0 ∧ (tI N 60 30).toInt = (tI M 60 30).toInt) ∨ ((tI N 60 25).toInt = 0 ∧ (tI N 60 30).toInt = (tI M 60 30).toInt + 1))))) : mI Tm N ∧ pr 25 30 N M ∧ pg N = pg M ∧ (0 ≤ ff N ∧ ff N ≤ ff M) ∧ (tI N 60 29).toInt = (tI M 60 29).toInt ∧ (tI N 60 30).toInt = (tI M 60 30).toInt + ff N ∧ (tI N 60 30).toInt ≤ 64 ∧ (tY N 60 3 18).toInt = (tY M 60 3 18).toInt := by
  obtain ⟨h1, h2, -, -, h3, h4, h5⟩ := h
  refine ⟨h1, h2, pg_e (h2.2 21 (by decide)) (h2.2 23 (by decide)), ⟨(ff_b N).1, ff_f h3⟩, h4, ?_, (b30 h1).2, by rw [tY_fr h2.1]⟩
  by_cases q : (tI N 60 25).toInt = 0
  · rw [ff_1 q]; omega
  · rw [ff_0 q]; omega
theorem l_pu {N M : ti_M} {a d2 : Nat} (hM : mI Tm M) (h : mI Tm N ∧ pe N M ∧ us N a d2 ∧ (∀ k, k ≠ 999 → tI N 60 k = tI M 60 k) ∧ ((tI N 60 25).toInt ≠ 0 ∨ (tY N 60 3 18).toInt = (tY M 60 3 18).toInt + 1)) : mI Tm N ∧ pe N M ∧ us N a d2 ∧ pg N = pg M ∧ ff N = ff M ∧ (tI N 60 29).toInt = (tI M 60 29).toInt ∧ (tI N 60 30).toInt = (tI M 60 30).toInt ∧ ((tY M 60 3 18).toInt ≤ (tY N 60 3 18).toInt ∧ (tY N 60 3 18).toInt ≤ 64) ∧ ((tY N 60 3 18).toInt ≤ (tY M 60 3 18).toInt + 65 - 64 * ff M ∧ (tY M 60 3 18).toInt + 1 ≤ (tY N 60 3 18).toInt + 64 - 64 * ff M) := by
  obtain ⟨h1, h2, h3, h4, h5⟩ := h
  have e := h4 25 (by decide)
  refine ⟨h1, h2, h3, pg_e (h4 21 (by decide)) (h4 23 (by decide)), ff_e e, by rw [h4 29 (by decide)], by rw [h4 30 (by decide)], ⟨h2.2.2.2.1, (b18 h1).2⟩, ?_⟩
  have := b18 h1
  have := h2.2.2.2.1
  by_cases q : (tI M 60 25).toInt = 0
  · rw [ff_1 q]; rw [e] at h5; omega
  · rw [ff_0 q]; have := b18 hM; omega
theorem nF {M : ti_M} {P : Prop} (h : ff M = 0) : (tI M 60 25).toInt ≠ 0 ∨ P := Or.inl (ff_n h)
theorem nL {M : ti_M} {P : Prop} (h : ff M = 0 ∨ P) : (tI M 60 25).toInt ≠ 0 ∨ P := h.imp ff_n id
set_option maxHeartbeats 4000000 in
set_option maxRecDepth 100000 in
theorem s_X10_primary (l : Launch) (D : va_G) (A : Nat → Nat → Nat) (cy : Nat → ClassId) (hJ : ti_inj ti_LM A) (M : ti_M) (hI : mI Tm M) (j a d : Nat) (hj : j ≤ 8) (hu : us M a d) (hc : (tY M 60 3 18).toInt ≤ (tI M 60 30).toInt + 64 - 64 * ff M) (ho : (tI M 60 29).toInt + j ≤ 16 - 8 * ff M) (ho2 : 8 * ff M ≤ (tI M 60 29).toInt + j) (ih : ∀ i : Nat, i < j → ∀ (l : Launch) (D : va_G) (A : Nat → Nat → Nat) (cy : Nat → ClassId) (hJ : ti_inj ti_LM A) (M : ti_M) (hI : mI Tm M) (a d : Nat) (hj : i ≤ 8) (hu : us M a d) (hc : (tY M 60 3 18).toInt ≤ (tI M 60 30).toInt + 64 - 64 * ff M) (ho : (tI M 60 29).toInt + i ≤ 16 - 8 * ff M) (ho2 : 8 * ff M ≤ (tI M 60 29).toInt + i), ti_KvE l yX10_expression cX10_expression 1 (78 + 71 * i) ti_LM D A cy M [.ref (A 60 0)] (fun M2 => mI Tm M2 ∧ pe M2 M ∧ (pg M ≤ pg M2) ∧ (0 ≤ ff M2) ∧ (ff M2 ≤ ff M) ∧ ((tI M 60 30).toInt ≤ (tI M2 60 30).toInt) ∧ ((tI M2 60 30).toInt ≤ 64) ∧ ((tI M2 60 29).toInt ≤ (tI M 60 29).toInt + 8 - 8 * ff M2) ∧ ((tI M 60 29).toInt ≤ (tI M2 60 29).toInt + 8 - 8 * ff M2) ∧ ((tI M2 60 30).toInt - (tY M2 60 3 18).toInt ≤ (tI M 60 30).toInt - (tY M 60 3 18).toInt + 200 - 200 * ff M2) ∧ ((tI M 60 30).toInt - (tY M 60 3 18).toInt ≤ (tI M2 60 30).toInt - (tY M2 60 3 18).toInt + 200 - 200 * ff M2) ∧ (0 ≤ (tY M2 60 3 18).toInt) ∧ ((tY M2 60 3 18).toInt ≤ 64) ∧ (0 ≤ (tI M2 60 29).toInt) ∧ ((tI M2 60 29).toInt ≤ 8) ∧ us M2 a (d + 1))) : ti_KvE l yX10_primary cX10_primary 2 (8 + 71 * j) ti_LM D A cy M [.ref (A 60 0)] (fun M2 => mI Tm M2 ∧ pe M2 M ∧ (pg M ≤ pg M2) ∧ (0 ≤ ff M2) ∧ (ff M2 ≤ ff M) ∧ ((tI M 60 30).toInt ≤ (tI M2 60 30).toInt) ∧ ((tI M2 60 30).toInt ≤ 64) ∧ ((tI M2 60 29).toInt ≤ (tI M 60 29).toInt + 8 - 8 * ff M2) ∧ ((tI M 60 29).toInt ≤ (tI M2 60 29).toInt + 8 - 8 * ff M2) ∧ ((tI M2 60 30).toInt - (tY M2 60 3 18).toInt ≤ (tI M 60 30).toInt - (tY M 60 3 18).toInt + 200 - 200 * ff M2) ∧ ((tI M 60 30).toInt - (tY M 60 3 18).toInt ≤ (tI M2 60 30).toInt - (tY M2 60 3 18).toInt + 200 - 200 * ff M2) ∧ (0 ≤ (tY M2 60 3 18).toInt) ∧ ((tY M2 60 3 18).toInt ≤ 64) ∧ (0 ≤ (tI M2 60 29).toInt) ∧ ((tI M2 60 29).toInt ≤ 8) ∧ us M2 a (d + 1)) := by
  refine ti_eVE yp_X10_primary hJ ti_LM_nd (Nat.le_of_ble_eq_true rfl) ?_
  intro p e s m args below meth c Q H0 C hE hQ hw ls hl
  have hx := C.1
  have hb := C.2.1
  have hl : lv_has ls 2 [(0, .ref (A 60 0))] := hl
  have hI30 := b30 hI
  have hI29 := b29 hI
  have hI18 := b18 hI
  have hIff := ff_b M
  refine lv_aload_n hx hb dX10_primary_0 rfl (lv_at hl 0 rfl) ?_
  refine ti_get (ci := 10) (k := 25) (N := 67) (T := TX10) C hw iw_10 rfl ob_60 (by decide) (by decide) fl_X10_208 rfl rfl dX10_primary_1 ?_
  refine lv_topi (fun x_1 ex_1 => ?_)
  have u_2 : (tI M 60 25).toInt = x_1.toInt := by rw [ex_1]
  have ufx_1 : (tI M 60 25).toInt = x_1.toInt := by rw [ex_1]
  refine sb_if_eq (tgt := 8) hx hb rfl dX10_primary_4 (by decide) (fun c_4_2 => ?_) (fun c_4_2 => ?_)
  · have z_4 : ff M = 1 := ff_1 (ufx_1.trans c_4_2)
    clear c_4_2
    refine lv_aload_n hx hb dX10_primary_8 rfl (lv_at hl 0 rfl) ?_
    refine lv_bipush (v := 40) hx hb dX10_primary_9 (by decide) ?_
    refine ti_callVi (ci := 10) (av := [.int 40]) C hw (s_X10_isSign l D A cy hJ M hI 40) ⟨ml_X10_251, ym_X10_isSign, yv_X10_isSign, yi_X10_isSign, yc_X10_isSign⟩ yd_X10_isSign ob_60 (by decide) rfl rfl hl.1 (Nat.le_of_ble_eq_true rfl) ⟨by simp only [ti_rm]; omega, by simp only [ti_rm]; omega⟩ ⟨Nat.zero_le _, Nat.zero_le _⟩ dX10_primary_11 (fun r_5 M_6 H locs hp_6 hw => ?_)
    obtain ⟨hm, hz⟩ := hp_6
    have hw := hw.to hm
    rcases hz with ⟨rfl, d0_7, d1_7, d2_7⟩ | rfl
    · have z_8 : ff M = 1 := ff_1 d0_7
      have z_9 : pg M = 2 * (tI M 60 21).toInt := pg_3 (by rw [d1_7]; decide)
      refine sb_if_eq (tgt := 101) hx hb (by decide : (1 : Int32).toInt = 1) dX10_primary_14 (by decide) (fun h => absurd h (by decide)) (fun c_14_9 => ?_)
      refine lv_aload_n hx hb dX10_primary_17 rfl (lv_at hl 0 rfl) ?_
      refine ti_get (ci := 10) (k := 29) (N := 67) (T := TX10) C hw iw_10 rfl ob_60 (by decide) (by decide) fl_X10_297 rfl rfl dX10_primary_18 ?_
      refine lv_topi (fun x_12 ex_12 => ?_)
      have bx_12 : 0 ≤ x_12.toInt ∧ x_12.toInt ≤ 8 := mI_rd hI ex_12
      have ux_12 : (tI M 60 29).toInt = x_12.toInt := by rw [ex_12]
      refine lv_bipush (v := 8) hx hb dX10_primary_21 (by decide) ?_
      refine sb_icmp_ne (tgt := 31) hx hb rfl (by decide : (8 : Int32).toInt = 8) dX10_primary_23 (by decide) (fun c_23_12 => ?_) (fun c_23_12 => ?_)
      · refine lv_aload_n hx hb dX10_primary_31 rfl (lv_at hl 0 rfl) ?_
        refine ti_get (ci := 10) (k := 25) (N := 67) (T := TX10) C hw iw_10 rfl ob_60 (by decide) (by decide) fl_X10_208 rfl rfl dX10_primary_32 ?_
        refine ti_top (y := x_1) (ex_1.symm) ?_
        refine sb_if_eq (tgt := 39) hx hb rfl dX10_primary_35 (by decide) (fun c_35_21 => ?_) (fun c_35_21 => by have z_23 : ff M = 0 := ff_0 (fun h => c_35_21 (ufx_1.symm.trans h)); omega)
        have z_23 : ff M = 1 := ff_1 (ufx_1.trans c_35_21)
        clear c_35_21
        refine lv_aload_n hx hb dX10_primary_39 rfl (lv_at hl 0 rfl) ?_
        refine lv_dup hx hb dX10_primary_40 rfl ?_
        refine ti_get (ci := 10) (k := 29) (N := 67) (T := TX10) C hw iw_10 rfl ob_60 (by decide) (by decide) fl_X10_297 rfl rfl dX10_primary_41 ?_
        refine ti_top (y := x_12) (ex_12.symm) ?_
        have u_28 : (tI M 60 29).toInt = (x_12 : Int32).toInt := by rw [(ex_12.symm)]
        refine lv_iconst (v := 1) hx hb dX10_primary_44 (by decide) ?_
        refine lv_iadd hx hb dX10_primary_45 ?_
        refine lv_topi (fun x_29 ex_29 => ?_)
        have tx_29 : x_29.toInt = x_12.toInt + 1 := i_add ex_29 rfl (by decide : (1 : Int32).toInt = 1) (by omega) (by omega)
        refine ti_putI (ci := 10) (k := 29) (N := 67) (T := TX10) C hw iw_10 tyX10 tyX10_ok nmX10 rfl ob_60 (by decide) (by decide) fl_X10_297 rfl rfl rfl rfl (fn_10 A _) fs_10_29 dX10_primary_46 (fun H locs hw => ?_)
        obtain ⟨M_30, hM_30⟩ : ∃ z : ti_M, z = uI M 60 29 x_29 := ⟨_, rfl⟩
        have hw := hw.to hM_30.symm
        have iM_30 : mI Tm M_30 := mI_uI hI hM_30 (by decide) (by decide) (ib_mk (lo := 0) (hi := 8) (by omega) (by omega))
        have vM_30 : (tI M_30 60 29).toInt = (x_29 : Int32).toInt := by rw [tI_uE hM_30]
        have z_31 : ff M_30 = ff M := ff_I hM_30 (by decide)
        have z_32 : pg M_30 = pg M := pg_I hM_30 (by decide)
        have z_33 : (tI M_30 60 30).toInt = (tI M 60 30).toInt := by rw [tI_nE hM_30 (nk (by decide))]
        have z_34 : (tY M_30 60 3 18).toInt = (tY M 60 3 18).toInt := by rw [tY_uIE hM_30]
        refine lv_aload_n hx hb dX10_primary_49 rfl (lv_at hl 0 rfl) ?_
        refine ti_callVvE (ci := 10) (av := []) C hE hw (s_X10_token l D A cy hJ M_30 iM_30 ) ⟨ml_X10_214, ym_X10_token, yv_X10_token, yi_X10_token, yc_X10_token⟩ yd_X10_token ob_60 (by decide) rfl rfl hl.1 (Nat.le_of_ble_eq_true rfl) ⟨by simp only [ti_rm]; omega, by simp only [ti_rm]; omega⟩ ⟨Nat.zero_le _, Nat.zero_le _⟩ dX10_primary_50 (fun M_36 H locs hp_36 hw => ?_)
        obtain ⟨iM_36, q_37, z_38, z_39, z_40, z_41, z_42, z_43⟩ := l_tk hp_36
        clear hp_36
        refine lv_aload_n hx hb dX10_primary_53 rfl (lv_at hl 0 rfl) ?_
        refine ti_callVvE (ci := 10) (av := []) C hE hw (ih (j - 1) (by omega) l D A cy hJ M_36 iM_36 a (d) (by omega) (us_q (x := 21) (y := 30) hu (pr.trans (pr_w q_37 (by decide) (by decide)) (pr_I hM_30 (by decide))) (by omega)) (by omega) (by omega) (by omega)) ⟨ml_X10_270, ym_X10_expression, yv_X10_expression, yi_X10_expression, yc_X10_expression⟩ yd_X10_expression ob_60 (by decide) rfl rfl hl.1 (Nat.le_of_ble_eq_true rfl) ⟨by simp only [ti_rm]; omega, by simp only [ti_rm]; omega⟩ ⟨Nat.zero_le _, Nat.zero_le _⟩ dX10_primary_54 (fun M_45 H locs hp_45 hw => ?_)
        obtain ⟨iM_45, q_46, p_47, p_48, p_49, p_50, p_51, p_52, p_53, p_54, p_55, p_56, p_57, p_58, p_59, u_60⟩ := hp_45
        refine lv_aload_n hx hb dX10_primary_57 rfl (lv_at hl 0 rfl) ?_
        refine ti_get (ci := 10) (k := 25) (N := 67) (T := TX10) C hw iw_10 rfl ob_60 (by decide) (by decide) fl_X10_208 rfl rfl dX10_primary_58 ?_
        refine lv_topi (fun x_61 ex_61 => ?_)
        have u_62 : (tI M_45 60 25).toInt = x_61.toInt := by rw [ex_61]
        have ufx_61 : (tI M_45 60 25).toInt = x_61.toInt := by rw [ex_61]
        refine sb_if_ne (tgt := 78) hx hb rfl dX10_primary_61 (by decide) (fun c_61_62 => ?_) (fun c_61_62 => ?_)
        · have z_64 : ff M_45 = 0 := ff_0 (fun h => c_61_62 (ufx_61.symm.trans h))
          clear c_61_62
          refine lv_aload_n hx hb dX10_primary_78 rfl (lv_at hl 0 rfl) ?_
          refine ti_get (ci := 10) (k := 25) (N := 67) (T := TX10) C hw iw_10 rfl ob_60 (by decide) (by decide) fl_X10_208 rfl rfl dX10_primary_79 ?_
          refine ti_top (y := x_61) (ex_61.symm) ?_
          refine sb_if_eq (tgt := 86) hx hb rfl dX10_primary_82 (by decide) (fun c_82_79 => by have z_81 : ff M_45 = 1 := ff_1 (ufx_61.trans c_82_79); omega) (fun c_82_79 => ?_)
          have z_81 : ff M_45 = 0 := ff_0 (fun h => c_82_79 (ufx_61.symm.trans h))
          clear c_82_79
          exact hQ _ _ _ _ _ hw (⟨iM_45, (pe.trans q_46 (pe.trans (pe_pr q_37 (by decide) (by decide)) (pe_I hM_30 (by decide)))), (by omega), (by omega), (by omega), (by omega), (by omega), (by omega), (by omega), (by omega), (by omega), (by omega), (by omega), (by omega), (by omega), u_60⟩) dX10_primary_85
        · have z_64 : ff M_45 = 1 := ff_1 (ufx_61.trans c_61_62)
          clear c_61_62
          refine lv_aload_n hx hb dX10_primary_64 rfl (lv_at hl 0 rfl) ?_
          refine lv_bipush (v := 41) hx hb dX10_primary_65 (by decide) ?_
          refine ti_callVi (ci := 10) (av := [.int 41]) C hw (s_X10_isSign l D A cy hJ M_45 iM_45 41) ⟨ml_X10_251, ym_X10_isSign, yv_X10_isSign, yi_X10_isSign, yc_X10_isSign⟩ yd_X10_isSign ob_60 (by decide) rfl rfl hl.1 (Nat.le_of_ble_eq_true rfl) ⟨by simp only [ti_rm]; omega, by simp only [ti_rm]; omega⟩ ⟨Nat.zero_le _, Nat.zero_le _⟩ dX10_primary_67 (fun r_65 M_66 H locs hp_66 hw => ?_)
          obtain ⟨hm, hz⟩ := hp_66
          have hw := hw.to hm
          rcases hz with ⟨rfl, d0_67, d1_67, d2_67⟩ | rfl
          · have z_68 : ff M_45 = 1 := ff_1 d0_67
            have z_69 : pg M_45 = 2 * (tI M_45 60 21).toInt := pg_3 (by rw [d1_67]; decide)
            refine sb_if_ne (tgt := 78) hx hb (by decide : (1 : Int32).toInt = 1) dX10_primary_70 (by decide) (fun c_70_69 => ?_) (fun h => absurd h (by decide))
            refine lv_aload_n hx hb dX10_primary_78 rfl (lv_at hl 0 rfl) ?_
            refine ti_get (ci := 10) (k := 25) (N := 67) (T := TX10) C hw iw_10 rfl ob_60 (by decide) (by decide) fl_X10_208 rfl rfl dX10_primary_79 ?_
            refine ti_top (y := x_61) (ex_61.symm) ?_
            refine sb_if_eq (tgt := 86) hx hb rfl dX10_primary_82 (by decide) (fun c_82_81 => ?_) (fun c_82_81 => by have z_83 : ff M_45 = 0 := ff_0 (fun h => c_82_81 (ufx_61.symm.trans h)); omega)
            have z_83 : ff M_45 = 1 := ff_1 (ufx_61.trans c_82_81)
            clear c_82_81
            refine lv_aload_n hx hb dX10_primary_86 rfl (lv_at hl 0 rfl) ?_
            refine lv_dup hx hb dX10_primary_87 rfl ?_
            refine ti_get (ci := 10) (k := 29) (N := 67) (T := TX10) C hw iw_10 rfl ob_60 (by decide) (by decide) fl_X10_297 rfl rfl dX10_primary_88 ?_
            refine lv_topi (fun x_88 ex_88 => ?_)
            have bx_88 : 0 ≤ x_88.toInt ∧ x_88.toInt ≤ 8 := mI_rd iM_45 ex_88
            have ux_88 : (tI M_45 60 29).toInt = x_88.toInt := by rw [ex_88]
            refine lv_iconst (v := 1) hx hb dX10_primary_91 (by decide) ?_
            refine lv_isub hx hb dX10_primary_92 ?_
            refine lv_topi (fun x_89 ex_89 => ?_)
            have tx_89 : x_89.toInt = x_88.toInt - 1 := i_sub ex_89 rfl (by decide : (1 : Int32).toInt = 1) (by omega) (by omega)
            refine ti_putI (ci := 10) (k := 29) (N := 67) (T := TX10) C hw iw_10 tyX10 tyX10_ok nmX10 rfl ob_60 (by decide) (by decide) fl_X10_297 rfl rfl rfl rfl (fn_10 A _) fs_10_29 dX10_primary_93 (fun H locs hw => ?_)
            obtain ⟨M_90, hM_90⟩ : ∃ z : ti_M, z = uI M_45 60 29 x_89 := ⟨_, rfl⟩
            have hw := hw.to hM_90.symm
            have iM_90 : mI Tm M_90 := mI_uI iM_45 hM_90 (by decide) (by decide) (ib_mk (lo := 0) (hi := 8) (by omega) (by omega))
            have vM_90 : (tI M_90 60 29).toInt = (x_89 : Int32).toInt := by rw [tI_uE hM_90]
            have z_91 : ff M_90 = ff M_45 := ff_I hM_90 (by decide)
            have z_92 : pg M_90 = pg M_45 := pg_I hM_90 (by decide)
            have z_93 : (tI M_90 60 30).toInt = (tI M_45 60 30).toInt := by rw [tI_nE hM_90 (nk (by decide))]
            have z_94 : (tY M_90 60 3 18).toInt = (tY M_45 60 3 18).toInt := by rw [tY_uIE hM_90]
            refine lv_aload_n hx hb dX10_primary_96 rfl (lv_at hl 0 rfl) ?_
            refine ti_callVvE (ci := 10) (av := []) C hE hw (s_X10_token l D A cy hJ M_90 iM_90 ) ⟨ml_X10_214, ym_X10_token, yv_X10_token, yi_X10_token, yc_X10_token⟩ yd_X10_token ob_60 (by decide) rfl rfl hl.1 (Nat.le_of_ble_eq_true rfl) ⟨by simp only [ti_rm]; omega, by simp only [ti_rm]; omega⟩ ⟨Nat.zero_le _, Nat.zero_le _⟩ dX10_primary_97 (fun M_96 H locs hp_96 hw => ?_)
            obtain ⟨iM_96, q_97, z_98, z_99, z_100, z_101, z_102, z_103⟩ := l_tk hp_96
            clear hp_96
            exact hQ _ _ _ _ _ hw (⟨iM_96, (pe.trans (pe_pr q_97 (by decide) (by decide)) (pe.trans (pe_I hM_90 (by decide)) (pe.trans q_46 (pe.trans (pe_pr q_37 (by decide) (by decide)) (pe_I hM_30 (by decide)))))), (by omega), (by omega), (by omega), (by omega), (by omega), (by omega), (by omega), (by omega), (by omega), (by omega), (by omega), (by omega), (by omega), (us_q (x := 21) (y := 30) u_60 (pr.trans (pr_w q_97 (by decide) (by decide)) (pr_I hM_90 (by decide))) (by omega))⟩) dX10_primary_100
          · refine sb_if_ne (tgt := 78) hx hb (by decide : (0 : Int32).toInt = 0) dX10_primary_70 (by decide) (fun h => absurd h (by decide)) (fun c_70_70 => ?_)
            refine lv_aload_n hx hb dX10_primary_73 rfl (lv_at hl 0 rfl) ?_
            refine lv_iconst (v := 1) hx hb dX10_primary_74 (by decide) ?_
            refine ti_callVv (ci := 10) (av := [.int 1]) C hw (s_X10_wrong l D A cy hJ M_45 iM_45 1 (by decide)) ⟨ml_X10_217, ym_X10_wrong, yv_X10_wrong, yi_X10_wrong, yc_X10_wrong⟩ yd_X10_wrong ob_60 (by decide) rfl rfl hl.1 (Nat.le_of_ble_eq_true rfl) ⟨by simp only [ti_rm]; omega, by simp only [ti_rm]; omega⟩ ⟨Nat.zero_le _, Nat.zero_le _⟩ dX10_primary_75 (fun M_73 H locs hp_73 hw => ?_)
            obtain ⟨iM_73, q_74, z_75, z_76, z_77, z_78, z_79⟩ := l_wr hp_73
            clear hp_73
            refine lv_aload_n hx hb dX10_primary_78 rfl (lv_at hl 0 rfl) ?_
            refine ti_get (ci := 10) (k := 25) (N := 67) (T := TX10) C hw iw_10 rfl ob_60 (by decide) (by decide) fl_X10_208 rfl rfl dX10_primary_79 ?_
            refine lv_topi (fun x_84 ex_84 => ?_)
            have u_85 : (tI M_73 60 25).toInt = x_84.toInt := by rw [ex_84]
            have ufx_84 : (tI M_73 60 25).toInt = x_84.toInt := by rw [ex_84]
            refine sb_if_eq (tgt := 86) hx hb rfl dX10_primary_82 (by decide) (fun c_82_85 => by have z_87 : ff M_73 = 1 := ff_1 (ufx_84.trans c_82_85); omega) (fun c_82_85 => ?_)
            have z_87 : ff M_73 = 0 := ff_0 (fun h => c_82_85 (ufx_84.symm.trans h))
            clear c_82_85
            exact hQ _ _ _ _ _ hw (⟨iM_73, (pe.trans (pe_pr q_74 (by decide) (by decide)) (pe.trans q_46 (pe.trans (pe_pr q_37 (by decide) (by decide)) (pe_I hM_30 (by decide))))), (by omega), (by omega), (by omega), (by omega), (by omega), (by omega), (by omega), (by omega), (by omega), (by omega), (by omega), (by omega), (by omega), (us_q (x := 21) (y := 30) u_60 (pr_w q_74 (by decide) (by decide)) (by omega))⟩) dX10_primary_85
      · refine lv_aload_n hx hb dX10_primary_26 rfl (lv_at hl 0 rfl) ?_
        refine lv_iconst (v := 2) hx hb dX10_primary_27 (by decide) ?_
        refine ti_callVv (ci := 10) (av := [.int 2]) C hw (s_X10_wrong l D A cy hJ M hI 2 (by decide)) ⟨ml_X10_217, ym_X10_wrong, yv_X10_wrong, yi_X10_wrong, yc_X10_wrong⟩ yd_X10_wrong ob_60 (by decide) rfl rfl hl.1 (Nat.le_of_ble_eq_true rfl) ⟨by simp only [ti_rm]; omega, by simp only [ti_rm]; omega⟩ ⟨Nat.zero_le _, Nat.zero_le _⟩ dX10_primary_28 (fun M_15 H locs hp_15 hw => ?_)
        obtain ⟨iM_15, q_16, z_17, z_18, z_19, z_20, z_21⟩ := l_wr hp_15
        clear hp_15
        refine lv_aload_n hx hb dX10_primary_31 rfl (lv_at hl 0 rfl) ?_
        refine ti_get (ci := 10) (k := 25) (N := 67) (T := TX10) C hw iw_10 rfl ob_60 (by decide) (by decide) fl_X10_208 rfl rfl dX10_primary_32 ?_
        refine lv_topi (fun x_24 ex_24 => ?_)
        have u_25 : (tI M_15 60 25).toInt = x_24.toInt := by rw [ex_24]
        have ufx_24 : (tI M_15 60 25).toInt = x_24.toInt := by rw [ex_24]
        refine sb_if_eq (tgt := 39) hx hb rfl dX10_primary_35 (by decide) (fun c_35_25 => by have z_27 : ff M_15 = 1 := ff_1 (ufx_24.trans c_35_25); omega) (fun c_35_25 => ?_)
        have z_27 : ff M_15 = 0 := ff_0 (fun h => c_35_25 (ufx_24.symm.trans h))
        clear c_35_25
        exact hQ _ _ _ _ _ hw (⟨iM_15, (pe_pr q_16 (by decide) (by decide)), (by omega), (by omega), (by omega), (by omega), (by omega), (by omega), (by omega), (by omega), (by omega), (by omega), (by omega), (by omega), (by omega), us_f (by omega)⟩) dX10_primary_38
    · refine sb_if_eq (tgt := 101) hx hb (by decide : (0 : Int32).toInt = 0) dX10_primary_14 (by decide) (fun c_14_10 => ?_) (fun h => absurd h (by decide))
      refine lv_aload_n hx hb dX10_primary_101 rfl (lv_at hl 0 rfl) ?_
      refine ti_get (ci := 10) (k := 23) (N := 67) (T := TX10) C hw iw_10 rfl ob_60 (by decide) (by decide) fl_X10_173 rfl rfl dX10_primary_102 ?_
      refine lv_topi (fun x_104 ex_104 => ?_)
      refine lv_iconst (v := 2) hx hb dX10_primary_105 (by decide) ?_
      refine sb_icmp_ne (tgt := 113) hx hb rfl (by decide : (2 : Int32).toInt = 2) dX10_primary_106 (by decide) (fun c_106_104 => ?_) (fun c_106_104 => ?_)
      · refine lv_iconst (v := 0) hx hb dX10_primary_113 (by decide) ?_
        refine lv_istore_n (lv' := [(1, .int 0), (0, .ref (A 60 0))]) hx hb dX10_primary_114 rfl hl (by decide) rfl (fun ls hl => ?_)
        refine lv_iload_n hx hb dX10_primary_115 rfl (lv_at hl 0 rfl) ?_
        refine sb_if_eq (tgt := 137) hx hb (by decide : (0 : Int32).toInt = 0) dX10_primary_116 (by decide) (fun c_116_106 => ?_) (fun h => absurd h (by decide))
        refine lv_iload_n hx hb dX10_primary_137 rfl (lv_at hl 0 rfl) ?_
        refine sb_if_ne (tgt := 162) hx hb (by decide : (0 : Int32).toInt = 0) dX10_primary_138 (by decide) (fun h => absurd h (by decide)) (fun c_138_117 => ?_)
        refine lv_aload_n hx hb dX10_primary_141 rfl (lv_at hl 1 rfl) ?_
        refine ti_get (ci := 10) (k := 23) (N := 67) (T := TX10) C hw iw_10 rfl ob_60 (by decide) (by decide) fl_X10_173 rfl rfl dX10_primary_142 ?_
        refine ti_top (y := x_104) (ex_104.symm) ?_
        refine sb_if_ne (tgt := 157) hx hb rfl dX10_primary_145 (by decide) (fun c_145_119 => ?_) (fun c_145_119 => ?_)
        · refine lv_aload_n hx hb dX10_primary_157 rfl (lv_at hl 1 rfl) ?_
          refine lv_iconst (v := 1) hx hb dX10_primary_158 (by decide) ?_
          refine ti_callVv (ci := 10) (av := [.int 1]) C hw (s_X10_wrong l D A cy hJ M hI 1 (by decide)) ⟨ml_X10_217, ym_X10_wrong, yv_X10_wrong, yi_X10_wrong, yc_X10_wrong⟩ yd_X10_wrong ob_60 (by decide) rfl rfl hl.1 (Nat.le_of_ble_eq_true rfl) ⟨by simp only [ti_rm]; omega, by simp only [ti_rm]; omega⟩ ⟨Nat.zero_le _, Nat.zero_le _⟩ dX10_primary_159 (fun M_124 H locs hp_124 hw => ?_)
          obtain ⟨iM_124, q_125, z_126, z_127, z_128, z_129, z_130⟩ := l_wr hp_124
          clear hp_124
          refine lv_aload_n hx hb dX10_primary_162 rfl (lv_at hl 1 rfl) ?_
          refine ti_callVv (ci := 10) (av := []) C hw (s_X10_knot l D A cy hJ M_124 iM_124 ) ⟨ml_X10_279, ym_X10_knot, yv_X10_knot, yi_X10_knot, yc_X10_knot⟩ yd_X10_knot ob_60 (by decide) rfl rfl hl.1 (Nat.le_of_ble_eq_true rfl) ⟨by simp only [ti_rm]; omega, by simp only [ti_rm]; omega⟩ ⟨Nat.zero_le _, Nat.zero_le _⟩ dX10_primary_163 (fun M_170 H locs hp_170 hw => ?_)
          obtain ⟨iM_170, q_171, z_172, z_173, z_174, z_175, z_176, z_177⟩ := l_kn hp_170
          clear hp_170
          refine lv_aload_n hx hb dX10_primary_166 rfl (lv_at hl 1 rfl) ?_
          refine lv_iload_n hx hb dX10_primary_167 rfl (lv_at hl 0 rfl) ?_
          refine sb_if_eq (tgt := 175) hx hb (by decide : (0 : Int32).toInt = 0) dX10_primary_168 (by decide) (fun c_168_177 => ?_) (fun h => absurd h (by decide))
          refine lv_iconst (v := 1) hx hb dX10_primary_175 (by decide) ?_
          refine lv_iload_n hx hb dX10_primary_176 rfl (lv_at hl 0 rfl) ?_
          refine sb_if_eq (tgt := 187) hx hb (by decide : (0 : Int32).toInt = 0) dX10_primary_177 (by decide) (fun c_177_191 => ?_) (fun h => absurd h (by decide))
          refine lv_aload_n hx hb dX10_primary_187 rfl (lv_at hl 1 rfl) ?_
          refine ti_get (ci := 10) (k := 24) (N := 67) (T := TX10) C hw iw_10 rfl ob_60 (by decide) (by decide) fl_X10_183 rfl rfl dX10_primary_188 ?_
          refine lv_topi (fun x_195 ex_195 => ?_)
          refine lv_bipush (v := 19) hx hb dX10_primary_191 (by decide) ?_
          refine lv_isub hx hb dX10_primary_193 ?_
          refine lv_topi (fun x_196 ex_196 => ?_)
          refine ti_callVv (ci := 10) (av := [.int 1, .int x_196]) C hw (s_X10_puts l D A cy hJ M_170 iM_170 a (d) (d + 1) 1 x_196 (us_q (x := 21) (y := 30) hu (pr.trans (pr_w q_171 (by decide) (by decide)) (pr_w q_125 (by decide) (by decide))) (by omega)) (nL (by omega)) (by first | exact Or.inr (Or.inr (Or.inr ⟨by decide, Or.inr ⟨by omega, by omega⟩, rfl⟩)) | exact nF (by omega))) ⟨ml_X10_282, ym_X10_puts, yv_X10_puts, yi_X10_puts, yc_X10_puts⟩ yd_X10_puts ob_60 (by decide) rfl rfl hl.1 (Nat.le_of_ble_eq_true rfl) ⟨by simp only [ti_rm]; omega, by simp only [ti_rm]; omega⟩ ⟨Nat.zero_le _, Nat.zero_le _⟩ dX10_primary_194 (fun M_253 H locs hp_253 hw => ?_)
          obtain ⟨iM_253, q_254, u_255, z_256, z_257, z_258, z_259, z_260, z_261⟩ := l_pu iM_170 hp_253
          clear hp_253
          refine lv_aload_n hx hb dX10_primary_197 rfl (lv_at hl 1 rfl) ?_
          refine ti_callVvE (ci := 10) (av := []) C hE hw (s_X10_goOn l D A cy hJ M_253 iM_253 ) ⟨ml_X10_267, ym_X10_goOn, yv_X10_goOn, yi_X10_goOn, yc_X10_goOn⟩ yd_X10_goOn ob_60 (by decide) rfl rfl hl.1 (Nat.le_of_ble_eq_true rfl) ⟨by simp only [ti_rm]; omega, by simp only [ti_rm]; omega⟩ ⟨Nat.zero_le _, Nat.zero_le _⟩ dX10_primary_198 (fun M_263 H locs hp_263 hw => ?_)
          obtain ⟨iM_263, q_264, z_265, z_266, z_267, z_268, z_269⟩ := l_go hp_263
          clear hp_263
          exact hQ _ _ _ _ _ hw (⟨iM_263, (pe.trans (pe_pr q_264 (by decide) (by decide)) (pe.trans q_254 (pe.trans (pe_pr q_171 (by decide) (by decide)) (pe_pr q_125 (by decide) (by decide))))), (by omega), (by omega), (by omega), (by omega), (by omega), (by omega), (by omega), (by omega), (by omega), (by omega), (by omega), (by omega), (by omega), (us_q (x := 21) (y := 30) u_255 (pr_w q_264 (by decide) (by decide)) (by omega))⟩) dX10_primary_201
        · have v24 : (tI M 60 24).toInt ≤ 24 := hI.2.2.1 (by rw [(ex_104.symm)]; exact z0 (by omega))
          refine lv_aload_n hx hb dX10_primary_148 rfl (lv_at hl 1 rfl) ?_
          refine ti_get (ci := 10) (k := 24) (N := 67) (T := TX10) C hw iw_10 rfl ob_60 (by decide) (by decide) fl_X10_183 rfl rfl dX10_primary_149 ?_
          refine lv_topi (fun x_121 ex_121 => ?_)
          have u24 : (tI M 60 24).toInt = (x_121 : Int32).toInt := by rw [(ex_121.symm)]
          refine lv_bipush (v := 19) hx hb dX10_primary_152 (by decide) ?_
          refine sb_icmp_ge (tgt := 162) hx hb rfl (by decide : (19 : Int32).toInt = 19) dX10_primary_154 (by decide) (fun c_154_121 => ?_) (fun c_154_121 => ?_)
          · refine lv_aload_n hx hb dX10_primary_162 rfl (lv_at hl 1 rfl) ?_
            refine ti_callVv (ci := 10) (av := []) C hw (s_X10_knot l D A cy hJ M hI ) ⟨ml_X10_279, ym_X10_knot, yv_X10_knot, yi_X10_knot, yc_X10_knot⟩ yd_X10_knot ob_60 (by decide) rfl rfl hl.1 (Nat.le_of_ble_eq_true rfl) ⟨by simp only [ti_rm]; omega, by simp only [ti_rm]; omega⟩ ⟨Nat.zero_le _, Nat.zero_le _⟩ dX10_primary_163 (fun M_160 H locs hp_160 hw => ?_)
            obtain ⟨iM_160, q_161, z_162, z_163, z_164, z_165, z_166, z_167⟩ := l_kn hp_160
            clear hp_160
            refine lv_aload_n hx hb dX10_primary_166 rfl (lv_at hl 1 rfl) ?_
            refine lv_iload_n hx hb dX10_primary_167 rfl (lv_at hl 0 rfl) ?_
            refine sb_if_eq (tgt := 175) hx hb (by decide : (0 : Int32).toInt = 0) dX10_primary_168 (by decide) (fun c_168_167 => ?_) (fun h => absurd h (by decide))
            refine lv_iconst (v := 1) hx hb dX10_primary_175 (by decide) ?_
            refine lv_iload_n hx hb dX10_primary_176 rfl (lv_at hl 0 rfl) ?_
            refine sb_if_eq (tgt := 187) hx hb (by decide : (0 : Int32).toInt = 0) dX10_primary_177 (by decide) (fun c_177_190 => ?_) (fun h => absurd h (by decide))
            refine lv_aload_n hx hb dX10_primary_187 rfl (lv_at hl 1 rfl) ?_
            refine ti_get (ci := 10) (k := 24) (N := 67) (T := TX10) C hw iw_10 rfl ob_60 (by decide) (by decide) fl_X10_183 rfl rfl dX10_primary_188 ?_
            refine ti_top (y := x_121) ((q_161.2 24 (by decide)).trans ex_121.symm) ?_
            refine lv_bipush (v := 19) hx hb dX10_primary_191 (by decide) ?_
            refine lv_isub hx hb dX10_primary_193 ?_
            refine lv_topi (fun x_194 ex_194 => ?_)
            have lox_194x_121 := x_121.le_toInt
            have hix_194x_121 := x_121.toInt_lt
            have tx_194 : x_194.toInt = x_121.toInt - 19 := i_sub ex_194 rfl (by decide : (19 : Int32).toInt = 19) (by omega) (by omega)
            refine ti_callVv (ci := 10) (av := [.int 1, .int x_194]) C hw (s_X10_puts l D A cy hJ M_160 iM_160 a (d) (d + 1) 1 x_194 (us_q (x := 21) (y := 30) hu (pr_w q_161 (by decide) (by decide)) (by omega)) (nL (by omega)) (by first | exact Or.inr (Or.inr (Or.inr ⟨by decide, Or.inr ⟨by omega, by omega⟩, rfl⟩)) | exact nF (by omega))) ⟨ml_X10_282, ym_X10_puts, yv_X10_puts, yi_X10_puts, yc_X10_puts⟩ yd_X10_puts ob_60 (by decide) rfl rfl hl.1 (Nat.le_of_ble_eq_true rfl) ⟨by simp only [ti_rm]; omega, by simp only [ti_rm]; omega⟩ ⟨Nat.zero_le _, Nat.zero_le _⟩ dX10_primary_194 (fun M_235 H locs hp_235 hw => ?_)
            obtain ⟨iM_235, q_236, u_237, z_238, z_239, z_240, z_241, z_242, z_243⟩ := l_pu iM_160 hp_235
            clear hp_235
            refine lv_aload_n hx hb dX10_primary_197 rfl (lv_at hl 1 rfl) ?_
            refine ti_callVvE (ci := 10) (av := []) C hE hw (s_X10_goOn l D A cy hJ M_235 iM_235 ) ⟨ml_X10_267, ym_X10_goOn, yv_X10_goOn, yi_X10_goOn, yc_X10_goOn⟩ yd_X10_goOn ob_60 (by decide) rfl rfl hl.1 (Nat.le_of_ble_eq_true rfl) ⟨by simp only [ti_rm]; omega, by simp only [ti_rm]; omega⟩ ⟨Nat.zero_le _, Nat.zero_le _⟩ dX10_primary_198 (fun M_245 H locs hp_245 hw => ?_)
            obtain ⟨iM_245, q_246, z_247, z_248, z_249, z_250, z_251⟩ := l_go hp_245
            clear hp_245
            exact hQ _ _ _ _ _ hw (⟨iM_245, (pe.trans (pe_pr q_246 (by decide) (by decide)) (pe.trans q_236 (pe_pr q_161 (by decide) (by decide)))), (by omega), (by omega), (by omega), (by omega), (by omega), (by omega), (by omega), (by omega), (by omega), (by omega), (by omega), (by omega), (by omega), (us_q (x := 21) (y := 30) u_237 (pr_w q_246 (by decide) (by decide)) (by omega))⟩) dX10_primary_201
          · refine lv_aload_n hx hb dX10_primary_157 rfl (lv_at hl 1 rfl) ?_
            refine lv_iconst (v := 1) hx hb dX10_primary_158 (by decide) ?_
            refine ti_callVv (ci := 10) (av := [.int 1]) C hw (s_X10_wrong l D A cy hJ M hI 1 (by decide)) ⟨ml_X10_217, ym_X10_wrong, yv_X10_wrong, yi_X10_wrong, yc_X10_wrong⟩ yd_X10_wrong ob_60 (by decide) rfl rfl hl.1 (Nat.le_of_ble_eq_true rfl) ⟨by simp only [ti_rm]; omega, by simp only [ti_rm]; omega⟩ ⟨Nat.zero_le _, Nat.zero_le _⟩ dX10_primary_159 (fun M_132 H locs hp_132 hw => ?_)
            obtain ⟨iM_132, q_133, z_134, z_135, z_136, z_137, z_138⟩ := l_wr hp_132
            clear hp_132
            refine lv_aload_n hx hb dX10_primary_162 rfl (lv_at hl 1 rfl) ?_
            refine ti_callVv (ci := 10) (av := []) C hw (s_X10_knot l D A cy hJ M_132 iM_132 ) ⟨ml_X10_279, ym_X10_knot, yv_X10_knot, yi_X10_knot, yc_X10_knot⟩ yd_X10_knot ob_60 (by decide) rfl rfl hl.1 (Nat.le_of_ble_eq_true rfl) ⟨by simp only [ti_rm]; omega, by simp only [ti_rm]; omega⟩ ⟨Nat.zero_le _, Nat.zero_le _⟩ dX10_primary_163 (fun M_180 H locs hp_180 hw => ?_)
            obtain ⟨iM_180, q_181, z_182, z_183, z_184, z_185, z_186, z_187⟩ := l_kn hp_180
            clear hp_180
            refine lv_aload_n hx hb dX10_primary_166 rfl (lv_at hl 1 rfl) ?_
            refine lv_iload_n hx hb dX10_primary_167 rfl (lv_at hl 0 rfl) ?_
            refine sb_if_eq (tgt := 175) hx hb (by decide : (0 : Int32).toInt = 0) dX10_primary_168 (by decide) (fun c_168_187 => ?_) (fun h => absurd h (by decide))
            refine lv_iconst (v := 1) hx hb dX10_primary_175 (by decide) ?_
            refine lv_iload_n hx hb dX10_primary_176 rfl (lv_at hl 0 rfl) ?_
            refine sb_if_eq (tgt := 187) hx hb (by decide : (0 : Int32).toInt = 0) dX10_primary_177 (by decide) (fun c_177_192 => ?_) (fun h => absurd h (by decide))
            refine lv_aload_n hx hb dX10_primary_187 rfl (lv_at hl 1 rfl) ?_
            refine ti_get (ci := 10) (k := 24) (N := 67) (T := TX10) C hw iw_10 rfl ob_60 (by decide) (by decide) fl_X10_183 rfl rfl dX10_primary_188 ?_
            refine ti_top (y := x_121) ((q_181.2 24 (by decide)).trans ((q_133.2 24 (by decide)).trans ex_121.symm)) ?_
            refine lv_bipush (v := 19) hx hb dX10_primary_191 (by decide) ?_
            refine lv_isub hx hb dX10_primary_193 ?_
            refine lv_topi (fun x_197 ex_197 => ?_)
            refine ti_callVv (ci := 10) (av := [.int 1, .int x_197]) C hw (s_X10_puts l D A cy hJ M_180 iM_180 a (d) (d + 1) 1 x_197 (us_q (x := 21) (y := 30) hu (pr.trans (pr_w q_181 (by decide) (by decide)) (pr_w q_133 (by decide) (by decide))) (by omega)) (nL (by omega)) (by first | exact Or.inr (Or.inr (Or.inr ⟨by decide, Or.inr ⟨by omega, by omega⟩, rfl⟩)) | exact nF (by omega))) ⟨ml_X10_282, ym_X10_puts, yv_X10_puts, yi_X10_puts, yc_X10_puts⟩ yd_X10_puts ob_60 (by decide) rfl rfl hl.1 (Nat.le_of_ble_eq_true rfl) ⟨by simp only [ti_rm]; omega, by simp only [ti_rm]; omega⟩ ⟨Nat.zero_le _, Nat.zero_le _⟩ dX10_primary_194 (fun M_271 H locs hp_271 hw => ?_)
            obtain ⟨iM_271, q_272, u_273, z_274, z_275, z_276, z_277, z_278, z_279⟩ := l_pu iM_180 hp_271
            clear hp_271
            refine lv_aload_n hx hb dX10_primary_197 rfl (lv_at hl 1 rfl) ?_
            refine ti_callVvE (ci := 10) (av := []) C hE hw (s_X10_goOn l D A cy hJ M_271 iM_271 ) ⟨ml_X10_267, ym_X10_goOn, yv_X10_goOn, yi_X10_goOn, yc_X10_goOn⟩ yd_X10_goOn ob_60 (by decide) rfl rfl hl.1 (Nat.le_of_ble_eq_true rfl) ⟨by simp only [ti_rm]; omega, by simp only [ti_rm]; omega⟩ ⟨Nat.zero_le _, Nat.zero_le _⟩ dX10_primary_198 (fun M_281 H locs hp_281 hw => ?_)
            obtain ⟨iM_281, q_282, z_283, z_284, z_285, z_286, z_287⟩ := l_go hp_281
            clear hp_281
            exact hQ _ _ _ _ _ hw (⟨iM_281, (pe.trans (pe_pr q_282 (by decide) (by decide)) (pe.trans q_272 (pe.trans (pe_pr q_181 (by decide) (by decide)) (pe_pr q_133 (by decide) (by decide))))), (by omega), (by omega), (by omega), (by omega), (by omega), (by omega), (by omega), (by omega), (by omega), (by omega), (by omega), (by omega), (by omega), (us_q (x := 21) (y := 30) u_273 (pr_w q_282 (by decide) (by decide)) (by omega))⟩) dX10_primary_201
      · refine lv_iconst (v := 1) hx hb dX10_primary_109 (by decide) ?_
        refine lv_goto (tgt := 114) hx hb dX10_primary_110 (by decide) ?_
        refine lv_istore_n (lv' := [(1, .int 1), (0, .ref (A 60 0))]) hx hb dX10_primary_114 rfl hl (by decide) rfl (fun ls hl => ?_)
        refine lv_iload_n hx hb dX10_primary_115 rfl (lv_at hl 0 rfl) ?_
        refine sb_if_eq (tgt := 137) hx hb (by decide : (1 : Int32).toInt = 1) dX10_primary_116 (by decide) (fun h => absurd h (by decide)) (fun c_116_105 => ?_)
        refine lv_aload_n hx hb dX10_primary_119 rfl (lv_at hl 1 rfl) ?_
        refine ti_get (ci := 10) (k := 24) (N := 67) (T := TX10) C hw iw_10 rfl ob_60 (by decide) (by decide) fl_X10_183 rfl rfl dX10_primary_120 ?_
        refine lv_topi (fun x_108 ex_108 => ?_)
        refine lv_sipush (v := 9999) hx hb dX10_primary_123 (by decide) ?_
        refine sb_icmp_le (tgt := 137) hx hb rfl (by decide : (9999 : Int32).toInt = 9999) dX10_primary_126 (by decide) (fun c_126_108 => ?_) (fun c_126_108 => ?_)
        · refine lv_iload_n hx hb dX10_primary_137 rfl (lv_at hl 0 rfl) ?_
          refine sb_if_ne (tgt := 162) hx hb (by decide : (1 : Int32).toInt = 1) dX10_primary_138 (by decide) (fun c_138_118 => ?_) (fun h => absurd h (by decide))
          refine lv_aload_n hx hb dX10_primary_162 rfl (lv_at hl 1 rfl) ?_
          refine ti_callVv (ci := 10) (av := []) C hw (s_X10_knot l D A cy hJ M hI ) ⟨ml_X10_279, ym_X10_knot, yv_X10_knot, yi_X10_knot, yc_X10_knot⟩ yd_X10_knot ob_60 (by decide) rfl rfl hl.1 (Nat.le_of_ble_eq_true rfl) ⟨by simp only [ti_rm]; omega, by simp only [ti_rm]; omega⟩ ⟨Nat.zero_le _, Nat.zero_le _⟩ dX10_primary_163 (fun M_150 H locs hp_150 hw => ?_)
          obtain ⟨iM_150, q_151, z_152, z_153, z_154, z_155, z_156, z_157⟩ := l_kn hp_150
          clear hp_150
          refine lv_aload_n hx hb dX10_primary_166 rfl (lv_at hl 1 rfl) ?_
          refine lv_iload_n hx hb dX10_primary_167 rfl (lv_at hl 0 rfl) ?_
          refine sb_if_eq (tgt := 175) hx hb (by decide : (1 : Int32).toInt = 1) dX10_primary_168 (by decide) (fun h => absurd h (by decide)) (fun c_168_157 => ?_)
          refine lv_iconst (v := 0) hx hb dX10_primary_171 (by decide) ?_
          refine lv_goto (tgt := 176) hx hb dX10_primary_172 (by decide) ?_
          refine lv_iload_n hx hb dX10_primary_176 rfl (lv_at hl 0 rfl) ?_
          refine sb_if_eq (tgt := 187) hx hb (by decide : (1 : Int32).toInt = 1) dX10_primary_177 (by decide) (fun h => absurd h (by decide)) (fun c_177_189 => ?_)
          refine lv_aload_n hx hb dX10_primary_180 rfl (lv_at hl 1 rfl) ?_
          refine ti_get (ci := 10) (k := 24) (N := 67) (T := TX10) C hw iw_10 rfl ob_60 (by decide) (by decide) fl_X10_183 rfl rfl dX10_primary_181 ?_
          refine ti_top (y := x_108) ((q_151.2 24 (by decide)).trans ex_108.symm) ?_
          refine lv_goto (tgt := 194) hx hb dX10_primary_184 (by decide) ?_
          refine ti_callVv (ci := 10) (av := [.int 0, .int x_108]) C hw (s_X10_puts l D A cy hJ M_150 iM_150 a (d) (d + 1) 0 x_108 (us_q (x := 21) (y := 30) hu (pr_w q_151 (by decide) (by decide)) (by omega)) (nL (by omega)) (by first | exact Or.inr (Or.inr (Or.inr ⟨by decide, Or.inl (by decide), rfl⟩)) | exact nF (by omega))) ⟨ml_X10_282, ym_X10_puts, yv_X10_puts, yi_X10_puts, yc_X10_puts⟩ yd_X10_puts ob_60 (by decide) rfl rfl hl.1 (Nat.le_of_ble_eq_true rfl) ⟨by simp only [ti_rm]; omega, by simp only [ti_rm]; omega⟩ ⟨Nat.zero_le _, Nat.zero_le _⟩ dX10_primary_194 (fun M_217 H locs hp_217 hw => ?_)
          obtain ⟨iM_217, q_218, u_219, z_220, z_221, z_222, z_223, z_224, z_225⟩ := l_pu iM_150 hp_217
          clear hp_217
          refine lv_aload_n hx hb dX10_primary_197 rfl (lv_at hl 1 rfl) ?_
          refine ti_callVvE (ci := 10) (av := []) C hE hw (s_X10_goOn l D A cy hJ M_217 iM_217 ) ⟨ml_X10_267, ym_X10_goOn, yv_X10_goOn, yi_X10_goOn, yc_X10_goOn⟩ yd_X10_goOn ob_60 (by decide) rfl rfl hl.1 (Nat.le_of_ble_eq_true rfl) ⟨by simp only [ti_rm]; omega, by simp only [ti_rm]; omega⟩ ⟨Nat.zero_le _, Nat.zero_le _⟩ dX10_primary_198 (fun M_227 H locs hp_227 hw => ?_)
          obtain ⟨iM_227, q_228, z_229, z_230, z_231, z_232, z_233⟩ := l_go hp_227
          clear hp_227
          exact hQ _ _ _ _ _ hw (⟨iM_227, (pe.trans (pe_pr q_228 (by decide) (by decide)) (pe.trans q_218 (pe_pr q_151 (by decide) (by decide)))), (by omega), (by omega), (by omega), (by omega), (by omega), (by omega), (by omega), (by omega), (by omega), (by omega), (by omega), (by omega), (by omega), (us_q (x := 21) (y := 30) u_219 (pr_w q_228 (by decide) (by decide)) (by omega))⟩) dX10_primary_201
        · refine lv_aload_n hx hb dX10_primary_129 rfl (lv_at hl 1 rfl) ?_
          refine lv_iconst (v := 2) hx hb dX10_primary_130 (by decide) ?_
          refine ti_callVv (ci := 10) (av := [.int 2]) C hw (s_X10_wrong l D A cy hJ M hI 2 (by decide)) ⟨ml_X10_217, ym_X10_wrong, yv_X10_wrong, yi_X10_wrong, yc_X10_wrong⟩ yd_X10_wrong ob_60 (by decide) rfl rfl hl.1 (Nat.le_of_ble_eq_true rfl) ⟨by simp only [ti_rm]; omega, by simp only [ti_rm]; omega⟩ ⟨Nat.zero_le _, Nat.zero_le _⟩ dX10_primary_131 (fun M_111 H locs hp_111 hw => ?_)
          obtain ⟨iM_111, q_112, z_113, z_114, z_115, z_116, z_117⟩ := l_wr hp_111
          clear hp_111
          refine lv_goto (tgt := 162) hx hb dX10_primary_134 (by decide) ?_
          refine lv_aload_n hx hb dX10_primary_162 rfl (lv_at hl 1 rfl) ?_
          refine ti_callVv (ci := 10) (av := []) C hw (s_X10_knot l D A cy hJ M_111 iM_111 ) ⟨ml_X10_279, ym_X10_knot, yv_X10_knot, yi_X10_knot, yc_X10_knot⟩ yd_X10_knot ob_60 (by decide) rfl rfl hl.1 (Nat.le_of_ble_eq_true rfl) ⟨by simp only [ti_rm]; omega, by simp only [ti_rm]; omega⟩ ⟨Nat.zero_le _, Nat.zero_le _⟩ dX10_primary_163 (fun M_140 H locs hp_140 hw => ?_)
          obtain ⟨iM_140, q_141, z_142, z_143, z_144, z_145, z_146, z_147⟩ := l_kn hp_140
          clear hp_140
          refine lv_aload_n hx hb dX10_primary_166 rfl (lv_at hl 1 rfl) ?_
          refine lv_iload_n hx hb dX10_primary_167 rfl (lv_at hl 0 rfl) ?_
          refine sb_if_eq (tgt := 175) hx hb (by decide : (1 : Int32).toInt = 1) dX10_primary_168 (by decide) (fun h => absurd h (by decide)) (fun c_168_147 => ?_)
          refine lv_iconst (v := 0) hx hb dX10_primary_171 (by decide) ?_
          refine lv_goto (tgt := 176) hx hb dX10_primary_172 (by decide) ?_
          refine lv_iload_n hx hb dX10_primary_176 rfl (lv_at hl 0 rfl) ?_
          refine sb_if_eq (tgt := 187) hx hb (by decide : (1 : Int32).toInt = 1) dX10_primary_177 (by decide) (fun h => absurd h (by decide)) (fun c_177_188 => ?_)
          refine lv_aload_n hx hb dX10_primary_180 rfl (lv_at hl 1 rfl) ?_
          refine ti_get (ci := 10) (k := 24) (N := 67) (T := TX10) C hw iw_10 rfl ob_60 (by decide) (by decide) fl_X10_183 rfl rfl dX10_primary_181 ?_
          refine ti_top (y := x_108) ((q_141.2 24 (by decide)).trans ((q_112.2 24 (by decide)).trans ex_108.symm)) ?_
          refine lv_goto (tgt := 194) hx hb dX10_primary_184 (by decide) ?_
          refine ti_callVv (ci := 10) (av := [.int 0, .int x_108]) C hw (s_X10_puts l D A cy hJ M_140 iM_140 a (d) (d + 1) 0 x_108 (us_q (x := 21) (y := 30) hu (pr.trans (pr_w q_141 (by decide) (by decide)) (pr_w q_112 (by decide) (by decide))) (by omega)) (nL (by omega)) (by first | exact Or.inr (Or.inr (Or.inr ⟨by decide, Or.inl (by decide), rfl⟩)) | exact nF (by omega))) ⟨ml_X10_282, ym_X10_puts, yv_X10_puts, yi_X10_puts, yc_X10_puts⟩ yd_X10_puts ob_60 (by decide) rfl rfl hl.1 (Nat.le_of_ble_eq_true rfl) ⟨by simp only [ti_rm]; omega, by simp only [ti_rm]; omega⟩ ⟨Nat.zero_le _, Nat.zero_le _⟩ dX10_primary_194 (fun M_199 H locs hp_199 hw => ?_)
          obtain ⟨iM_199, q_200, u_201, z_202, z_203, z_204, z_205, z_206, z_207⟩ := l_pu iM_140 hp_199
          clear hp_199
          refine lv_aload_n hx hb dX10_primary_197 rfl (lv_at hl 1 rfl) ?_
          refine ti_callVvE (ci := 10) (av := []) C hE hw (s_X10_goOn l D A cy hJ M_199 iM_199 ) ⟨ml_X10_267, ym_X10_goOn, yv_X10_goOn, yi_X10_goOn, yc_X10_goOn⟩ yd_X10_goOn ob_60 (by decide) rfl rfl hl.1 (Nat.le_of_ble_eq_true rfl) ⟨by simp only [ti_rm]; omega, by simp only [ti_rm]; omega⟩ ⟨Nat.zero_le _, Nat.zero_le _⟩ dX10_primary_198 (fun M_209 H locs hp_209 hw => ?_)
          obtain ⟨iM_209, q_210, z_211, z_212, z_213, z_214, z_215⟩ := l_go hp_209
          clear hp_209
          exact hQ _ _ _ _ _ hw (⟨iM_209, (pe.trans (pe_pr q_210 (by decide) (by decide)) (pe.trans q_200 (pe.trans (pe_pr q_141 (by decide) (by decide)) (pe_pr q_112 (by decide) (by decide))))), (by omega), (by omega), (by omega), (by omega), (by omega), (by omega), (by omega), (by omega), (by omega), (by omega), (by omega), (by omega), (by omega), (us_q (x := 21) (y := 30) u_201 (pr_w q_210 (by decide) (by decide)) (by omega))⟩) dX10_primary_201
  · have z_4 : ff M = 0 := ff_0 (fun h => c_4_2 (ufx_1.symm.trans h))
    clear c_4_2
    exact hQ _ _ _ _ _ hw (⟨hI, pe.refl, (by omega), (by omega), (by omega), (by omega), (by omega), (by omega), (by omega), (by omega), (by omega), (by omega), (by omega), (by omega), (by omega), us_f (by omega)⟩) dX10_primary_7
set_option maxHeartbeats 4000000 in
set_option maxRecDepth 100000 in
theorem s_X10_product (l : Launch) (D : va_G) (A : Nat → Nat → Nat) (cy : Nat → ClassId) (hJ : ti_inj ti_LM A) (M : ti_M) (hI : mI Tm M) (j a d : Nat) (hj : j ≤ 8) (hu : us M a d) (hc : (tY M 60 3 18).toInt ≤ (tI M 60 30).toInt + 64 - 64 * ff M) (ho : (tI M 60 29).toInt + j ≤ 16 - 8 * ff M) (ho2 : 8 * ff M ≤ (tI M 60 29).toInt + j) (ih : ∀ i : Nat, i < j → ∀ (l : Launch) (D : va_G) (A : Nat → Nat → Nat) (cy : Nat → ClassId) (hJ : ti_inj ti_LM A) (M : ti_M) (hI : mI Tm M) (a d : Nat) (hj : i ≤ 8) (hu : us M a d) (hc : (tY M 60 3 18).toInt ≤ (tI M 60 30).toInt + 64 - 64 * ff M) (ho : (tI M 60 29).toInt + i ≤ 16 - 8 * ff M) (ho2 : 8 * ff M ≤ (tI M 60 29).toInt + i), ti_KvE l yX10_expression cX10_expression 1 (78 + 71 * i) ti_LM D A cy M [.ref (A 60 0)] (fun M2 => mI Tm M2 ∧ pe M2 M ∧ (pg M ≤ pg M2) ∧ (0 ≤ ff M2) ∧ (ff M2 ≤ ff M) ∧ ((tI M 60 30).toInt ≤ (tI M2 60 30).toInt) ∧ ((tI M2 60 30).toInt ≤ 64) ∧ ((tI M2 60 29).toInt ≤ (tI M 60 29).toInt + 8 - 8 * ff M2) ∧ ((tI M 60 29).toInt ≤ (tI M2 60 29).toInt + 8 - 8 * ff M2) ∧ ((tI M2 60 30).toInt - (tY M2 60 3 18).toInt ≤ (tI M 60 30).toInt - (tY M 60 3 18).toInt + 200 - 200 * ff M2) ∧ ((tI M 60 30).toInt - (tY M 60 3 18).toInt ≤ (tI M2 60 30).toInt - (tY M2 60 3 18).toInt + 200 - 200 * ff M2) ∧ (0 ≤ (tY M2 60 3 18).toInt) ∧ ((tY M2 60 3 18).toInt ≤ 64) ∧ (0 ≤ (tI M2 60 29).toInt) ∧ ((tI M2 60 29).toInt ≤ 8) ∧ us M2 a (d + 1))) : ti_KvE l yX10_product cX10_product 2 (9 + 71 * j) ti_LM D A cy M [.ref (A 60 0)] (fun M2 => mI Tm M2 ∧ pe M2 M ∧ (pg M ≤ pg M2) ∧ (0 ≤ ff M2) ∧ (ff M2 ≤ ff M) ∧ ((tI M 60 30).toInt ≤ (tI M2 60 30).toInt) ∧ ((tI M2 60 30).toInt ≤ 64) ∧ ((tI M2 60 29).toInt ≤ (tI M 60 29).toInt + 8 - 8 * ff M2) ∧ ((tI M 60 29).toInt ≤ (tI M2 60 29).toInt + 8 - 8 * ff M2) ∧ ((tI M2 60 30).toInt - (tY M2 60 3 18).toInt ≤ (tI M 60 30).toInt - (tY M 60 3 18).toInt + 200 - 200 * ff M2) ∧ ((tI M 60 30).toInt - (tY M 60 3 18).toInt ≤ (tI M2 60 30).toInt - (tY M2 60 3 18).toInt + 200 - 200 * ff M2) ∧ (0 ≤ (tY M2 60 3 18).toInt) ∧ ((tY M2 60 3 18).toInt ≤ 64) ∧ (0 ≤ (tI M2 60 29).toInt) ∧ ((tI M2 60 29).toInt ≤ 8) ∧ us M2 a (d + 1)) := by
  refine ti_eVE yp_X10_product hJ ti_LM_nd (Nat.le_of_ble_eq_true rfl) ?_
  intro p e s m args below meth c Q H0 C hE hQ hw ls hl
  have hx := C.1
  have hb := C.2.1
  have hl : lv_has ls 2 [(0, .ref (A 60 0))] := hl
  have hI30 := b30 hI
  have hI29 := b29 hI
  have hI18 := b18 hI
  have hIff := ff_b M
  refine lv_aload_n hx hb dX10_product_0 rfl (lv_at hl 0 rfl) ?_
  refine ti_callVvE (ci := 10) (av := []) C hE hw (s_X10_primary l D A cy hJ M hI j a (d) (by omega) hu (by omega) (by omega) (by omega) ih) ⟨ml_X10_294, ym_X10_primary, yv_X10_primary, yi_X10_primary, yc_X10_primary⟩ yd_X10_primary ob_60 (by decide) rfl rfl hl.1 (Nat.le_of_ble_eq_true rfl) ⟨by simp only [ti_rm]; omega, by simp only [ti_rm]; omega⟩ ⟨Nat.zero_le _, Nat.zero_le _⟩ dX10_product_1 (fun M_2 H locs hp_2 hw => ?_)
  obtain ⟨iM_2, q_3, p_4, p_5, p_6, p_7, p_8, p_9, p_10, p_11, p_12, p_13, p_14, p_15, p_16, u_17⟩ := hp_2
  have hl_4_33 : ∀ (n_34 : Nat) (M_18 : ti_M) (H : Heap) (locs : List Loc) (ls : Array Slot), (64 - (tI M_18 60 30).toInt + ff M_18 : Int).toNat < n_34 → (mI Tm M_18) → (pe M_18 M) → (us M_18 a (d + 1)) → (pg M ≤ pg M_18) → (0 ≤ ff M_18) → (ff M_18 ≤ ff M) → ((tI M 60 30).toInt ≤ (tI M_18 60 30).toInt) → ((tI M_18 60 30).toInt ≤ 64) → ((tI M_18 60 29).toInt ≤ (tI M 60 29).toInt + 8 - 8 * ff M_18) → ((tI M 60 29).toInt ≤ (tI M_18 60 29).toInt + 8 - 8 * ff M_18) → ((tI M_18 60 30).toInt - (tY M_18 60 3 18).toInt ≤ (tI M 60 30).toInt - (tY M 60 3 18).toInt + 200 - 200 * ff M_18) → ((tI M 60 30).toInt - (tY M 60 3 18).toInt ≤ (tI M_18 60 30).toInt - (tY M_18 60 3 18).toInt + 200 - 200 * ff M_18) → (0 ≤ (tY M_18 60 3 18).toInt) → ((tY M_18 60 3 18).toInt ≤ 64) → (0 ≤ (tI M_18 60 29).toInt) → ((tI M_18 60 29).toInt ≤ 8) → ti_H ti_LM D A cy H0 M_18 H locs → lv_has ls 2 [(0, .ref (A 60 0))] → W p l e (ti_rm (9 + 71 * j)) s m args below meth c H locs 0 0 Q (F0 m 4 ls []) := by
    intro n_34
    induction n_34 with
    | zero => intro M_18 H locs ls hf_34; exact absurd hf_34 (Nat.not_lt_zero _)
    | succ n_34 ih_34 =>
      intro M_18 H locs ls hf_34 iM_18 f_19 j_20 j_21 j_22 j_23 j_24 j_25 j_26 j_27 j_28 j_29 j_30 j_31 j_32 j_33 hw hl
      refine lv_aload_n hx hb dX10_product_4 rfl (lv_at hl 0 rfl) ?_
      refine lv_bipush (v := 42) hx hb dX10_product_5 (by decide) ?_
      refine ti_callVi (ci := 10) (av := [.int 42]) C hw (s_X10_isSign l D A cy hJ M_18 iM_18 42) ⟨ml_X10_251, ym_X10_isSign, yv_X10_isSign, yi_X10_isSign, yc_X10_isSign⟩ yd_X10_isSign ob_60 (by decide) rfl rfl hl.1 (Nat.le_of_ble_eq_true rfl) ⟨by simp only [ti_rm]; omega, by simp only [ti_rm]; omega⟩ ⟨Nat.zero_le _, Nat.zero_le _⟩ dX10_product_7 (fun r_35 M_36 H locs hp_36 hw => ?_)
      obtain ⟨hm, hz⟩ := hp_36
      have hw := hw.to hm
      have hj_22_49 : ∀  (H : Heap) (locs : List Loc) (ls : Array Slot), (ff M_18 = 1) → ti_H ti_LM D A cy H0 M_18 H locs → lv_has ls 2 [(0, .ref (A 60 0))] → W p l e (ti_rm (9 + 71 * j)) s m args below meth c H locs 0 0 Q (F0 m 22 ls []) := by
        intro  H locs ls j_49 hw hl
        refine lv_aload_n hx hb dX10_product_22 rfl (lv_at hl 0 rfl) ?_
        refine ti_get (ci := 10) (k := 24) (N := 67) (T := TX10) C hw iw_10 rfl ob_60 (by decide) (by decide) fl_X10_183 rfl rfl dX10_product_23 ?_
        refine lv_topi (fun x_50 ex_50 => ?_)
        refine lv_istore_n (lv' := [(1, .int x_50), (0, .ref (A 60 0))]) hx hb dX10_product_26 rfl hl (by decide) rfl (fun ls hl => ?_)
        refine lv_aload_n hx hb dX10_product_27 rfl (lv_at hl 1 rfl) ?_
        refine ti_callVv (ci := 10) (av := []) C hw (s_X10_knot l D A cy hJ M_18 iM_18 ) ⟨ml_X10_279, ym_X10_knot, yv_X10_knot, yi_X10_knot, yc_X10_knot⟩ yd_X10_knot ob_60 (by decide) rfl rfl hl.1 (Nat.le_of_ble_eq_true rfl) ⟨by simp only [ti_rm]; omega, by simp only [ti_rm]; omega⟩ ⟨Nat.zero_le _, Nat.zero_le _⟩ dX10_product_28 (fun M_52 H locs hp_52 hw => ?_)
        obtain ⟨iM_52, q_53, z_54, z_55, z_56, z_57, z_58, z_59⟩ := l_kn hp_52
        clear hp_52
        refine lv_aload_n hx hb dX10_product_31 rfl (lv_at hl 1 rfl) ?_
        refine ti_callVvE (ci := 10) (av := []) C hE hw (s_X10_goOn l D A cy hJ M_52 iM_52 ) ⟨ml_X10_267, ym_X10_goOn, yv_X10_goOn, yi_X10_goOn, yc_X10_goOn⟩ yd_X10_goOn ob_60 (by decide) rfl rfl hl.1 (Nat.le_of_ble_eq_true rfl) ⟨by simp only [ti_rm]; omega, by simp only [ti_rm]; omega⟩ ⟨Nat.zero_le _, Nat.zero_le _⟩ dX10_product_32 (fun M_61 H locs hp_61 hw => ?_)
        obtain ⟨iM_61, q_62, z_63, z_64, z_65, z_66, z_67⟩ := l_go hp_61
        clear hp_61
        refine lv_aload_n hx hb dX10_product_35 rfl (lv_at hl 1 rfl) ?_
        refine ti_callVvE (ci := 10) (av := []) C hE hw (s_X10_primary l D A cy hJ M_61 iM_61 j a (d + 1) (by omega) (us_q (x := 21) (y := 30) j_20 (pr.trans (pr_w q_62 (by decide) (by decide)) (pr_w q_53 (by decide) (by decide))) (by omega)) (by omega) (by omega) (by omega) ih) ⟨ml_X10_294, ym_X10_primary, yv_X10_primary, yi_X10_primary, yc_X10_primary⟩ yd_X10_primary ob_60 (by decide) rfl rfl hl.1 (Nat.le_of_ble_eq_true rfl) ⟨by simp only [ti_rm]; omega, by simp only [ti_rm]; omega⟩ ⟨Nat.zero_le _, Nat.zero_le _⟩ dX10_product_36 (fun M_69 H locs hp_69 hw => ?_)
        obtain ⟨iM_69, q_70, p_71, p_72, p_73, p_74, p_75, p_76, p_77, p_78, p_79, p_80, p_81, p_82, p_83, u_84⟩ := hp_69
        refine lv_aload_n hx hb dX10_product_39 rfl (lv_at hl 1 rfl) ?_
        refine lv_iconst (v := 2) hx hb dX10_product_40 (by decide) ?_
        refine lv_iload_n hx hb dX10_product_41 rfl (lv_at hl 0 rfl) ?_
        refine ti_callVv (ci := 10) (av := [.int 2, .int x_50]) C hw (s_X10_puts l D A cy hJ M_69 iM_69 a (d + 1 + 1) (d + 1) 2 x_50 u_84 (nL (by omega)) (by first | exact Or.inr (Or.inr (Or.inl ⟨by decide, by omega, rfl⟩)) | exact nF (by omega))) ⟨ml_X10_282, ym_X10_puts, yv_X10_puts, yi_X10_puts, yc_X10_puts⟩ yd_X10_puts ob_60 (by decide) rfl rfl hl.1 (Nat.le_of_ble_eq_true rfl) ⟨by simp only [ti_rm]; omega, by simp only [ti_rm]; omega⟩ ⟨Nat.zero_le _, Nat.zero_le _⟩ dX10_product_42 (fun M_86 H locs hp_86 hw => ?_)
        obtain ⟨iM_86, q_87, u_88, z_89, z_90, z_91, z_92, z_93, z_94⟩ := l_pu iM_69 hp_86
        clear hp_86
        refine lv_goto (tgt := 4) hx hb dX10_product_45 (by decide) ?_
        exact ih_34 M_86 _ _ _ (by omega) iM_86 (pe.trans q_87 (pe.trans q_70 (pe.trans (pe_pr q_62 (by decide) (by decide)) (pe.trans (pe_pr q_53 (by decide) (by decide)) f_19)))) u_88 (by first | omega | decide) (by first | omega | decide) (by first | omega | decide) (by first | omega | decide) (by first | omega | decide) (by first | omega | decide) (by first | omega | decide) (by first | omega | decide) (by first | omega | decide) (by first | omega | decide) (by first | omega | decide) (by first | omega | decide) (by first | omega | decide) hw (lv_sub hl [1] rfl)
      rcases hz with ⟨rfl, d0_37, d1_37, d2_37⟩ | rfl
      · have z_38 : ff M_18 = 1 := ff_1 d0_37
        have z_39 : pg M_18 = 2 * (tI M_18 60 21).toInt := pg_3 (by rw [d1_37]; decide)
        refine sb_if_ne (tgt := 22) hx hb (by decide : (1 : Int32).toInt = 1) dX10_product_10 (by decide) (fun c_10_39 => ?_) (fun h => absurd h (by decide))
        exact hj_22_49  _ _ _ (by first | omega | decide) hw (lv_sub hl [0] rfl)
      · refine sb_if_ne (tgt := 22) hx hb (by decide : (0 : Int32).toInt = 0) dX10_product_10 (by decide) (fun h => absurd h (by decide)) (fun c_10_40 => ?_)
        refine lv_aload_n hx hb dX10_product_13 rfl (lv_at hl 0 rfl) ?_
        refine lv_bipush (v := 47) hx hb dX10_product_14 (by decide) ?_
        refine ti_callVi (ci := 10) (av := [.int 47]) C hw (s_X10_isSign l D A cy hJ M_18 iM_18 47) ⟨ml_X10_251, ym_X10_isSign, yv_X10_isSign, yi_X10_isSign, yc_X10_isSign⟩ yd_X10_isSign ob_60 (by decide) rfl rfl hl.1 (Nat.le_of_ble_eq_true rfl) ⟨by simp only [ti_rm]; omega, by simp only [ti_rm]; omega⟩ ⟨Nat.zero_le _, Nat.zero_le _⟩ dX10_product_16 (fun r_42 M_43 H locs hp_43 hw => ?_)
        obtain ⟨hm, hz⟩ := hp_43
        have hw := hw.to hm
        rcases hz with ⟨rfl, d0_44, d1_44, d2_44⟩ | rfl
        · have z_45 : ff M_18 = 1 := ff_1 d0_44
          have z_46 : pg M_18 = 2 * (tI M_18 60 21).toInt := pg_3 (by rw [d1_44]; decide)
          refine sb_if_eq (tgt := 48) hx hb (by decide : (1 : Int32).toInt = 1) dX10_product_19 (by decide) (fun h => absurd h (by decide)) (fun c_19_46 => ?_)
          exact hj_22_49  _ _ _ (by first | omega | decide) hw (lv_sub hl [0] rfl)
        · refine sb_if_eq (tgt := 48) hx hb (by decide : (0 : Int32).toInt = 0) dX10_product_19 (by decide) (fun c_19_47 => ?_) (fun h => absurd h (by decide))
          exact hQ _ _ _ _ _ hw (⟨iM_18, f_19, (by omega), (by omega), (by omega), (by omega), (by omega), (by omega), (by omega), (by omega), (by omega), (by omega), (by omega), (by omega), (by omega), j_20⟩) dX10_product_48
  exact hl_4_33 ((64 - (tI M_2 60 30).toInt + ff M_2 : Int).toNat + 1) M_2 _ _ _ (Nat.lt_succ_self _) iM_2 q_3 u_17 (by first | omega | decide) (by first | omega | decide) (by first | omega | decide) (by first | omega | decide) (by first | omega | decide) (by first | omega | decide) (by first | omega | decide) (by first | omega | decide) (by first | omega | decide) (by first | omega | decide) (by first | omega | decide) (by first | omega | decide) (by first | omega | decide) hw (lv_sub hl [0] rfl)
set_option maxHeartbeats 4000000 in
set_option maxRecDepth 100000 in
theorem s_X10_sum (l : Launch) (D : va_G) (A : Nat → Nat → Nat) (cy : Nat → ClassId) (hJ : ti_inj ti_LM A) (M : ti_M) (hI : mI Tm M) (j a d : Nat) (hj : j ≤ 8) (hu : us M a d) (hc : (tY M 60 3 18).toInt ≤ (tI M 60 30).toInt + 64 - 64 * ff M) (ho : (tI M 60 29).toInt + j ≤ 16 - 8 * ff M) (ho2 : 8 * ff M ≤ (tI M 60 29).toInt + j) (ih : ∀ i : Nat, i < j → ∀ (l : Launch) (D : va_G) (A : Nat → Nat → Nat) (cy : Nat → ClassId) (hJ : ti_inj ti_LM A) (M : ti_M) (hI : mI Tm M) (a d : Nat) (hj : i ≤ 8) (hu : us M a d) (hc : (tY M 60 3 18).toInt ≤ (tI M 60 30).toInt + 64 - 64 * ff M) (ho : (tI M 60 29).toInt + i ≤ 16 - 8 * ff M) (ho2 : 8 * ff M ≤ (tI M 60 29).toInt + i), ti_KvE l yX10_expression cX10_expression 1 (78 + 71 * i) ti_LM D A cy M [.ref (A 60 0)] (fun M2 => mI Tm M2 ∧ pe M2 M ∧ (pg M ≤ pg M2) ∧ (0 ≤ ff M2) ∧ (ff M2 ≤ ff M) ∧ ((tI M 60 30).toInt ≤ (tI M2 60 30).toInt) ∧ ((tI M2 60 30).toInt ≤ 64) ∧ ((tI M2 60 29).toInt ≤ (tI M 60 29).toInt + 8 - 8 * ff M2) ∧ ((tI M 60 29).toInt ≤ (tI M2 60 29).toInt + 8 - 8 * ff M2) ∧ ((tI M2 60 30).toInt - (tY M2 60 3 18).toInt ≤ (tI M 60 30).toInt - (tY M 60 3 18).toInt + 200 - 200 * ff M2) ∧ ((tI M 60 30).toInt - (tY M 60 3 18).toInt ≤ (tI M2 60 30).toInt - (tY M2 60 3 18).toInt + 200 - 200 * ff M2) ∧ (0 ≤ (tY M2 60 3 18).toInt) ∧ ((tY M2 60 3 18).toInt ≤ 64) ∧ (0 ≤ (tI M2 60 29).toInt) ∧ ((tI M2 60 29).toInt ≤ 8) ∧ us M2 a (d + 1))) : ti_KvE l yX10_sum cX10_sum 2 (10 + 71 * j) ti_LM D A cy M [.ref (A 60 0)] (fun M2 => mI Tm M2 ∧ pe M2 M ∧ (pg M ≤ pg M2) ∧ (0 ≤ ff M2) ∧ (ff M2 ≤ ff M) ∧ ((tI M 60 30).toInt ≤ (tI M2 60 30).toInt) ∧ ((tI M2 60 30).toInt ≤ 64) ∧ ((tI M2 60 29).toInt ≤ (tI M 60 29).toInt + 8 - 8 * ff M2) ∧ ((tI M 60 29).toInt ≤ (tI M2 60 29).toInt + 8 - 8 * ff M2) ∧ ((tI M2 60 30).toInt - (tY M2 60 3 18).toInt ≤ (tI M 60 30).toInt - (tY M 60 3 18).toInt + 200 - 200 * ff M2) ∧ ((tI M 60 30).toInt - (tY M 60 3 18).toInt ≤ (tI M2 60 30).toInt - (tY M2 60 3 18).toInt + 200 - 200 * ff M2) ∧ (0 ≤ (tY M2 60 3 18).toInt) ∧ ((tY M2 60 3 18).toInt ≤ 64) ∧ (0 ≤ (tI M2 60 29).toInt) ∧ ((tI M2 60 29).toInt ≤ 8) ∧ us M2 a (d + 1)) := by
  refine ti_eVE yp_X10_sum hJ ti_LM_nd (Nat.le_of_ble_eq_true rfl) ?_
  intro p e s m args below meth c Q H0 C hE hQ hw ls hl
  have hx := C.1
  have hb := C.2.1
  have hl : lv_has ls 2 [(0, .ref (A 60 0))] := hl
  have hI30 := b30 hI
  have hI29 := b29 hI
  have hI18 := b18 hI
  have hIff := ff_b M
  refine lv_aload_n hx hb dX10_sum_0 rfl (lv_at hl 0 rfl) ?_
  refine ti_callVvE (ci := 10) (av := []) C hE hw (s_X10_product l D A cy hJ M hI j a (d) (by omega) hu (by omega) (by omega) (by omega) ih) ⟨ml_X10_291, ym_X10_product, yv_X10_product, yi_X10_product, yc_X10_product⟩ yd_X10_product ob_60 (by decide) rfl rfl hl.1 (Nat.le_of_ble_eq_true rfl) ⟨by simp only [ti_rm]; omega, by simp only [ti_rm]; omega⟩ ⟨Nat.zero_le _, Nat.zero_le _⟩ dX10_sum_1 (fun M_2 H locs hp_2 hw => ?_)
  obtain ⟨iM_2, q_3, p_4, p_5, p_6, p_7, p_8, p_9, p_10, p_11, p_12, p_13, p_14, p_15, p_16, u_17⟩ := hp_2
  have hl_4_33 : ∀ (n_34 : Nat) (M_18 : ti_M) (H : Heap) (locs : List Loc) (ls : Array Slot), (64 - (tI M_18 60 30).toInt + ff M_18 : Int).toNat < n_34 → (mI Tm M_18) → (pe M_18 M) → (us M_18 a (d + 1)) → (pg M ≤ pg M_18) → (0 ≤ ff M_18) → (ff M_18 ≤ ff M) → ((tI M 60 30).toInt ≤ (tI M_18 60 30).toInt) → ((tI M_18 60 30).toInt ≤ 64) → ((tI M_18 60 29).toInt ≤ (tI M 60 29).toInt + 8 - 8 * ff M_18) → ((tI M 60 29).toInt ≤ (tI M_18 60 29).toInt + 8 - 8 * ff M_18) → ((tI M_18 60 30).toInt - (tY M_18 60 3 18).toInt ≤ (tI M 60 30).toInt - (tY M 60 3 18).toInt + 200 - 200 * ff M_18) → ((tI M 60 30).toInt - (tY M 60 3 18).toInt ≤ (tI M_18 60 30).toInt - (tY M_18 60 3 18).toInt + 200 - 200 * ff M_18) → (0 ≤ (tY M_18 60 3 18).toInt) → ((tY M_18 60 3 18).toInt ≤ 64) → (0 ≤ (tI M_18 60 29).toInt) → ((tI M_18 60 29).toInt ≤ 8) → ti_H ti_LM D A cy H0 M_18 H locs → lv_has ls 2 [(0, .ref (A 60 0))] → W p l e (ti_rm (10 + 71 * j)) s m args below meth c H locs 0 0 Q (F0 m 4 ls []) := by
    intro n_34
    induction n_34 with
    | zero => intro M_18 H locs ls hf_34; exact absurd hf_34 (Nat.not_lt_zero _)
    | succ n_34 ih_34 =>
      intro M_18 H locs ls hf_34 iM_18 f_19 j_20 j_21 j_22 j_23 j_24 j_25 j_26 j_27 j_28 j_29 j_30 j_31 j_32 j_33 hw hl
      refine lv_aload_n hx hb dX10_sum_4 rfl (lv_at hl 0 rfl) ?_
      refine lv_bipush (v := 43) hx hb dX10_sum_5 (by decide) ?_
      refine ti_callVi (ci := 10) (av := [.int 43]) C hw (s_X10_isSign l D A cy hJ M_18 iM_18 43) ⟨ml_X10_251, ym_X10_isSign, yv_X10_isSign, yi_X10_isSign, yc_X10_isSign⟩ yd_X10_isSign ob_60 (by decide) rfl rfl hl.1 (Nat.le_of_ble_eq_true rfl) ⟨by simp only [ti_rm]; omega, by simp only [ti_rm]; omega⟩ ⟨Nat.zero_le _, Nat.zero_le _⟩ dX10_sum_7 (fun r_35 M_36 H locs hp_36 hw => ?_)
      obtain ⟨hm, hz⟩ := hp_36
      have hw := hw.to hm
      have hj_22_49 : ∀  (H : Heap) (locs : List Loc) (ls : Array Slot), (ff M_18 = 1) → ti_H ti_LM D A cy H0 M_18 H locs → lv_has ls 2 [(0, .ref (A 60 0))] → W p l e (ti_rm (10 + 71 * j)) s m args below meth c H locs 0 0 Q (F0 m 22 ls []) := by
        intro  H locs ls j_49 hw hl
        refine lv_aload_n hx hb dX10_sum_22 rfl (lv_at hl 0 rfl) ?_
        refine ti_get (ci := 10) (k := 24) (N := 67) (T := TX10) C hw iw_10 rfl ob_60 (by decide) (by decide) fl_X10_183 rfl rfl dX10_sum_23 ?_
        refine lv_topi (fun x_50 ex_50 => ?_)
        refine lv_istore_n (lv' := [(1, .int x_50), (0, .ref (A 60 0))]) hx hb dX10_sum_26 rfl hl (by decide) rfl (fun ls hl => ?_)
        refine lv_aload_n hx hb dX10_sum_27 rfl (lv_at hl 1 rfl) ?_
        refine ti_callVv (ci := 10) (av := []) C hw (s_X10_knot l D A cy hJ M_18 iM_18 ) ⟨ml_X10_279, ym_X10_knot, yv_X10_knot, yi_X10_knot, yc_X10_knot⟩ yd_X10_knot ob_60 (by decide) rfl rfl hl.1 (Nat.le_of_ble_eq_true rfl) ⟨by simp only [ti_rm]; omega, by simp only [ti_rm]; omega⟩ ⟨Nat.zero_le _, Nat.zero_le _⟩ dX10_sum_28 (fun M_52 H locs hp_52 hw => ?_)
        obtain ⟨iM_52, q_53, z_54, z_55, z_56, z_57, z_58, z_59⟩ := l_kn hp_52
        clear hp_52
        refine lv_aload_n hx hb dX10_sum_31 rfl (lv_at hl 1 rfl) ?_
        refine ti_callVvE (ci := 10) (av := []) C hE hw (s_X10_goOn l D A cy hJ M_52 iM_52 ) ⟨ml_X10_267, ym_X10_goOn, yv_X10_goOn, yi_X10_goOn, yc_X10_goOn⟩ yd_X10_goOn ob_60 (by decide) rfl rfl hl.1 (Nat.le_of_ble_eq_true rfl) ⟨by simp only [ti_rm]; omega, by simp only [ti_rm]; omega⟩ ⟨Nat.zero_le _, Nat.zero_le _⟩ dX10_sum_32 (fun M_61 H locs hp_61 hw => ?_)
        obtain ⟨iM_61, q_62, z_63, z_64, z_65, z_66, z_67⟩ := l_go hp_61
        clear hp_61
        refine lv_aload_n hx hb dX10_sum_35 rfl (lv_at hl 1 rfl) ?_
        refine ti_callVvE (ci := 10) (av := []) C hE hw (s_X10_product l D A cy hJ M_61 iM_61 j a (d + 1) (by omega) (us_q (x := 21) (y := 30) j_20 (pr.trans (pr_w q_62 (by decide) (by decide)) (pr_w q_53 (by decide) (by decide))) (by omega)) (by omega) (by omega) (by omega) ih) ⟨ml_X10_291, ym_X10_product, yv_X10_product, yi_X10_product, yc_X10_product⟩ yd_X10_product ob_60 (by decide) rfl rfl hl.1 (Nat.le_of_ble_eq_true rfl) ⟨by simp only [ti_rm]; omega, by simp only [ti_rm]; omega⟩ ⟨Nat.zero_le _, Nat.zero_le _⟩ dX10_sum_36 (fun M_69 H locs hp_69 hw => ?_)
        obtain ⟨iM_69, q_70, p_71, p_72, p_73, p_74, p_75, p_76, p_77, p_78, p_79, p_80, p_81, p_82, p_83, u_84⟩ := hp_69
        refine lv_aload_n hx hb dX10_sum_39 rfl (lv_at hl 1 rfl) ?_
        refine lv_iconst (v := 2) hx hb dX10_sum_40 (by decide) ?_
        refine lv_iload_n hx hb dX10_sum_41 rfl (lv_at hl 0 rfl) ?_
        refine ti_callVv (ci := 10) (av := [.int 2, .int x_50]) C hw (s_X10_puts l D A cy hJ M_69 iM_69 a (d + 1 + 1) (d + 1) 2 x_50 u_84 (nL (by omega)) (by first | exact Or.inr (Or.inr (Or.inl ⟨by decide, by omega, rfl⟩)) | exact nF (by omega))) ⟨ml_X10_282, ym_X10_puts, yv_X10_puts, yi_X10_puts, yc_X10_puts⟩ yd_X10_puts ob_60 (by decide) rfl rfl hl.1 (Nat.le_of_ble_eq_true rfl) ⟨by simp only [ti_rm]; omega, by simp only [ti_rm]; omega⟩ ⟨Nat.zero_le _, Nat.zero_le _⟩ dX10_sum_42 (fun M_86 H locs hp_86 hw => ?_)
        obtain ⟨iM_86, q_87, u_88, z_89, z_90, z_91, z_92, z_93, z_94⟩ := l_pu iM_69 hp_86
        clear hp_86
        refine lv_goto (tgt := 4) hx hb dX10_sum_45 (by decide) ?_
        exact ih_34 M_86 _ _ _ (by omega) iM_86 (pe.trans q_87 (pe.trans q_70 (pe.trans (pe_pr q_62 (by decide) (by decide)) (pe.trans (pe_pr q_53 (by decide) (by decide)) f_19)))) u_88 (by first | omega | decide) (by first | omega | decide) (by first | omega | decide) (by first | omega | decide) (by first | omega | decide) (by first | omega | decide) (by first | omega | decide) (by first | omega | decide) (by first | omega | decide) (by first | omega | decide) (by first | omega | decide) (by first | omega | decide) (by first | omega | decide) hw (lv_sub hl [1] rfl)
      rcases hz with ⟨rfl, d0_37, d1_37, d2_37⟩ | rfl
      · have z_38 : ff M_18 = 1 := ff_1 d0_37
        have z_39 : pg M_18 = 2 * (tI M_18 60 21).toInt := pg_3 (by rw [d1_37]; decide)
        refine sb_if_ne (tgt := 22) hx hb (by decide : (1 : Int32).toInt = 1) dX10_sum_10 (by decide) (fun c_10_39 => ?_) (fun h => absurd h (by decide))
        exact hj_22_49  _ _ _ (by first | omega | decide) hw (lv_sub hl [0] rfl)
      · refine sb_if_ne (tgt := 22) hx hb (by decide : (0 : Int32).toInt = 0) dX10_sum_10 (by decide) (fun h => absurd h (by decide)) (fun c_10_40 => ?_)
        refine lv_aload_n hx hb dX10_sum_13 rfl (lv_at hl 0 rfl) ?_
        refine lv_bipush (v := 45) hx hb dX10_sum_14 (by decide) ?_
        refine ti_callVi (ci := 10) (av := [.int 45]) C hw (s_X10_isSign l D A cy hJ M_18 iM_18 45) ⟨ml_X10_251, ym_X10_isSign, yv_X10_isSign, yi_X10_isSign, yc_X10_isSign⟩ yd_X10_isSign ob_60 (by decide) rfl rfl hl.1 (Nat.le_of_ble_eq_true rfl) ⟨by simp only [ti_rm]; omega, by simp only [ti_rm]; omega⟩ ⟨Nat.zero_le _, Nat.zero_le _⟩ dX10_sum_16 (fun r_42 M_43 H locs hp_43 hw => ?_)
        obtain ⟨hm, hz⟩ := hp_43
        have hw := hw.to hm
        rcases hz with ⟨rfl, d0_44, d1_44, d2_44⟩ | rfl
        · have z_45 : ff M_18 = 1 := ff_1 d0_44
          have z_46 : pg M_18 = 2 * (tI M_18 60 21).toInt := pg_3 (by rw [d1_44]; decide)
          refine sb_if_eq (tgt := 48) hx hb (by decide : (1 : Int32).toInt = 1) dX10_sum_19 (by decide) (fun h => absurd h (by decide)) (fun c_19_46 => ?_)
          exact hj_22_49  _ _ _ (by first | omega | decide) hw (lv_sub hl [0] rfl)
        · refine sb_if_eq (tgt := 48) hx hb (by decide : (0 : Int32).toInt = 0) dX10_sum_19 (by decide) (fun c_19_47 => ?_) (fun h => absurd h (by decide))
          exact hQ _ _ _ _ _ hw (⟨iM_18, f_19, (by omega), (by omega), (by omega), (by omega), (by omega), (by omega), (by omega), (by omega), (by omega), (by omega), (by omega), (by omega), (by omega), j_20⟩) dX10_sum_48
  exact hl_4_33 ((64 - (tI M_2 60 30).toInt + ff M_2 : Int).toNat + 1) M_2 _ _ _ (Nat.lt_succ_self _) iM_2 q_3 u_17 (by first | omega | decide) (by first | omega | decide) (by first | omega | decide) (by first | omega | decide) (by first | omega | decide) (by first | omega | decide) (by first | omega | decide) (by first | omega | decide) (by first | omega | decide) (by first | omega | decide) (by first | omega | decide) (by first | omega | decide) (by first | omega | decide) hw (lv_sub hl [0] rfl)

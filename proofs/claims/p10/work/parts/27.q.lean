variable {Tc : gC} {Tm : gM}
/-- of the queue that is, what a copy elsewhere leaves -/
def kp (N M : ti_M) : Prop := lw N M ∧ tI N 60 2 = tI M 60 2 ∧ tY N 60 38 0 = tY M 60 38 0 ∧ ∀ i : Nat, i < 8 → tY N 60 40 i = tY M 60 40 i
theorem kp.refl {M : ti_M} : kp M M := ⟨fun _ _ _ => rfl, rfl, rfl, fun _ _ => rfl⟩
theorem kp.trans {K N M : ti_M} (a : kp K N) (b : kp N M) : kp K M := ⟨fun k h1 h2 => (a.1 k h1 h2).trans (b.1 k h1 h2), a.2.1.trans b.2.1, a.2.2.1.trans b.2.2.1, fun i h => (a.2.2.2 i h).trans (b.2.2.2 i h)⟩
theorem kp_qw {N M : ti_M} (r : qw N M) : kp N M := ⟨r.1, r.2.1.1, by rw [r.2.2.1], fun i _ => by rw [r.2.2.2.2]⟩
theorem kp_I {M N : ti_M} {k : Nat} {v : Int32} (e : N = uI M 60 k v) (h : k ≠ 2) : kp N M := ⟨fun _ _ _ => tY_uIE e, tI_nE e (nk (Ne.symm h)), by rw [tY_uIE e], fun i _ => by rw [tY_uIE e]⟩
theorem kp_cq {N M : ti_M} {to as : Nat} (l : lk N M) (c : cq to as N M) (h : to ≠ 0) : kp N M := ⟨l.1, l.2.1, c.2.2.2.1 0 (Ne.symm h), fun i hi => c.2.2.2.2.2.2 i (by omega)⟩
def gq (M : ti_M) (q : Nat) : Prop := mC M q ∧ mP M q
theorem gq_I {M N : ti_M} {k q : Nat} {v : Int32} (e : N = uI M 60 k v) (g : gq M q) : gq N q := by subst e; exact g
theorem gq_qw {M N : ti_M} {q : Nat} (r : qw N M) (g : gq M q) : gq N q := ⟨mC_qw r g.1, mP_qw r g.2⟩
theorem gq_cq {M N : ti_M} {to as : Nat} (c : cq to as N M) (g : gq M as) : gq N to := ⟨c.1 g.1, c.2.1 g.2⟩
theorem mF_cq {M N : ti_M} {to as : Nat} (h : mF Tm M) (hI : mI Tm N) (l : lk N M) (c : cq to as N M) (s : gq M as) : mF Tm N := by
  obtain ⟨-, hL, h1, h3, h4⟩ := h
  have g : ∀ q2, gq M q2 → gq N q2 := fun q2 p => by
    by_cases e : q2 = to
    · rw [e]; exact gq_cq c s
    · exact ⟨(c.2.2.1 q2 e).1 p.1, (c.2.2.1 q2 e).2 p.2⟩
  refine ⟨hI, mL_lw l.1 hL, g 0 h1, ?_, ?_⟩
  · rw [l.2.2.1]; exact fun p => g 2 (h3 p)
  · rw [l.2.2.2]; exact fun k hk => g _ (h4 k hk)
theorem mF_52 {M N : ti_M} {v : Int32} (h : mF Tm M) (hI : mI Tm N) (e : N = uI M 60 52 v) (hv : v.toInt ≤ (tI M 60 52).toInt) : mF Tm N := by
  obtain ⟨-, hL, h1, h3, h4⟩ := h
  refine ⟨hI, mL_lw (fun _ _ _ => tY_uIE e) hL, gq_I e h1, ?_, ?_⟩
  · rw [tI_nE e (nk (by decide))]; exact fun p => gq_I e (h3 p)
  · rw [tI_uE e]; exact fun k hk => gq_I e (h4 k (by omega))
theorem mF_52p {M N : ti_M} {v : Int32} (h : mF Tm M) (hI : mI Tm N) (e : N = uI M 60 52 v) (hv : v.toInt = (tI M 60 52).toInt + 1) (h0 : 0 ≤ (tI M 60 52).toInt) (g : gq M (3 + (tI M 60 52).toInt.toNat)) : mF Tm N := by
  obtain ⟨-, hL, h1, h3, h4⟩ := h
  refine ⟨hI, mL_lw (fun _ _ _ => tY_uIE e) hL, gq_I e h1, ?_, ?_⟩
  · rw [tI_nE e (nk (by decide))]; exact fun p => gq_I e (h3 p)
  · rw [tI_uE e]; exact fun k hk => gq_I e (if hh : (k : Int) < (tI M 60 52).toInt then h4 k hh else by rw [show k = (tI M 60 52).toInt.toNat by omega]; exact g)
theorem mF_51 {M N : ti_M} {v : Int32} (h : mF Tm M) (hI : mI Tm N) (e : N = uI M 60 51 v) (g : gq M 2) : mF Tm N := by
  obtain ⟨-, hL, h1, h3, h4⟩ := h
  refine ⟨hI, mL_lw (fun _ _ _ => tY_uIE e) hL, gq_I e h1, fun _ => gq_I e g, ?_⟩
  rw [tI_nE e (nk (by decide))]; exact fun k hk => gq_I e (h4 k hk)
theorem q_swap {M K N : ti_M} {ia ib : Nat} {x y : Int32} (h : mF Tm M) (hI : mI Tm N) (e1 : K = uY M 60 39 (upd (tY M 60 39) ia y)) (e2 : N = uY K 60 39 (upd (tY K 60 39) ib x)) (ha : ia < 8) (hb : ib < 8) (hx : (tY M 60 39 ia).toInt = x.toInt) (hy : (tY M 60 39 ib).toInt = y.toInt) (hne : x.toInt ≠ y.toInt) (la : (ia : Int) < (tY M 60 38 0).toInt) (lb : (ib : Int) < (tY M 60 38 0).toInt) : mF Tm N ∧ tI N 60 2 = tI M 60 2 := by
  have n : ∀ k, k ≠ 39 → tY N 60 k = tY M 60 k := fun k hk => (tY_nE e2 (nk hk)).trans (tY_nE e1 (nk hk))
  have i : ∀ k, tI N 60 k = tI M 60 k := fun k => (tI_uYE e2).trans (tI_uYE e1)
  have r : tY N 60 39 = upd (upd (tY M 60 39) ia y) ib x := by rw [tY_uE e2, tY_uE e1]
  have hab : ia ≠ ib := by intro q; rw [q] at hx; omega
  obtain ⟨hM, hL, h1, h3, h4⟩ := h
  have hb8 : ∀ z, 0 ≤ (tY M 60 38 z).toInt ∧ (tY M 60 38 z).toInt ≤ 8 := fun z => hM.2.1 38 z
  have g : ∀ q2, gq M q2 → gq N q2 := fun q2 p => by
    refine ⟨?_, ?_⟩
    · have c := p.1; unfold mC at c ⊢; rw [n 38 (by decide), n 40 (by decide)]; exact c
    · intro m hm hmn hw
      rw [n 3 (by decide)] at hmn
      rw [n 40 (by decide)] at hw
      rw [n 38 (by decide), r]
      obtain ⟨p0, k1, k2⟩ := p.2 m hm hmn hw
      have := hb8 q2
      by_cases a : 8 * q2 + p0 = ia
      · have q0 : q2 = 0 := by omega
        subst q0
        rw [a] at k2
        exact ⟨ib, by omega, by rw [show 8 * 0 + ib = ib by omega, pk_us]; omega⟩
      · by_cases b : 8 * q2 + p0 = ib
        · have q0 : q2 = 0 := by omega
          subst q0
          rw [b] at k2
          exact ⟨ia, by omega, by rw [show 8 * 0 + ia = ia by omega, pk_un hab, pk_us]; omega⟩
        · exact ⟨p0, k1, by rw [pk_un b, pk_un a]; exact k2⟩
  refine ⟨⟨hI, mL_lw (fun k k1 k2 => n k (by omega)) hL, g 0 h1, ?_, ?_⟩, i 2⟩
  · rw [i 51]; exact fun p => g 2 (h3 p)
  · rw [i 52]; exact fun k hk => g _ (h4 k hk)
set_option maxHeartbeats 4000000 in
set_option maxRecDepth 100000 in
theorem s_X10_keepNow (l : Launch) (D : va_G) (A : Nat → Nat → Nat) (cy : Nat → ClassId) (hJ : ti_inj ti_LM A) (M : ti_M) (hI : mI Tm M) (hF : mF Tm M) : ti_Kv l yX10_keepNow cX10_keepNow 2 1 ti_LM D A cy M [.ref (A 60 0)] (fun M2 => mF Tm M2 ∧ kp M2 M) := by
  refine ti_eV yp_X10_keepNow hJ ti_LM_nd (Nat.le_of_ble_eq_true rfl) ?_
  intro p e s m args below meth c Q H0 C hQ hw ls hl
  have hx := C.1
  have hb := C.2.1
  have hl : lv_has ls 2 [(0, .ref (A 60 0))] := hl
  refine lv_aload_n hx hb dX10_keepNow_0 rfl (lv_at hl 0 rfl) ?_
  refine ti_get (ci := 10) (k := 52) (N := 67) (T := TX10) C hw iw_10 rfl ob_60 (by decide) (by decide) fl_X10_317 rfl rfl dX10_keepNow_1 ?_
  refine lv_topi (fun x_1 ex_1 => ?_)
  have bx_1 : 0 ≤ x_1.toInt ∧ x_1.toInt ≤ 20 := mI_rd hI ex_1
  have ux_1 : (tI M 60 52).toInt = x_1.toInt := by rw [ex_1]
  refine lv_bipush (v := 20) hx hb dX10_keepNow_4 (by decide) ?_
  have hj_45_29 : ∀ (M_23 : ti_M) (x_26 : Int32) (H : Heap) (locs : List Loc) (ls : Array Slot), (mI Tm M_23) → (kp M_23 M) → (mF Tm M_23) → (0 ≤ x_26.toInt) → (x_26.toInt ≤ 19) → (tI M_23 60 52 = x_26) → ti_H ti_LM D A cy H0 M_23 H locs → lv_has ls 2 [(0, .ref (A 60 0))] → W p l e (ti_rm 1) s m args below meth c H locs 0 0 Q (F0 m 45 ls []) := by
    intro M_23 x_26 H locs ls iM_23 f_24 f_25 b_27 b_28 f_29 hw hl
    refine lv_aload_n hx hb dX10_keepNow_45 rfl (lv_at hl 0 rfl) ?_
    refine lv_iconst (v := 3) hx hb dX10_keepNow_46 (by decide) ?_
    refine lv_aload_n hx hb dX10_keepNow_47 rfl (lv_at hl 0 rfl) ?_
    refine ti_get (ci := 10) (k := 52) (N := 67) (T := TX10) C hw iw_10 rfl ob_60 (by decide) (by decide) fl_X10_317 rfl rfl dX10_keepNow_48 ?_
    refine ti_top (y := x_26) (f_29) ?_
    have u_30 : (tI M_23 60 52).toInt = (x_26 : Int32).toInt := by rw [(f_29)]
    refine lv_iadd hx hb dX10_keepNow_51 ?_
    refine lv_topi (fun x_31 ex_31 => ?_)
    have tx_31 : x_31.toInt = 3 + x_26.toInt := i_add ex_31 (by decide : (3 : Int32).toInt = 3) rfl (by omega) (by omega)
    refine lv_iconst (v := 0) hx hb dX10_keepNow_52 (by decide) ?_
    refine ti_callVv (ci := 10) (av := [.int x_31, .int 0]) C hw (s_X10_copies l D A cy hJ M_23 iM_23 x_31 0 (by first | omega | decide | (have l0 : (0 : Int32).toInt = 0 := (by decide); have l2 : (2 : Int32).toInt = 2 := (by decide); have l3 : (3 : Int32).toInt = 3 := (by decide); omega)) (by first | omega | decide | (have l0 : (0 : Int32).toInt = 0 := (by decide); have l2 : (2 : Int32).toInt = 2 := (by decide); have l3 : (3 : Int32).toInt = 3 := (by decide); omega)) (by first | omega | decide | (have l0 : (0 : Int32).toInt = 0 := (by decide); have l2 : (2 : Int32).toInt = 2 := (by decide); have l3 : (3 : Int32).toInt = 3 := (by decide); omega)) (by first | omega | decide | (have l0 : (0 : Int32).toInt = 0 := (by decide); have l2 : (2 : Int32).toInt = 2 := (by decide); have l3 : (3 : Int32).toInt = 3 := (by decide); omega)) (by first | omega | decide | (have l0 : (0 : Int32).toInt = 0 := (by decide); have l2 : (2 : Int32).toInt = 2 := (by decide); have l3 : (3 : Int32).toInt = 3 := (by decide); omega)) (by first | omega | decide | (have l0 : (0 : Int32).toInt = 0 := (by decide); have l2 : (2 : Int32).toInt = 2 := (by decide); have l3 : (3 : Int32).toInt = 3 := (by decide); omega))) ⟨ml_X10_404, ym_X10_copies, yv_X10_copies, yi_X10_copies, yc_X10_copies⟩ yd_X10_copies ob_60 (by decide) rfl rfl hl.1 (Nat.le_of_ble_eq_true rfl) ⟨by decide, by decide⟩ ⟨Nat.zero_le _, Nat.zero_le _⟩ dX10_keepNow_53 (fun M_33 H locs hp_33 hw => ?_)
    obtain ⟨iM_33, q_34, q_35⟩ := hp_33
    have q_35n : cq (x_31).toInt.toNat 0 M_33 M_23 := by rw [show (0 : Int32).toNatClampNeg = 0 from by decide] at q_35; exact q_35
    have kpM_33 : kp M_33 M_23 := kp_cq q_34 q_35n (by show (x_31).toInt.toNat ≠ 0; omega)
    have gsM_33 : gq M_23 0 := f_25.2.2.1
    have mfM_33 : mF Tm M_33 := mF_cq f_25 iM_33 q_34 q_35n gsM_33
    have gtM_33 : gq M_33 (x_31).toInt.toNat := gq_cq q_35n gsM_33
    refine lv_aload_n hx hb dX10_keepNow_56 rfl (lv_at hl 0 rfl) ?_
    refine lv_dup hx hb dX10_keepNow_57 rfl ?_
    refine ti_get (ci := 10) (k := 52) (N := 67) (T := TX10) C hw iw_10 rfl ob_60 (by decide) (by decide) fl_X10_317 rfl rfl dX10_keepNow_58 ?_
    refine ti_top (y := x_26) ((q_34.2.2.2).trans f_29) ?_
    have u_36 : (tI M_33 60 52).toInt = (x_26 : Int32).toInt := by rw [((q_34.2.2.2).trans f_29)]
    refine lv_iconst (v := 1) hx hb dX10_keepNow_61 (by decide) ?_
    refine lv_iadd hx hb dX10_keepNow_62 ?_
    refine lv_topi (fun x_37 ex_37 => ?_)
    have tx_37 : x_37.toInt = x_26.toInt + 1 := i_add ex_37 rfl (by decide : (1 : Int32).toInt = 1) (by omega) (by omega)
    refine ti_putI (ci := 10) (k := 52) (N := 67) (T := TX10) C hw iw_10 tyX10 tyX10_ok nmX10 rfl ob_60 (by decide) (by decide) fl_X10_317 rfl rfl rfl rfl (fn_10 A _) fs_10_52 dX10_keepNow_63 (fun H locs hw => ?_)
    obtain ⟨M_38, hM_38⟩ : ∃ z : ti_M, z = uI M_33 60 52 x_37 := ⟨_, rfl⟩
    have hw := hw.to hM_38.symm
    have iM_38 : mI Tm M_38 := mI_uI iM_33 hM_38 (by decide) (by decide) (ib_mk (lo := 0) (hi := 20) (by omega) (by omega))
    have vM_38 : (tI M_38 60 52).toInt = (x_37 : Int32).toInt := by rw [tI_uE hM_38]
    have mfM_38 : mF Tm M_38 := mF_52p mfM_33 iM_38 hM_38 (by rw [((q_34.2.2.2).trans f_29)]; omega) (by rw [((q_34.2.2.2).trans f_29)]; omega) (by rw [((q_34.2.2.2).trans f_29), show 3 + x_26.toInt.toNat = (x_31).toInt.toNat by omega]; exact gtM_33)
    exact hQ _ _ _ _ _ hw (⟨mfM_38, (kp.trans (kp_I hM_38 (by decide)) (kp.trans kpM_33 f_24))⟩) dX10_keepNow_66
  refine sb_icmp_ne (tgt := 45) hx hb rfl (by decide : (20 : Int32).toInt = 20) dX10_keepNow_6 (by decide) (fun c_6_1 => ?_) (fun c_6_1 => ?_)
  · exact hj_45_29 M x_1 _ _ _ hI kp.refl hF (by first | omega | decide) (by first | omega | decide) (ex_1.symm) hw (lv_sub hl [0] rfl)
  · refine lv_iconst (v := 1) hx hb dX10_keepNow_9 (by decide) ?_
    refine lv_istore_n (lv' := [(1, .int 1), (0, .ref (A 60 0))]) hx hb dX10_keepNow_10 rfl hl (by decide) rfl (fun ls hl => ?_)
    have hl_11_9 : ∀ (n_10 : Nat) (x_3 : Int32) (M_6 : ti_M) (H : Heap) (locs : List Loc) (ls : Array Slot), (20 - x_3.toInt : Int).toNat < n_10 → (1 ≤ x_3.toInt) → (x_3.toInt ≤ 20) → (mI Tm M_6) → (kp M_6 M) → (mF Tm M_6) → (tI M_6 60 52 = x_1) → ti_H ti_LM D A cy H0 M_6 H locs → lv_has ls 2 [(1, .int x_3), (0, .ref (A 60 0))] → W p l e (ti_rm 1) s m args below meth c H locs 0 0 Q (F0 m 11 ls []) := by
      intro n_10
      induction n_10 with
      | zero => intro x_3 M_6 H locs ls hf_10; exact absurd hf_10 (Nat.not_lt_zero _)
      | succ n_10 ih_10 =>
        intro x_3 M_6 H locs ls hf_10 b_4 b_5 iM_6 f_7 f_8 f_9 hw hl
        refine lv_iload_n hx hb dX10_keepNow_11 rfl (lv_at hl 0 rfl) ?_
        refine lv_bipush (v := 20) hx hb dX10_keepNow_12 (by decide) ?_
        refine sb_icmp_ge (tgt := 35) hx hb rfl (by decide : (20 : Int32).toInt = 20) dX10_keepNow_14 (by decide) (fun c_14_10 => ?_) (fun c_14_10 => ?_)
        · refine lv_aload_n hx hb dX10_keepNow_35 rfl (lv_at hl 1 rfl) ?_
          refine lv_dup hx hb dX10_keepNow_36 rfl ?_
          refine ti_get (ci := 10) (k := 52) (N := 67) (T := TX10) C hw iw_10 rfl ob_60 (by decide) (by decide) fl_X10_317 rfl rfl dX10_keepNow_37 ?_
          refine ti_top (y := x_1) (f_9) ?_
          have u_20 : (tI M_6 60 52).toInt = (x_1 : Int32).toInt := by rw [(f_9)]
          refine lv_iconst (v := 1) hx hb dX10_keepNow_40 (by decide) ?_
          refine lv_isub hx hb dX10_keepNow_41 ?_
          refine lv_topi (fun x_21 ex_21 => ?_)
          have tx_21 : x_21.toInt = x_1.toInt - 1 := i_sub ex_21 rfl (by decide : (1 : Int32).toInt = 1) (by omega) (by omega)
          refine ti_putI (ci := 10) (k := 52) (N := 67) (T := TX10) C hw iw_10 tyX10 tyX10_ok nmX10 rfl ob_60 (by decide) (by decide) fl_X10_317 rfl rfl rfl rfl (fn_10 A _) fs_10_52 dX10_keepNow_42 (fun H locs hw => ?_)
          obtain ⟨M_22, hM_22⟩ : ∃ z : ti_M, z = uI M_6 60 52 x_21 := ⟨_, rfl⟩
          have hw := hw.to hM_22.symm
          have iM_22 : mI Tm M_22 := mI_uI iM_6 hM_22 (by decide) (by decide) (ib_mk (lo := 0) (hi := 20) (by omega) (by omega))
          have vM_22 : (tI M_22 60 52).toInt = (x_21 : Int32).toInt := by rw [tI_uE hM_22]
          have mfM_22 : mF Tm M_22 := mF_52 f_8 iM_22 hM_22 (by rw [(f_9)]; omega)
          exact hj_45_29 M_22 x_21 _ _ _ iM_22 (kp.trans (kp_I hM_22 (by decide)) f_7) mfM_22 (by first | omega | decide) (by first | omega | decide) (tI_uE hM_22) hw (lv_sub hl [1] rfl)
        · refine lv_aload_n hx hb dX10_keepNow_17 rfl (lv_at hl 1 rfl) ?_
          refine lv_iconst (v := 3) hx hb dX10_keepNow_18 (by decide) ?_
          refine lv_iload_n hx hb dX10_keepNow_19 rfl (lv_at hl 0 rfl) ?_
          refine lv_iadd hx hb dX10_keepNow_20 ?_
          refine lv_topi (fun x_12 ex_12 => ?_)
          have tx_12 : x_12.toInt = 3 + x_3.toInt := i_add ex_12 (by decide : (3 : Int32).toInt = 3) rfl (by omega) (by omega)
          refine lv_iconst (v := 1) hx hb dX10_keepNow_21 (by decide) ?_
          refine lv_isub hx hb dX10_keepNow_22 ?_
          refine lv_topi (fun x_13 ex_13 => ?_)
          have tx_13 : x_13.toInt = x_12.toInt - 1 := i_sub ex_13 rfl (by decide : (1 : Int32).toInt = 1) (by omega) (by omega)
          refine lv_iconst (v := 3) hx hb dX10_keepNow_23 (by decide) ?_
          refine lv_iload_n hx hb dX10_keepNow_24 rfl (lv_at hl 0 rfl) ?_
          refine lv_iadd hx hb dX10_keepNow_25 ?_
          refine lv_topi (fun x_14 ex_14 => ?_)
          have tx_14 : x_14.toInt = 3 + x_3.toInt := i_add ex_14 (by decide : (3 : Int32).toInt = 3) rfl (by omega) (by omega)
          refine ti_callVv (ci := 10) (av := [.int x_13, .int x_14]) C hw (s_X10_copies l D A cy hJ M_6 iM_6 x_13 x_14 (by first | omega | decide | (have l0 : (0 : Int32).toInt = 0 := (by decide); have l2 : (2 : Int32).toInt = 2 := (by decide); have l3 : (3 : Int32).toInt = 3 := (by decide); omega)) (by first | omega | decide | (have l0 : (0 : Int32).toInt = 0 := (by decide); have l2 : (2 : Int32).toInt = 2 := (by decide); have l3 : (3 : Int32).toInt = 3 := (by decide); omega)) (by first | omega | decide | (have l0 : (0 : Int32).toInt = 0 := (by decide); have l2 : (2 : Int32).toInt = 2 := (by decide); have l3 : (3 : Int32).toInt = 3 := (by decide); omega)) (by first | omega | decide | (have l0 : (0 : Int32).toInt = 0 := (by decide); have l2 : (2 : Int32).toInt = 2 := (by decide); have l3 : (3 : Int32).toInt = 3 := (by decide); omega)) (by first | omega | decide | (have l0 : (0 : Int32).toInt = 0 := (by decide); have l2 : (2 : Int32).toInt = 2 := (by decide); have l3 : (3 : Int32).toInt = 3 := (by decide); omega)) (by first | omega | decide | (have l0 : (0 : Int32).toInt = 0 := (by decide); have l2 : (2 : Int32).toInt = 2 := (by decide); have l3 : (3 : Int32).toInt = 3 := (by decide); omega))) ⟨ml_X10_404, ym_X10_copies, yv_X10_copies, yi_X10_copies, yc_X10_copies⟩ yd_X10_copies ob_60 (by decide) rfl rfl hl.1 (Nat.le_of_ble_eq_true rfl) ⟨by decide, by decide⟩ ⟨Nat.zero_le _, Nat.zero_le _⟩ dX10_keepNow_26 (fun M_16 H locs hp_16 hw => ?_)
          obtain ⟨iM_16, q_17, q_18⟩ := hp_16
          have q_18n : cq (x_13).toInt.toNat (x_14).toInt.toNat M_16 M_6 := by exact q_18
          have kpM_16 : kp M_16 M_6 := kp_cq q_17 q_18n (by show (x_13).toInt.toNat ≠ 0; omega)
          have gsM_16 : gq M_6 (x_14).toInt.toNat := by have g := f_8.2.2.2.2 x_3.toInt.toNat (by rw [(f_9)]; omega); rwa [show 3 + x_3.toInt.toNat = (x_14).toInt.toNat by omega] at g
          have mfM_16 : mF Tm M_16 := mF_cq f_8 iM_16 q_17 q_18n gsM_16
          have gtM_16 : gq M_16 (x_13).toInt.toNat := gq_cq q_18n gsM_16
          obtain ⟨x_19, ex_19⟩ : ∃ z : Int32, z = x_3 + 1 := ⟨_, rfl⟩
          have tx_19 : x_19.toInt = x_3.toInt + 1 := i_add ex_19 rfl (by decide) (by omega) (by omega)
          refine lv_iinc (v := x_19) (lv' := [(1, .int x_19), (0, .ref (A 60 0))]) hx hb dX10_keepNow_29 hl (k := 0) rfl (by rw [ex_19]; rfl) (by decide) rfl (fun ls hl => ?_)
          refine lv_goto (tgt := 11) hx hb dX10_keepNow_32 (by decide) ?_
          exact ih_10 x_19 M_16 _ _ _ (by omega) (by first | omega | decide) (by first | omega | decide) iM_16 (kp.trans kpM_16 f_7) mfM_16 ((q_17.2.2.2).trans f_9) hw (lv_sub hl [0, 1] rfl)
    exact hl_11_9 ((20 - 1 : Int).toNat + 1) 1 M _ _ _ (Nat.lt_succ_self _) (by have lt0 : (1 : Int32).toInt = 1 := (by decide); first | omega | decide) (by have lt0 : (1 : Int32).toInt = 1 := (by decide); first | omega | decide) hI kp.refl hF (ex_1.symm) hw (lv_sub hl [0, 1] rfl)
set_option maxHeartbeats 4000000 in
set_option maxRecDepth 100000 in
theorem s_X10_join (l : Launch) (D : va_G) (A : Nat → Nat → Nat) (cy : Nat → ClassId) (hJ : ti_inj ti_LM A) (M : ti_M) (hI : mI Tm M) (hF : mF Tm M) (z1 : Int32) : ti_Ki l yX10_join cX10_join 2 (some .int) 2 ti_LM D A cy M [.ref (A 60 0), .int z1] (fun r M2 => mF Tm M2 ∧ tI M2 60 2 = tI M 60 2 ∧ lw M2 M) := by
  refine ti_eI yp_X10_join hJ ti_LM_nd (Nat.le_of_ble_eq_true rfl) ?_
  intro p e s m args below meth c Q H0 C hQ hw ls hl
  have hx := C.1
  have hb := C.2.1
  have hl : lv_has ls 2 [(0, .ref (A 60 0)), (1, .int z1)] := hl
  refine lv_aload_n hx hb dX10_join_0 rfl (lv_at hl 0 rfl) ?_
  refine lv_iconst (v := 0) hx hb dX10_join_1 (by decide) ?_
  refine ti_putI (ci := 10) (k := 0) (N := 67) (T := TX10) C hw iw_10 tyX10 tyX10_ok nmX10 rfl ob_60 (by decide) (by decide) fl_X10_154 rfl rfl rfl rfl (fn_10 A _) fs_10_0 dX10_join_2 (fun H locs hw => ?_)
  obtain ⟨M_1, hM_1⟩ : ∃ z : ti_M, z = uI M 60 0 0 := ⟨_, rfl⟩
  have hw := hw.to hM_1.symm
  have iM_1 : mI Tm M_1 := mI_uI hI hM_1 (by decide) (by decide) trivial
  refine lv_aload_n hx hb dX10_join_5 rfl (lv_at hl 0 rfl) ?_
  refine lv_iload_n hx hb dX10_join_6 rfl (lv_at hl 1 rfl) ?_
  refine ti_callVi (ci := 10) (av := [.int z1]) C hw (s_X10_isToCome l D A cy hJ M_1 iM_1 z1) ⟨ml_X10_433, ym_X10_isToCome, yv_X10_isToCome, yi_X10_isToCome, yc_X10_isToCome⟩ yd_X10_isToCome ob_60 (by decide) rfl rfl hl.1 (Nat.le_of_ble_eq_true rfl) ⟨by decide, by decide⟩ ⟨Nat.zero_le _, Nat.zero_le _⟩ dX10_join_7 (fun r_2 M_3 H locs hp_3 hw => ?_)
  obtain ⟨hm, hz⟩ := hp_3
  have hw := hw.to hm
  have lk_5 : (tY M_1 60 3 0).toInt = (tY M 60 3 0).toInt := by rw [(cg (tY_uIE hM_1) 0)]
  rcases hz with ⟨rfl, d0_4, d1_4, d2_4, d3_4⟩ | rfl
  · refine sb_if_ne (tgt := 15) hx hb (by decide : (1 : Int32).toInt = 1) dX10_join_10 (by decide) (fun c_10_5 => ?_) (fun h => absurd h (by decide))
    refine lv_aload_n hx hb dX10_join_15 rfl (lv_at hl 0 rfl) ?_
    refine ti_callVv (ci := 10) (av := []) C hw (s_X10_keepNow l D A cy hJ M_1 iM_1 (mF_qw hF iM_1 (qw_I hM_1 (by decide)))) ⟨ml_X10_436, ym_X10_keepNow, yv_X10_keepNow, yi_X10_keepNow, yc_X10_keepNow⟩ yd_X10_keepNow ob_60 (by decide) rfl rfl hl.1 (Nat.le_of_ble_eq_true rfl) ⟨by decide, by decide⟩ ⟨Nat.zero_le _, Nat.zero_le _⟩ dX10_join_16 (fun M_9 H locs hp_9 hw => ?_)
    obtain ⟨q_10, q_11⟩ := hp_9
    refine lv_aload_n hx hb dX10_join_19 rfl (lv_at hl 0 rfl) ?_
    refine lv_iconst (v := 0) hx hb dX10_join_20 (by decide) ?_
    refine lv_iload_n hx hb dX10_join_21 rfl (lv_at hl 1 rfl) ?_
    refine lv_aload_n hx hb dX10_join_22 rfl (lv_at hl 0 rfl) ?_
    refine ti_get (ci := 10) (k := 34) (N := 67) (T := TX10) (v := .ref (A 60 35)) C hw iw_10 rfl ob_60 (by decide) (by decide) fl_X10_69 rfl rfl dX10_join_23 ?_
    refine lv_iconst (v := 0) hx hb dX10_join_26 (by decide) ?_
    refine ti_iald (ci := 10) (k := 34) (n := 23) C hw ob_60 (by decide) (fun _ _ => rfl) (by unfold vp_in; decide) dX10_join_27 ?_
    refine lv_topi (fun x_12 ex_12 => ?_)
    have yx_12 : tY M_9 60 34 0 = x_12 := ((congrArg _ (by decide)).symm.trans ex_12.symm)
    have bx_12 : 0 ≤ x_12.toInt ∧ x_12.toInt ≤ 120 := mI_ry (k := 34) (i := 0) q_10.1 yx_12.symm (by decide)
    have zx_12 : (tY M_9 60 34 0).toInt = x_12.toInt := by rw [yx_12]
    refine ti_callVv (ci := 10) (av := [.int 0, .int z1, .int x_12]) C hw (s_X10_joins_0 l D A cy hJ M_9 q_10.1 q_10.2.2.1.1 z1 x_12 (by first | omega | decide | (have l0 : (0 : Int32).toInt = 0 := (by decide); have l2 : (2 : Int32).toInt = 2 := (by decide); have l3 : (3 : Int32).toInt = 3 := (by decide); omega)) (by first | omega | decide | (have l0 : (0 : Int32).toInt = 0 := (by decide); have l2 : (2 : Int32).toInt = 2 := (by decide); have l3 : (3 : Int32).toInt = 3 := (by decide); omega)) (fun i hi => by rw [q_11.2.2.2 i (by omega), show i = z1.toNatClampNeg by (show i = z1.toInt.toNat; omega)]; exact d3_4)) ⟨ml_X10_359, ym_X10_joins, yv_X10_joins, yi_X10_joins, yc_X10_joins⟩ yd_X10_joins ob_60 (by decide) rfl rfl hl.1 (Nat.le_of_ble_eq_true rfl) ⟨by decide, by decide⟩ ⟨Nat.zero_le _, Nat.zero_le _⟩ dX10_join_28 (fun M_14 H locs hp_14 hw => ?_)
    obtain ⟨iM_14, q_15, q_16, q_17, q_18⟩ := hp_14
    have mfM_14 : mF Tm M_14 := mF_rq (q := 0) q_10 iM_14 q_15 (fun _ => q_16) (by decide)
    refine lv_aload_n hx hb dX10_join_31 rfl (lv_at hl 0 rfl) ?_
    refine ti_get (ci := 10) (k := 38) (N := 67) (T := TX10) (v := .ref (A 60 39)) C hw iw_10 rfl ob_60 (by decide) (by decide) fl_X10_81 rfl rfl dX10_join_32 ?_
    refine lv_iconst (v := 0) hx hb dX10_join_35 (by decide) ?_
    refine ti_iald (ci := 10) (k := 38) (n := 23) C hw ob_60 (by decide) (fun _ _ => rfl) (by unfold vp_in; decide) dX10_join_36 ?_
    refine lv_topi (fun x_19 ex_19 => ?_)
    have yx_19 : tY M_14 60 38 0 = x_19 := ((congrArg _ (by decide)).symm.trans ex_19.symm)
    have bx_19 : 0 ≤ x_19.toInt ∧ x_19.toInt ≤ 8 := mI_ry (k := 38) (i := 0) iM_14 yx_19.symm
    have zx_19 : (tY M_14 60 38 0).toInt = x_19.toInt := by rw [yx_19]
    refine lv_iconst (v := 1) hx hb dX10_join_37 (by decide) ?_
    refine lv_isub hx hb dX10_join_38 ?_
    refine lv_topi (fun x_20 ex_20 => ?_)
    have tx_20 : x_20.toInt = x_19.toInt - 1 := i_sub ex_20 rfl (by decide : (1 : Int32).toInt = 1) (by omega) (by omega)
    exact hQ _ _ _ _ _ _ hw rfl (⟨mfM_14, ((q_15.2.1.1).trans ((q_11.2.1).trans (tI_nE hM_1 (nk (by decide))))), (lw_t q_15.1 (lw_t q_11.1 (fun k a b => tY_uIE hM_1)))⟩) dX10_join_39
  · refine sb_if_ne (tgt := 15) hx hb (by decide : (0 : Int32).toInt = 0) dX10_join_10 (by decide) (fun h => absurd h (by decide)) (fun c_10_6 => ?_)
    refine lv_iconst (v := (-1)) hx hb dX10_join_13 (by decide) ?_
    exact hQ _ _ _ _ _ _ hw rfl (⟨(mF_qw hF iM_1 (qw_I hM_1 (by decide))), (tI_nE hM_1 (nk (by decide))), (fun k a b => tY_uIE hM_1)⟩) dX10_join_14
set_option maxHeartbeats 4000000 in
set_option maxRecDepth 100000 in
theorem s_X10_out (l : Launch) (D : va_G) (A : Nat → Nat → Nat) (cy : Nat → ClassId) (hJ : ti_inj ti_LM A) (M : ti_M) (hI : mI Tm M) (hF : mF Tm M) (z1 : Int32) : ti_Ki l yX10_out cX10_out 2 (some .boolean) 2 ti_LM D A cy M [.ref (A 60 0), .int z1] (fun r M2 => mF Tm M2 ∧ tI M2 60 2 = tI M 60 2 ∧ lw M2 M) := by
  refine ti_eI yp_X10_out hJ ti_LM_nd (Nat.le_of_ble_eq_true rfl) ?_
  intro p e s m args below meth c Q H0 C hQ hw ls hl
  have hx := C.1
  have hb := C.2.1
  have hl : lv_has ls 2 [(0, .ref (A 60 0)), (1, .int z1)] := hl
  refine lv_aload_n hx hb dX10_out_0 rfl (lv_at hl 0 rfl) ?_
  refine lv_iconst (v := 0) hx hb dX10_out_1 (by decide) ?_
  refine ti_putI (ci := 10) (k := 0) (N := 67) (T := TX10) C hw iw_10 tyX10 tyX10_ok nmX10 rfl ob_60 (by decide) (by decide) fl_X10_154 rfl rfl rfl rfl (fn_10 A _) fs_10_0 dX10_out_2 (fun H locs hw => ?_)
  obtain ⟨M_1, hM_1⟩ : ∃ z : ti_M, z = uI M 60 0 0 := ⟨_, rfl⟩
  have hw := hw.to hM_1.symm
  have iM_1 : mI Tm M_1 := mI_uI hI hM_1 (by decide) (by decide) trivial
  refine lv_aload_n hx hb dX10_out_5 rfl (lv_at hl 0 rfl) ?_
  refine lv_iload_n hx hb dX10_out_6 rfl (lv_at hl 1 rfl) ?_
  refine ti_callVi (ci := 10) (av := [.int z1]) C hw (s_X10_isIn l D A cy hJ M_1 iM_1 z1) ⟨ml_X10_423, ym_X10_isIn, yv_X10_isIn, yi_X10_isIn, yc_X10_isIn⟩ yd_X10_isIn ob_60 (by decide) rfl rfl hl.1 (Nat.le_of_ble_eq_true rfl) ⟨by decide, by decide⟩ ⟨Nat.zero_le _, Nat.zero_le _⟩ dX10_out_7 (fun r_2 M_3 H locs hp_3 hw => ?_)
  obtain ⟨hm, hz⟩ := hp_3
  have hw := hw.to hm
  have lk_5 : (tY M_1 60 3 0).toInt = (tY M 60 3 0).toInt := by rw [(cg (tY_uIE hM_1) 0)]
  rcases hz with ⟨rfl, d0_4, d1_4, d2_4, d3_4⟩ | rfl
  · refine sb_if_ne (tgt := 15) hx hb (by decide : (1 : Int32).toInt = 1) dX10_out_10 (by decide) (fun c_10_5 => ?_) (fun h => absurd h (by decide))
    refine lv_aload_n hx hb dX10_out_15 rfl (lv_at hl 0 rfl) ?_
    refine ti_callVv (ci := 10) (av := []) C hw (s_X10_keepNow l D A cy hJ M_1 iM_1 (mF_qw hF iM_1 (qw_I hM_1 (by decide)))) ⟨ml_X10_436, ym_X10_keepNow, yv_X10_keepNow, yi_X10_keepNow, yc_X10_keepNow⟩ yd_X10_keepNow ob_60 (by decide) rfl rfl hl.1 (Nat.le_of_ble_eq_true rfl) ⟨by decide, by decide⟩ ⟨Nat.zero_le _, Nat.zero_le _⟩ dX10_out_16 (fun M_9 H locs hp_9 hw => ?_)
    obtain ⟨q_10, q_11⟩ := hp_9
    refine lv_aload_n hx hb dX10_out_19 rfl (lv_at hl 0 rfl) ?_
    refine lv_iconst (v := 0) hx hb dX10_out_20 (by decide) ?_
    refine lv_aload_n hx hb dX10_out_21 rfl (lv_at hl 0 rfl) ?_
    refine lv_iconst (v := 0) hx hb dX10_out_22 (by decide) ?_
    refine lv_iload_n hx hb dX10_out_23 rfl (lv_at hl 1 rfl) ?_
    refine ti_callVi (ci := 10) (av := [.int 0, .int z1]) C hw (s_X10_placeOf_0 l D A cy hJ M_9 q_10.1 z1) ⟨ml_X10_411, ym_X10_placeOf, yv_X10_placeOf, yi_X10_placeOf, yc_X10_placeOf⟩ yd_X10_placeOf ob_60 (by decide) rfl rfl hl.1 (Nat.le_of_ble_eq_true rfl) ⟨by decide, by decide⟩ ⟨Nat.zero_le _, Nat.zero_le _⟩ dX10_out_24 (fun r_12 M_13 H locs hp_13 hw => ?_)
    obtain ⟨hm, hz⟩ := hp_13
    have hw := hw.to hm
    have lk_15 : (tY M_9 60 3 0).toInt = (tY M 60 3 0).toInt := by rw [((cg (q_11.1 3 (by decide) (by decide)) 0).trans (cg (tY_uIE hM_1) 0))]
    rcases hz with ⟨rfl, z1_14⟩ | ⟨z1_14, z2_14, z3_14, z4_14⟩
    · obtain ⟨p9, k1, k2⟩ := q_10.2.2.1.2 z1.toInt.toNat (by omega) (by omega) (by rw [show 8 * 0 + z1.toInt.toNat = z1.toInt.toNat by omega, q_11.2.2.2 _ (by omega)]; exact d3_4); exact absurd (k2.trans (by omega)) (z1_14 p9 k1)
    · refine lv_iconst (v := 3) hx hb dX10_out_27 (by decide) ?_
      refine lv_aload_n hx hb dX10_out_28 rfl (lv_at hl 0 rfl) ?_
      refine ti_get (ci := 10) (k := 34) (N := 67) (T := TX10) (v := .ref (A 60 35)) C hw iw_10 rfl ob_60 (by decide) (by decide) fl_X10_69 rfl rfl dX10_out_29 ?_
      refine lv_iconst (v := 0) hx hb dX10_out_32 (by decide) ?_
      refine ti_iald (ci := 10) (k := 34) (n := 23) C hw ob_60 (by decide) (fun _ _ => rfl) (by unfold vp_in; decide) dX10_out_33 ?_
      refine lv_topi (fun x_16 ex_16 => ?_)
      have yx_16 : tY M_9 60 34 0 = x_16 := ((congrArg _ (by decide)).symm.trans ex_16.symm)
      have bx_16 : 0 ≤ x_16.toInt ∧ x_16.toInt ≤ 120 := mI_ry (k := 34) (i := 0) q_10.1 yx_16.symm (by decide)
      have zx_16 : (tY M_9 60 34 0).toInt = x_16.toInt := by rw [yx_16]
      have lk_19 : (tY M_9 60 38 0).toInt = (tY M 60 38 0).toInt := by rw [((q_11.2.2.1).trans (cg (tY_uIE hM_1) 0))]
      refine ti_callVv (ci := 10) (av := [.int 0, .int r_12, .int 3, .int x_16]) C hw (s_X10_leaves_0 l D A cy hJ M_9 q_10.1 q_10.2.2.1.1 r_12 3 x_16 (by first | omega | decide | (have l0 : (0 : Int32).toInt = 0 := (by decide); have l2 : (2 : Int32).toInt = 2 := (by decide); have l3 : (3 : Int32).toInt = 3 := (by decide); omega)) (by first | omega | decide | (have l0 : (0 : Int32).toInt = 0 := (by decide); have l2 : (2 : Int32).toInt = 2 := (by decide); have l3 : (3 : Int32).toInt = 3 := (by decide); omega)) (by first | omega | decide | (have l0 : (0 : Int32).toInt = 0 := (by decide); have l2 : (2 : Int32).toInt = 2 := (by decide); have l3 : (3 : Int32).toInt = 3 := (by decide); omega))) ⟨ml_X10_377, ym_X10_leaves, yv_X10_leaves, yi_X10_leaves, yc_X10_leaves⟩ yd_X10_leaves ob_60 (by decide) rfl rfl hl.1 (Nat.le_of_ble_eq_true rfl) ⟨by decide, by decide⟩ ⟨Nat.zero_le _, Nat.zero_le _⟩ dX10_out_34 (fun M_18 H locs hp_18 hw => ?_)
      obtain ⟨iM_18, q_20, q_21, q_22, p0r_17⟩ := hp_18
      have mfM_18 : mF Tm M_18 := mF_rq (q := 0) q_10 iM_18 q_20 (fun _ => q_21) (by decide)
      refine lv_iconst (v := 1) hx hb dX10_out_37 (by decide) ?_
      exact hQ _ _ _ _ _ _ hw rfl (⟨mfM_18, ((q_20.2.1.1).trans ((q_11.2.1).trans (tI_nE hM_1 (nk (by decide))))), (lw_t q_20.1 (lw_t q_11.1 (fun k a b => tY_uIE hM_1)))⟩) dX10_out_38
  · refine sb_if_ne (tgt := 15) hx hb (by decide : (0 : Int32).toInt = 0) dX10_out_10 (by decide) (fun h => absurd h (by decide)) (fun c_10_6 => ?_)
    refine lv_iconst (v := 0) hx hb dX10_out_13 (by decide) ?_
    exact hQ _ _ _ _ _ _ hw rfl (⟨(mF_qw hF iM_1 (qw_I hM_1 (by decide))), (tI_nE hM_1 (nk (by decide))), (fun k a b => tY_uIE hM_1)⟩) dX10_out_14
set_option maxHeartbeats 4000000 in
set_option maxRecDepth 100000 in
theorem s_X10_swap (l : Launch) (D : va_G) (A : Nat → Nat → Nat) (cy : Nat → ClassId) (hJ : ti_inj ti_LM A) (M : ti_M) (hI : mI Tm M) (hF : mF Tm M) (z1 : Int32) (z2 : Int32) (z3 : Int32) : ti_Ki l yX10_swap cX10_swap 6 (some .boolean) 2 ti_LM D A cy M [.ref (A 60 0), .int z1, .int z2, .int z3] (fun r M2 => mF Tm M2 ∧ tI M2 60 2 = tI M 60 2 ∧ lw M2 M) := by
  refine ti_eI yp_X10_swap hJ ti_LM_nd (Nat.le_of_ble_eq_true rfl) ?_
  intro p e s m args below meth c Q H0 C hQ hw ls hl
  have hx := C.1
  have hb := C.2.1
  have hl : lv_has ls 6 [(0, .ref (A 60 0)), (1, .int z1), (2, .int z2), (3, .int z3)] := hl
  refine lv_aload_n hx hb dX10_swap_0 rfl (lv_at hl 0 rfl) ?_
  refine lv_iconst (v := 0) hx hb dX10_swap_1 (by decide) ?_
  refine ti_putI (ci := 10) (k := 0) (N := 67) (T := TX10) C hw iw_10 tyX10 tyX10_ok nmX10 rfl ob_60 (by decide) (by decide) fl_X10_154 rfl rfl rfl rfl (fn_10 A _) fs_10_0 dX10_swap_2 (fun H locs hw => ?_)
  obtain ⟨M_1, hM_1⟩ : ∃ z : ti_M, z = uI M 60 0 0 := ⟨_, rfl⟩
  have hw := hw.to hM_1.symm
  have iM_1 : mI Tm M_1 := mI_uI hI hM_1 (by decide) (by decide) trivial
  refine lv_aload_n hx hb dX10_swap_5 rfl (lv_at hl 0 rfl) ?_
  refine lv_iload_n hx hb dX10_swap_6 rfl (lv_at hl 1 rfl) ?_
  refine ti_callVi (ci := 10) (av := [.int z1]) C hw (s_X10_isIn l D A cy hJ M_1 iM_1 z1) ⟨ml_X10_423, ym_X10_isIn, yv_X10_isIn, yi_X10_isIn, yc_X10_isIn⟩ yd_X10_isIn ob_60 (by decide) rfl rfl hl.1 (Nat.le_of_ble_eq_true rfl) ⟨by decide, by decide⟩ ⟨Nat.zero_le _, Nat.zero_le _⟩ dX10_swap_7 (fun r_2 M_3 H locs hp_3 hw => ?_)
  obtain ⟨hm, hz⟩ := hp_3
  have hw := hw.to hm
  have lk_5 : (tY M_1 60 3 0).toInt = (tY M 60 3 0).toInt := by rw [(cg (tY_uIE hM_1) 0)]
  have hj_46_18 : ∀  (H : Heap) (locs : List Loc) (ls : Array Slot), ti_H ti_LM D A cy H0 M_1 H locs → lv_has ls 6 [(0, .ref (A 60 0)), (1, .int z1), (2, .int z2), (3, .int z3)] → W p l e (ti_rm 2) s m args below meth c H locs 0 0 Q (F0 m 46 ls []) := by
    intro  H locs ls  hw hl
    refine lv_iconst (v := 0) hx hb dX10_swap_46 (by decide) ?_
    exact hQ _ _ _ _ _ _ hw rfl (⟨(mF_qw hF iM_1 (qw_I hM_1 (by decide))), (tI_nE hM_1 (nk (by decide))), (fun k a b => tY_uIE hM_1)⟩) dX10_swap_47
  rcases hz with ⟨rfl, d0_4, d1_4, d2_4, d3_4⟩ | rfl
  · refine sb_if_eq (tgt := 46) hx hb (by decide : (1 : Int32).toInt = 1) dX10_swap_10 (by decide) (fun h => absurd h (by decide)) (fun c_10_5 => ?_)
    refine lv_aload_n hx hb dX10_swap_13 rfl (lv_at hl 0 rfl) ?_
    refine lv_iload_n hx hb dX10_swap_14 rfl (lv_at hl 2 rfl) ?_
    refine ti_callVi (ci := 10) (av := [.int z2]) C hw (s_X10_isIn l D A cy hJ M_1 iM_1 z2) ⟨ml_X10_423, ym_X10_isIn, yv_X10_isIn, yi_X10_isIn, yc_X10_isIn⟩ yd_X10_isIn ob_60 (by decide) rfl rfl hl.1 (Nat.le_of_ble_eq_true rfl) ⟨by decide, by decide⟩ ⟨Nat.zero_le _, Nat.zero_le _⟩ dX10_swap_15 (fun r_8 M_9 H locs hp_9 hw => ?_)
    obtain ⟨hm, hz⟩ := hp_9
    have hw := hw.to hm
    have lk_11 : (tY M_1 60 3 0).toInt = (tY M 60 3 0).toInt := by rw [(cg (tY_uIE hM_1) 0)]
    rcases hz with ⟨rfl, d0_10, d1_10, d2_10, d3_10⟩ | rfl
    · refine sb_if_eq (tgt := 46) hx hb (by decide : (1 : Int32).toInt = 1) dX10_swap_18 (by decide) (fun h => absurd h (by decide)) (fun c_18_11 => ?_)
      refine lv_iload_n hx hb dX10_swap_21 rfl (lv_at hl 1 rfl) ?_
      refine lv_iload_n hx hb dX10_swap_22 rfl (lv_at hl 2 rfl) ?_
      refine sb_icmp_eq (tgt := 46) hx hb rfl rfl dX10_swap_23 (by decide) (fun c_23_13 => ?_) (fun c_23_13 => ?_)
      · exact hj_46_18  _ _ _  hw (lv_sub hl [0, 1, 2, 3] rfl)
      · refine lv_iload_n hx hb dX10_swap_26 rfl (lv_at hl 3 rfl) ?_
        refine sb_if_lt (tgt := 46) hx hb rfl dX10_swap_27 (by decide) (fun c_27_14 => ?_) (fun c_27_14 => ?_)
        · exact hj_46_18  _ _ _  hw (lv_sub hl [0, 1, 2, 3] rfl)
        · refine lv_iload_n hx hb dX10_swap_30 rfl (lv_at hl 3 rfl) ?_
          refine lv_bipush (v := 99) hx hb dX10_swap_31 (by decide) ?_
          refine sb_icmp_gt (tgt := 46) hx hb rfl (by decide : (99 : Int32).toInt = 99) dX10_swap_33 (by decide) (fun c_33_15 => ?_) (fun c_33_15 => ?_)
          · exact hj_46_18  _ _ _  hw (lv_sub hl [0, 1, 2, 3] rfl)
          · refine lv_aload_n hx hb dX10_swap_36 rfl (lv_at hl 0 rfl) ?_
            refine ti_get (ci := 10) (k := 43) (N := 67) (T := TX10) (v := .ref (A 60 44)) C hw iw_10 rfl ob_60 (by decide) (by decide) fl_X10_96 rfl rfl dX10_swap_37 ?_
            refine lv_iload_n hx hb dX10_swap_40 rfl (lv_at hl 1 rfl) ?_
            refine ti_iald (ci := 10) (k := 43) (n := 184) C hw ob_60 (by decide) (fun _ _ => rfl) (vp_in_iff.mpr (by omega)) dX10_swap_41 ?_
            refine lv_topi (fun x_17 ex_17 => ?_)
            have yx_17 : tY M_1 60 43 z1.toNatClampNeg = x_17 := (ex_17.symm)
            have wx_17 : tY M 60 43 z1.toNatClampNeg = x_17 := ((cg (tY_uIE hM_1) z1.toNatClampNeg)).symm.trans yx_17
            refine lv_iload_n hx hb dX10_swap_42 rfl (lv_at hl 3 rfl) ?_
            refine sb_icmp_ge (tgt := 48) hx hb rfl rfl dX10_swap_43 (by decide) (fun c_43_17 => ?_) (fun c_43_17 => ?_)
            · refine lv_aload_n hx hb dX10_swap_48 rfl (lv_at hl 0 rfl) ?_
              refine ti_callVv (ci := 10) (av := []) C hw (s_X10_keepNow l D A cy hJ M_1 iM_1 (mF_qw hF iM_1 (qw_I hM_1 (by decide)))) ⟨ml_X10_436, ym_X10_keepNow, yv_X10_keepNow, yi_X10_keepNow, yc_X10_keepNow⟩ yd_X10_keepNow ob_60 (by decide) rfl rfl hl.1 (Nat.le_of_ble_eq_true rfl) ⟨by decide, by decide⟩ ⟨Nat.zero_le _, Nat.zero_le _⟩ dX10_swap_49 (fun M_20 H locs hp_20 hw => ?_)
              obtain ⟨q_21, q_22⟩ := hp_20
              refine lv_aload_n hx hb dX10_swap_52 rfl (lv_at hl 0 rfl) ?_
              refine lv_iconst (v := 0) hx hb dX10_swap_53 (by decide) ?_
              refine lv_iload_n hx hb dX10_swap_54 rfl (lv_at hl 1 rfl) ?_
              refine ti_callVi (ci := 10) (av := [.int 0, .int z1]) C hw (s_X10_placeOf_0 l D A cy hJ M_20 q_21.1 z1) ⟨ml_X10_411, ym_X10_placeOf, yv_X10_placeOf, yi_X10_placeOf, yc_X10_placeOf⟩ yd_X10_placeOf ob_60 (by decide) rfl rfl hl.1 (Nat.le_of_ble_eq_true rfl) ⟨by decide, by decide⟩ ⟨Nat.zero_le _, Nat.zero_le _⟩ dX10_swap_55 (fun r_23 M_24 H locs hp_24 hw => ?_)
              obtain ⟨hm, hz⟩ := hp_24
              have hw := hw.to hm
              have lk_26 : (tY M_20 60 3 0).toInt = (tY M 60 3 0).toInt := by rw [((cg (q_22.1 3 (by decide) (by decide)) 0).trans (cg (tY_uIE hM_1) 0))]
              rcases hz with ⟨rfl, z1_25⟩ | ⟨z1_25, z2_25, z3_25, z4_25⟩
              · obtain ⟨p9, k1, k2⟩ := q_21.2.2.1.2 z1.toInt.toNat (by omega) (by omega) (by rw [show 8 * 0 + z1.toInt.toNat = z1.toInt.toNat by omega, q_22.2.2.2 _ (by omega)]; exact d3_4); exact absurd (k2.trans (by omega)) (z1_25 p9 k1)
              · refine lv_istore (lv' := [(4, .int r_23), (0, .ref (A 60 0)), (1, .int z1), (2, .int z2), (3, .int z3)]) hx hb dX10_swap_58 hl (by decide) rfl (fun ls hl => ?_)
                refine lv_aload_n hx hb dX10_swap_60 rfl (lv_at hl 1 rfl) ?_
                refine lv_iconst (v := 0) hx hb dX10_swap_61 (by decide) ?_
                refine lv_iload_n hx hb dX10_swap_62 rfl (lv_at hl 3 rfl) ?_
                refine ti_callVi (ci := 10) (av := [.int 0, .int z2]) C hw (s_X10_placeOf_0 l D A cy hJ M_20 q_21.1 z2) ⟨ml_X10_411, ym_X10_placeOf, yv_X10_placeOf, yi_X10_placeOf, yc_X10_placeOf⟩ yd_X10_placeOf ob_60 (by decide) rfl rfl hl.1 (Nat.le_of_ble_eq_true rfl) ⟨by decide, by decide⟩ ⟨Nat.zero_le _, Nat.zero_le _⟩ dX10_swap_63 (fun r_27 M_28 H locs hp_28 hw => ?_)
                obtain ⟨hm, hz⟩ := hp_28
                have hw := hw.to hm
                have lk_30 : (tY M_20 60 3 0).toInt = (tY M 60 3 0).toInt := by rw [((cg (q_22.1 3 (by decide) (by decide)) 0).trans (cg (tY_uIE hM_1) 0))]
                rcases hz with ⟨rfl, z1_29⟩ | ⟨z1_29, z2_29, z3_29, z4_29⟩
                · obtain ⟨p9, k1, k2⟩ := q_21.2.2.1.2 z2.toInt.toNat (by omega) (by omega) (by rw [show 8 * 0 + z2.toInt.toNat = z2.toInt.toNat by omega, q_22.2.2.2 _ (by omega)]; exact d3_10); exact absurd (k2.trans (by omega)) (z1_29 p9 k1)
                · refine lv_istore (lv' := [(5, .int r_27), (4, .int r_23), (0, .ref (A 60 0)), (1, .int z1), (2, .int z2), (3, .int z3)]) hx hb dX10_swap_66 hl (by decide) rfl (fun ls hl => ?_)
                  refine lv_aload_n hx hb dX10_swap_68 rfl (lv_at hl 2 rfl) ?_
                  refine ti_get (ci := 10) (k := 39) (N := 67) (T := TX10) (v := .ref (A 60 40)) C hw iw_10 rfl ob_60 (by decide) (by decide) fl_X10_84 rfl rfl dX10_swap_69 ?_
                  refine lv_iload hx hb dX10_swap_72 (lv_at hl 1 rfl) ?_
                  refine lv_iload_n hx hb dX10_swap_74 rfl (lv_at hl 4 rfl) ?_
                  refine ti_iast (ci := 10) (k := 39) (n := 184) C hw ob_60 (by decide) (fun _ _ => rfl) (vp_in_iff.mpr (by omega)) dX10_swap_75 (fun H locs hw => ?_)
                  obtain ⟨M_31, hM_31⟩ : ∃ z : ti_M, z = uY M_20 60 39 (upd (tY M_20 60 39) (r_23 : Int32).toNatClampNeg z2) := ⟨_, rfl⟩
                  have hw := hw.to hM_31.symm
                  have iM_31 : mI Tm M_31 := mI_up (i := r_23.toNatClampNeg) q_21.1 hM_31 (ib_mk (lo := 0) (hi := 7) (by omega) (by omega))
                  refine lv_aload_n hx hb dX10_swap_76 rfl (lv_at hl 2 rfl) ?_
                  refine ti_get (ci := 10) (k := 39) (N := 67) (T := TX10) (v := .ref (A 60 40)) C hw iw_10 rfl ob_60 (by decide) (by decide) fl_X10_84 rfl rfl dX10_swap_77 ?_
                  refine lv_iload hx hb dX10_swap_80 (lv_at hl 0 rfl) ?_
                  refine lv_iload_n hx hb dX10_swap_82 rfl (lv_at hl 3 rfl) ?_
                  refine ti_iast (ci := 10) (k := 39) (n := 184) C hw ob_60 (by decide) (fun _ _ => rfl) (vp_in_iff.mpr (by omega)) dX10_swap_83 (fun H locs hw => ?_)
                  obtain ⟨M_32, hM_32⟩ : ∃ z : ti_M, z = uY M_31 60 39 (upd (tY M_31 60 39) (r_27 : Int32).toNatClampNeg z1) := ⟨_, rfl⟩
                  have hw := hw.to hM_32.symm
                  have iM_32 : mI Tm M_32 := mI_up (i := r_27.toNatClampNeg) iM_31 hM_32 (ib_mk (lo := 0) (hi := 7) (by omega) (by omega))
                  have swM_32 := q_swap (x := z1) (y := z2) q_21 iM_32 hM_31 hM_32 (by show r_23.toInt.toNat < 8; omega) (by show r_27.toInt.toNat < 8; omega) (by rw [show (r_23).toNatClampNeg = 0 + r_23.toInt.toNat by (show r_23.toInt.toNat = _; omega)]; exact z4_25) (by rw [show (r_27).toNatClampNeg = 0 + r_27.toInt.toNat by (show r_27.toInt.toNat = _; omega)]; exact z4_29) (by omega) (by show ((r_23.toInt.toNat : Nat) : Int) < _; omega) (by show ((r_27.toInt.toNat : Nat) : Int) < _; omega)
                  refine lv_aload_n hx hb dX10_swap_84 rfl (lv_at hl 2 rfl) ?_
                  refine ti_get (ci := 10) (k := 43) (N := 67) (T := TX10) (v := .ref (A 60 44)) C hw iw_10 rfl ob_60 (by decide) (by decide) fl_X10_96 rfl rfl dX10_swap_85 ?_
                  refine lv_iload_n hx hb dX10_swap_88 rfl (lv_at hl 3 rfl) ?_
                  refine lv_dup2_11 hx hb dX10_swap_89 rfl rfl ?_
                  refine ti_iald (ci := 10) (k := 43) (n := 184) C hw ob_60 (by decide) (fun _ _ => rfl) (vp_in_iff.mpr (by omega)) dX10_swap_90 ?_
                  refine lv_topi (fun x_33 ex_33 => ?_)
                  have yx_33 : tY M_32 60 43 z1.toNatClampNeg = x_33 := (ex_33.symm)
                  have wx_33 : tY M_20 60 43 z1.toNatClampNeg = x_33 := (((cg (tY_nE hM_32 (nk (by decide))) z1.toNatClampNeg).trans (cg (tY_nE hM_31 (nk (by decide))) z1.toNatClampNeg))).symm.trans yx_33
                  refine lv_iload_n hx hb dX10_swap_91 rfl (lv_at hl 5 rfl) ?_
                  refine lv_isub hx hb dX10_swap_92 ?_
                  refine lv_topi (fun x_34 ex_34 => ?_)
                  refine ti_iast (ci := 10) (k := 43) (n := 184) C hw ob_60 (by decide) (fun _ _ => rfl) (vp_in_iff.mpr (by omega)) dX10_swap_93 (fun H locs hw => ?_)
                  obtain ⟨M_35, hM_35⟩ : ∃ z : ti_M, z = uY M_32 60 43 (upd (tY M_32 60 43) (z1 : Int32).toNatClampNeg x_34) := ⟨_, rfl⟩
                  have hw := hw.to hM_35.symm
                  have iM_35 : mI Tm M_35 := mI_up (i := z1.toNatClampNeg) iM_32 hM_35 trivial
                  refine lv_aload_n hx hb dX10_swap_94 rfl (lv_at hl 2 rfl) ?_
                  refine ti_get (ci := 10) (k := 43) (N := 67) (T := TX10) (v := .ref (A 60 44)) C hw iw_10 rfl ob_60 (by decide) (by decide) fl_X10_96 rfl rfl dX10_swap_95 ?_
                  refine lv_iload_n hx hb dX10_swap_98 rfl (lv_at hl 4 rfl) ?_
                  refine lv_dup2_11 hx hb dX10_swap_99 rfl rfl ?_
                  refine ti_iald (ci := 10) (k := 43) (n := 184) C hw ob_60 (by decide) (fun _ _ => rfl) (vp_in_iff.mpr (by omega)) dX10_swap_100 ?_
                  refine lv_topi (fun x_36 ex_36 => ?_)
                  have yx_36 : tY M_35 60 43 z2.toNatClampNeg = x_36 := (ex_36.symm)
                  refine lv_iload_n hx hb dX10_swap_101 rfl (lv_at hl 5 rfl) ?_
                  refine lv_iadd hx hb dX10_swap_102 ?_
                  refine lv_topi (fun x_37 ex_37 => ?_)
                  refine ti_iast (ci := 10) (k := 43) (n := 184) C hw ob_60 (by decide) (fun _ _ => rfl) (vp_in_iff.mpr (by omega)) dX10_swap_103 (fun H locs hw => ?_)
                  obtain ⟨M_38, hM_38⟩ : ∃ z : ti_M, z = uY M_35 60 43 (upd (tY M_35 60 43) (z2 : Int32).toNatClampNeg x_37) := ⟨_, rfl⟩
                  have hw := hw.to hM_38.symm
                  have iM_38 : mI Tm M_38 := mI_up (i := z2.toNatClampNeg) iM_35 hM_38 trivial
                  refine lv_iconst (v := 1) hx hb dX10_swap_104 (by decide) ?_
                  exact hQ _ _ _ _ _ _ hw rfl (⟨(mF_qw swM_32.1 iM_38 (qw.trans (qw_Y hM_38 (by decide)) (qw_Y hM_35 (by decide)))), ((tI_uYE hM_38).trans ((tI_uYE hM_35).trans ((tI_uYE hM_32).trans ((tI_uYE hM_31).trans ((q_22.2.1).trans (tI_nE hM_1 (nk (by decide)))))))), (lw_t (fun k a b => tY_nE hM_38 (nk (by omega))) (lw_t (fun k a b => tY_nE hM_35 (nk (by omega))) (lw_t (fun k a b => tY_nE hM_32 (nk (by omega))) (lw_t (fun k a b => tY_nE hM_31 (nk (by omega))) (lw_t q_22.1 (fun k a b => tY_uIE hM_1))))))⟩) dX10_swap_105
            · exact hj_46_18  _ _ _  hw (lv_sub hl [0, 1, 2, 3] rfl)
    · refine sb_if_eq (tgt := 46) hx hb (by decide : (0 : Int32).toInt = 0) dX10_swap_18 (by decide) (fun c_18_12 => ?_) (fun h => absurd h (by decide))
      exact hj_46_18  _ _ _  hw (lv_sub hl [0, 1, 2, 3] rfl)
  · refine sb_if_eq (tgt := 46) hx hb (by decide : (0 : Int32).toInt = 0) dX10_swap_10 (by decide) (fun c_10_6 => ?_) (fun h => absurd h (by decide))
    exact hj_46_18  _ _ _  hw (lv_sub hl [0, 1, 2, 3] rfl)
set_option maxHeartbeats 4000000 in
set_option maxRecDepth 100000 in
theorem s_X10_kneel (l : Launch) (D : va_G) (A : Nat → Nat → Nat) (cy : Nat → ClassId) (hJ : ti_inj ti_LM A) (M : ti_M) (hI : mI Tm M) (hF : mF Tm M) (z1 : Int32) (z2 : Int32) : ti_Ki l yX10_kneel cX10_kneel 3 (some .boolean) 2 ti_LM D A cy M [.ref (A 60 0), .int z1, .int z2] (fun r M2 => mF Tm M2 ∧ tI M2 60 2 = tI M 60 2 ∧ lw M2 M) := by
  refine ti_eI yp_X10_kneel hJ ti_LM_nd (Nat.le_of_ble_eq_true rfl) ?_
  intro p e s m args below meth c Q H0 C hQ hw ls hl
  have hx := C.1
  have hb := C.2.1
  have hl : lv_has ls 3 [(0, .ref (A 60 0)), (1, .int z1), (2, .int z2)] := hl
  refine lv_aload_n hx hb dX10_kneel_0 rfl (lv_at hl 0 rfl) ?_
  refine lv_iconst (v := 0) hx hb dX10_kneel_1 (by decide) ?_
  refine ti_putI (ci := 10) (k := 0) (N := 67) (T := TX10) C hw iw_10 tyX10 tyX10_ok nmX10 rfl ob_60 (by decide) (by decide) fl_X10_154 rfl rfl rfl rfl (fn_10 A _) fs_10_0 dX10_kneel_2 (fun H locs hw => ?_)
  obtain ⟨M_1, hM_1⟩ : ∃ z : ti_M, z = uI M 60 0 0 := ⟨_, rfl⟩
  have hw := hw.to hM_1.symm
  have iM_1 : mI Tm M_1 := mI_uI hI hM_1 (by decide) (by decide) trivial
  refine lv_aload_n hx hb dX10_kneel_5 rfl (lv_at hl 0 rfl) ?_
  refine lv_iload_n hx hb dX10_kneel_6 rfl (lv_at hl 1 rfl) ?_
  refine ti_callVi (ci := 10) (av := [.int z1]) C hw (s_X10_isIn l D A cy hJ M_1 iM_1 z1) ⟨ml_X10_423, ym_X10_isIn, yv_X10_isIn, yi_X10_isIn, yc_X10_isIn⟩ yd_X10_isIn ob_60 (by decide) rfl rfl hl.1 (Nat.le_of_ble_eq_true rfl) ⟨by decide, by decide⟩ ⟨Nat.zero_le _, Nat.zero_le _⟩ dX10_kneel_7 (fun r_2 M_3 H locs hp_3 hw => ?_)
  obtain ⟨hm, hz⟩ := hp_3
  have hw := hw.to hm
  have lk_5 : (tY M_1 60 3 0).toInt = (tY M 60 3 0).toInt := by rw [(cg (tY_uIE hM_1) 0)]
  have hj_34_11 : ∀  (H : Heap) (locs : List Loc) (ls : Array Slot), ti_H ti_LM D A cy H0 M_1 H locs → lv_has ls 3 [(0, .ref (A 60 0)), (1, .int z1), (2, .int z2)] → W p l e (ti_rm 2) s m args below meth c H locs 0 0 Q (F0 m 34 ls []) := by
    intro  H locs ls  hw hl
    refine lv_iconst (v := 0) hx hb dX10_kneel_34 (by decide) ?_
    exact hQ _ _ _ _ _ _ hw rfl (⟨(mF_qw hF iM_1 (qw_I hM_1 (by decide))), (tI_nE hM_1 (nk (by decide))), (fun k a b => tY_uIE hM_1)⟩) dX10_kneel_35
  rcases hz with ⟨rfl, d0_4, d1_4, d2_4, d3_4⟩ | rfl
  · refine sb_if_eq (tgt := 34) hx hb (by decide : (1 : Int32).toInt = 1) dX10_kneel_10 (by decide) (fun h => absurd h (by decide)) (fun c_10_5 => ?_)
    refine lv_iload_n hx hb dX10_kneel_13 rfl (lv_at hl 2 rfl) ?_
    refine lv_iconst (v := 1) hx hb dX10_kneel_14 (by decide) ?_
    refine sb_icmp_lt (tgt := 34) hx hb rfl (by decide : (1 : Int32).toInt = 1) dX10_kneel_15 (by decide) (fun c_15_7 => ?_) (fun c_15_7 => ?_)
    · exact hj_34_11  _ _ _  hw (lv_sub hl [0, 1, 2] rfl)
    · refine lv_iload_n hx hb dX10_kneel_18 rfl (lv_at hl 2 rfl) ?_
      refine lv_bipush (v := 20) hx hb dX10_kneel_19 (by decide) ?_
      refine sb_icmp_gt (tgt := 34) hx hb rfl (by decide : (20 : Int32).toInt = 20) dX10_kneel_21 (by decide) (fun c_21_8 => ?_) (fun c_21_8 => ?_)
      · exact hj_34_11  _ _ _  hw (lv_sub hl [0, 1, 2] rfl)
      · refine lv_aload_n hx hb dX10_kneel_24 rfl (lv_at hl 0 rfl) ?_
        refine ti_get (ci := 10) (k := 47) (N := 67) (T := TX10) (v := .ref (A 60 48)) C hw iw_10 rfl ob_60 (by decide) (by decide) fl_X10_108 rfl rfl dX10_kneel_25 ?_
        refine lv_iload_n hx hb dX10_kneel_28 rfl (lv_at hl 1 rfl) ?_
        refine ti_iald (ci := 10) (k := 47) (n := 184) C hw ob_60 (by decide) (fun _ _ => rfl) (vp_in_iff.mpr (by omega)) dX10_kneel_29 ?_
        refine lv_topi (fun x_10 ex_10 => ?_)
        have yx_10 : tY M_1 60 47 z1.toNatClampNeg = x_10 := (ex_10.symm)
        have wx_10 : tY M 60 47 z1.toNatClampNeg = x_10 := ((cg (tY_uIE hM_1) z1.toNatClampNeg)).symm.trans yx_10
        refine lv_iload_n hx hb dX10_kneel_30 rfl (lv_at hl 2 rfl) ?_
        refine sb_icmp_ne (tgt := 36) hx hb rfl rfl dX10_kneel_31 (by decide) (fun c_31_10 => ?_) (fun c_31_10 => ?_)
        · refine lv_aload_n hx hb dX10_kneel_36 rfl (lv_at hl 0 rfl) ?_
          refine ti_callVv (ci := 10) (av := []) C hw (s_X10_keepNow l D A cy hJ M_1 iM_1 (mF_qw hF iM_1 (qw_I hM_1 (by decide)))) ⟨ml_X10_436, ym_X10_keepNow, yv_X10_keepNow, yi_X10_keepNow, yc_X10_keepNow⟩ yd_X10_keepNow ob_60 (by decide) rfl rfl hl.1 (Nat.le_of_ble_eq_true rfl) ⟨by decide, by decide⟩ ⟨Nat.zero_le _, Nat.zero_le _⟩ dX10_kneel_37 (fun M_13 H locs hp_13 hw => ?_)
          obtain ⟨q_14, q_15⟩ := hp_13
          refine lv_aload_n hx hb dX10_kneel_40 rfl (lv_at hl 0 rfl) ?_
          refine ti_get (ci := 10) (k := 47) (N := 67) (T := TX10) (v := .ref (A 60 48)) C hw iw_10 rfl ob_60 (by decide) (by decide) fl_X10_108 rfl rfl dX10_kneel_41 ?_
          refine lv_iload_n hx hb dX10_kneel_44 rfl (lv_at hl 1 rfl) ?_
          refine lv_iload_n hx hb dX10_kneel_45 rfl (lv_at hl 2 rfl) ?_
          refine ti_iast (ci := 10) (k := 47) (n := 184) C hw ob_60 (by decide) (fun _ _ => rfl) (vp_in_iff.mpr (by omega)) dX10_kneel_46 (fun H locs hw => ?_)
          obtain ⟨M_16, hM_16⟩ : ∃ z : ti_M, z = uY M_13 60 47 (upd (tY M_13 60 47) (z1 : Int32).toNatClampNeg z2) := ⟨_, rfl⟩
          have hw := hw.to hM_16.symm
          have iM_16 : mI Tm M_16 := mI_up (i := z1.toNatClampNeg) q_14.1 hM_16 trivial
          refine lv_iconst (v := 1) hx hb dX10_kneel_47 (by decide) ?_
          exact hQ _ _ _ _ _ _ hw rfl (⟨(mF_qw q_14 iM_16 (qw_Y hM_16 (by decide))), ((tI_uYE hM_16).trans ((q_15.2.1).trans (tI_nE hM_1 (nk (by decide))))), (lw_t (fun k a b => tY_nE hM_16 (nk (by omega))) (lw_t q_15.1 (fun k a b => tY_uIE hM_1)))⟩) dX10_kneel_48
        · exact hj_34_11  _ _ _  hw (lv_sub hl [0, 1, 2] rfl)
  · refine sb_if_eq (tgt := 34) hx hb (by decide : (0 : Int32).toInt = 0) dX10_kneel_10 (by decide) (fun c_10_6 => ?_) (fun h => absurd h (by decide))
    exact hj_34_11  _ _ _  hw (lv_sub hl [0, 1, 2] rfl)
set_option maxHeartbeats 4000000 in
set_option maxRecDepth 100000 in
theorem s_X10_cough (l : Launch) (D : va_G) (A : Nat → Nat → Nat) (cy : Nat → ClassId) (hJ : ti_inj ti_LM A) (M : ti_M) (hI : mI Tm M) (hF : mF Tm M) (z1 : Int32) : ti_Ki l yX10_cough cX10_cough 2 (some .boolean) 2 ti_LM D A cy M [.ref (A 60 0), .int z1] (fun r M2 => mF Tm M2 ∧ tI M2 60 2 = tI M 60 2 ∧ lw M2 M) := by
  refine ti_eI yp_X10_cough hJ ti_LM_nd (Nat.le_of_ble_eq_true rfl) ?_
  intro p e s m args below meth c Q H0 C hQ hw ls hl
  have hx := C.1
  have hb := C.2.1
  have hl : lv_has ls 2 [(0, .ref (A 60 0)), (1, .int z1)] := hl
  refine lv_aload_n hx hb dX10_cough_0 rfl (lv_at hl 0 rfl) ?_
  refine lv_iconst (v := 0) hx hb dX10_cough_1 (by decide) ?_
  refine ti_putI (ci := 10) (k := 0) (N := 67) (T := TX10) C hw iw_10 tyX10 tyX10_ok nmX10 rfl ob_60 (by decide) (by decide) fl_X10_154 rfl rfl rfl rfl (fn_10 A _) fs_10_0 dX10_cough_2 (fun H locs hw => ?_)
  obtain ⟨M_1, hM_1⟩ : ∃ z : ti_M, z = uI M 60 0 0 := ⟨_, rfl⟩
  have hw := hw.to hM_1.symm
  have iM_1 : mI Tm M_1 := mI_uI hI hM_1 (by decide) (by decide) trivial
  refine lv_aload_n hx hb dX10_cough_5 rfl (lv_at hl 0 rfl) ?_
  refine lv_iload_n hx hb dX10_cough_6 rfl (lv_at hl 1 rfl) ?_
  refine ti_callVi (ci := 10) (av := [.int z1]) C hw (s_X10_isIn l D A cy hJ M_1 iM_1 z1) ⟨ml_X10_423, ym_X10_isIn, yv_X10_isIn, yi_X10_isIn, yc_X10_isIn⟩ yd_X10_isIn ob_60 (by decide) rfl rfl hl.1 (Nat.le_of_ble_eq_true rfl) ⟨by decide, by decide⟩ ⟨Nat.zero_le _, Nat.zero_le _⟩ dX10_cough_7 (fun r_2 M_3 H locs hp_3 hw => ?_)
  obtain ⟨hm, hz⟩ := hp_3
  have hw := hw.to hm
  have lk_5 : (tY M_1 60 3 0).toInt = (tY M 60 3 0).toInt := by rw [(cg (tY_uIE hM_1) 0)]
  have hj_27_11 : ∀  (H : Heap) (locs : List Loc) (ls : Array Slot), ti_H ti_LM D A cy H0 M_1 H locs → lv_has ls 2 [(0, .ref (A 60 0)), (1, .int z1)] → W p l e (ti_rm 2) s m args below meth c H locs 0 0 Q (F0 m 27 ls []) := by
    intro  H locs ls  hw hl
    refine lv_iconst (v := 0) hx hb dX10_cough_27 (by decide) ?_
    exact hQ _ _ _ _ _ _ hw rfl (⟨(mF_qw hF iM_1 (qw_I hM_1 (by decide))), (tI_nE hM_1 (nk (by decide))), (fun k a b => tY_uIE hM_1)⟩) dX10_cough_28
  rcases hz with ⟨rfl, d0_4, d1_4, d2_4, d3_4⟩ | rfl
  · refine sb_if_eq (tgt := 27) hx hb (by decide : (1 : Int32).toInt = 1) dX10_cough_10 (by decide) (fun h => absurd h (by decide)) (fun c_10_5 => ?_)
    refine lv_aload_n hx hb dX10_cough_13 rfl (lv_at hl 0 rfl) ?_
    refine ti_get (ci := 10) (k := 37) (N := 67) (T := TX10) (v := .ref (A 60 38)) C hw iw_10 rfl ob_60 (by decide) (by decide) fl_X10_78 rfl rfl dX10_cough_14 ?_
    refine lv_iconst (v := 0) hx hb dX10_cough_17 (by decide) ?_
    refine ti_iald (ci := 10) (k := 37) (n := 23) C hw ob_60 (by decide) (fun _ _ => rfl) (by unfold vp_in; decide) dX10_cough_18 ?_
    refine lv_topi (fun x_8 ex_8 => ?_)
    have yx_8 : tY M_1 60 37 0 = x_8 := ((congrArg _ (by decide)).symm.trans ex_8.symm)
    have wx_8 : tY M 60 37 0 = x_8 := ((cg (tY_uIE hM_1) 0)).symm.trans yx_8
    refine lv_iload_n hx hb dX10_cough_19 rfl (lv_at hl 1 rfl) ?_
    refine lv_ishr hx hb dX10_cough_20 ?_
    refine lv_topi (fun x_9 ex_9 => ?_)
    refine lv_iconst (v := 1) hx hb dX10_cough_21 (by decide) ?_
    refine lv_iand hx hb dX10_cough_22 ?_
    refine lv_topi (fun x_10 ex_10 => ?_)
    have bx_10 := i_and 1 ex_10 (by decide) (by decide)
    refine lv_iconst (v := 1) hx hb dX10_cough_23 (by decide) ?_
    refine sb_icmp_ne (tgt := 29) hx hb rfl (by decide : (1 : Int32).toInt = 1) dX10_cough_24 (by decide) (fun c_24_10 => ?_) (fun c_24_10 => ?_)
    · refine lv_aload_n hx hb dX10_cough_29 rfl (lv_at hl 0 rfl) ?_
      refine ti_callVv (ci := 10) (av := []) C hw (s_X10_keepNow l D A cy hJ M_1 iM_1 (mF_qw hF iM_1 (qw_I hM_1 (by decide)))) ⟨ml_X10_436, ym_X10_keepNow, yv_X10_keepNow, yi_X10_keepNow, yc_X10_keepNow⟩ yd_X10_keepNow ob_60 (by decide) rfl rfl hl.1 (Nat.le_of_ble_eq_true rfl) ⟨by decide, by decide⟩ ⟨Nat.zero_le _, Nat.zero_le _⟩ dX10_cough_30 (fun M_13 H locs hp_13 hw => ?_)
      obtain ⟨q_14, q_15⟩ := hp_13
      refine lv_aload_n hx hb dX10_cough_33 rfl (lv_at hl 0 rfl) ?_
      refine ti_get (ci := 10) (k := 37) (N := 67) (T := TX10) (v := .ref (A 60 38)) C hw iw_10 rfl ob_60 (by decide) (by decide) fl_X10_78 rfl rfl dX10_cough_34 ?_
      refine lv_iconst (v := 0) hx hb dX10_cough_37 (by decide) ?_
      refine lv_dup2_11 hx hb dX10_cough_38 rfl rfl ?_
      refine ti_iald (ci := 10) (k := 37) (n := 23) C hw ob_60 (by decide) (fun _ _ => rfl) (by unfold vp_in; decide) dX10_cough_39 ?_
      refine lv_topi (fun x_16 ex_16 => ?_)
      have yx_16 : tY M_13 60 37 0 = x_16 := ((congrArg _ (by decide)).symm.trans ex_16.symm)
      refine lv_iconst (v := 1) hx hb dX10_cough_40 (by decide) ?_
      refine lv_iload_n hx hb dX10_cough_41 rfl (lv_at hl 1 rfl) ?_
      refine lv_ishl hx hb dX10_cough_42 ?_
      refine lv_topi (fun x_17 ex_17 => ?_)
      refine lv_ior hx hb dX10_cough_43 ?_
      refine lv_topi (fun x_18 ex_18 => ?_)
      refine ti_iast (ci := 10) (k := 37) (n := 23) C hw ob_60 (by decide) (fun _ _ => rfl) (by unfold vp_in; decide) dX10_cough_44 (fun H locs hw => ?_)
      obtain ⟨M_19, hM_19⟩ : ∃ z : ti_M, z = uY M_13 60 37 (upd (tY M_13 60 37) (0 : Int32).toNatClampNeg x_18) := ⟨_, rfl⟩
      have hw := hw.to hM_19.symm
      have iM_19 : mI Tm M_19 := mI_up (i := 0) q_14.1 hM_19 trivial
      refine lv_iconst (v := 1) hx hb dX10_cough_45 (by decide) ?_
      exact hQ _ _ _ _ _ _ hw rfl (⟨(mF_qw q_14 iM_19 (qw_Y hM_19 (by decide))), ((tI_uYE hM_19).trans ((q_15.2.1).trans (tI_nE hM_1 (nk (by decide))))), (lw_t (fun k a b => tY_nE hM_19 (nk (by omega))) (lw_t q_15.1 (fun k a b => tY_uIE hM_1)))⟩) dX10_cough_46
    · exact hj_27_11  _ _ _  hw (lv_sub hl [0, 1] rfl)
  · refine sb_if_eq (tgt := 27) hx hb (by decide : (0 : Int32).toInt = 0) dX10_cough_10 (by decide) (fun c_10_6 => ?_) (fun h => absurd h (by decide))
    exact hj_27_11  _ _ _  hw (lv_sub hl [0, 1] rfl)
set_option maxHeartbeats 4000000 in
set_option maxRecDepth 100000 in
theorem s_X10_move (l : Launch) (D : va_G) (A : Nat → Nat → Nat) (cy : Nat → ClassId) (hJ : ti_inj ti_LM A) (M : ti_M) (hI : mI Tm M) (hF : mF Tm M) (z1 : Int32) (z2 : Int32) : ti_Ki l yX10_move cX10_move 3 (some .boolean) 2 ti_LM D A cy M [.ref (A 60 0), .int z1, .int z2] (fun r M2 => mF Tm M2 ∧ tI M2 60 2 = tI M 60 2 ∧ lw M2 M) := by
  refine ti_eI yp_X10_move hJ ti_LM_nd (Nat.le_of_ble_eq_true rfl) ?_
  intro p e s m args below meth c Q H0 C hQ hw ls hl
  have hx := C.1
  have hb := C.2.1
  have hl : lv_has ls 3 [(0, .ref (A 60 0)), (1, .int z1), (2, .int z2)] := hl
  refine lv_aload_n hx hb dX10_move_0 rfl (lv_at hl 0 rfl) ?_
  refine lv_iconst (v := 0) hx hb dX10_move_1 (by decide) ?_
  refine ti_putI (ci := 10) (k := 0) (N := 67) (T := TX10) C hw iw_10 tyX10 tyX10_ok nmX10 rfl ob_60 (by decide) (by decide) fl_X10_154 rfl rfl rfl rfl (fn_10 A _) fs_10_0 dX10_move_2 (fun H locs hw => ?_)
  obtain ⟨M_1, hM_1⟩ : ∃ z : ti_M, z = uI M 60 0 0 := ⟨_, rfl⟩
  have hw := hw.to hM_1.symm
  have iM_1 : mI Tm M_1 := mI_uI hI hM_1 (by decide) (by decide) trivial
  refine lv_iload_n hx hb dX10_move_5 rfl (lv_at hl 1 rfl) ?_
  refine ti_callSi (av := [.int z1]) C hw (s_X10_isPower l D A cy hJ M_1 iM_1 z1) ⟨ml_X10_420, ys_X10_isPower, yi_X10_isPower, yc_X10_isPower⟩ yd_X10_isPower rfl hl.1 (Nat.le_of_ble_eq_true rfl) ⟨by decide, by decide⟩ ⟨Nat.zero_le _, Nat.zero_le _⟩ dX10_move_6 (fun r_2 M_3 H locs hp_3 hw => ?_)
  obtain ⟨hm, hz⟩ := hp_3
  have hw := hw.to hm
  have hj_29_13 : ∀  (H : Heap) (locs : List Loc) (ls : Array Slot), ti_H ti_LM D A cy H0 M_1 H locs → lv_has ls 3 [(0, .ref (A 60 0)), (1, .int z1), (2, .int z2)] → W p l e (ti_rm 2) s m args below meth c H locs 0 0 Q (F0 m 29 ls []) := by
    intro  H locs ls  hw hl
    refine lv_iconst (v := 0) hx hb dX10_move_29 (by decide) ?_
    exact hQ _ _ _ _ _ _ hw rfl (⟨(mF_qw hF iM_1 (qw_I hM_1 (by decide))), (tI_nE hM_1 (nk (by decide))), (fun k a b => tY_uIE hM_1)⟩) dX10_move_30
  rcases hz with ⟨rfl, d0_4, d1_4⟩ | rfl
  · refine sb_if_eq (tgt := 29) hx hb (by decide : (1 : Int32).toInt = 1) dX10_move_9 (by decide) (fun h => absurd h (by decide)) (fun c_9_4 => ?_)
    refine lv_iload_n hx hb dX10_move_12 rfl (lv_at hl 2 rfl) ?_
    refine ti_callSi (av := [.int z2]) C hw (s_X10_isPlace l D A cy hJ M_1 iM_1 z2) ⟨ml_X10_414, ys_X10_isPlace, yi_X10_isPlace, yc_X10_isPlace⟩ yd_X10_isPlace rfl hl.1 (Nat.le_of_ble_eq_true rfl) ⟨by decide, by decide⟩ ⟨Nat.zero_le _, Nat.zero_le _⟩ dX10_move_13 (fun r_7 M_8 H locs hp_8 hw => ?_)
    obtain ⟨hm, hz⟩ := hp_8
    have hw := hw.to hm
    rcases hz with ⟨rfl, d0_9, d1_9⟩ | rfl
    · refine sb_if_eq (tgt := 29) hx hb (by decide : (1 : Int32).toInt = 1) dX10_move_16 (by decide) (fun h => absurd h (by decide)) (fun c_16_9 => ?_)
      refine lv_aload_n hx hb dX10_move_19 rfl (lv_at hl 0 rfl) ?_
      refine ti_get (ci := 10) (k := 49) (N := 67) (T := TX10) (v := .ref (A 60 50)) C hw iw_10 rfl ob_60 (by decide) (by decide) fl_X10_114 rfl rfl dX10_move_20 ?_
      refine lv_iload_n hx hb dX10_move_23 rfl (lv_at hl 1 rfl) ?_
      refine ti_iald (ci := 10) (k := 49) (n := 69) C hw ob_60 (by decide) (fun _ _ => rfl) (vp_in_iff.mpr (by omega)) dX10_move_24 ?_
      refine lv_topi (fun x_12 ex_12 => ?_)
      have yx_12 : tY M_1 60 49 z1.toNatClampNeg = x_12 := (ex_12.symm)
      have bx_12 : 0 ≤ x_12.toInt ∧ x_12.toInt ≤ 7 := mI_ry (k := 49) (i := z1.toNatClampNeg) iM_1 yx_12.symm
      have wx_12 : tY M 60 49 z1.toNatClampNeg = x_12 := ((cg (tY_uIE hM_1) z1.toNatClampNeg)).symm.trans yx_12
      refine lv_iload_n hx hb dX10_move_25 rfl (lv_at hl 2 rfl) ?_
      refine sb_icmp_ne (tgt := 31) hx hb rfl rfl dX10_move_26 (by decide) (fun c_26_12 => ?_) (fun c_26_12 => ?_)
      · refine lv_aload_n hx hb dX10_move_31 rfl (lv_at hl 0 rfl) ?_
        refine ti_callVv (ci := 10) (av := []) C hw (s_X10_keepNow l D A cy hJ M_1 iM_1 (mF_qw hF iM_1 (qw_I hM_1 (by decide)))) ⟨ml_X10_436, ym_X10_keepNow, yv_X10_keepNow, yi_X10_keepNow, yc_X10_keepNow⟩ yd_X10_keepNow ob_60 (by decide) rfl rfl hl.1 (Nat.le_of_ble_eq_true rfl) ⟨by decide, by decide⟩ ⟨Nat.zero_le _, Nat.zero_le _⟩ dX10_move_32 (fun M_15 H locs hp_15 hw => ?_)
        obtain ⟨q_16, q_17⟩ := hp_15
        refine lv_aload_n hx hb dX10_move_35 rfl (lv_at hl 0 rfl) ?_
        refine ti_get (ci := 10) (k := 49) (N := 67) (T := TX10) (v := .ref (A 60 50)) C hw iw_10 rfl ob_60 (by decide) (by decide) fl_X10_114 rfl rfl dX10_move_36 ?_
        refine lv_iload_n hx hb dX10_move_39 rfl (lv_at hl 1 rfl) ?_
        refine lv_iload_n hx hb dX10_move_40 rfl (lv_at hl 2 rfl) ?_
        refine ti_iast (ci := 10) (k := 49) (n := 69) C hw ob_60 (by decide) (fun _ _ => rfl) (vp_in_iff.mpr (by omega)) dX10_move_41 (fun H locs hw => ?_)
        obtain ⟨M_18, hM_18⟩ : ∃ z : ti_M, z = uY M_15 60 49 (upd (tY M_15 60 49) (z1 : Int32).toNatClampNeg z2) := ⟨_, rfl⟩
        have hw := hw.to hM_18.symm
        have iM_18 : mI Tm M_18 := mI_up (i := z1.toNatClampNeg) q_16.1 hM_18 (ib_mk (lo := 0) (hi := 7) (by omega) (by omega))
        refine lv_iconst (v := 1) hx hb dX10_move_42 (by decide) ?_
        exact hQ _ _ _ _ _ _ hw rfl (⟨(mF_qw q_16 iM_18 (qw_Y hM_18 (by decide))), ((tI_uYE hM_18).trans ((q_17.2.1).trans (tI_nE hM_1 (nk (by decide))))), (lw_t (fun k a b => tY_nE hM_18 (nk (by omega))) (lw_t q_17.1 (fun k a b => tY_uIE hM_1)))⟩) dX10_move_43
      · exact hj_29_13  _ _ _  hw (lv_sub hl [0, 1, 2] rfl)
    · refine sb_if_eq (tgt := 29) hx hb (by decide : (0 : Int32).toInt = 0) dX10_move_16 (by decide) (fun c_16_10 => ?_) (fun h => absurd h (by decide))
      exact hj_29_13  _ _ _  hw (lv_sub hl [0, 1, 2] rfl)
  · refine sb_if_eq (tgt := 29) hx hb (by decide : (0 : Int32).toInt = 0) dX10_move_9 (by decide) (fun c_9_5 => ?_) (fun h => absurd h (by decide))
    exact hj_29_13  _ _ _  hw (lv_sub hl [0, 1, 2] rfl)
set_option maxHeartbeats 4000000 in
set_option maxRecDepth 100000 in
theorem s_X10_go (l : Launch) (D : va_G) (A : Nat → Nat → Nat) (cy : Nat → ClassId) (hJ : ti_inj ti_LM A) (M : ti_M) (hI : mI Tm M) (hF : mF Tm M) (z1 : Int32) : ti_Ki l yX10_go cX10_go 5 (some .int) 7 ti_LM D A cy M [.ref (A 60 0), .int z1] (fun r M2 => mF Tm M2 ∧ tI M2 60 2 = tI M 60 2 ∧ lw M2 M) := by
  refine ti_eI yp_X10_go hJ ti_LM_nd (Nat.le_of_ble_eq_true rfl) ?_
  intro p e s m args below meth c Q H0 C hQ hw ls hl
  have hx := C.1
  have hb := C.2.1
  have hl : lv_has ls 5 [(0, .ref (A 60 0)), (1, .int z1)] := hl
  refine lv_aload_n hx hb dX10_go_0 rfl (lv_at hl 0 rfl) ?_
  refine lv_iconst (v := 0) hx hb dX10_go_1 (by decide) ?_
  refine ti_putI (ci := 10) (k := 0) (N := 67) (T := TX10) C hw iw_10 tyX10 tyX10_ok nmX10 rfl ob_60 (by decide) (by decide) fl_X10_154 rfl rfl rfl rfl (fn_10 A _) fs_10_0 dX10_go_2 (fun H locs hw => ?_)
  obtain ⟨M_1, hM_1⟩ : ∃ z : ti_M, z = uI M 60 0 0 := ⟨_, rfl⟩
  have hw := hw.to hM_1.symm
  have iM_1 : mI Tm M_1 := mI_uI hI hM_1 (by decide) (by decide) trivial
  refine lv_iload_n hx hb dX10_go_5 rfl (lv_at hl 1 rfl) ?_
  have hj_23_7 : ∀  (H : Heap) (locs : List Loc) (ls : Array Slot), ti_H ti_LM D A cy H0 M_1 H locs → lv_has ls 5 [(0, .ref (A 60 0)), (1, .int z1)] → W p l e (ti_rm 7) s m args below meth c H locs 0 0 Q (F0 m 23 ls []) := by
    intro  H locs ls  hw hl
    refine lv_iconst (v := (-1)) hx hb dX10_go_23 (by decide) ?_
    exact hQ _ _ _ _ _ _ hw rfl (⟨(mF_qw hF iM_1 (qw_I hM_1 (by decide))), (tI_nE hM_1 (nk (by decide))), (fun k a b => tY_uIE hM_1)⟩) dX10_go_24
  refine sb_if_lt (tgt := 23) hx hb rfl dX10_go_6 (by decide) (fun c_6_1 => ?_) (fun c_6_1 => ?_)
  · exact hj_23_7  _ _ _  hw (lv_sub hl [0, 1] rfl)
  · refine lv_iload_n hx hb dX10_go_9 rfl (lv_at hl 1 rfl) ?_
    refine lv_bipush (v := 120) hx hb dX10_go_10 (by decide) ?_
    refine sb_icmp_gt (tgt := 23) hx hb rfl (by decide : (120 : Int32).toInt = 120) dX10_go_12 (by decide) (fun c_12_2 => ?_) (fun c_12_2 => ?_)
    · exact hj_23_7  _ _ _  hw (lv_sub hl [0, 1] rfl)
    · refine lv_iload_n hx hb dX10_go_15 rfl (lv_at hl 1 rfl) ?_
      refine lv_aload_n hx hb dX10_go_16 rfl (lv_at hl 0 rfl) ?_
      have lk_6 : (tY M_1 60 34 0).toInt = (tY M 60 34 0).toInt := by rw [(cg (tY_uIE hM_1) 0)]
      refine ti_callVi (ci := 10) (av := []) C hw (s_X10_minutesLeft l D A cy hJ M_1 iM_1 ) ⟨ml_X10_430, ym_X10_minutesLeft, yv_X10_minutesLeft, yi_X10_minutesLeft, yc_X10_minutesLeft⟩ yd_X10_minutesLeft ob_60 (by decide) rfl rfl hl.1 (Nat.le_of_ble_eq_true rfl) ⟨by decide, by decide⟩ ⟨Nat.zero_le _, Nat.zero_le _⟩ dX10_go_17 (fun r_4 M_5 H locs hp_5 hw => ?_)
      obtain ⟨hm, b0r_4, b1r_4, p0r_4⟩ := hp_5
      have hw := hw.to hm
      refine sb_icmp_le (tgt := 25) hx hb rfl rfl dX10_go_20 (by decide) (fun c_20_6 => ?_) (fun c_20_6 => ?_)
      · refine lv_iload_n hx hb dX10_go_25 rfl (lv_at hl 1 rfl) ?_
        have hj_34_14 : ∀ (M_10 : ti_M) (H : Heap) (locs : List Loc) (ls : Array Slot), (mI Tm M_10) → (mF Tm M_10) → (tI M_10 60 2 = tI M 60 2) → (lw M_10 M) → ((tY M_10 60 34 0).toInt + z1.toInt ≤ 120) → ti_H ti_LM D A cy H0 M_10 H locs → lv_has ls 5 [(0, .ref (A 60 0)), (1, .int z1)] → W p l e (ti_rm 7) s m args below meth c H locs 0 0 Q (F0 m 34 ls []) := by
          intro M_10 H locs ls iM_10 f_11 f_12 f_13 j_14 hw hl
          refine lv_iconst (v := 0) hx hb dX10_go_34 (by decide) ?_
          refine lv_istore_n (lv' := [(2, .int 0), (0, .ref (A 60 0)), (1, .int z1)]) hx hb dX10_go_35 rfl hl (by decide) rfl (fun ls hl => ?_)
          have hl_36_24 : ∀ (n_25 : Nat) (x_17 : Int32) (M_20 : ti_M) (H : Heap) (locs : List Loc) (ls : Array Slot), (120 - x_17.toInt : Int).toNat < n_25 → (0 ≤ x_17.toInt) → (x_17.toInt ≤ 120) → (mI Tm M_20) → (mF Tm M_20) → (tI M_20 60 2 = tI M 60 2) → (lw M_20 M) → ((tY M_20 60 34 0).toInt + z1.toInt - x_17.toInt ≤ 120) → ti_H ti_LM D A cy H0 M_20 H locs → lv_has ls 5 [(2, .int x_17), (0, .ref (A 60 0)), (1, .int z1)] → W p l e (ti_rm 7) s m args below meth c H locs 0 0 Q (F0 m 36 ls []) := by
            intro n_25
            induction n_25 with
            | zero => intro x_17 M_20 H locs ls hf_25; exact absurd hf_25 (Nat.not_lt_zero _)
            | succ n_25 ih_25 =>
              intro x_17 M_20 H locs ls hf_25 b_18 b_19 iM_20 f_21 f_22 f_23 j_24 hw hl
              refine lv_iload_n hx hb dX10_go_36 rfl (lv_at hl 0 rfl) ?_
              refine lv_iload_n hx hb dX10_go_37 rfl (lv_at hl 2 rfl) ?_
              refine sb_icmp_ge (tgt := 98) hx hb rfl rfl dX10_go_38 (by decide) (fun c_38_25 => ?_) (fun c_38_25 => ?_)
              · refine lv_aload_n hx hb dX10_go_98 rfl (lv_at hl 1 rfl) ?_
                refine ti_get (ci := 10) (k := 34) (N := 67) (T := TX10) (v := .ref (A 60 35)) C hw iw_10 rfl ob_60 (by decide) (by decide) fl_X10_69 rfl rfl dX10_go_99 ?_
                refine lv_iconst (v := 0) hx hb dX10_go_102 (by decide) ?_
                refine ti_iald (ci := 10) (k := 34) (n := 23) C hw ob_60 (by decide) (fun _ _ => rfl) (by unfold vp_in; decide) dX10_go_103 ?_
                refine lv_topi (fun x_51 ex_51 => ?_)
                have yx_51 : tY M_20 60 34 0 = x_51 := ((congrArg _ (by decide)).symm.trans ex_51.symm)
                have bx_51 : 0 ≤ x_51.toInt ∧ x_51.toInt ≤ 120 := mI_ry (k := 34) (i := 0) iM_20 yx_51.symm (by decide)
                have zx_51 : (tY M_20 60 34 0).toInt = x_51.toInt := by rw [yx_51]
                exact hQ _ _ _ _ _ _ hw rfl (⟨f_21, (f_22), f_23⟩) dX10_go_104
              · refine lv_aload_n hx hb dX10_go_41 rfl (lv_at hl 1 rfl) ?_
                refine ti_get (ci := 10) (k := 34) (N := 67) (T := TX10) (v := .ref (A 60 35)) C hw iw_10 rfl ob_60 (by decide) (by decide) fl_X10_69 rfl rfl dX10_go_42 ?_
                refine lv_iconst (v := 0) hx hb dX10_go_45 (by decide) ?_
                refine ti_iald (ci := 10) (k := 34) (n := 23) C hw ob_60 (by decide) (fun _ _ => rfl) (by unfold vp_in; decide) dX10_go_46 ?_
                refine lv_topi (fun x_27 ex_27 => ?_)
                have yx_27 : tY M_20 60 34 0 = x_27 := ((congrArg _ (by decide)).symm.trans ex_27.symm)
                have bx_27 : 0 ≤ x_27.toInt ∧ x_27.toInt ≤ 120 := mI_ry (k := 34) (i := 0) iM_20 yx_27.symm (by decide)
                have zx_27 : (tY M_20 60 34 0).toInt = x_27.toInt := by rw [yx_27]
                refine lv_istore_n (lv' := [(3, .int x_27), (2, .int x_17), (0, .ref (A 60 0)), (1, .int z1)]) hx hb dX10_go_47 rfl hl (by decide) rfl (fun ls hl => ?_)
                refine lv_aload_n hx hb dX10_go_48 rfl (lv_at hl 2 rfl) ?_
                refine lv_iconst (v := 0) hx hb dX10_go_49 (by decide) ?_
                refine lv_iconst (v := 1) hx hb dX10_go_50 (by decide) ?_
                refine ti_callVv (ci := 10) (av := [.int 0, .int 1]) C hw (s_X10_passes_0 l D A cy hJ M_20 iM_20 f_21.2.2.1.1 f_21.2.1 1 (by first | omega | decide | (have l0 : (0 : Int32).toInt = 0 := (by decide); have l2 : (2 : Int32).toInt = 2 := (by decide); have l3 : (3 : Int32).toInt = 3 := (by decide); omega))) ⟨ml_X10_407, ym_X10_passes, yv_X10_passes, yi_X10_passes, yc_X10_passes⟩ yd_X10_passes ob_60 (by decide) rfl rfl hl.1 (Nat.le_of_ble_eq_true rfl) ⟨by decide, by decide⟩ ⟨Nat.zero_le _, Nat.zero_le _⟩ dX10_go_51 (fun M_29 H locs hp_29 hw => ?_)
                obtain ⟨iM_29, q_30, q_31, p0r_28⟩ := hp_29
                have mfM_29 : mF Tm M_29 := mF_rq (q := 0) f_21 iM_29 q_30 (fun _ => q_31) (by decide)
                refine lv_iconst (v := 0) hx hb dX10_go_54 (by decide) ?_
                refine lv_istore (lv' := [(4, .int 0), (3, .int x_27), (2, .int x_17), (0, .ref (A 60 0)), (1, .int z1)]) hx hb dX10_go_55 hl (by decide) rfl (fun ls hl => ?_)
                have hl_57_39 : ∀ (n_40 : Nat) (x_32 : Int32) (M_35 : ti_M) (H : Heap) (locs : List Loc) (ls : Array Slot), (3 - x_32.toInt : Int).toNat < n_40 → (0 ≤ x_32.toInt) → (x_32.toInt ≤ 3) → (mI Tm M_35) → (mF Tm M_35) → (tI M_35 60 2 = tI M 60 2) → (lw M_35 M) → ((tY M_35 60 34 0).toInt + z1.toInt - x_17.toInt ≤ 121) → ti_H ti_LM D A cy H0 M_35 H locs → lv_has ls 5 [(4, .int x_32), (3, .int x_27), (2, .int x_17), (0, .ref (A 60 0)), (1, .int z1)] → W p l e (ti_rm 7) s m args below meth c H locs 0 0 Q (F0 m 57 ls []) := by
                  intro n_40
                  induction n_40 with
                  | zero => intro x_32 M_35 H locs ls hf_40; exact absurd hf_40 (Nat.not_lt_zero _)
                  | succ n_40 ih_40 =>
                    intro x_32 M_35 H locs ls hf_40 b_33 b_34 iM_35 f_36 f_37 f_38 j_39 hw hl
                    refine lv_iload hx hb dX10_go_57 (lv_at hl 0 rfl) ?_
                    refine lv_iconst (v := 3) hx hb dX10_go_59 (by decide) ?_
                    refine sb_icmp_ge (tgt := 92) hx hb rfl (by decide : (3 : Int32).toInt = 3) dX10_go_60 (by decide) (fun c_60_40 => ?_) (fun c_60_40 => ?_)
                    · obtain ⟨x_50, ex_50⟩ : ∃ z : Int32, z = x_17 + 1 := ⟨_, rfl⟩
                      have tx_50 : x_50.toInt = x_17.toInt + 1 := i_add ex_50 rfl (by decide) (by omega) (by omega)
                      refine lv_iinc (v := x_50) (lv' := [(2, .int x_50), (4, .int x_32), (3, .int x_27), (0, .ref (A 60 0)), (1, .int z1)]) hx hb dX10_go_92 hl (k := 2) rfl (by rw [ex_50]; rfl) (by decide) rfl (fun ls hl => ?_)
                      refine lv_goto (tgt := 36) hx hb dX10_go_95 (by decide) ?_
                      exact ih_25 x_50 M_35 _ _ _ (by omega) (by first | omega | decide) (by first | omega | decide) iM_35 f_36 (f_37) f_38 (by first | omega | decide) hw (lv_sub hl [0, 3, 4] rfl)
                    · refine lv_aload_n hx hb dX10_go_63 rfl (lv_at hl 3 rfl) ?_
                      refine ti_get (ci := 10) (k := 50) (N := 67) (T := TX10) (v := .ref (A 60 51)) C hw iw_10 rfl ob_60 (by decide) (by decide) fl_X10_117 rfl rfl dX10_go_64 ?_
                      refine lv_iconst (v := 3) hx hb dX10_go_67 (by decide) ?_
                      refine lv_iload_n hx hb dX10_go_68 rfl (lv_at hl 1 rfl) ?_
                      refine lv_imul hx hb dX10_go_69 ?_
                      refine lv_topi (fun x_42 ex_42 => ?_)
                      have tx_42 : x_42.toInt = 3 * x_27.toInt := i_mul ex_42 (by decide : (3 : Int32).toInt = 3) rfl (by omega) (by omega)
                      refine lv_iload hx hb dX10_go_70 (lv_at hl 0 rfl) ?_
                      refine lv_iadd hx hb dX10_go_72 ?_
                      refine lv_topi (fun x_43 ex_43 => ?_)
                      have tx_43 : x_43.toInt = x_42.toInt + x_32.toInt := i_add ex_43 rfl rfl (by omega) (by omega)
                      refine lv_aload_n hx hb dX10_go_73 rfl (lv_at hl 3 rfl) ?_
                      refine lv_iconst (v := 0) hx hb dX10_go_74 (by decide) ?_
                      refine lv_aload_n hx hb dX10_go_75 rfl (lv_at hl 3 rfl) ?_
                      refine ti_get (ci := 10) (k := 49) (N := 67) (T := TX10) (v := .ref (A 60 50)) C hw iw_10 rfl ob_60 (by decide) (by decide) fl_X10_114 rfl rfl dX10_go_76 ?_
                      refine lv_iload hx hb dX10_go_79 (lv_at hl 0 rfl) ?_
                      refine ti_iald (ci := 10) (k := 49) (n := 69) C hw ob_60 (by decide) (fun _ _ => rfl) (vp_in_iff.mpr (by omega)) dX10_go_81 ?_
                      refine lv_topi (fun x_44 ex_44 => ?_)
                      have yx_44 : tY M_35 60 49 x_32.toNatClampNeg = x_44 := (ex_44.symm)
                      have bx_44 : 0 ≤ x_44.toInt ∧ x_44.toInt ≤ 7 := mI_ry (k := 49) (i := x_32.toNatClampNeg) iM_35 yx_44.symm
                      refine ti_callVi (ci := 10) (av := [.int 0, .int x_44]) C hw (s_X10_standsAt_0 l D A cy hJ M_35 iM_35 x_44 (by first | omega | decide) (by first | omega | decide)) ⟨ml_X10_417, ym_X10_standsAt, yv_X10_standsAt, yi_X10_standsAt, yc_X10_standsAt⟩ yd_X10_standsAt ob_60 (by decide) rfl rfl hl.1 (Nat.le_of_ble_eq_true rfl) ⟨by decide, by decide⟩ ⟨Nat.zero_le _, Nat.zero_le _⟩ dX10_go_82 (fun r_45 M_46 H locs hp_46 hw => ?_)
                      obtain ⟨hm, b0r_45, b1r_45⟩ := hp_46
                      have hw := hw.to hm
                      refine ti_iast (ci := 10) (k := 50) (n := 720) C hw ob_60 (by decide) (fun _ _ => rfl) (vp_in_iff.mpr (by omega)) dX10_go_85 (fun H locs hw => ?_)
                      obtain ⟨M_47, hM_47⟩ : ∃ z : ti_M, z = uY M_35 60 50 (upd (tY M_35 60 50) (x_43 : Int32).toNatClampNeg r_45) := ⟨_, rfl⟩
                      have hw := hw.to hM_47.symm
                      have iM_47 : mI Tm M_47 := mI_up (i := x_43.toNatClampNeg) iM_35 hM_47 trivial
                      obtain ⟨x_48, ex_48⟩ : ∃ z : Int32, z = x_32 + 1 := ⟨_, rfl⟩
                      have tx_48 : x_48.toInt = x_32.toInt + 1 := i_add ex_48 rfl (by decide) (by omega) (by omega)
                      refine lv_iinc (v := x_48) (lv' := [(4, .int x_48), (3, .int x_27), (2, .int x_17), (0, .ref (A 60 0)), (1, .int z1)]) hx hb dX10_go_86 hl (k := 0) rfl (by rw [ex_48]; rfl) (by decide) rfl (fun ls hl => ?_)
                      refine lv_goto (tgt := 57) hx hb dX10_go_89 (by decide) ?_
                      have lk_49 : (tY M_47 60 34 0).toInt = (tY M_35 60 34 0).toInt := by rw [(cg (tY_nE hM_47 (nk (by decide))) 0)]
                      exact ih_40 x_48 M_47 _ _ _ (by omega) (by first | omega | decide) (by first | omega | decide) iM_47 (mF_qw f_36 iM_47 (qw_Y hM_47 (by decide))) ((tI_uYE hM_47).trans f_37) (lw_t (fun k a b => tY_nE hM_47 (nk (by omega))) f_38) (by first | omega | decide) hw (lv_sub hl [0, 1, 2, 3, 4] rfl)
                exact hl_57_39 ((3 - 0 : Int).toNat + 1) 0 M_29 _ _ _ (Nat.lt_succ_self _) (by have lt0 : (0 : Int32).toInt = 0 := (by decide); first | omega | decide) (by have lt0 : (0 : Int32).toInt = 0 := (by decide); first | omega | decide) iM_29 mfM_29 ((q_30.2.1.1).trans f_22) (lw_t q_30.1 f_23) (by have lt0 : (0 : Int32).toInt = 0 := (by decide); first | omega | decide) hw (lv_sub hl [0, 1, 2, 3, 4] rfl)
          exact hl_36_24 ((120 - 0 : Int).toNat + 1) 0 M_10 _ _ _ (Nat.lt_succ_self _) (by have lt0 : (0 : Int32).toInt = 0 := (by decide); first | omega | decide) (by have lt0 : (0 : Int32).toInt = 0 := (by decide); first | omega | decide) iM_10 f_11 (f_12) f_13 (by have lt0 : (0 : Int32).toInt = 0 := (by decide); first | omega | decide) hw (lv_sub hl [0, 1, 2] rfl)
        refine sb_if_le (tgt := 34) hx hb rfl dX10_go_26 (by decide) (fun c_26_7 => ?_) (fun c_26_7 => ?_)
        · have lk_15 : (tY M_1 60 34 0).toInt = (tY M 60 34 0).toInt := by rw [(cg (tY_uIE hM_1) 0)]
          exact hj_34_14 M_1 _ _ _ iM_1 (mF_qw hF iM_1 (qw_I hM_1 (by decide))) (tI_nE hM_1 (nk (by decide))) (fun k a b => tY_uIE hM_1) (by first | omega | decide) hw (lv_sub hl [0, 1] rfl)
        · refine lv_aload_n hx hb dX10_go_29 rfl (lv_at hl 0 rfl) ?_
          refine lv_iconst (v := 0) hx hb dX10_go_30 (by decide) ?_
          refine ti_putI (ci := 10) (k := 52) (N := 67) (T := TX10) C hw iw_10 tyX10 tyX10_ok nmX10 rfl ob_60 (by decide) (by decide) fl_X10_317 rfl rfl rfl rfl (fn_10 A _) fs_10_52 dX10_go_31 (fun H locs hw => ?_)
          obtain ⟨M_9, hM_9⟩ : ∃ z : ti_M, z = uI M_1 60 52 0 := ⟨_, rfl⟩
          have hw := hw.to hM_9.symm
          have iM_9 : mI Tm M_9 := mI_uI iM_1 hM_9 (by decide) (by decide) (ib_mk (lo := 0) (hi := 20) (by decide) (by decide))
          have vM_9 : (tI M_9 60 52).toInt = 0 := by rw [tI_uE hM_9]; decide
          have u52 : 0 ≤ (tI M_1 60 52).toInt := (iM_1.1 52).1
          have mfM_9 : mF Tm M_9 := mF_52 (mF_qw hF iM_1 (qw_I hM_1 (by decide))) iM_9 hM_9 (by have l0 : (0 : Int32).toInt = 0 := (by decide); omega)
          have lk_16 : (tY M_9 60 34 0).toInt = (tY M 60 34 0).toInt := by rw [((cg (tY_uIE hM_9) 0).trans (cg (tY_uIE hM_1) 0))]
          exact hj_34_14 M_9 _ _ _ iM_9 mfM_9 ((tI_nE hM_9 (nk (by decide))).trans (tI_nE hM_1 (nk (by decide)))) (lw_t (fun k a b => tY_uIE hM_9) (fun k a b => tY_uIE hM_1)) (by first | omega | decide) hw (lv_sub hl [0, 1] rfl)
      · exact hj_23_7  _ _ _  hw (lv_sub hl [0, 1] rfl)
set_option maxHeartbeats 4000000 in
set_option maxRecDepth 100000 in
theorem s_X10_undo (l : Launch) (D : va_G) (A : Nat → Nat → Nat) (cy : Nat → ClassId) (hJ : ti_inj ti_LM A) (M : ti_M) (hI : mI Tm M) (hF : mF Tm M) : ti_Ki l yX10_undo cX10_undo 1 (some .int) 1 ti_LM D A cy M [.ref (A 60 0)] (fun r M2 => mF Tm M2 ∧ tI M2 60 2 = tI M 60 2 ∧ lw M2 M) := by
  refine ti_eI yp_X10_undo hJ ti_LM_nd (Nat.le_of_ble_eq_true rfl) ?_
  intro p e s m args below meth c Q H0 C hQ hw ls hl
  have hx := C.1
  have hb := C.2.1
  have hl : lv_has ls 1 [(0, .ref (A 60 0))] := hl
  refine lv_aload_n hx hb dX10_undo_0 rfl (lv_at hl 0 rfl) ?_
  refine lv_iconst (v := 0) hx hb dX10_undo_1 (by decide) ?_
  refine ti_putI (ci := 10) (k := 0) (N := 67) (T := TX10) C hw iw_10 tyX10 tyX10_ok nmX10 rfl ob_60 (by decide) (by decide) fl_X10_154 rfl rfl rfl rfl (fn_10 A _) fs_10_0 dX10_undo_2 (fun H locs hw => ?_)
  obtain ⟨M_1, hM_1⟩ : ∃ z : ti_M, z = uI M 60 0 0 := ⟨_, rfl⟩
  have hw := hw.to hM_1.symm
  have iM_1 : mI Tm M_1 := mI_uI hI hM_1 (by decide) (by decide) trivial
  refine lv_aload_n hx hb dX10_undo_5 rfl (lv_at hl 0 rfl) ?_
  refine ti_get (ci := 10) (k := 52) (N := 67) (T := TX10) C hw iw_10 rfl ob_60 (by decide) (by decide) fl_X10_317 rfl rfl dX10_undo_6 ?_
  refine lv_topi (fun x_2 ex_2 => ?_)
  have bx_2 : 0 ≤ x_2.toInt ∧ x_2.toInt ≤ 20 := mI_rd iM_1 ex_2
  have ux_2 : (tI M_1 60 52).toInt = x_2.toInt := by rw [ex_2]
  refine sb_if_ne (tgt := 14) hx hb rfl dX10_undo_9 (by decide) (fun c_9_2 => ?_) (fun c_9_2 => ?_)
  · refine lv_aload_n hx hb dX10_undo_14 rfl (lv_at hl 0 rfl) ?_
    refine lv_dup hx hb dX10_undo_15 rfl ?_
    refine ti_get (ci := 10) (k := 52) (N := 67) (T := TX10) C hw iw_10 rfl ob_60 (by decide) (by decide) fl_X10_317 rfl rfl dX10_undo_16 ?_
    refine ti_top (y := x_2) (ex_2.symm) ?_
    have u_4 : (tI M_1 60 52).toInt = (x_2 : Int32).toInt := by rw [(ex_2.symm)]
    refine lv_iconst (v := 1) hx hb dX10_undo_19 (by decide) ?_
    refine lv_isub hx hb dX10_undo_20 ?_
    refine lv_topi (fun x_5 ex_5 => ?_)
    have tx_5 : x_5.toInt = x_2.toInt - 1 := i_sub ex_5 rfl (by decide : (1 : Int32).toInt = 1) (by omega) (by omega)
    refine ti_putI (ci := 10) (k := 52) (N := 67) (T := TX10) C hw iw_10 tyX10 tyX10_ok nmX10 rfl ob_60 (by decide) (by decide) fl_X10_317 rfl rfl rfl rfl (fn_10 A _) fs_10_52 dX10_undo_21 (fun H locs hw => ?_)
    obtain ⟨M_6, hM_6⟩ : ∃ z : ti_M, z = uI M_1 60 52 x_5 := ⟨_, rfl⟩
    have hw := hw.to hM_6.symm
    have iM_6 : mI Tm M_6 := mI_uI iM_1 hM_6 (by decide) (by decide) (ib_mk (lo := 0) (hi := 20) (by omega) (by omega))
    have vM_6 : (tI M_6 60 52).toInt = (x_5 : Int32).toInt := by rw [tI_uE hM_6]
    have mfM_6 : mF Tm M_6 := mF_52 (mF_qw hF iM_1 (qw_I hM_1 (by decide))) iM_6 hM_6 (by rw [(ex_2.symm)]; omega)
    refine lv_aload_n hx hb dX10_undo_24 rfl (lv_at hl 0 rfl) ?_
    refine lv_iconst (v := 0) hx hb dX10_undo_25 (by decide) ?_
    refine lv_iconst (v := 3) hx hb dX10_undo_26 (by decide) ?_
    refine lv_aload_n hx hb dX10_undo_27 rfl (lv_at hl 0 rfl) ?_
    refine ti_get (ci := 10) (k := 52) (N := 67) (T := TX10) C hw iw_10 rfl ob_60 (by decide) (by decide) fl_X10_317 rfl rfl dX10_undo_28 ?_
    refine ti_top (y := x_5) (tI_uE hM_6) ?_
    have u_7 : (tI M_6 60 52).toInt = (x_5 : Int32).toInt := by rw [(tI_uE hM_6)]
    refine lv_iadd hx hb dX10_undo_31 ?_
    refine lv_topi (fun x_8 ex_8 => ?_)
    have tx_8 : x_8.toInt = 3 + x_5.toInt := i_add ex_8 (by decide : (3 : Int32).toInt = 3) rfl (by omega) (by omega)
    refine ti_callVv (ci := 10) (av := [.int 0, .int x_8]) C hw (s_X10_copies l D A cy hJ M_6 iM_6 0 x_8 (by first | omega | decide | (have l0 : (0 : Int32).toInt = 0 := (by decide); have l2 : (2 : Int32).toInt = 2 := (by decide); have l3 : (3 : Int32).toInt = 3 := (by decide); omega)) (by first | omega | decide | (have l0 : (0 : Int32).toInt = 0 := (by decide); have l2 : (2 : Int32).toInt = 2 := (by decide); have l3 : (3 : Int32).toInt = 3 := (by decide); omega)) (by first | omega | decide | (have l0 : (0 : Int32).toInt = 0 := (by decide); have l2 : (2 : Int32).toInt = 2 := (by decide); have l3 : (3 : Int32).toInt = 3 := (by decide); omega)) (by first | omega | decide | (have l0 : (0 : Int32).toInt = 0 := (by decide); have l2 : (2 : Int32).toInt = 2 := (by decide); have l3 : (3 : Int32).toInt = 3 := (by decide); omega)) (by first | omega | decide | (have l0 : (0 : Int32).toInt = 0 := (by decide); have l2 : (2 : Int32).toInt = 2 := (by decide); have l3 : (3 : Int32).toInt = 3 := (by decide); omega)) (by first | omega | decide | (have l0 : (0 : Int32).toInt = 0 := (by decide); have l2 : (2 : Int32).toInt = 2 := (by decide); have l3 : (3 : Int32).toInt = 3 := (by decide); omega))) ⟨ml_X10_404, ym_X10_copies, yv_X10_copies, yi_X10_copies, yc_X10_copies⟩ yd_X10_copies ob_60 (by decide) rfl rfl hl.1 (Nat.le_of_ble_eq_true rfl) ⟨by decide, by decide⟩ ⟨Nat.zero_le _, Nat.zero_le _⟩ dX10_undo_32 (fun M_10 H locs hp_10 hw => ?_)
    obtain ⟨iM_10, q_11, q_12⟩ := hp_10
    have q_12n : cq 0 (x_8).toInt.toNat M_10 M_6 := by rw [show (0 : Int32).toNatClampNeg = 0 from by decide] at q_12; exact q_12
    have gsM_10 : gq M_6 (x_8).toInt.toNat := by have g := gq_I hM_6 ((mF_qw hF iM_1 (qw_I hM_1 (by decide))).2.2.2.2 x_5.toInt.toNat (by rw [(ex_2.symm)]; omega)); rwa [show 3 + x_5.toInt.toNat = (x_8).toInt.toNat by omega] at g
    have mfM_10 : mF Tm M_10 := mF_cq mfM_6 iM_10 q_11 q_12n gsM_10
    have gtM_10 : gq M_10 0 := gq_cq q_12n gsM_10
    refine lv_aload_n hx hb dX10_undo_35 rfl (lv_at hl 0 rfl) ?_
    refine ti_get (ci := 10) (k := 52) (N := 67) (T := TX10) C hw iw_10 rfl ob_60 (by decide) (by decide) fl_X10_317 rfl rfl dX10_undo_36 ?_
    refine ti_top (y := x_5) ((q_11.2.2.2).trans (tI_uE hM_6)) ?_
    have u_13 : (tI M_10 60 52).toInt = (x_5 : Int32).toInt := by rw [((q_11.2.2.2).trans (tI_uE hM_6))]
    exact hQ _ _ _ _ _ _ hw rfl (⟨mfM_10, ((q_11.2.1).trans ((tI_nE hM_6 (nk (by decide))).trans (tI_nE hM_1 (nk (by decide))))), (lw_t q_11.1 (lw_t (fun k a b => tY_uIE hM_6) (fun k a b => tY_uIE hM_1)))⟩) dX10_undo_39
  · refine lv_iconst (v := (-1)) hx hb dX10_undo_12 (by decide) ?_
    exact hQ _ _ _ _ _ _ hw rfl (⟨(mF_qw hF iM_1 (qw_I hM_1 (by decide))), (tI_nE hM_1 (nk (by decide))), (fun k a b => tY_uIE hM_1)⟩) dX10_undo_13
set_option maxHeartbeats 4000000 in
set_option maxRecDepth 100000 in
theorem s_X10_keep (l : Launch) (D : va_G) (A : Nat → Nat → Nat) (cy : Nat → ClassId) (hJ : ti_inj ti_LM A) (M : ti_M) (hI : mI Tm M) (hF : mF Tm M) : ti_Ki l yX10_keep cX10_keep 1 (some .int) 1 ti_LM D A cy M [.ref (A 60 0)] (fun r M2 => mF Tm M2 ∧ tI M2 60 2 = tI M 60 2 ∧ lw M2 M) := by
  refine ti_eI yp_X10_keep hJ ti_LM_nd (Nat.le_of_ble_eq_true rfl) ?_
  intro p e s m args below meth c Q H0 C hQ hw ls hl
  have hx := C.1
  have hb := C.2.1
  have hl : lv_has ls 1 [(0, .ref (A 60 0))] := hl
  refine lv_aload_n hx hb dX10_keep_0 rfl (lv_at hl 0 rfl) ?_
  refine lv_iconst (v := 0) hx hb dX10_keep_1 (by decide) ?_
  refine ti_putI (ci := 10) (k := 0) (N := 67) (T := TX10) C hw iw_10 tyX10 tyX10_ok nmX10 rfl ob_60 (by decide) (by decide) fl_X10_154 rfl rfl rfl rfl (fn_10 A _) fs_10_0 dX10_keep_2 (fun H locs hw => ?_)
  obtain ⟨M_1, hM_1⟩ : ∃ z : ti_M, z = uI M 60 0 0 := ⟨_, rfl⟩
  have hw := hw.to hM_1.symm
  have iM_1 : mI Tm M_1 := mI_uI hI hM_1 (by decide) (by decide) trivial
  refine lv_aload_n hx hb dX10_keep_5 rfl (lv_at hl 0 rfl) ?_
  refine lv_iconst (v := 2) hx hb dX10_keep_6 (by decide) ?_
  refine lv_iconst (v := 0) hx hb dX10_keep_7 (by decide) ?_
  refine ti_callVv (ci := 10) (av := [.int 2, .int 0]) C hw (s_X10_copies l D A cy hJ M_1 iM_1 2 0 (by first | omega | decide | (have l0 : (0 : Int32).toInt = 0 := (by decide); have l2 : (2 : Int32).toInt = 2 := (by decide); have l3 : (3 : Int32).toInt = 3 := (by decide); omega)) (by first | omega | decide | (have l0 : (0 : Int32).toInt = 0 := (by decide); have l2 : (2 : Int32).toInt = 2 := (by decide); have l3 : (3 : Int32).toInt = 3 := (by decide); omega)) (by first | omega | decide | (have l0 : (0 : Int32).toInt = 0 := (by decide); have l2 : (2 : Int32).toInt = 2 := (by decide); have l3 : (3 : Int32).toInt = 3 := (by decide); omega)) (by first | omega | decide | (have l0 : (0 : Int32).toInt = 0 := (by decide); have l2 : (2 : Int32).toInt = 2 := (by decide); have l3 : (3 : Int32).toInt = 3 := (by decide); omega)) (by first | omega | decide | (have l0 : (0 : Int32).toInt = 0 := (by decide); have l2 : (2 : Int32).toInt = 2 := (by decide); have l3 : (3 : Int32).toInt = 3 := (by decide); omega)) (by first | omega | decide | (have l0 : (0 : Int32).toInt = 0 := (by decide); have l2 : (2 : Int32).toInt = 2 := (by decide); have l3 : (3 : Int32).toInt = 3 := (by decide); omega))) ⟨ml_X10_404, ym_X10_copies, yv_X10_copies, yi_X10_copies, yc_X10_copies⟩ yd_X10_copies ob_60 (by decide) rfl rfl hl.1 (Nat.le_of_ble_eq_true rfl) ⟨by decide, by decide⟩ ⟨Nat.zero_le _, Nat.zero_le _⟩ dX10_keep_8 (fun M_3 H locs hp_3 hw => ?_)
  obtain ⟨iM_3, q_4, q_5⟩ := hp_3
  have q_5n : cq 2 0 M_3 M_1 := by rw [show (2 : Int32).toNatClampNeg = 2 from by decide] at q_5; rw [show (0 : Int32).toNatClampNeg = 0 from by decide] at q_5; exact q_5
  have gsM_3 : gq M_1 0 := (mF_qw hF iM_1 (qw_I hM_1 (by decide))).2.2.1
  have mfM_3 : mF Tm M_3 := mF_cq (mF_qw hF iM_1 (qw_I hM_1 (by decide))) iM_3 q_4 q_5n gsM_3
  have gtM_3 : gq M_3 2 := gq_cq q_5n gsM_3
  refine lv_aload_n hx hb dX10_keep_11 rfl (lv_at hl 0 rfl) ?_
  refine lv_iconst (v := 1) hx hb dX10_keep_12 (by decide) ?_
  refine lv_iconst (v := 0) hx hb dX10_keep_13 (by decide) ?_
  refine ti_callVv (ci := 10) (av := [.int 1, .int 0]) C hw (s_X10_copiesLog l D A cy hJ M_3 iM_3 1 0 (by first | omega | decide) (by first | omega | decide) (by first | omega | decide) (by first | omega | decide)) ⟨ml_X10_497, ym_X10_copiesLog, yv_X10_copiesLog, yi_X10_copiesLog, yc_X10_copiesLog⟩ yd_X10_copiesLog ob_60 (by decide) rfl rfl hl.1 (Nat.le_of_ble_eq_true rfl) ⟨by decide, by decide⟩ ⟨Nat.zero_le _, Nat.zero_le _⟩ dX10_keep_14 (fun M_7 H locs hp_7 hw => ?_)
  obtain ⟨iM_7, q_8⟩ := hp_7
  refine lv_aload_n hx hb dX10_keep_17 rfl (lv_at hl 0 rfl) ?_
  refine lv_iconst (v := 1) hx hb dX10_keep_18 (by decide) ?_
  refine ti_putI (ci := 10) (k := 51) (N := 67) (T := TX10) C hw iw_10 tyX10 tyX10_ok nmX10 rfl ob_60 (by decide) (by decide) fl_X10_313 rfl rfl rfl rfl (fn_10 A _) fs_10_51 dX10_keep_19 (fun H locs hw => ?_)
  obtain ⟨M_9, hM_9⟩ : ∃ z : ti_M, z = uI M_7 60 51 1 := ⟨_, rfl⟩
  have hw := hw.to hM_9.symm
  have iM_9 : mI Tm M_9 := mI_uI iM_7 hM_9 (by decide) (by decide) trivial
  have mfM_9 : mF Tm M_9 := mF_51 (mF_qw mfM_3 iM_7 q_8) iM_9 hM_9 (gq_qw q_8 gtM_3)
  refine lv_aload_n hx hb dX10_keep_22 rfl (lv_at hl 0 rfl) ?_
  refine ti_get (ci := 10) (k := 34) (N := 67) (T := TX10) (v := .ref (A 60 35)) C hw iw_10 rfl ob_60 (by decide) (by decide) fl_X10_69 rfl rfl dX10_keep_23 ?_
  refine lv_iconst (v := 0) hx hb dX10_keep_26 (by decide) ?_
  refine ti_iald (ci := 10) (k := 34) (n := 23) C hw ob_60 (by decide) (fun _ _ => rfl) (by unfold vp_in; decide) dX10_keep_27 ?_
  refine lv_topi (fun x_10 ex_10 => ?_)
  have yx_10 : tY M_9 60 34 0 = x_10 := ((congrArg _ (by decide)).symm.trans ex_10.symm)
  have bx_10 : 0 ≤ x_10.toInt ∧ x_10.toInt ≤ 120 := mI_ry (k := 34) (i := 0) iM_9 yx_10.symm (by decide)
  have zx_10 : (tY M_9 60 34 0).toInt = x_10.toInt := by rw [yx_10]
  have wx_10 : tY M_7 60 34 0 = x_10 := ((cg (tY_uIE hM_9) 0)).symm.trans yx_10
  have zwx_10 : (tY M_7 60 34 0).toInt = x_10.toInt := by rw [wx_10]
  exact hQ _ _ _ _ _ _ hw rfl (⟨mfM_9, ((tI_nE hM_9 (nk (by decide))).trans ((q_8.2.1.1).trans ((q_4.2.1).trans (tI_nE hM_1 (nk (by decide)))))), (lw_t (fun k a b => tY_uIE hM_9) (lw_t q_8.1 (lw_t q_4.1 (fun k a b => tY_uIE hM_1))))⟩) dX10_keep_28
set_option maxHeartbeats 4000000 in
set_option maxRecDepth 100000 in
theorem s_X10_back (l : Launch) (D : va_G) (A : Nat → Nat → Nat) (cy : Nat → ClassId) (hJ : ti_inj ti_LM A) (M : ti_M) (hI : mI Tm M) (hF : mF Tm M) : ti_Ki l yX10_back cX10_back 1 (some .int) 1 ti_LM D A cy M [.ref (A 60 0)] (fun r M2 => mF Tm M2 ∧ tI M2 60 2 = tI M 60 2 ∧ lw M2 M) := by
  refine ti_eI yp_X10_back hJ ti_LM_nd (Nat.le_of_ble_eq_true rfl) ?_
  intro p e s m args below meth c Q H0 C hQ hw ls hl
  have hx := C.1
  have hb := C.2.1
  have hl : lv_has ls 1 [(0, .ref (A 60 0))] := hl
  refine lv_aload_n hx hb dX10_back_0 rfl (lv_at hl 0 rfl) ?_
  refine lv_iconst (v := 0) hx hb dX10_back_1 (by decide) ?_
  refine ti_putI (ci := 10) (k := 0) (N := 67) (T := TX10) C hw iw_10 tyX10 tyX10_ok nmX10 rfl ob_60 (by decide) (by decide) fl_X10_154 rfl rfl rfl rfl (fn_10 A _) fs_10_0 dX10_back_2 (fun H locs hw => ?_)
  obtain ⟨M_1, hM_1⟩ : ∃ z : ti_M, z = uI M 60 0 0 := ⟨_, rfl⟩
  have hw := hw.to hM_1.symm
  have iM_1 : mI Tm M_1 := mI_uI hI hM_1 (by decide) (by decide) trivial
  refine lv_aload_n hx hb dX10_back_5 rfl (lv_at hl 0 rfl) ?_
  refine ti_get (ci := 10) (k := 51) (N := 67) (T := TX10) C hw iw_10 rfl ob_60 (by decide) (by decide) fl_X10_313 rfl rfl dX10_back_6 ?_
  refine lv_topi (fun x_2 ex_2 => ?_)
  refine sb_if_ne (tgt := 14) hx hb rfl dX10_back_9 (by decide) (fun c_9_2 => ?_) (fun c_9_2 => ?_)
  · refine lv_aload_n hx hb dX10_back_14 rfl (lv_at hl 0 rfl) ?_
    refine lv_iconst (v := 0) hx hb dX10_back_15 (by decide) ?_
    refine lv_iconst (v := 2) hx hb dX10_back_16 (by decide) ?_
    refine ti_callVv (ci := 10) (av := [.int 0, .int 2]) C hw (s_X10_copies l D A cy hJ M_1 iM_1 0 2 (by first | omega | decide | (have l0 : (0 : Int32).toInt = 0 := (by decide); have l2 : (2 : Int32).toInt = 2 := (by decide); have l3 : (3 : Int32).toInt = 3 := (by decide); omega)) (by first | omega | decide | (have l0 : (0 : Int32).toInt = 0 := (by decide); have l2 : (2 : Int32).toInt = 2 := (by decide); have l3 : (3 : Int32).toInt = 3 := (by decide); omega)) (by first | omega | decide | (have l0 : (0 : Int32).toInt = 0 := (by decide); have l2 : (2 : Int32).toInt = 2 := (by decide); have l3 : (3 : Int32).toInt = 3 := (by decide); omega)) (by first | omega | decide | (have l0 : (0 : Int32).toInt = 0 := (by decide); have l2 : (2 : Int32).toInt = 2 := (by decide); have l3 : (3 : Int32).toInt = 3 := (by decide); omega)) (by first | omega | decide | (have l0 : (0 : Int32).toInt = 0 := (by decide); have l2 : (2 : Int32).toInt = 2 := (by decide); have l3 : (3 : Int32).toInt = 3 := (by decide); omega)) (by first | omega | decide | (have l0 : (0 : Int32).toInt = 0 := (by decide); have l2 : (2 : Int32).toInt = 2 := (by decide); have l3 : (3 : Int32).toInt = 3 := (by decide); omega))) ⟨ml_X10_404, ym_X10_copies, yv_X10_copies, yi_X10_copies, yc_X10_copies⟩ yd_X10_copies ob_60 (by decide) rfl rfl hl.1 (Nat.le_of_ble_eq_true rfl) ⟨by decide, by decide⟩ ⟨Nat.zero_le _, Nat.zero_le _⟩ dX10_back_17 (fun M_5 H locs hp_5 hw => ?_)
    obtain ⟨iM_5, q_6, q_7⟩ := hp_5
    have q_7n : cq 0 2 M_5 M_1 := by rw [show (0 : Int32).toNatClampNeg = 0 from by decide] at q_7; rw [show (2 : Int32).toNatClampNeg = 2 from by decide] at q_7; exact q_7
    have gsM_5 : gq M_1 2 := (mF_qw hF iM_1 (qw_I hM_1 (by decide))).2.2.2.1 (by rw [(ex_2.symm)]; omega)
    have mfM_5 : mF Tm M_5 := mF_cq (mF_qw hF iM_1 (qw_I hM_1 (by decide))) iM_5 q_6 q_7n gsM_5
    have gtM_5 : gq M_5 0 := gq_cq q_7n gsM_5
    refine lv_aload_n hx hb dX10_back_20 rfl (lv_at hl 0 rfl) ?_
    refine lv_iconst (v := 0) hx hb dX10_back_21 (by decide) ?_
    refine lv_iconst (v := 1) hx hb dX10_back_22 (by decide) ?_
    refine ti_callVv (ci := 10) (av := [.int 0, .int 1]) C hw (s_X10_copiesLog l D A cy hJ M_5 iM_5 0 1 (by first | omega | decide) (by first | omega | decide) (by first | omega | decide) (by first | omega | decide)) ⟨ml_X10_497, ym_X10_copiesLog, yv_X10_copiesLog, yi_X10_copiesLog, yc_X10_copiesLog⟩ yd_X10_copiesLog ob_60 (by decide) rfl rfl hl.1 (Nat.le_of_ble_eq_true rfl) ⟨by decide, by decide⟩ ⟨Nat.zero_le _, Nat.zero_le _⟩ dX10_back_23 (fun M_9 H locs hp_9 hw => ?_)
    obtain ⟨iM_9, q_10⟩ := hp_9
    refine lv_aload_n hx hb dX10_back_26 rfl (lv_at hl 0 rfl) ?_
    refine lv_iconst (v := 0) hx hb dX10_back_27 (by decide) ?_
    refine ti_putI (ci := 10) (k := 52) (N := 67) (T := TX10) C hw iw_10 tyX10 tyX10_ok nmX10 rfl ob_60 (by decide) (by decide) fl_X10_317 rfl rfl rfl rfl (fn_10 A _) fs_10_52 dX10_back_28 (fun H locs hw => ?_)
    obtain ⟨M_11, hM_11⟩ : ∃ z : ti_M, z = uI M_9 60 52 0 := ⟨_, rfl⟩
    have hw := hw.to hM_11.symm
    have iM_11 : mI Tm M_11 := mI_uI iM_9 hM_11 (by decide) (by decide) (ib_mk (lo := 0) (hi := 20) (by decide) (by decide))
    have vM_11 : (tI M_11 60 52).toInt = 0 := by rw [tI_uE hM_11]; decide
    have u52 : 0 ≤ (tI M_9 60 52).toInt := (iM_9.1 52).1
    have mfM_11 : mF Tm M_11 := mF_52 (mF_qw mfM_5 iM_9 q_10) iM_11 hM_11 (by have l0 : (0 : Int32).toInt = 0 := (by decide); omega)
    refine lv_aload_n hx hb dX10_back_31 rfl (lv_at hl 0 rfl) ?_
    refine ti_get (ci := 10) (k := 34) (N := 67) (T := TX10) (v := .ref (A 60 35)) C hw iw_10 rfl ob_60 (by decide) (by decide) fl_X10_69 rfl rfl dX10_back_32 ?_
    refine lv_iconst (v := 0) hx hb dX10_back_35 (by decide) ?_
    refine ti_iald (ci := 10) (k := 34) (n := 23) C hw ob_60 (by decide) (fun _ _ => rfl) (by unfold vp_in; decide) dX10_back_36 ?_
    refine lv_topi (fun x_12 ex_12 => ?_)
    have yx_12 : tY M_11 60 34 0 = x_12 := ((congrArg _ (by decide)).symm.trans ex_12.symm)
    have bx_12 : 0 ≤ x_12.toInt ∧ x_12.toInt ≤ 120 := mI_ry (k := 34) (i := 0) iM_11 yx_12.symm (by decide)
    have zx_12 : (tY M_11 60 34 0).toInt = x_12.toInt := by rw [yx_12]
    have wx_12 : tY M_9 60 34 0 = x_12 := ((cg (tY_uIE hM_11) 0)).symm.trans yx_12
    have zwx_12 : (tY M_9 60 34 0).toInt = x_12.toInt := by rw [wx_12]
    exact hQ _ _ _ _ _ _ hw rfl (⟨mfM_11, ((tI_nE hM_11 (nk (by decide))).trans ((q_10.2.1.1).trans ((q_6.2.1).trans (tI_nE hM_1 (nk (by decide)))))), (lw_t (fun k a b => tY_uIE hM_11) (lw_t q_10.1 (lw_t q_6.1 (fun k a b => tY_uIE hM_1))))⟩) dX10_back_37
  · refine lv_iconst (v := (-1)) hx hb dX10_back_12 (by decide) ?_
    exact hQ _ _ _ _ _ _ hw rfl (⟨(mF_qw hF iM_1 (qw_I hM_1 (by decide))), (tI_nE hM_1 (nk (by decide))), (fun k a b => tY_uIE hM_1)⟩) dX10_back_13

variable {Tc : gC} {Tm : gM}
/-- rows stay, and ints but of a to b -/
def pr (a b : Nat) (N M : ti_M) : Prop := N.2.1 = M.2.1 ∧ ∀ k, (k < a ∨ b < k) → tI N 60 k = tI M 60 k
theorem pr.refl {a b : Nat} {M : ti_M} : pr a b M M := ⟨rfl, fun _ _ => rfl⟩
theorem pr.trans {a b : Nat} {K N M : ti_M} (x : pr a b K N) (y : pr a b N M) : pr a b K M := ⟨x.1.trans y.1, fun k h => (x.2 k h).trans (y.2 k h)⟩
theorem pr_w {a b c d : Nat} {N M : ti_M} (x : pr a b N M) (h1 : c ≤ a) (h2 : b ≤ d) : pr c d N M := ⟨x.1, fun k h => x.2 k (by omega)⟩
theorem pr_I {a b k : Nat} {N M : ti_M} {v : Int32} (e : N = uI M 60 k v) (h : a ≤ k ∧ k ≤ b) : pr a b N M := ⟨ry_I e, fun k2 h2 => tI_nE e (nk (by omega))⟩
theorem nz0 {x : Int32} (h : 0 < x.toInt) : x ≠ 0 := by intro q; rw [q] at h; exact absurd h (by decide)
theorem ch_ne {x z : Int32} (e : z = tx_mb.getD x.toNatClampNeg 0 &&& 255) (h : ¬ z.toInt = 32) (_ : 0 ≤ x.toInt) : x.toInt ≠ 124 := by
  intro q
  apply h
  rw [e, show x.toNatClampNeg = 124 by (show x.toInt.toNat = 124; omega)]
  exact wn_l
theorem wn_S {x z : Int32} (e : z = tx_mb.getD x.toNatClampNeg 0 &&& 255) (h : ¬ z.toInt = 32) (hx : x.toInt < 125) : wn (x.toInt.toNat + 1) = wn x.toInt.toNat := by
  rw [e] at h; exact wn_s _ (by omega) h
theorem wn_E {x z : Int32} (e : z = tx_mb.getD x.toNatClampNeg 0 &&& 255) (h : z.toInt = 32) (hx : x.toInt < 125) : wn (x.toInt.toNat + 1) = wn x.toInt.toNat + 1 := by
  rw [e] at h; exact wn_e _ (by omega) h
theorem mF_2 {M N : ti_M} {v : Int32} (h : mF Tm M) (hI : mI Tm N) (e : N = uI M 60 2 v) : mF Tm N := by
  obtain ⟨-, hL, h1, h3, h4⟩ := h
  refine ⟨hI, mL_lw (fun _ _ _ => tY_uIE e) hL, gq_I e h1, ?_, ?_⟩
  · rw [tI_nE e (nk (by decide))]; exact fun p => gq_I e (h3 p)
  · rw [tI_nE e (nk (by decide))]; exact fun k hk => gq_I e (h4 k hk)
set_option maxHeartbeats 4000000 in
set_option maxRecDepth 100000 in
theorem s_X10_found_0 (l : Launch) (D : va_G) (A : Nat → Nat → Nat) (cy : Nat → ClassId) (hJ : ti_inj ti_LM A) (M : ti_M) (hI : mI Tm M) (n v : Int32) (h1 : 0 ≤ n.toInt) (h2 : n.toInt ≤ 8) : ti_Ki l yX10_found cX10_found 5 (some .int) 0 ti_LM D A cy M [.ref (A 60 5), .int 0, .int n, .int v] (fun r M2 => M2 = M ∧ -1 ≤ r.toInt ∧ r.toInt ≤ 7) := by
  refine ti_eI yp_X10_found hJ ti_LM_nd (Nat.le_of_ble_eq_true rfl) ?_
  intro p e s m args below meth c Q H0 C hQ hw ls hl
  have hx := C.1
  have hb := C.2.1
  have hl : lv_has ls 5 [(0, .ref (A 60 5)), (1, .int 0), (2, .int n), (3, .int v)] := hl
  refine lv_iconst (v := 0) hx hb dX10_found_0 (by decide) ?_
  refine lv_istore (lv' := [(4, .int 0), (0, .ref (A 60 5)), (1, .int 0), (2, .int n), (3, .int v)]) hx hb dX10_found_1 hl (by decide) rfl (fun ls hl => ?_)
  have hl_3_3 : ∀ (n_4 : Nat) (x_1 : Int32) (H : Heap) (locs : List Loc) (ls : Array Slot), (8 - x_1.toInt : Int).toNat < n_4 → (0 ≤ x_1.toInt) → (x_1.toInt ≤ 8) → ti_H ti_LM D A cy H0 M H locs → lv_has ls 5 [(4, .int x_1), (0, .ref (A 60 5)), (1, .int 0), (2, .int n), (3, .int v)] → W p l e (ti_rm 0) s m args below meth c H locs 0 0 Q (F0 m 3 ls []) := by
    intro n_4
    induction n_4 with
    | zero => intro x_1 H locs ls hf_4; exact absurd hf_4 (Nat.not_lt_zero _)
    | succ n_4 ih_4 =>
      intro x_1 H locs ls hf_4 b_2 b_3 hw hl
      refine lv_iload hx hb dX10_found_3 (lv_at hl 0 rfl) ?_
      refine lv_iload_n hx hb dX10_found_5 rfl (lv_at hl 3 rfl) ?_
      refine sb_icmp_ge (tgt := 28) hx hb rfl rfl dX10_found_6 (by decide) (fun c_6_4 => ?_) (fun c_6_4 => ?_)
      · refine lv_iconst (v := (-1)) hx hb dX10_found_28 (by decide) ?_
        exact hQ _ _ _ _ _ _ hw rfl (⟨rfl, by first | omega | decide, by first | omega | decide⟩) dX10_found_29
      · refine lv_aload_n hx hb dX10_found_9 rfl (lv_at hl 1 rfl) ?_
        refine lv_iload_n hx hb dX10_found_10 rfl (lv_at hl 2 rfl) ?_
        refine lv_iload hx hb dX10_found_11 (lv_at hl 0 rfl) ?_
        refine lv_iadd hx hb dX10_found_13 ?_
        refine lv_topi (fun x_6 ex_6 => ?_)
        have tx_6 : x_6.toInt = 0 + x_1.toInt := i_add ex_6 (by decide : (0 : Int32).toInt = 0) rfl (by omega) (by omega)
        refine ti_iald (ci := 10) (k := 4) (n := 16) C hw ob_60 (by decide) (fun _ _ => rfl) (vp_in_iff.mpr (by omega)) dX10_found_14 ?_
        refine lv_topi (fun x_7 ex_7 => ?_)
        have yx_7 : tY M 60 4 x_6.toNatClampNeg = x_7 := (ex_7.symm)
        refine lv_iload_n hx hb dX10_found_15 rfl (lv_at hl 4 rfl) ?_
        refine sb_icmp_ne (tgt := 22) hx hb rfl rfl dX10_found_16 (by decide) (fun c_16_7 => ?_) (fun c_16_7 => ?_)
        · obtain ⟨x_9, ex_9⟩ : ∃ z : Int32, z = x_1 + 1 := ⟨_, rfl⟩
          have tx_9 : x_9.toInt = x_1.toInt + 1 := i_add ex_9 rfl (by decide) (by omega) (by omega)
          refine lv_iinc (v := x_9) (lv' := [(4, .int x_9), (0, .ref (A 60 5)), (1, .int 0), (2, .int n), (3, .int v)]) hx hb dX10_found_22 hl (k := 0) rfl (by rw [ex_9]; rfl) (by decide) rfl (fun ls hl => ?_)
          refine lv_goto (tgt := 3) hx hb dX10_found_25 (by decide) ?_
          exact ih_4 x_9 _ _ _ (by omega) (by first | omega | decide) (by first | omega | decide) hw (lv_sub hl [0, 1, 2, 3, 4] rfl)
        · refine lv_iload hx hb dX10_found_19 (lv_at hl 0 rfl) ?_
          exact hQ _ _ _ _ _ _ hw rfl (⟨rfl, by first | omega | decide, by first | omega | decide⟩) dX10_found_21
  exact hl_3_3 ((8 - 0 : Int).toNat + 1) 0 _ _ _ (Nat.lt_succ_self _) (by have lt0 : (0 : Int32).toInt = 0 := (by decide); first | omega | decide) (by have lt0 : (0 : Int32).toInt = 0 := (by decide); first | omega | decide) hw (lv_sub hl [0, 1, 2, 3, 4] rfl)
set_option maxHeartbeats 4000000 in
set_option maxRecDepth 100000 in
theorem s_X10_found_8 (l : Launch) (D : va_G) (A : Nat → Nat → Nat) (cy : Nat → ClassId) (hJ : ti_inj ti_LM A) (M : ti_M) (hI : mI Tm M) (n v : Int32) (h1 : 0 ≤ n.toInt) (h2 : n.toInt ≤ 8) : ti_Ki l yX10_found cX10_found 5 (some .int) 0 ti_LM D A cy M [.ref (A 60 5), .int 8, .int n, .int v] (fun r M2 => M2 = M ∧ -1 ≤ r.toInt ∧ r.toInt ≤ 7) := by
  refine ti_eI yp_X10_found hJ ti_LM_nd (Nat.le_of_ble_eq_true rfl) ?_
  intro p e s m args below meth c Q H0 C hQ hw ls hl
  have hx := C.1
  have hb := C.2.1
  have hl : lv_has ls 5 [(0, .ref (A 60 5)), (1, .int 8), (2, .int n), (3, .int v)] := hl
  refine lv_iconst (v := 0) hx hb dX10_found_0 (by decide) ?_
  refine lv_istore (lv' := [(4, .int 0), (0, .ref (A 60 5)), (1, .int 8), (2, .int n), (3, .int v)]) hx hb dX10_found_1 hl (by decide) rfl (fun ls hl => ?_)
  have hl_3_3 : ∀ (n_4 : Nat) (x_1 : Int32) (H : Heap) (locs : List Loc) (ls : Array Slot), (8 - x_1.toInt : Int).toNat < n_4 → (0 ≤ x_1.toInt) → (x_1.toInt ≤ 8) → ti_H ti_LM D A cy H0 M H locs → lv_has ls 5 [(4, .int x_1), (0, .ref (A 60 5)), (1, .int 8), (2, .int n), (3, .int v)] → W p l e (ti_rm 0) s m args below meth c H locs 0 0 Q (F0 m 3 ls []) := by
    intro n_4
    induction n_4 with
    | zero => intro x_1 H locs ls hf_4; exact absurd hf_4 (Nat.not_lt_zero _)
    | succ n_4 ih_4 =>
      intro x_1 H locs ls hf_4 b_2 b_3 hw hl
      refine lv_iload hx hb dX10_found_3 (lv_at hl 0 rfl) ?_
      refine lv_iload_n hx hb dX10_found_5 rfl (lv_at hl 3 rfl) ?_
      refine sb_icmp_ge (tgt := 28) hx hb rfl rfl dX10_found_6 (by decide) (fun c_6_4 => ?_) (fun c_6_4 => ?_)
      · refine lv_iconst (v := (-1)) hx hb dX10_found_28 (by decide) ?_
        exact hQ _ _ _ _ _ _ hw rfl (⟨rfl, by first | omega | decide, by first | omega | decide⟩) dX10_found_29
      · refine lv_aload_n hx hb dX10_found_9 rfl (lv_at hl 1 rfl) ?_
        refine lv_iload_n hx hb dX10_found_10 rfl (lv_at hl 2 rfl) ?_
        refine lv_iload hx hb dX10_found_11 (lv_at hl 0 rfl) ?_
        refine lv_iadd hx hb dX10_found_13 ?_
        refine lv_topi (fun x_6 ex_6 => ?_)
        have tx_6 : x_6.toInt = 8 + x_1.toInt := i_add ex_6 (by decide : (8 : Int32).toInt = 8) rfl (by omega) (by omega)
        refine ti_iald (ci := 10) (k := 4) (n := 16) C hw ob_60 (by decide) (fun _ _ => rfl) (vp_in_iff.mpr (by omega)) dX10_found_14 ?_
        refine lv_topi (fun x_7 ex_7 => ?_)
        have yx_7 : tY M 60 4 x_6.toNatClampNeg = x_7 := (ex_7.symm)
        refine lv_iload_n hx hb dX10_found_15 rfl (lv_at hl 4 rfl) ?_
        refine sb_icmp_ne (tgt := 22) hx hb rfl rfl dX10_found_16 (by decide) (fun c_16_7 => ?_) (fun c_16_7 => ?_)
        · obtain ⟨x_9, ex_9⟩ : ∃ z : Int32, z = x_1 + 1 := ⟨_, rfl⟩
          have tx_9 : x_9.toInt = x_1.toInt + 1 := i_add ex_9 rfl (by decide) (by omega) (by omega)
          refine lv_iinc (v := x_9) (lv' := [(4, .int x_9), (0, .ref (A 60 5)), (1, .int 8), (2, .int n), (3, .int v)]) hx hb dX10_found_22 hl (k := 0) rfl (by rw [ex_9]; rfl) (by decide) rfl (fun ls hl => ?_)
          refine lv_goto (tgt := 3) hx hb dX10_found_25 (by decide) ?_
          exact ih_4 x_9 _ _ _ (by omega) (by first | omega | decide) (by first | omega | decide) hw (lv_sub hl [0, 1, 2, 3, 4] rfl)
        · refine lv_iload hx hb dX10_found_19 (lv_at hl 0 rfl) ?_
          exact hQ _ _ _ _ _ _ hw rfl (⟨rfl, by first | omega | decide, by first | omega | decide⟩) dX10_found_21
  exact hl_3_3 ((8 - 0 : Int).toNat + 1) 0 _ _ _ (Nat.lt_succ_self _) (by have lt0 : (0 : Int32).toInt = 0 := (by decide); first | omega | decide) (by have lt0 : (0 : Int32).toInt = 0 := (by decide); first | omega | decide) hw (lv_sub hl [0, 1, 2, 3, 4] rfl)
set_option maxHeartbeats 4000000 in
set_option maxRecDepth 100000 in
theorem s_X10_named (l : Launch) (D : va_G) (A : Nat → Nat → Nat) (cy : Nat → ClassId) (hJ : ti_inj ti_LM A) (M : ti_M) (hI : mI Tm M) (hF : mF Tm M) (z1 : Int32) : ti_Ki l yX10_named cX10_named 2 (some .int) 1 ti_LM D A cy M [.ref (A 60 0), .int z1] (fun r M2 => mF Tm M2 ∧ tI M2 60 2 = tI M 60 2) := by
  refine ti_eI yp_X10_named hJ ti_LM_nd (Nat.le_of_ble_eq_true rfl) ?_
  intro p e s m args below meth c Q H0 C hQ hw ls hl
  have hx := C.1
  have hb := C.2.1
  have hl : lv_has ls 2 [(0, .ref (A 60 0)), (1, .int z1)] := hl
  have hL : mL M := hF.2.1
  have hC0 : mC M 0 := hF.2.2.1.1
  have hP0 : mP M 0 := hF.2.2.1.2
  refine lv_aload_n hx hb dX10_named_0 rfl (lv_at hl 0 rfl) ?_
  refine lv_iconst (v := 0) hx hb dX10_named_1 (by decide) ?_
  refine ti_putI (ci := 10) (k := 0) (N := 67) (T := TX10) C hw iw_10 tyX10 tyX10_ok nmX10 rfl ob_60 (by decide) (by decide) fl_X10_154 rfl rfl rfl rfl (fn_10 A _) fs_10_0 dX10_named_2 (fun H locs hw => ?_)
  obtain ⟨M_1, hM_1⟩ : ∃ z : ti_M, z = uI M 60 0 0 := ⟨_, rfl⟩
  have hw := hw.to hM_1.symm
  have iM_1 : mI Tm M_1 := mI_uI hI hM_1 (by decide) (by decide) trivial
  refine lv_aload_n hx hb dX10_named_5 rfl (lv_at hl 0 rfl) ?_
  refine ti_get (ci := 10) (k := 4) (N := 67) (T := TX10) (v := .ref (A 60 5)) C hw iw_10 rfl ob_60 (by decide) (by decide) fl_X10_16 rfl rfl dX10_named_6 ?_
  refine lv_iconst (v := 0) hx hb dX10_named_9 (by decide) ?_
  refine lv_aload_n hx hb dX10_named_10 rfl (lv_at hl 0 rfl) ?_
  refine ti_get (ci := 10) (k := 3) (N := 67) (T := TX10) (v := .ref (A 60 4)) C hw iw_10 rfl ob_60 (by decide) (by decide) fl_X10_13 rfl rfl dX10_named_11 ?_
  refine lv_iconst (v := 0) hx hb dX10_named_14 (by decide) ?_
  refine ti_iald (ci := 10) (k := 3) (n := 22) C hw ob_60 (by decide) (fun _ _ => rfl) (by unfold vp_in; decide) dX10_named_15 ?_
  refine lv_topi (fun x_2 ex_2 => ?_)
  have yx_2 : tY M_1 60 3 0 = x_2 := ((congrArg _ (by decide)).symm.trans ex_2.symm)
  have bx_2 : 0 ≤ x_2.toInt ∧ x_2.toInt ≤ 8 := mI_rn (i := 0) iM_1 yx_2.symm (fun _ h => h)
  have zx_2 : (tY M_1 60 3 0).toInt = x_2.toInt := by rw [yx_2]
  have wx_2 : tY M 60 3 0 = x_2 := ((cg (tY_uIE hM_1) 0)).symm.trans yx_2
  have zwx_2 : (tY M 60 3 0).toInt = x_2.toInt := by rw [wx_2]
  refine lv_iload_n hx hb dX10_named_16 rfl (lv_at hl 1 rfl) ?_
  refine ti_callSi (av := [.ref (A 60 5), .int 0, .int x_2, .int z1]) C hw (s_X10_found_0 l D A cy hJ M_1 iM_1 x_2 z1 (by first | omega | decide) (by first | omega | decide)) ⟨ml_X10_220, ys_X10_found, yi_X10_found, yc_X10_found⟩ yd_X10_found rfl hl.1 (Nat.le_of_ble_eq_true rfl) ⟨by decide, by decide⟩ ⟨Nat.zero_le _, Nat.zero_le _⟩ dX10_named_17 (fun r_3 M_4 H locs hp_4 hw => ?_)
  obtain ⟨hm, b0r_3, b1r_3⟩ := hp_4
  have hw := hw.to hm
  exact hQ _ _ _ _ _ _ hw rfl (⟨mF_qw hF iM_1 (qw_I hM_1 (by decide)), (qw_I hM_1 (by decide)).2.1.1⟩) dX10_named_20
def hr (M : ti_M) : Int32 := if (tI M 60 21).toInt < (tI M 60 20).toInt then tY M 60 1 (tI M 60 21).toNatClampNeg else -1
theorem hr_I {M N : ti_M} {k : Nat} {v : Int32} (e : N = uI M 60 k v) (h : k ≠ 20 ∧ k ≠ 21) : hr N = hr M := by unfold hr; rw [tI_nE e (nk (Ne.symm h.1)), tI_nE e (nk (Ne.symm h.2)), tY_uIE e]
set_option maxHeartbeats 4000000 in
set_option maxRecDepth 100000 in
theorem s_X10_here (l : Launch) (D : va_G) (A : Nat → Nat → Nat) (cy : Nat → ClassId) (hJ : ti_inj ti_LM A) (M : ti_M) (hI : mI Tm M)  : ti_Ki l yX10_here cX10_here 1 (some .int) 0 ti_LM D A cy M [.ref (A 60 0)] (fun r M2 => M2 = M ∧ -1 ≤ r.toInt ∧ r.toInt ≤ 255 ∧ (r.toInt = -1 ∨ (tI M 60 21).toInt < (tI M 60 20).toInt) ∧ r = hr M) := by
  refine ti_eI yp_X10_here hJ ti_LM_nd (Nat.le_of_ble_eq_true rfl) ?_
  intro p e s m args below meth c Q H0 C hQ hw ls hl
  have hx := C.1
  have hb := C.2.1
  have hl : lv_has ls 1 [(0, .ref (A 60 0))] := hl
  refine lv_aload_n hx hb dX10_here_0 rfl (lv_at hl 0 rfl) ?_
  refine ti_get (ci := 10) (k := 21) (N := 67) (T := TX10) C hw iw_10 rfl ob_60 (by decide) (by decide) fl_X10_160 rfl rfl dX10_here_1 ?_
  refine lv_topi (fun x_1 ex_1 => ?_)
  have bx_1 : 0 ≤ x_1.toInt ∧ x_1.toInt ≤ 700 := mI_rd hI ex_1
  have ux_1 : (tI M 60 21).toInt = x_1.toInt := by rw [ex_1]
  refine lv_aload_n hx hb dX10_here_4 rfl (lv_at hl 0 rfl) ?_
  refine ti_get (ci := 10) (k := 20) (N := 67) (T := TX10) C hw iw_10 rfl ob_60 (by decide) (by decide) fl_X10_163 rfl rfl dX10_here_5 ?_
  refine lv_topi (fun x_2 ex_2 => ?_)
  have bx_2 : 0 ≤ x_2.toInt ∧ x_2.toInt ≤ 700 := mI_rd hI ex_2
  have ux_2 : (tI M 60 20).toInt = x_2.toInt := by rw [ex_2]
  refine sb_icmp_ge (tgt := 23) hx hb rfl rfl dX10_here_8 (by decide) (fun c_8_2 => ?_) (fun c_8_2 => ?_)
  · refine lv_iconst (v := (-1)) hx hb dX10_here_23 (by decide) ?_
    exact hQ _ _ _ _ _ _ hw rfl (⟨rfl, by decide, by decide, Or.inl (by decide), by unfold hr; rw [if_neg (by omega)]⟩) dX10_here_24
  · refine lv_aload_n hx hb dX10_here_11 rfl (lv_at hl 0 rfl) ?_
    refine ti_get (ci := 10) (k := 1) (N := 67) (T := TX10) (v := .ref (A 60 2)) C hw iw_10 rfl ob_60 (by decide) (by decide) fl_X10_7 rfl rfl dX10_here_12 ?_
    refine lv_aload_n hx hb dX10_here_15 rfl (lv_at hl 0 rfl) ?_
    refine ti_get (ci := 10) (k := 21) (N := 67) (T := TX10) C hw iw_10 rfl ob_60 (by decide) (by decide) fl_X10_160 rfl rfl dX10_here_16 ?_
    refine ti_top (y := x_1) (ex_1.symm) ?_
    have u_4 : (tI M 60 21).toInt = (x_1 : Int32).toInt := by rw [(ex_1.symm)]
    refine ti_iald (ci := 10) (k := 1) (n := 700) C hw ob_60 (by decide) (fun _ _ => rfl) (vp_in_iff.mpr (by omega)) dX10_here_19 ?_
    refine lv_topi (fun x_5 ex_5 => ?_)
    have yx_5 : tY M 60 1 x_1.toNatClampNeg = x_5 := (ex_5.symm)
    have bx_5 : 0 ≤ x_5.toInt ∧ x_5.toInt ≤ 255 := mI_ry (k := 1) (i := x_1.toNatClampNeg) hI yx_5.symm
    refine lv_goto (tgt := 24) hx hb dX10_here_20 (by decide) ?_
    exact hQ _ _ _ _ _ _ hw rfl (⟨rfl, by omega, by omega, Or.inr (by omega), by unfold hr; rw [if_pos (by omega), (ex_1.symm)]; exact yx_5.symm⟩) dX10_here_24
set_option maxHeartbeats 4000000 in
set_option maxRecDepth 100000 in
theorem s_X10_isSmall (l : Launch) (D : va_G) (A : Nat → Nat → Nat) (cy : Nat → ClassId) (hJ : ti_inj ti_LM A) (M : ti_M) (hI : mI Tm M)  (a : Int32) : ti_Ki l yX10_isSmall cX10_isSmall 1 (some .boolean) 0 ti_LM D A cy M [.int a] (fun r M2 => M2 = M ∧ ((r = 1 ∧ 97 ≤ a.toInt ∧ a.toInt ≤ 122) ∨ (r = 0 ∧ (a.toInt < 97 ∨ 122 < a.toInt)))) := by
  refine ti_eI yp_X10_isSmall hJ ti_LM_nd (Nat.le_of_ble_eq_true rfl) ?_
  intro p e s m args below meth c Q H0 C hQ hw ls hl
  have hx := C.1
  have hb := C.2.1
  have hl : lv_has ls 1 [(0, .int a)] := hl
  refine lv_iload_n hx hb dX10_isSmall_0 rfl (lv_at hl 0 rfl) ?_
  refine lv_bipush (v := 97) hx hb dX10_isSmall_1 (by decide) ?_
  refine sb_icmp_lt (tgt := 16) hx hb rfl (by decide : (97 : Int32).toInt = 97) dX10_isSmall_3 (by decide) (fun c_3_0 => ?_) (fun c_3_0 => ?_)
  · refine lv_iconst (v := 0) hx hb dX10_isSmall_16 (by decide) ?_
    exact hQ _ _ _ _ _ _ hw rfl (⟨rfl, Or.inr ⟨rfl, by omega⟩⟩) dX10_isSmall_17
  · refine lv_iload_n hx hb dX10_isSmall_6 rfl (lv_at hl 0 rfl) ?_
    refine lv_bipush (v := 122) hx hb dX10_isSmall_7 (by decide) ?_
    refine sb_icmp_gt (tgt := 16) hx hb rfl (by decide : (122 : Int32).toInt = 122) dX10_isSmall_9 (by decide) (fun c_9_1 => ?_) (fun c_9_1 => ?_)
    · refine lv_iconst (v := 0) hx hb dX10_isSmall_16 (by decide) ?_
      exact hQ _ _ _ _ _ _ hw rfl (⟨rfl, Or.inr ⟨rfl, by omega⟩⟩) dX10_isSmall_17
    · refine lv_iconst (v := 1) hx hb dX10_isSmall_12 (by decide) ?_
      refine lv_goto (tgt := 17) hx hb dX10_isSmall_13 (by decide) ?_
      exact hQ _ _ _ _ _ _ hw rfl (⟨rfl, Or.inl ⟨rfl, by omega, by omega⟩⟩) dX10_isSmall_17
set_option maxHeartbeats 4000000 in
set_option maxRecDepth 100000 in
theorem s_X10_isDigit (l : Launch) (D : va_G) (A : Nat → Nat → Nat) (cy : Nat → ClassId) (hJ : ti_inj ti_LM A) (M : ti_M) (hI : mI Tm M)  (a : Int32) : ti_Ki l yX10_isDigit cX10_isDigit 1 (some .boolean) 0 ti_LM D A cy M [.int a] (fun r M2 => M2 = M ∧ ((r = 1 ∧ 48 ≤ a.toInt ∧ a.toInt ≤ 57) ∨ (r = 0 ∧ (a.toInt < 48 ∨ 57 < a.toInt)))) := by
  refine ti_eI yp_X10_isDigit hJ ti_LM_nd (Nat.le_of_ble_eq_true rfl) ?_
  intro p e s m args below meth c Q H0 C hQ hw ls hl
  have hx := C.1
  have hb := C.2.1
  have hl : lv_has ls 1 [(0, .int a)] := hl
  refine lv_iload_n hx hb dX10_isDigit_0 rfl (lv_at hl 0 rfl) ?_
  refine lv_bipush (v := 48) hx hb dX10_isDigit_1 (by decide) ?_
  refine sb_icmp_lt (tgt := 16) hx hb rfl (by decide : (48 : Int32).toInt = 48) dX10_isDigit_3 (by decide) (fun c_3_0 => ?_) (fun c_3_0 => ?_)
  · refine lv_iconst (v := 0) hx hb dX10_isDigit_16 (by decide) ?_
    exact hQ _ _ _ _ _ _ hw rfl (⟨rfl, Or.inr ⟨rfl, by omega⟩⟩) dX10_isDigit_17
  · refine lv_iload_n hx hb dX10_isDigit_6 rfl (lv_at hl 0 rfl) ?_
    refine lv_bipush (v := 57) hx hb dX10_isDigit_7 (by decide) ?_
    refine sb_icmp_gt (tgt := 16) hx hb rfl (by decide : (57 : Int32).toInt = 57) dX10_isDigit_9 (by decide) (fun c_9_1 => ?_) (fun c_9_1 => ?_)
    · refine lv_iconst (v := 0) hx hb dX10_isDigit_16 (by decide) ?_
      exact hQ _ _ _ _ _ _ hw rfl (⟨rfl, Or.inr ⟨rfl, by omega⟩⟩) dX10_isDigit_17
    · refine lv_iconst (v := 1) hx hb dX10_isDigit_12 (by decide) ?_
      refine lv_goto (tgt := 17) hx hb dX10_isDigit_13 (by decide) ?_
      exact hQ _ _ _ _ _ _ hw rfl (⟨rfl, Or.inl ⟨rfl, by omega, by omega⟩⟩) dX10_isDigit_17
set_option maxHeartbeats 4000000 in
set_option maxRecDepth 100000 in
theorem s_X10_sign (l : Launch) (D : va_G) (A : Nat → Nat → Nat) (cy : Nat → ClassId) (hJ : ti_inj ti_LM A) (M : ti_M) (hI : mI Tm M) (a : Int32) (h1 : 0 ≤ a.toInt) (h2 : a.toInt ≤ 255) (h3 : (tI M 60 21).toInt < (tI M 60 20).toInt) : ti_Kv l yX10_sign cX10_sign 2 1 ti_LM D A cy M [.ref (A 60 0), .int a] (fun M2 => mI Tm M2 ∧ pr 21 24 M2 M ∧ (tI M 60 21).toInt < (tI M2 60 21).toInt) := by
  refine ti_eV yp_X10_sign hJ ti_LM_nd (Nat.le_of_ble_eq_true rfl) ?_
  intro p e s m args below meth c Q H0 C hQ hw ls hl
  have hx := C.1
  have hb := C.2.1
  have hl : lv_has ls 2 [(0, .ref (A 60 0)), (1, .int a)] := hl
  have hz : 0 ≤ (tI M 60 20).toInt ∧ (tI M 60 20).toInt ≤ 700 := hI.1 20
  refine lv_aload_n hx hb dX10_sign_0 rfl (lv_at hl 0 rfl) ?_
  refine lv_dup hx hb dX10_sign_1 rfl ?_
  refine ti_get (ci := 10) (k := 21) (N := 67) (T := TX10) C hw iw_10 rfl ob_60 (by decide) (by decide) fl_X10_160 rfl rfl dX10_sign_2 ?_
  refine lv_topi (fun x_1 ex_1 => ?_)
  have bx_1 : 0 ≤ x_1.toInt ∧ x_1.toInt ≤ 700 := mI_rd hI ex_1
  have ux_1 : (tI M 60 21).toInt = x_1.toInt := by rw [ex_1]
  refine lv_iconst (v := 1) hx hb dX10_sign_5 (by decide) ?_
  refine lv_iadd hx hb dX10_sign_6 ?_
  refine lv_topi (fun x_2 ex_2 => ?_)
  have tx_2 : x_2.toInt = x_1.toInt + 1 := i_add ex_2 rfl (by decide : (1 : Int32).toInt = 1) (by omega) (by omega)
  refine ti_putI (ci := 10) (k := 21) (N := 67) (T := TX10) C hw iw_10 tyX10 tyX10_ok nmX10 rfl ob_60 (by decide) (by decide) fl_X10_160 rfl rfl rfl rfl (fn_10 A _) fs_10_21 dX10_sign_7 (fun H locs hw => ?_)
  obtain ⟨M_3, hM_3⟩ : ∃ z : ti_M, z = uI M 60 21 x_2 := ⟨_, rfl⟩
  have hw := hw.to hM_3.symm
  have iM_3 : mI Tm M_3 := mI_uI hI hM_3 (by decide) (by decide) (ib_mk (lo := 0) (hi := 700) (by omega) (by omega))
  have vM_3 : (tI M_3 60 21).toInt = (x_2 : Int32).toInt := by rw [tI_uE hM_3]
  have v_4 : (tI M_3 60 20).toInt = (tI M 60 20).toInt := by rw [tI_nE hM_3 (nk (by decide))]
  have v_5 : (tI M_3 60 21).toInt = (x_2 : Int32).toInt := by rw [tI_uE hM_3]
  have v_6 : (tI M_3 60 24).toInt = (tI M 60 24).toInt := by rw [tI_nE hM_3 (nk (by decide))]
  refine lv_aload_n hx hb dX10_sign_10 rfl (lv_at hl 0 rfl) ?_
  refine lv_iload_n hx hb dX10_sign_11 rfl (lv_at hl 1 rfl) ?_
  refine lv_bipush (v := 59) hx hb dX10_sign_12 (by decide) ?_
  have hj_76_19 : ∀ (x_17 : Int32) (H : Heap) (locs : List Loc) (ls : Array Slot), (3 ≤ x_17.toInt) → (x_17.toInt ≤ 5) → ti_H ti_LM D A cy H0 M_3 H locs → lv_has ls 2 [(0, .ref (A 60 0)), (1, .int a)] → W p l e (ti_rm 1) s m args below meth c H locs 0 0 Q (F0 m 76 ls [.int x_17, .ref (A 60 0)]) := by
    intro x_17 H locs ls b_18 b_19 hw hl
    refine ti_putI (ci := 10) (k := 23) (N := 67) (T := TX10) C hw iw_10 tyX10 tyX10_ok nmX10 rfl ob_60 (by decide) (by decide) fl_X10_173 rfl rfl rfl rfl (fn_10 A _) fs_10_23 dX10_sign_76 (fun H locs hw => ?_)
    obtain ⟨M_20, hM_20⟩ : ∃ z : ti_M, z = uI M_3 60 23 x_17 := ⟨_, rfl⟩
    have hw := hw.to hM_20.symm
    have iM_20 : mI Tm M_20 := mI_so iM_3 hM_20 (fun h => absurd h (nz0 (by omega)))
    have v_21 : (tI M_20 60 20).toInt = (tI M_3 60 20).toInt := by rw [tI_nE hM_20 (nk (by decide))]
    have v_22 : (tI M_20 60 21).toInt = (tI M_3 60 21).toInt := by rw [tI_nE hM_20 (nk (by decide))]
    have v_23 : (tI M_20 60 24).toInt = (tI M_3 60 24).toInt := by rw [tI_nE hM_20 (nk (by decide))]
    refine lv_aload_n hx hb dX10_sign_79 rfl (lv_at hl 0 rfl) ?_
    refine lv_iload_n hx hb dX10_sign_80 rfl (lv_at hl 1 rfl) ?_
    refine ti_putI (ci := 10) (k := 24) (N := 67) (T := TX10) C hw iw_10 tyX10 tyX10_ok nmX10 rfl ob_60 (by decide) (by decide) fl_X10_183 rfl rfl rfl rfl (fn_10 A _) fs_10_24 dX10_sign_81 (fun H locs hw => ?_)
    obtain ⟨M_24, hM_24⟩ : ∃ z : ti_M, z = uI M_20 60 24 a := ⟨_, rfl⟩
    have hw := hw.to hM_24.symm
    have iM_24 : mI Tm M_24 := mI_va iM_20 hM_24 (fun h => absurd ((tI_uE hM_20).symm.trans h) (nz0 (by omega)))
    have v_25 : (tI M_24 60 20).toInt = (tI M_20 60 20).toInt := by rw [tI_nE hM_24 (nk (by decide))]
    have v_26 : (tI M_24 60 21).toInt = (tI M_20 60 21).toInt := by rw [tI_nE hM_24 (nk (by decide))]
    have v_27 : (tI M_24 60 24).toInt = (a : Int32).toInt := by rw [tI_uE hM_24]
    refine lv_iload_n hx hb dX10_sign_84 rfl (lv_at hl 1 rfl) ?_
    refine lv_bipush (v := 60) hx hb dX10_sign_85 (by decide) ?_
    have hj_106_40 : ∀ (M_36 : ti_M) (H : Heap) (locs : List Loc) (ls : Array Slot), (mI Tm M_36) → (pr 21 24 M_36 M) → (tI M_36 60 23 = x_17) → ((tI M_36 60 24).toInt < 256 ∨ (tI M_36 60 21).toInt < (tI M_36 60 20).toInt) → ((tI M_36 60 21).toInt = (tI M 60 21).toInt + 1) → ti_H ti_LM D A cy H0 M_36 H locs → lv_has ls 2 [(0, .ref (A 60 0)), (1, .int a)] → W p l e (ti_rm 1) s m args below meth c H locs 0 0 Q (F0 m 106 ls []) := by
      intro M_36 H locs ls iM_36 f_37 f_38 j_39 j_40 hw hl
      have v_53 : (tI M_36 60 20).toInt = (tI M 60 20).toInt := by rw [f_37.2 20 (by decide)]
      have v_54 : 0 ≤ (tI M_36 60 21).toInt ∧ (tI M_36 60 21).toInt ≤ 700 := mI_rd (x := tI M_36 60 21) (k := 21) iM_36 rfl
      refine lv_iload_n hx hb dX10_sign_106 rfl (lv_at hl 1 rfl) ?_
      refine lv_bipush (v := 60) hx hb dX10_sign_107 (by decide) ?_
      have hj_128_67 : ∀ (M_63 : ti_M) (H : Heap) (locs : List Loc) (ls : Array Slot), (mI Tm M_63) → (pr 21 24 M_63 M) → (tI M_63 60 23 = x_17) → ((tI M_63 60 24).toInt < 256 ∨ (tI M_63 60 21).toInt < (tI M_63 60 20).toInt) → ((tI M_63 60 21).toInt = (tI M 60 21).toInt + 1) → ti_H ti_LM D A cy H0 M_63 H locs → lv_has ls 2 [(0, .ref (A 60 0)), (1, .int a)] → W p l e (ti_rm 1) s m args below meth c H locs 0 0 Q (F0 m 128 ls []) := by
        intro M_63 H locs ls iM_63 f_64 f_65 j_66 j_67 hw hl
        have v_77 : (tI M_63 60 20).toInt = (tI M 60 20).toInt := by rw [f_64.2 20 (by decide)]
        have v_78 : 0 ≤ (tI M_63 60 21).toInt ∧ (tI M_63 60 21).toInt ≤ 700 := mI_rd (x := tI M_63 60 21) (k := 21) iM_63 rfl
        refine lv_iload_n hx hb dX10_sign_128 rfl (lv_at hl 1 rfl) ?_
        refine lv_bipush (v := 62) hx hb dX10_sign_129 (by decide) ?_
        have hj_150_91 : ∀ (M_87 : ti_M) (H : Heap) (locs : List Loc) (ls : Array Slot), (mI Tm M_87) → (pr 21 24 M_87 M) → (tI M_87 60 23 = x_17) → ((tI M_87 60 24).toInt < 256 ∨ (tI M_87 60 21).toInt < (tI M_87 60 20).toInt) → ((tI M_87 60 21).toInt = (tI M 60 21).toInt + 1) → ti_H ti_LM D A cy H0 M_87 H locs → lv_has ls 2 [(0, .ref (A 60 0)), (1, .int a)] → W p l e (ti_rm 1) s m args below meth c H locs 0 0 Q (F0 m 150 ls []) := by
          intro M_87 H locs ls iM_87 f_88 f_89 j_90 j_91 hw hl
          have v_101 : (tI M_87 60 20).toInt = (tI M 60 20).toInt := by rw [f_88.2 20 (by decide)]
          have v_102 : 0 ≤ (tI M_87 60 21).toInt ∧ (tI M_87 60 21).toInt ≤ 700 := mI_rd (x := tI M_87 60 21) (k := 21) iM_87 rfl
          refine lv_aload_n hx hb dX10_sign_150 rfl (lv_at hl 0 rfl) ?_
          refine ti_get (ci := 10) (k := 24) (N := 67) (T := TX10) C hw iw_10 rfl ob_60 (by decide) (by decide) fl_X10_183 rfl rfl dX10_sign_151 ?_
          refine lv_topi (fun x_103 ex_103 => ?_)
          have u_104 : (tI M_87 60 24).toInt = x_103.toInt := by rw [ex_103]
          refine lv_sipush (v := 256) hx hb dX10_sign_154 (by decide) ?_
          refine sb_icmp_lt (tgt := 170) hx hb rfl (by decide : (256 : Int32).toInt = 256) dX10_sign_157 (by decide) (fun c_157_104 => ?_) (fun c_157_104 => ?_)
          · exact hQ _ _ _ _ _ hw (⟨iM_87, f_88, by omega⟩) dX10_sign_170
          · refine lv_aload_n hx hb dX10_sign_160 rfl (lv_at hl 0 rfl) ?_
            refine lv_dup hx hb dX10_sign_161 rfl ?_
            refine ti_get (ci := 10) (k := 21) (N := 67) (T := TX10) C hw iw_10 rfl ob_60 (by decide) (by decide) fl_X10_160 rfl rfl dX10_sign_162 ?_
            refine lv_topi (fun x_106 ex_106 => ?_)
            have bx_106 : 0 ≤ x_106.toInt ∧ x_106.toInt ≤ 700 := mI_rd iM_87 ex_106
            have ux_106 : (tI M_87 60 21).toInt = x_106.toInt := by rw [ex_106]
            refine lv_iconst (v := 1) hx hb dX10_sign_165 (by decide) ?_
            refine lv_iadd hx hb dX10_sign_166 ?_
            refine lv_topi (fun x_107 ex_107 => ?_)
            have tx_107 : x_107.toInt = x_106.toInt + 1 := i_add ex_107 rfl (by decide : (1 : Int32).toInt = 1) (by omega) (by omega)
            refine ti_putI (ci := 10) (k := 21) (N := 67) (T := TX10) C hw iw_10 tyX10 tyX10_ok nmX10 rfl ob_60 (by decide) (by decide) fl_X10_160 rfl rfl rfl rfl (fn_10 A _) fs_10_21 dX10_sign_167 (fun H locs hw => ?_)
            obtain ⟨M_108, hM_108⟩ : ∃ z : ti_M, z = uI M_87 60 21 x_107 := ⟨_, rfl⟩
            have hw := hw.to hM_108.symm
            have iM_108 : mI Tm M_108 := mI_uI iM_87 hM_108 (by decide) (by decide) (ib_mk (lo := 0) (hi := 700) (by omega) (by omega))
            have vM_108 : (tI M_108 60 21).toInt = (x_107 : Int32).toInt := by rw [tI_uE hM_108]
            have v_109 : (tI M_108 60 20).toInt = (tI M_87 60 20).toInt := by rw [tI_nE hM_108 (nk (by decide))]
            have v_110 : (tI M_108 60 21).toInt = (x_107 : Int32).toInt := by rw [tI_uE hM_108]
            have v_111 : (tI M_108 60 24).toInt = (tI M_87 60 24).toInt := by rw [tI_nE hM_108 (nk (by decide))]
            exact hQ _ _ _ _ _ hw (⟨iM_108, (pr.trans (pr_I hM_108 (by decide)) f_88), by omega⟩) dX10_sign_170
        refine sb_icmp_ne (tgt := 150) hx hb rfl (by decide : (62 : Int32).toInt = 62) dX10_sign_131 (by decide) (fun c_131_78 => ?_) (fun c_131_78 => ?_)
        · have u_92 : 0 ≤ (tI M_63 60 20).toInt ∧ (tI M_63 60 20).toInt ≤ 700 := mI_rd (x := tI M_63 60 20) (k := 20) iM_63 rfl
          have u_93 : 0 ≤ (tI M_63 60 21).toInt ∧ (tI M_63 60 21).toInt ≤ 700 := mI_rd (x := tI M_63 60 21) (k := 21) iM_63 rfl
          exact hj_150_91 M_63 _ _ _ iM_63 f_64 (f_65) (by first | omega | decide) (by first | omega | decide) hw (lv_sub hl [0, 1] rfl)
        · refine lv_aload_n hx hb dX10_sign_134 rfl (lv_at hl 0 rfl) ?_
          refine ti_callVi (ci := 10) (av := []) C hw (s_X10_here l D A cy hJ M_63 iM_63 ) ⟨ml_X10_166, ym_X10_here, yv_X10_here, yi_X10_here, yc_X10_here⟩ yd_X10_here ob_60 (by decide) rfl rfl hl.1 (Nat.le_of_ble_eq_true rfl) ⟨by decide, by decide⟩ ⟨Nat.zero_le _, Nat.zero_le _⟩ dX10_sign_135 (fun r_80 M_81 H locs hp_81 hw => ?_)
          obtain ⟨hm, b0r_80, b1r_80, p0r_80, p1r_80⟩ := hp_81
          have hw := hw.to hm
          have hhr_80 : (hr M_63).toInt = r_80.toInt := by rw [← p1r_80]
          refine lv_bipush (v := 61) hx hb dX10_sign_138 (by decide) ?_
          refine sb_icmp_ne (tgt := 150) hx hb rfl (by decide : (61 : Int32).toInt = 61) dX10_sign_140 (by decide) (fun c_140_81 => ?_) (fun c_140_81 => ?_)
          · have u_94 : 0 ≤ (tI M_63 60 20).toInt ∧ (tI M_63 60 20).toInt ≤ 700 := mI_rd (x := tI M_63 60 20) (k := 20) iM_63 rfl
            have u_95 : 0 ≤ (tI M_63 60 21).toInt ∧ (tI M_63 60 21).toInt ≤ 700 := mI_rd (x := tI M_63 60 21) (k := 21) iM_63 rfl
            exact hj_150_91 M_63 _ _ _ iM_63 f_64 (f_65) (by first | omega | decide) (by first | omega | decide) hw (lv_sub hl [0, 1] rfl)
          · refine lv_aload_n hx hb dX10_sign_143 rfl (lv_at hl 0 rfl) ?_
            refine lv_sipush (v := 258) hx hb dX10_sign_144 (by decide) ?_
            refine ti_putI (ci := 10) (k := 24) (N := 67) (T := TX10) C hw iw_10 tyX10 tyX10_ok nmX10 rfl ob_60 (by decide) (by decide) fl_X10_183 rfl rfl rfl rfl (fn_10 A _) fs_10_24 dX10_sign_147 (fun H locs hw => ?_)
            obtain ⟨M_83, hM_83⟩ : ∃ z : ti_M, z = uI M_63 60 24 258 := ⟨_, rfl⟩
            have hw := hw.to hM_83.symm
            have iM_83 : mI Tm M_83 := mI_va iM_63 hM_83 (fun h => absurd ((f_65).symm.trans h) (nz0 (by omega)))
            have v_84 : (tI M_83 60 20).toInt = (tI M_63 60 20).toInt := by rw [tI_nE hM_83 (nk (by decide))]
            have v_85 : (tI M_83 60 21).toInt = (tI M_63 60 21).toInt := by rw [tI_nE hM_83 (nk (by decide))]
            have v_86 : (tI M_83 60 24).toInt = 258 := by rw [tI_uE hM_83]; decide
            have u_96 : (tI M_83 60 20).toInt = (tI M_63 60 20).toInt := by rw [(tI_nE hM_83 (nk (by decide)))]
            have u_97 : 0 ≤ (tI M_83 60 20).toInt ∧ (tI M_83 60 20).toInt ≤ 700 := mI_rd (x := tI M_83 60 20) (k := 20) iM_83 rfl
            have u_98 : (tI M_83 60 21).toInt = (tI M_63 60 21).toInt := by rw [(tI_nE hM_83 (nk (by decide)))]
            have u_99 : 0 ≤ (tI M_83 60 21).toInt ∧ (tI M_83 60 21).toInt ≤ 700 := mI_rd (x := tI M_83 60 21) (k := 21) iM_83 rfl
            have u_100 : (tI M_83 60 24).toInt = (258 : Int32).toInt := by rw [(tI_uE hM_83)]
            exact hj_150_91 M_83 _ _ _ iM_83 (pr.trans (pr_I hM_83 (by decide)) f_64) ((tI_nE hM_83 (nk (by decide))).trans f_65) (by first | omega | decide) (by first | omega | decide) hw (lv_sub hl [0, 1] rfl)
      refine sb_icmp_ne (tgt := 128) hx hb rfl (by decide : (60 : Int32).toInt = 60) dX10_sign_109 (by decide) (fun c_109_54 => ?_) (fun c_109_54 => ?_)
      · have u_68 : 0 ≤ (tI M_36 60 20).toInt ∧ (tI M_36 60 20).toInt ≤ 700 := mI_rd (x := tI M_36 60 20) (k := 20) iM_36 rfl
        have u_69 : 0 ≤ (tI M_36 60 21).toInt ∧ (tI M_36 60 21).toInt ≤ 700 := mI_rd (x := tI M_36 60 21) (k := 21) iM_36 rfl
        exact hj_128_67 M_36 _ _ _ iM_36 f_37 (f_38) (by first | omega | decide) (by first | omega | decide) hw (lv_sub hl [0, 1] rfl)
      · refine lv_aload_n hx hb dX10_sign_112 rfl (lv_at hl 0 rfl) ?_
        refine ti_callVi (ci := 10) (av := []) C hw (s_X10_here l D A cy hJ M_36 iM_36 ) ⟨ml_X10_166, ym_X10_here, yv_X10_here, yi_X10_here, yc_X10_here⟩ yd_X10_here ob_60 (by decide) rfl rfl hl.1 (Nat.le_of_ble_eq_true rfl) ⟨by decide, by decide⟩ ⟨Nat.zero_le _, Nat.zero_le _⟩ dX10_sign_113 (fun r_56 M_57 H locs hp_57 hw => ?_)
        obtain ⟨hm, b0r_56, b1r_56, p0r_56, p1r_56⟩ := hp_57
        have hw := hw.to hm
        have hhr_56 : (hr M_36).toInt = r_56.toInt := by rw [← p1r_56]
        refine lv_bipush (v := 62) hx hb dX10_sign_116 (by decide) ?_
        refine sb_icmp_ne (tgt := 128) hx hb rfl (by decide : (62 : Int32).toInt = 62) dX10_sign_118 (by decide) (fun c_118_57 => ?_) (fun c_118_57 => ?_)
        · have u_70 : 0 ≤ (tI M_36 60 20).toInt ∧ (tI M_36 60 20).toInt ≤ 700 := mI_rd (x := tI M_36 60 20) (k := 20) iM_36 rfl
          have u_71 : 0 ≤ (tI M_36 60 21).toInt ∧ (tI M_36 60 21).toInt ≤ 700 := mI_rd (x := tI M_36 60 21) (k := 21) iM_36 rfl
          exact hj_128_67 M_36 _ _ _ iM_36 f_37 (f_38) (by first | omega | decide) (by first | omega | decide) hw (lv_sub hl [0, 1] rfl)
        · refine lv_aload_n hx hb dX10_sign_121 rfl (lv_at hl 0 rfl) ?_
          refine lv_sipush (v := 257) hx hb dX10_sign_122 (by decide) ?_
          refine ti_putI (ci := 10) (k := 24) (N := 67) (T := TX10) C hw iw_10 tyX10 tyX10_ok nmX10 rfl ob_60 (by decide) (by decide) fl_X10_183 rfl rfl rfl rfl (fn_10 A _) fs_10_24 dX10_sign_125 (fun H locs hw => ?_)
          obtain ⟨M_59, hM_59⟩ : ∃ z : ti_M, z = uI M_36 60 24 257 := ⟨_, rfl⟩
          have hw := hw.to hM_59.symm
          have iM_59 : mI Tm M_59 := mI_va iM_36 hM_59 (fun h => absurd ((f_38).symm.trans h) (nz0 (by omega)))
          have v_60 : (tI M_59 60 20).toInt = (tI M_36 60 20).toInt := by rw [tI_nE hM_59 (nk (by decide))]
          have v_61 : (tI M_59 60 21).toInt = (tI M_36 60 21).toInt := by rw [tI_nE hM_59 (nk (by decide))]
          have v_62 : (tI M_59 60 24).toInt = 257 := by rw [tI_uE hM_59]; decide
          have u_72 : (tI M_59 60 20).toInt = (tI M_36 60 20).toInt := by rw [(tI_nE hM_59 (nk (by decide)))]
          have u_73 : 0 ≤ (tI M_59 60 20).toInt ∧ (tI M_59 60 20).toInt ≤ 700 := mI_rd (x := tI M_59 60 20) (k := 20) iM_59 rfl
          have u_74 : (tI M_59 60 21).toInt = (tI M_36 60 21).toInt := by rw [(tI_nE hM_59 (nk (by decide)))]
          have u_75 : 0 ≤ (tI M_59 60 21).toInt ∧ (tI M_59 60 21).toInt ≤ 700 := mI_rd (x := tI M_59 60 21) (k := 21) iM_59 rfl
          have u_76 : (tI M_59 60 24).toInt = (257 : Int32).toInt := by rw [(tI_uE hM_59)]
          exact hj_128_67 M_59 _ _ _ iM_59 (pr.trans (pr_I hM_59 (by decide)) f_37) ((tI_nE hM_59 (nk (by decide))).trans f_38) (by first | omega | decide) (by first | omega | decide) hw (lv_sub hl [0, 1] rfl)
    refine sb_icmp_ne (tgt := 106) hx hb rfl (by decide : (60 : Int32).toInt = 60) dX10_sign_87 (by decide) (fun c_87_27 => ?_) (fun c_87_27 => ?_)
    · have u_41 : (tI M_24 60 20).toInt = (tI M 60 20).toInt := by rw [((tI_nE hM_24 (nk (by decide))).trans ((tI_nE hM_20 (nk (by decide))).trans (tI_nE hM_3 (nk (by decide)))))]
      have u_42 : 0 ≤ (tI M_24 60 20).toInt ∧ (tI M_24 60 20).toInt ≤ 700 := mI_rd (x := tI M_24 60 20) (k := 20) iM_24 rfl
      have u_43 : (tI M_24 60 21).toInt = (x_2 : Int32).toInt := by rw [((tI_nE hM_24 (nk (by decide))).trans ((tI_nE hM_20 (nk (by decide))).trans (tI_uE hM_3)))]
      have u_44 : (tI M_24 60 24).toInt = (a : Int32).toInt := by rw [(tI_uE hM_24)]
      exact hj_106_40 M_24 _ _ _ iM_24 (pr.trans (pr_I hM_24 (by decide)) (pr.trans (pr_I hM_20 (by decide)) (pr_I hM_3 (by decide)))) ((tI_nE hM_24 (nk (by decide))).trans (tI_uE hM_20)) (by first | omega | decide) (by first | omega | decide) hw (lv_sub hl [0, 1] rfl)
    · refine lv_aload_n hx hb dX10_sign_90 rfl (lv_at hl 0 rfl) ?_
      refine ti_callVi (ci := 10) (av := []) C hw (s_X10_here l D A cy hJ M_24 iM_24 ) ⟨ml_X10_166, ym_X10_here, yv_X10_here, yi_X10_here, yc_X10_here⟩ yd_X10_here ob_60 (by decide) rfl rfl hl.1 (Nat.le_of_ble_eq_true rfl) ⟨by decide, by decide⟩ ⟨Nat.zero_le _, Nat.zero_le _⟩ dX10_sign_91 (fun r_29 M_30 H locs hp_30 hw => ?_)
      obtain ⟨hm, b0r_29, b1r_29, p0r_29, p1r_29⟩ := hp_30
      have hw := hw.to hm
      have hhr_29 : (hr M_24).toInt = r_29.toInt := by rw [← p1r_29]
      refine lv_bipush (v := 61) hx hb dX10_sign_94 (by decide) ?_
      refine sb_icmp_ne (tgt := 106) hx hb rfl (by decide : (61 : Int32).toInt = 61) dX10_sign_96 (by decide) (fun c_96_30 => ?_) (fun c_96_30 => ?_)
      · have u_45 : (tI M_24 60 20).toInt = (tI M 60 20).toInt := by rw [((tI_nE hM_24 (nk (by decide))).trans ((tI_nE hM_20 (nk (by decide))).trans (tI_nE hM_3 (nk (by decide)))))]
        have u_46 : 0 ≤ (tI M_24 60 20).toInt ∧ (tI M_24 60 20).toInt ≤ 700 := mI_rd (x := tI M_24 60 20) (k := 20) iM_24 rfl
        have u_47 : (tI M_24 60 21).toInt = (x_2 : Int32).toInt := by rw [((tI_nE hM_24 (nk (by decide))).trans ((tI_nE hM_20 (nk (by decide))).trans (tI_uE hM_3)))]
        have u_48 : (tI M_24 60 24).toInt = (a : Int32).toInt := by rw [(tI_uE hM_24)]
        exact hj_106_40 M_24 _ _ _ iM_24 (pr.trans (pr_I hM_24 (by decide)) (pr.trans (pr_I hM_20 (by decide)) (pr_I hM_3 (by decide)))) ((tI_nE hM_24 (nk (by decide))).trans (tI_uE hM_20)) (by first | omega | decide) (by first | omega | decide) hw (lv_sub hl [0, 1] rfl)
      · refine lv_aload_n hx hb dX10_sign_99 rfl (lv_at hl 0 rfl) ?_
        refine lv_sipush (v := 256) hx hb dX10_sign_100 (by decide) ?_
        refine ti_putI (ci := 10) (k := 24) (N := 67) (T := TX10) C hw iw_10 tyX10 tyX10_ok nmX10 rfl ob_60 (by decide) (by decide) fl_X10_183 rfl rfl rfl rfl (fn_10 A _) fs_10_24 dX10_sign_103 (fun H locs hw => ?_)
        obtain ⟨M_32, hM_32⟩ : ∃ z : ti_M, z = uI M_24 60 24 256 := ⟨_, rfl⟩
        have hw := hw.to hM_32.symm
        have iM_32 : mI Tm M_32 := mI_va iM_24 hM_32 (fun h => absurd (((tI_nE hM_24 (nk (by decide))).trans (tI_uE hM_20)).symm.trans h) (nz0 (by omega)))
        have v_33 : (tI M_32 60 20).toInt = (tI M_24 60 20).toInt := by rw [tI_nE hM_32 (nk (by decide))]
        have v_34 : (tI M_32 60 21).toInt = (tI M_24 60 21).toInt := by rw [tI_nE hM_32 (nk (by decide))]
        have v_35 : (tI M_32 60 24).toInt = 256 := by rw [tI_uE hM_32]; decide
        have u_49 : (tI M_32 60 20).toInt = (tI M 60 20).toInt := by rw [((tI_nE hM_32 (nk (by decide))).trans ((tI_nE hM_24 (nk (by decide))).trans ((tI_nE hM_20 (nk (by decide))).trans (tI_nE hM_3 (nk (by decide))))))]
        have u_50 : 0 ≤ (tI M_32 60 20).toInt ∧ (tI M_32 60 20).toInt ≤ 700 := mI_rd (x := tI M_32 60 20) (k := 20) iM_32 rfl
        have u_51 : (tI M_32 60 21).toInt = (x_2 : Int32).toInt := by rw [((tI_nE hM_32 (nk (by decide))).trans ((tI_nE hM_24 (nk (by decide))).trans ((tI_nE hM_20 (nk (by decide))).trans (tI_uE hM_3))))]
        have u_52 : (tI M_32 60 24).toInt = (256 : Int32).toInt := by rw [(tI_uE hM_32)]
        exact hj_106_40 M_32 _ _ _ iM_32 (pr.trans (pr_I hM_32 (by decide)) (pr.trans (pr_I hM_24 (by decide)) (pr.trans (pr_I hM_20 (by decide)) (pr_I hM_3 (by decide))))) ((tI_nE hM_32 (nk (by decide))).trans ((tI_nE hM_24 (nk (by decide))).trans (tI_uE hM_20))) (by first | omega | decide) (by first | omega | decide) hw (lv_sub hl [0, 1] rfl)
  have hj_71_16 : ∀  (H : Heap) (locs : List Loc) (ls : Array Slot), ti_H ti_LM D A cy H0 M_3 H locs → lv_has ls 2 [(0, .ref (A 60 0)), (1, .int a)] → W p l e (ti_rm 1) s m args below meth c H locs 0 0 Q (F0 m 71 ls [.ref (A 60 0)]) := by
    intro  H locs ls  hw hl
    refine lv_iconst (v := 3) hx hb dX10_sign_71 (by decide) ?_
    refine lv_goto (tgt := 76) hx hb dX10_sign_72 (by decide) ?_
    exact hj_76_19 3 _ _ _ (by have lt0 : (3 : Int32).toInt = 3 := (by decide); first | omega | decide) (by have lt0 : (3 : Int32).toInt = 3 := (by decide); first | omega | decide) hw (lv_sub hl [0, 1] rfl)
  refine sb_icmp_eq (tgt := 71) hx hb rfl (by decide : (59 : Int32).toInt = 59) dX10_sign_14 (by decide) (fun c_14_6 => ?_) (fun c_14_6 => ?_)
  · exact hj_71_16  _ _ _  hw (lv_sub hl [0, 1] rfl)
  · refine lv_iload_n hx hb dX10_sign_17 rfl (lv_at hl 1 rfl) ?_
    refine lv_bipush (v := 40) hx hb dX10_sign_18 (by decide) ?_
    refine sb_icmp_eq (tgt := 71) hx hb rfl (by decide : (40 : Int32).toInt = 40) dX10_sign_20 (by decide) (fun c_20_7 => ?_) (fun c_20_7 => ?_)
    · exact hj_71_16  _ _ _  hw (lv_sub hl [0, 1] rfl)
    · refine lv_iload_n hx hb dX10_sign_23 rfl (lv_at hl 1 rfl) ?_
      refine lv_bipush (v := 41) hx hb dX10_sign_24 (by decide) ?_
      refine sb_icmp_eq (tgt := 71) hx hb rfl (by decide : (41 : Int32).toInt = 41) dX10_sign_26 (by decide) (fun c_26_8 => ?_) (fun c_26_8 => ?_)
      · exact hj_71_16  _ _ _  hw (lv_sub hl [0, 1] rfl)
      · refine lv_iload_n hx hb dX10_sign_29 rfl (lv_at hl 1 rfl) ?_
        refine lv_bipush (v := 43) hx hb dX10_sign_30 (by decide) ?_
        refine sb_icmp_eq (tgt := 71) hx hb rfl (by decide : (43 : Int32).toInt = 43) dX10_sign_32 (by decide) (fun c_32_9 => ?_) (fun c_32_9 => ?_)
        · exact hj_71_16  _ _ _  hw (lv_sub hl [0, 1] rfl)
        · refine lv_iload_n hx hb dX10_sign_35 rfl (lv_at hl 1 rfl) ?_
          refine lv_bipush (v := 45) hx hb dX10_sign_36 (by decide) ?_
          refine sb_icmp_eq (tgt := 71) hx hb rfl (by decide : (45 : Int32).toInt = 45) dX10_sign_38 (by decide) (fun c_38_10 => ?_) (fun c_38_10 => ?_)
          · exact hj_71_16  _ _ _  hw (lv_sub hl [0, 1] rfl)
          · refine lv_iload_n hx hb dX10_sign_41 rfl (lv_at hl 1 rfl) ?_
            refine lv_bipush (v := 42) hx hb dX10_sign_42 (by decide) ?_
            refine sb_icmp_eq (tgt := 71) hx hb rfl (by decide : (42 : Int32).toInt = 42) dX10_sign_44 (by decide) (fun c_44_11 => ?_) (fun c_44_11 => ?_)
            · exact hj_71_16  _ _ _  hw (lv_sub hl [0, 1] rfl)
            · refine lv_iload_n hx hb dX10_sign_47 rfl (lv_at hl 1 rfl) ?_
              refine lv_bipush (v := 47) hx hb dX10_sign_48 (by decide) ?_
              refine sb_icmp_eq (tgt := 71) hx hb rfl (by decide : (47 : Int32).toInt = 47) dX10_sign_50 (by decide) (fun c_50_12 => ?_) (fun c_50_12 => ?_)
              · exact hj_71_16  _ _ _  hw (lv_sub hl [0, 1] rfl)
              · refine lv_iload_n hx hb dX10_sign_53 rfl (lv_at hl 1 rfl) ?_
                refine lv_bipush (v := 60) hx hb dX10_sign_54 (by decide) ?_
                refine sb_icmp_eq (tgt := 71) hx hb rfl (by decide : (60 : Int32).toInt = 60) dX10_sign_56 (by decide) (fun c_56_13 => ?_) (fun c_56_13 => ?_)
                · exact hj_71_16  _ _ _  hw (lv_sub hl [0, 1] rfl)
                · refine lv_iload_n hx hb dX10_sign_59 rfl (lv_at hl 1 rfl) ?_
                  refine lv_bipush (v := 61) hx hb dX10_sign_60 (by decide) ?_
                  refine sb_icmp_eq (tgt := 71) hx hb rfl (by decide : (61 : Int32).toInt = 61) dX10_sign_62 (by decide) (fun c_62_14 => ?_) (fun c_62_14 => ?_)
                  · exact hj_71_16  _ _ _  hw (lv_sub hl [0, 1] rfl)
                  · refine lv_iload_n hx hb dX10_sign_65 rfl (lv_at hl 1 rfl) ?_
                    refine lv_bipush (v := 62) hx hb dX10_sign_66 (by decide) ?_
                    refine sb_icmp_ne (tgt := 75) hx hb rfl (by decide : (62 : Int32).toInt = 62) dX10_sign_68 (by decide) (fun c_68_15 => ?_) (fun c_68_15 => ?_)
                    · refine lv_iconst (v := 5) hx hb dX10_sign_75 (by decide) ?_
                      exact hj_76_19 5 _ _ _ (by have lt0 : (5 : Int32).toInt = 5 := (by decide); first | omega | decide) (by have lt0 : (5 : Int32).toInt = 5 := (by decide); first | omega | decide) hw (lv_sub hl [0, 1] rfl)
                    · exact hj_71_16  _ _ _  hw (lv_sub hl [0, 1] rfl)
set_option maxHeartbeats 4000000 in
set_option maxRecDepth 100000 in
theorem s_X10_name (l : Launch) (D : va_G) (A : Nat → Nat → Nat) (cy : Nat → ClassId) (hJ : ti_inj ti_LM A) (M : ti_M) (hI : mI Tm M) (hs : tI M 60 23 = 1) : ti_Kv l yX10_name cX10_name 2 0 ti_LM D A cy M [.ref (A 60 0)] (fun M2 => mI Tm M2 ∧ pr 24 24 M2 M) := by
  refine ti_eV yp_X10_name hJ ti_LM_nd (Nat.le_of_ble_eq_true rfl) ?_
  intro p e s m args below meth c Q H0 C hQ hw ls hl
  have hx := C.1
  have hb := C.2.1
  have hl : lv_has ls 2 [(0, .ref (A 60 0))] := hl
  refine lv_aload_n hx hb dX10_name_0 rfl (lv_at hl 0 rfl) ?_
  refine lv_iconst (v := 0) hx hb dX10_name_1 (by decide) ?_
  refine ti_putI (ci := 10) (k := 24) (N := 67) (T := TX10) C hw iw_10 tyX10 tyX10_ok nmX10 rfl ob_60 (by decide) (by decide) fl_X10_183 rfl rfl rfl rfl (fn_10 A _) fs_10_24 dX10_name_2 (fun H locs hw => ?_)
  obtain ⟨M_1, hM_1⟩ : ∃ z : ti_M, z = uI M 60 24 0 := ⟨_, rfl⟩
  have hw := hw.to hM_1.symm
  have iM_1 : mI Tm M_1 := mI_va hI hM_1 (fun h => absurd ((hs).symm.trans h) (by decide))
  refine lv_iconst (v := 0) hx hb dX10_name_5 (by decide) ?_
  refine lv_istore_n (lv' := [(1, .int 0), (0, .ref (A 60 0))]) hx hb dX10_name_6 rfl hl (by decide) rfl (fun ls hl => ?_)
  have hl_7_7 : ∀ (n_8 : Nat) (x_2 : Int32) (M_5 : ti_M) (H : Heap) (locs : List Loc) (ls : Array Slot), (6 - x_2.toInt : Int).toNat < n_8 → (0 ≤ x_2.toInt) → (x_2.toInt ≤ 6) → (mI Tm M_5) → (pr 24 24 M_5 M) → (tI M_5 60 23 = 1) → ti_H ti_LM D A cy H0 M_5 H locs → lv_has ls 2 [(1, .int x_2), (0, .ref (A 60 0))] → W p l e (ti_rm 0) s m args below meth c H locs 0 0 Q (F0 m 7 ls []) := by
    intro n_8
    induction n_8 with
    | zero => intro x_2 M_5 H locs ls hf_8; exact absurd hf_8 (Nat.not_lt_zero _)
    | succ n_8 ih_8 =>
      intro x_2 M_5 H locs ls hf_8 b_3 b_4 iM_5 f_6 f_7 hw hl
      refine lv_iload_n hx hb dX10_name_7 rfl (lv_at hl 0 rfl) ?_
      refine lv_bipush (v := 6) hx hb dX10_name_8 (by decide) ?_
      refine sb_icmp_ge (tgt := 63) hx hb rfl (by decide : (6 : Int32).toInt = 6) dX10_name_10 (by decide) (fun c_10_8 => ?_) (fun c_10_8 => ?_)
      · exact hQ _ _ _ _ _ hw (⟨iM_5, f_6⟩) dX10_name_63
      · refine lv_aload_n hx hb dX10_name_13 rfl (lv_at hl 1 rfl) ?_
        refine lv_aload_n hx hb dX10_name_14 rfl (lv_at hl 1 rfl) ?_
        refine ti_get (ci := 10) (k := 24) (N := 67) (T := TX10) C hw iw_10 rfl ob_60 (by decide) (by decide) fl_X10_183 rfl rfl dX10_name_15 ?_
        refine lv_topi (fun x_10 ex_10 => ?_)
        refine lv_iconst (v := 5) hx hb dX10_name_18 (by decide) ?_
        refine lv_ishl hx hb dX10_name_19 ?_
        refine lv_topi (fun x_11 ex_11 => ?_)
        refine lv_aload_n hx hb dX10_name_20 rfl (lv_at hl 1 rfl) ?_
        refine ti_get (ci := 10) (k := 22) (N := 67) (T := TX10) C hw iw_10 rfl ob_60 (by decide) (by decide) fl_X10_170 rfl rfl dX10_name_21 ?_
        refine lv_topi (fun x_12 ex_12 => ?_)
        have bx_12 : 0 ≤ x_12.toInt ∧ x_12.toInt ≤ 700 := mI_rd iM_5 ex_12
        have ux_12 : (tI M_5 60 22).toInt = x_12.toInt := by rw [ex_12]
        refine lv_iload_n hx hb dX10_name_24 rfl (lv_at hl 0 rfl) ?_
        refine lv_iadd hx hb dX10_name_25 ?_
        refine lv_topi (fun x_13 ex_13 => ?_)
        have tx_13 : x_13.toInt = x_12.toInt + x_2.toInt := i_add ex_13 rfl rfl (by omega) (by omega)
        refine lv_aload_n hx hb dX10_name_26 rfl (lv_at hl 1 rfl) ?_
        refine ti_get (ci := 10) (k := 21) (N := 67) (T := TX10) C hw iw_10 rfl ob_60 (by decide) (by decide) fl_X10_160 rfl rfl dX10_name_27 ?_
        refine lv_topi (fun x_14 ex_14 => ?_)
        have bx_14 : 0 ≤ x_14.toInt ∧ x_14.toInt ≤ 700 := mI_rd iM_5 ex_14
        have ux_14 : (tI M_5 60 21).toInt = x_14.toInt := by rw [ex_14]
        have hj_53_23 : ∀ (x_21 : Int32) (H : Heap) (locs : List Loc) (ls : Array Slot), ((-96) ≤ x_21.toInt) → (x_21.toInt ≤ 159) → ti_H ti_LM D A cy H0 M_5 H locs → lv_has ls 2 [(1, .int x_2), (0, .ref (A 60 0))] → W p l e (ti_rm 0) s m args below meth c H locs 0 0 Q (F0 m 53 ls [.int x_21, .int x_11, .ref (A 60 0)]) := by
          intro x_21 H locs ls b_22 b_23 hw hl
          refine lv_ior hx hb dX10_name_53 ?_
          refine lv_topi (fun x_24 ex_24 => ?_)
          refine ti_putI (ci := 10) (k := 24) (N := 67) (T := TX10) C hw iw_10 tyX10 tyX10_ok nmX10 rfl ob_60 (by decide) (by decide) fl_X10_183 rfl rfl rfl rfl (fn_10 A _) fs_10_24 dX10_name_54 (fun H locs hw => ?_)
          obtain ⟨M_25, hM_25⟩ : ∃ z : ti_M, z = uI M_5 60 24 x_24 := ⟨_, rfl⟩
          have hw := hw.to hM_25.symm
          have iM_25 : mI Tm M_25 := mI_va iM_5 hM_25 (fun h => absurd ((f_7).symm.trans h) (by decide))
          obtain ⟨x_26, ex_26⟩ : ∃ z : Int32, z = x_2 + 1 := ⟨_, rfl⟩
          have tx_26 : x_26.toInt = x_2.toInt + 1 := i_add ex_26 rfl (by decide) (by omega) (by omega)
          refine lv_iinc (v := x_26) (lv' := [(1, .int x_26), (0, .ref (A 60 0))]) hx hb dX10_name_57 hl (k := 0) rfl (by rw [ex_26]; rfl) (by decide) rfl (fun ls hl => ?_)
          refine lv_goto (tgt := 7) hx hb dX10_name_60 (by decide) ?_
          exact ih_8 x_26 M_25 _ _ _ (by omega) (by first | omega | decide) (by first | omega | decide) iM_25 (pr.trans (pr_I hM_25 (by decide)) f_6) ((tI_nE hM_25 (nk (by decide))).trans f_7) hw (lv_sub hl [0, 1] rfl)
        refine sb_icmp_ge (tgt := 52) hx hb rfl rfl dX10_name_30 (by decide) (fun c_30_14 => ?_) (fun c_30_14 => ?_)
        · refine lv_iconst (v := 0) hx hb dX10_name_52 (by decide) ?_
          exact hj_53_23 0 _ _ _ (by have lt0 : (0 : Int32).toInt = 0 := (by decide); first | omega | decide) (by have lt0 : (0 : Int32).toInt = 0 := (by decide); first | omega | decide) hw (lv_sub hl [0, 1] rfl)
        · refine lv_aload_n hx hb dX10_name_33 rfl (lv_at hl 1 rfl) ?_
          refine ti_get (ci := 10) (k := 1) (N := 67) (T := TX10) (v := .ref (A 60 2)) C hw iw_10 rfl ob_60 (by decide) (by decide) fl_X10_7 rfl rfl dX10_name_34 ?_
          refine lv_aload_n hx hb dX10_name_37 rfl (lv_at hl 1 rfl) ?_
          refine ti_get (ci := 10) (k := 22) (N := 67) (T := TX10) C hw iw_10 rfl ob_60 (by decide) (by decide) fl_X10_170 rfl rfl dX10_name_38 ?_
          refine ti_top (y := x_12) (ex_12.symm) ?_
          have u_16 : (tI M_5 60 22).toInt = (x_12 : Int32).toInt := by rw [(ex_12.symm)]
          refine lv_iload_n hx hb dX10_name_41 rfl (lv_at hl 0 rfl) ?_
          refine lv_iadd hx hb dX10_name_42 ?_
          refine lv_topi (fun x_17 ex_17 => ?_)
          have tx_17 : x_17.toInt = x_12.toInt + x_2.toInt := i_add ex_17 rfl rfl (by omega) (by omega)
          refine ti_iald (ci := 10) (k := 1) (n := 700) C hw ob_60 (by decide) (fun _ _ => rfl) (vp_in_iff.mpr (by omega)) dX10_name_43 ?_
          refine lv_topi (fun x_18 ex_18 => ?_)
          have yx_18 : tY M_5 60 1 x_17.toNatClampNeg = x_18 := (ex_18.symm)
          have bx_18 : 0 ≤ x_18.toInt ∧ x_18.toInt ≤ 255 := mI_ry (k := 1) (i := x_17.toNatClampNeg) iM_5 yx_18.symm
          have wx_18 : tY M 60 1 x_17.toNatClampNeg = x_18 := ((cg (tY_fr f_6.1) x_17.toNatClampNeg)).symm.trans yx_18
          refine lv_bipush (v := 97) hx hb dX10_name_44 (by decide) ?_
          refine lv_isub hx hb dX10_name_46 ?_
          refine lv_topi (fun x_19 ex_19 => ?_)
          have tx_19 : x_19.toInt = x_18.toInt - 97 := i_sub ex_19 rfl (by decide : (97 : Int32).toInt = 97) (by omega) (by omega)
          refine lv_iconst (v := 1) hx hb dX10_name_47 (by decide) ?_
          refine lv_iadd hx hb dX10_name_48 ?_
          refine lv_topi (fun x_20 ex_20 => ?_)
          have tx_20 : x_20.toInt = x_19.toInt + 1 := i_add ex_20 rfl (by decide : (1 : Int32).toInt = 1) (by omega) (by omega)
          refine lv_goto (tgt := 53) hx hb dX10_name_49 (by decide) ?_
          exact hj_53_23 x_20 _ _ _ (by first | omega | decide) (by first | omega | decide) hw (lv_sub hl [0, 1] rfl)
  exact hl_7_7 ((6 - 0 : Int).toNat + 1) 0 M_1 _ _ _ (Nat.lt_succ_self _) (by have lt0 : (0 : Int32).toInt = 0 := (by decide); first | omega | decide) (by have lt0 : (0 : Int32).toInt = 0 := (by decide); first | omega | decide) iM_1 (pr_I hM_1 (by decide)) ((tI_nE hM_1 (nk (by decide))).trans hs) hw (lv_sub hl [0, 1] rfl)
set_option maxHeartbeats 4000000 in
set_option maxRecDepth 100000 in
theorem s_X10_word (l : Launch) (D : va_G) (A : Nat → Nat → Nat) (cy : Nat → ClassId) (hJ : ti_inj ti_LM A) (M : ti_M) (hI : mI Tm M)  : ti_KiE l yX10_word cX10_word 4 (some .int) 4 ti_LM D A cy M [.ref (A 60 0)] (fun r M2 => M2 = M ∧ -1 ≤ r.toInt ∧ r.toInt ≤ 24) := by
  refine ti_eIE yp_X10_word hJ ti_LM_nd (Nat.le_of_ble_eq_true rfl) ?_
  intro p e s m args below meth c Q H0 C hE hQ hw ls hl
  have hx := C.1
  have hb := C.2.1
  have hl : lv_has ls 4 [(0, .ref (A 60 0))] := hl
  obtain ⟨⟨a1, v1, hR1, hs1⟩, ⟨a2, v2, hR2, hs2⟩, hg1⟩ := id hE
  refine lv_iconst (v := 0) hx hb dX10_word_0 (by decide) ?_
  refine lv_istore_n (lv' := [(1, .int 0), (0, .ref (A 60 0))]) hx hb dX10_word_1 rfl hl (by decide) rfl (fun ls hl => ?_)
  refine lv_iconst (v := 0) hx hb dX10_word_2 (by decide) ?_
  refine lv_istore_n (lv' := [(2, .int 0), (1, .int 0), (0, .ref (A 60 0))]) hx hb dX10_word_3 rfl hl (by decide) rfl (fun ls hl => ?_)
  have hl_4_7 : ∀ (n_8 : Nat) (x_1 : Int32) (x_4 : Int32) (H : Heap) (locs : List Loc) (ls : Array Slot), (125 - x_1.toInt : Int).toNat < n_8 → (0 ≤ x_1.toInt) → (x_1.toInt ≤ 125) → (0 ≤ x_4.toInt) → (x_4.toInt ≤ 125) → (x_4.toInt = ((wn (x_1.toInt).toNat : Nat) : Int)) → ti_H ti_LM D A cy H0 M H locs → lv_has ls 4 [(2, .int x_1), (1, .int x_4), (0, .ref (A 60 0))] → W p l e (ti_rm 4) s m args below meth c H locs 0 0 Q (F0 m 4 ls []) := by
    intro n_8
    induction n_8 with
    | zero => intro x_1 x_4 H locs ls hf_8; exact absurd hf_8 (Nat.not_lt_zero _)
    | succ n_8 ih_8 =>
      intro x_1 x_4 H locs ls hf_8 b_2 b_3 b_5 b_6 j_7 hw hl
      refine lv_iload_n hx hb dX10_word_4 rfl (lv_at hl 0 rfl) ?_
      refine va_ldcS hx hb C.2.2.2.1 hR2 dX10_word_5 ?_
      refine ti_length C hs2 hg1 hw ml_X10_199 hl.1 (Nat.le_of_ble_eq_true rfl) ⟨by decide, by decide⟩ ⟨Nat.zero_le _, Nat.zero_le _⟩ dX10_word_7 (fun H locs hw => ?_)
      refine sb_icmp_ge (tgt := 123) hx hb rfl (by decide : (125 : Int32).toInt = 125) dX10_word_10 (by decide) (fun c_10_8 => ?_) (fun c_10_8 => ?_)
      · refine lv_iconst (v := (-1)) hx hb dX10_word_123 (by decide) ?_
        exact hQ _ _ _ _ _ _ hw rfl (⟨rfl, by decide, by decide⟩) dX10_word_124
      · refine lv_iconst (v := 0) hx hb dX10_word_13 (by decide) ?_
        refine lv_istore_n (lv' := [(3, .int 0), (2, .int x_1), (1, .int x_4), (0, .ref (A 60 0))]) hx hb dX10_word_14 rfl hl (by decide) rfl (fun ls hl => ?_)
        have hl_15_13 : ∀ (n_14 : Nat) (x_10 : Int32) (H : Heap) (locs : List Loc) (ls : Array Slot), (125 - x_10.toInt : Int).toNat < n_14 → (0 ≤ x_10.toInt) → (x_10.toInt ≤ 124) → (x_1.toInt + x_10.toInt ≤ 124) → ti_H ti_LM D A cy H0 M H locs → lv_has ls 4 [(3, .int x_10), (2, .int x_1), (1, .int x_4), (0, .ref (A 60 0))] → W p l e (ti_rm 4) s m args below meth c H locs 0 0 Q (F0 m 15 ls []) := by
          intro n_14
          induction n_14 with
          | zero => intro x_10 H locs ls hf_14; exact absurd hf_14 (Nat.not_lt_zero _)
          | succ n_14 ih_14 =>
            intro x_10 H locs ls hf_14 b_11 b_12 j_13 hw hl
            refine va_ldcS hx hb C.2.2.2.1 hR2 dX10_word_15 ?_
            refine lv_iload_n hx hb dX10_word_17 rfl (lv_at hl 1 rfl) ?_
            refine lv_iload_n hx hb dX10_word_18 rfl (lv_at hl 0 rfl) ?_
            refine lv_iadd hx hb dX10_word_19 ?_
            refine lv_topi (fun x_15 ex_15 => ?_)
            have tx_15 : x_15.toInt = x_1.toInt + x_10.toInt := i_add ex_15 rfl rfl (by omega) (by omega)
            refine ti_charAt (n := 125) C hs2 hg1 hw ml_X10_204 hl.1 (Nat.le_of_ble_eq_true rfl) ⟨by decide, by decide⟩ ⟨Nat.zero_le _, Nat.zero_le _⟩ (by decide) (by omega) (by omega) dX10_word_20 (fun H locs hw => ?_)
            refine lv_topi (fun x_17 ex_17 => ?_)
            have bx_17 := i_and 8 ex_17 (by decide) (by decide)
            refine lv_bipush (v := 32) hx hb dX10_word_23 (by decide) ?_
            have hj_69_30 : ∀  (H : Heap) (locs : List Loc) (ls : Array Slot), ti_H ti_LM D A cy H0 M H locs → lv_has ls 4 [(3, .int x_10), (2, .int x_1), (1, .int x_4), (0, .ref (A 60 0))] → W p l e (ti_rm 4) s m args below meth c H locs 0 0 Q (F0 m 69 ls []) := by
              intro  H locs ls  hw hl
              refine va_ldcS hx hb C.2.2.2.1 hR2 dX10_word_69 ?_
              refine lv_iload_n hx hb dX10_word_71 rfl (lv_at hl 1 rfl) ?_
              refine lv_iload_n hx hb dX10_word_72 rfl (lv_at hl 0 rfl) ?_
              refine lv_iadd hx hb dX10_word_73 ?_
              refine lv_topi (fun x_31 ex_31 => ?_)
              have tx_31 : x_31.toInt = x_1.toInt + x_10.toInt := i_add ex_31 rfl rfl (by omega) (by omega)
              refine ti_charAt (n := 125) C hs2 hg1 hw ml_X10_204 hl.1 (Nat.le_of_ble_eq_true rfl) ⟨by decide, by decide⟩ ⟨Nat.zero_le _, Nat.zero_le _⟩ (by decide) (by omega) (by omega) dX10_word_74 (fun H locs hw => ?_)
              refine lv_topi (fun x_33 ex_33 => ?_)
              have bx_33 := i_and 8 ex_33 (by decide) (by decide)
              refine lv_bipush (v := 32) hx hb dX10_word_77 (by decide) ?_
              have hl_97_43 : ∀ (n_44 : Nat) (x_39 : Int32) (H : Heap) (locs : List Loc) (ls : Array Slot), (125 - x_39.toInt : Int).toNat < n_44 → (0 ≤ x_39.toInt) → (x_39.toInt ≤ 124) → (x_4.toInt = ((wn (x_39.toInt).toNat : Nat) : Int)) → (x_1.toInt ≤ x_39.toInt) → ti_H ti_LM D A cy H0 M H locs → lv_has ls 4 [(3, .int x_10), (2, .int x_39), (1, .int x_4), (0, .ref (A 60 0))] → W p l e (ti_rm 4) s m args below meth c H locs 0 0 Q (F0 m 97 ls []) := by
                intro n_44
                induction n_44 with
                | zero => intro x_39 H locs ls hf_44; exact absurd hf_44 (Nat.not_lt_zero _)
                | succ n_44 ih_44 =>
                  intro x_39 H locs ls hf_44 b_40 b_41 j_42 j_43 hw hl
                  refine va_ldcS hx hb C.2.2.2.1 hR2 dX10_word_97 ?_
                  refine lv_iload_n hx hb dX10_word_99 rfl (lv_at hl 1 rfl) ?_
                  refine ti_charAt (n := 125) C hs2 hg1 hw ml_X10_204 hl.1 (Nat.le_of_ble_eq_true rfl) ⟨by decide, by decide⟩ ⟨Nat.zero_le _, Nat.zero_le _⟩ (by decide) (by omega) (by omega) dX10_word_100 (fun H locs hw => ?_)
                  refine lv_topi (fun x_46 ex_46 => ?_)
                  have bx_46 := i_and 8 ex_46 (by decide) (by decide)
                  refine lv_bipush (v := 32) hx hb dX10_word_103 (by decide) ?_
                  refine sb_icmp_eq (tgt := 114) hx hb rfl (by decide : (32 : Int32).toInt = 32) dX10_word_105 (by decide) (fun c_105_46 => ?_) (fun c_105_46 => ?_)
                  · have h24 := wn_24 (x_39.toInt).toNat (by omega)
                    obtain ⟨x_49, ex_49⟩ : ∃ z : Int32, z = x_39 + 1 := ⟨_, rfl⟩
                    have tx_49 : x_49.toInt = x_39.toInt + 1 := i_add ex_49 rfl (by decide) (by omega) (by omega)
                    refine lv_iinc (v := x_49) (lv' := [(2, .int x_49), (3, .int x_10), (1, .int x_4), (0, .ref (A 60 0))]) hx hb dX10_word_114 hl (k := 1) rfl (by rw [ex_49]; rfl) (by decide) rfl (fun ls hl => ?_)
                    obtain ⟨x_50, ex_50⟩ : ∃ z : Int32, z = x_4 + 1 := ⟨_, rfl⟩
                    have tx_50 : x_50.toInt = x_4.toInt + 1 := i_add ex_50 rfl (by decide) (by omega) (by omega)
                    refine lv_iinc (v := x_50) (lv' := [(1, .int x_50), (2, .int x_49), (3, .int x_10), (0, .ref (A 60 0))]) hx hb dX10_word_117 hl (k := 2) rfl (by rw [ex_50]; rfl) (by decide) rfl (fun ls hl => ?_)
                    refine lv_goto (tgt := 4) hx hb dX10_word_120 (by decide) ?_
                    exact ih_8 x_49 x_50 _ _ _ (by omega) (by first | omega | decide) (by first | omega | decide) (by first | omega | decide) (by first | omega | decide) (by rw [show (x_49.toInt).toNat = x_39.toInt.toNat + 1 by omega, wn_E ex_46 c_105_46 (by omega)]; omega) hw (lv_sub hl [1, 0, 3] rfl)
                  · have h124 := ch_ne ex_46 c_105_46 (by omega)
                    obtain ⟨x_48, ex_48⟩ : ∃ z : Int32, z = x_39 + 1 := ⟨_, rfl⟩
                    have tx_48 : x_48.toInt = x_39.toInt + 1 := i_add ex_48 rfl (by decide) (by omega) (by omega)
                    refine lv_iinc (v := x_48) (lv' := [(2, .int x_48), (3, .int x_10), (1, .int x_4), (0, .ref (A 60 0))]) hx hb dX10_word_108 hl (k := 1) rfl (by rw [ex_48]; rfl) (by decide) rfl (fun ls hl => ?_)
                    refine lv_goto (tgt := 97) hx hb dX10_word_111 (by decide) ?_
                    exact ih_44 x_48 _ _ _ (by omega) (by first | omega | decide) (by first | omega | decide) (by rw [show (x_48.toInt).toNat = x_39.toInt.toNat + 1 by omega, wn_S ex_46 c_105_46 (by omega)]; omega) (by first | omega | decide) hw (lv_sub hl [1, 0, 2, 3] rfl)
              refine sb_icmp_ne (tgt := 97) hx hb rfl (by decide : (32 : Int32).toInt = 32) dX10_word_79 (by decide) (fun c_79_33 => ?_) (fun c_79_33 => ?_)
              · exact hl_97_43 ((125 - x_1.toInt : Int).toNat + 1) x_1 _ _ _ (Nat.lt_succ_self _) (by first | omega | decide) (by first | omega | decide) j_7 (by first | omega | decide) hw (lv_sub hl [0, 1, 2, 3] rfl)
              · refine lv_aload_n hx hb dX10_word_82 rfl (lv_at hl 3 rfl) ?_
                refine ti_get (ci := 10) (k := 22) (N := 67) (T := TX10) C hw iw_10 rfl ob_60 (by decide) (by decide) fl_X10_170 rfl rfl dX10_word_83 ?_
                refine lv_topi (fun x_35 ex_35 => ?_)
                have bx_35 : 0 ≤ x_35.toInt ∧ x_35.toInt ≤ 700 := mI_rd hI ex_35
                have ux_35 : (tI M 60 22).toInt = x_35.toInt := by rw [ex_35]
                refine lv_iload_n hx hb dX10_word_86 rfl (lv_at hl 0 rfl) ?_
                refine lv_iadd hx hb dX10_word_87 ?_
                refine lv_topi (fun x_36 ex_36 => ?_)
                have tx_36 : x_36.toInt = x_35.toInt + x_10.toInt := i_add ex_36 rfl rfl (by omega) (by omega)
                refine lv_aload_n hx hb dX10_word_88 rfl (lv_at hl 3 rfl) ?_
                refine ti_get (ci := 10) (k := 21) (N := 67) (T := TX10) C hw iw_10 rfl ob_60 (by decide) (by decide) fl_X10_160 rfl rfl dX10_word_89 ?_
                refine lv_topi (fun x_37 ex_37 => ?_)
                have bx_37 : 0 ≤ x_37.toInt ∧ x_37.toInt ≤ 700 := mI_rd hI ex_37
                have ux_37 : (tI M 60 21).toInt = x_37.toInt := by rw [ex_37]
                refine sb_icmp_ne (tgt := 97) hx hb rfl rfl dX10_word_92 (by decide) (fun c_92_37 => ?_) (fun c_92_37 => ?_)
                · exact hl_97_43 ((125 - x_1.toInt : Int).toNat + 1) x_1 _ _ _ (Nat.lt_succ_self _) (by first | omega | decide) (by first | omega | decide) j_7 (by first | omega | decide) hw (lv_sub hl [0, 1, 2, 3] rfl)
                · refine lv_iload_n hx hb dX10_word_95 rfl (lv_at hl 2 rfl) ?_
                  exact hQ _ _ _ _ _ _ hw rfl (⟨rfl, by omega, by have h9 := wn_24 (x_1.toInt).toNat (by omega); omega⟩) dX10_word_96
            refine sb_icmp_eq (tgt := 69) hx hb rfl (by decide : (32 : Int32).toInt = 32) dX10_word_25 (by decide) (fun c_25_17 => ?_) (fun c_25_17 => ?_)
            · exact hj_69_30  _ _ _  hw (lv_sub hl [0, 1, 2, 3] rfl)
            · have h124 := ch_ne ex_17 c_25_17 (by omega)
              refine lv_aload_n hx hb dX10_word_28 rfl (lv_at hl 3 rfl) ?_
              refine ti_get (ci := 10) (k := 22) (N := 67) (T := TX10) C hw iw_10 rfl ob_60 (by decide) (by decide) fl_X10_170 rfl rfl dX10_word_29 ?_
              refine lv_topi (fun x_19 ex_19 => ?_)
              have bx_19 : 0 ≤ x_19.toInt ∧ x_19.toInt ≤ 700 := mI_rd hI ex_19
              have ux_19 : (tI M 60 22).toInt = x_19.toInt := by rw [ex_19]
              refine lv_iload_n hx hb dX10_word_32 rfl (lv_at hl 0 rfl) ?_
              refine lv_iadd hx hb dX10_word_33 ?_
              refine lv_topi (fun x_20 ex_20 => ?_)
              have tx_20 : x_20.toInt = x_19.toInt + x_10.toInt := i_add ex_20 rfl rfl (by omega) (by omega)
              refine lv_aload_n hx hb dX10_word_34 rfl (lv_at hl 3 rfl) ?_
              refine ti_get (ci := 10) (k := 21) (N := 67) (T := TX10) C hw iw_10 rfl ob_60 (by decide) (by decide) fl_X10_160 rfl rfl dX10_word_35 ?_
              refine lv_topi (fun x_21 ex_21 => ?_)
              have bx_21 : 0 ≤ x_21.toInt ∧ x_21.toInt ≤ 700 := mI_rd hI ex_21
              have ux_21 : (tI M 60 21).toInt = x_21.toInt := by rw [ex_21]
              refine sb_icmp_ge (tgt := 69) hx hb rfl rfl dX10_word_38 (by decide) (fun c_38_21 => ?_) (fun c_38_21 => ?_)
              · exact hj_69_30  _ _ _  hw (lv_sub hl [0, 1, 2, 3] rfl)
              · refine lv_aload_n hx hb dX10_word_41 rfl (lv_at hl 3 rfl) ?_
                refine ti_get (ci := 10) (k := 1) (N := 67) (T := TX10) (v := .ref (A 60 2)) C hw iw_10 rfl ob_60 (by decide) (by decide) fl_X10_7 rfl rfl dX10_word_42 ?_
                refine lv_aload_n hx hb dX10_word_45 rfl (lv_at hl 3 rfl) ?_
                refine ti_get (ci := 10) (k := 22) (N := 67) (T := TX10) C hw iw_10 rfl ob_60 (by decide) (by decide) fl_X10_170 rfl rfl dX10_word_46 ?_
                refine ti_top (y := x_19) (ex_19.symm) ?_
                have u_23 : (tI M 60 22).toInt = (x_19 : Int32).toInt := by rw [(ex_19.symm)]
                refine lv_iload_n hx hb dX10_word_49 rfl (lv_at hl 0 rfl) ?_
                refine lv_iadd hx hb dX10_word_50 ?_
                refine lv_topi (fun x_24 ex_24 => ?_)
                have tx_24 : x_24.toInt = x_19.toInt + x_10.toInt := i_add ex_24 rfl rfl (by omega) (by omega)
                refine ti_iald (ci := 10) (k := 1) (n := 700) C hw ob_60 (by decide) (fun _ _ => rfl) (vp_in_iff.mpr (by omega)) dX10_word_51 ?_
                refine lv_topi (fun x_25 ex_25 => ?_)
                have yx_25 : tY M 60 1 x_24.toNatClampNeg = x_25 := (ex_25.symm)
                have bx_25 : 0 ≤ x_25.toInt ∧ x_25.toInt ≤ 255 := mI_ry (k := 1) (i := x_24.toNatClampNeg) hI yx_25.symm
                refine va_ldcS hx hb C.2.2.2.1 hR2 dX10_word_52 ?_
                refine lv_iload_n hx hb dX10_word_54 rfl (lv_at hl 1 rfl) ?_
                refine lv_iload_n hx hb dX10_word_55 rfl (lv_at hl 0 rfl) ?_
                refine lv_iadd hx hb dX10_word_56 ?_
                refine lv_topi (fun x_26 ex_26 => ?_)
                have tx_26 : x_26.toInt = x_1.toInt + x_10.toInt := i_add ex_26 rfl rfl (by omega) (by omega)
                refine ti_charAt (n := 125) C hs2 hg1 hw ml_X10_204 hl.1 (Nat.le_of_ble_eq_true rfl) ⟨by decide, by decide⟩ ⟨Nat.zero_le _, Nat.zero_le _⟩ (by decide) (by omega) (by omega) dX10_word_57 (fun H locs hw => ?_)
                refine lv_topi (fun x_28 ex_28 => ?_)
                have bx_28 := i_and 8 ex_28 (by decide) (by decide)
                refine sb_icmp_ne (tgt := 69) hx hb rfl rfl dX10_word_60 (by decide) (fun c_60_28 => ?_) (fun c_60_28 => ?_)
                · exact hj_69_30  _ _ _  hw (lv_sub hl [0, 1, 2, 3] rfl)
                · obtain ⟨x_30, ex_30⟩ : ∃ z : Int32, z = x_10 + 1 := ⟨_, rfl⟩
                  have tx_30 : x_30.toInt = x_10.toInt + 1 := i_add ex_30 rfl (by decide) (by omega) (by omega)
                  refine lv_iinc (v := x_30) (lv' := [(3, .int x_30), (2, .int x_1), (1, .int x_4), (0, .ref (A 60 0))]) hx hb dX10_word_63 hl (k := 0) rfl (by rw [ex_30]; rfl) (by decide) rfl (fun ls hl => ?_)
                  refine lv_goto (tgt := 15) hx hb dX10_word_66 (by decide) ?_
                  exact ih_14 x_30 _ _ _ (by omega) (by first | omega | decide) (by first | omega | decide) (by first | omega | decide) hw (lv_sub hl [0, 1, 2, 3] rfl)
        exact hl_15_13 ((125 - 0 : Int).toNat + 1) 0 _ _ _ (Nat.lt_succ_self _) (by have lt0 : (0 : Int32).toInt = 0 := (by decide); first | omega | decide) (by have lt0 : (0 : Int32).toInt = 0 := (by decide); first | omega | decide) (by have lt0 : (0 : Int32).toInt = 0 := (by decide); first | omega | decide) hw (lv_sub hl [0, 1, 2, 3] rfl)
  exact hl_4_7 ((125 - 0 : Int).toNat + 1) 0 0 _ _ _ (Nat.lt_succ_self _) (by have lt0 : (0 : Int32).toInt = 0 := (by decide); first | omega | decide) (by have lt0 : (0 : Int32).toInt = 0 := (by decide); first | omega | decide) (by have lt0 : (0 : Int32).toInt = 0 := (by decide); first | omega | decide) (by have lt0 : (0 : Int32).toInt = 0 := (by decide); first | omega | decide) (by decide) hw (lv_sub hl [0, 1, 2] rfl)
set_option maxHeartbeats 4000000 in
set_option maxRecDepth 100000 in
theorem s_X10_token (l : Launch) (D : va_G) (A : Nat → Nat → Nat) (cy : Nat → ClassId) (hJ : ti_inj ti_LM A) (M : ti_M) (hI : mI Tm M)  : ti_KvE l yX10_token cX10_token 2 5 ti_LM D A cy M [.ref (A 60 0)] (fun M2 => mI Tm M2 ∧ pr 21 24 M2 M ∧ (tI M 60 21).toInt ≤ (tI M2 60 21).toInt ∧ ((tI M 60 21).toInt < (tI M2 60 21).toInt ∨ (tI M2 60 23).toInt = 4)) := by
  refine ti_eVE yp_X10_token hJ ti_LM_nd (Nat.le_of_ble_eq_true rfl) ?_
  intro p e s m args below meth c Q H0 C hE hQ hw ls hl
  have hx := C.1
  have hb := C.2.1
  have hl : lv_has ls 2 [(0, .ref (A 60 0))] := hl
  have hz : 0 ≤ (tI M 60 20).toInt ∧ (tI M 60 20).toInt ≤ 700 := hI.1 20
  have u_5 : 0 ≤ (tI M 60 21).toInt ∧ (tI M 60 21).toInt ≤ 700 := mI_rd (x := tI M 60 21) (k := 21) hI rfl
  have hl_0_3 : ∀ (n_4 : Nat) (M_1 : ti_M) (H : Heap) (locs : List Loc) (ls : Array Slot), (700 - (tI M_1 60 21).toInt : Int).toNat < n_4 → (mI Tm M_1) → (pr 21 24 M_1 M) → ((tI M 60 21).toInt ≤ (tI M_1 60 21).toInt) → ti_H ti_LM D A cy H0 M_1 H locs → lv_has ls 2 [(0, .ref (A 60 0))] → W p l e (ti_rm 5) s m args below meth c H locs 0 0 Q (F0 m 0 ls []) := by
    intro n_4
    induction n_4 with
    | zero => intro M_1 H locs ls hf_4; exact absurd hf_4 (Nat.not_lt_zero _)
    | succ n_4 ih_4 =>
      intro M_1 H locs ls hf_4 iM_1 f_2 j_3 hw hl
      have v_6 : (tI M_1 60 20).toInt = (tI M 60 20).toInt := by rw [f_2.2 20 (by decide)]
      have v_7 : 0 ≤ (tI M_1 60 21).toInt ∧ (tI M_1 60 21).toInt ≤ 700 := mI_rd (x := tI M_1 60 21) (k := 21) iM_1 rfl
      refine lv_aload_n hx hb dX10_token_0 rfl (lv_at hl 0 rfl) ?_
      refine ti_callVi (ci := 10) (av := []) C hw (s_X10_here l D A cy hJ M_1 iM_1 ) ⟨ml_X10_166, ym_X10_here, yv_X10_here, yi_X10_here, yc_X10_here⟩ yd_X10_here ob_60 (by decide) rfl rfl hl.1 (Nat.le_of_ble_eq_true rfl) ⟨by decide, by decide⟩ ⟨Nat.zero_le _, Nat.zero_le _⟩ dX10_token_1 (fun r_8 M_9 H locs hp_9 hw => ?_)
      obtain ⟨hm, b0r_8, b1r_8, p0r_8, p1r_8⟩ := hp_9
      have hw := hw.to hm
      have hhr_8 : (hr M_1).toInt = r_8.toInt := by rw [← p1r_8]
      refine lv_bipush (v := 10) hx hb dX10_token_4 (by decide) ?_
      have hj_18_14 : ∀  (H : Heap) (locs : List Loc) (ls : Array Slot), ((tI M_1 60 21).toInt < (tI M_1 60 20).toInt) → ti_H ti_LM D A cy H0 M_1 H locs → lv_has ls 2 [(0, .ref (A 60 0))] → W p l e (ti_rm 5) s m args below meth c H locs 0 0 Q (F0 m 18 ls []) := by
        intro  H locs ls j_14 hw hl
        refine lv_aload_n hx hb dX10_token_18 rfl (lv_at hl 0 rfl) ?_
        refine lv_dup hx hb dX10_token_19 rfl ?_
        refine ti_get (ci := 10) (k := 21) (N := 67) (T := TX10) C hw iw_10 rfl ob_60 (by decide) (by decide) fl_X10_160 rfl rfl dX10_token_20 ?_
        refine lv_topi (fun x_19 ex_19 => ?_)
        have bx_19 : 0 ≤ x_19.toInt ∧ x_19.toInt ≤ 700 := mI_rd iM_1 ex_19
        have ux_19 : (tI M_1 60 21).toInt = x_19.toInt := by rw [ex_19]
        refine lv_iconst (v := 1) hx hb dX10_token_23 (by decide) ?_
        refine lv_iadd hx hb dX10_token_24 ?_
        refine lv_topi (fun x_20 ex_20 => ?_)
        have tx_20 : x_20.toInt = x_19.toInt + 1 := i_add ex_20 rfl (by decide : (1 : Int32).toInt = 1) (by omega) (by omega)
        refine ti_putI (ci := 10) (k := 21) (N := 67) (T := TX10) C hw iw_10 tyX10 tyX10_ok nmX10 rfl ob_60 (by decide) (by decide) fl_X10_160 rfl rfl rfl rfl (fn_10 A _) fs_10_21 dX10_token_25 (fun H locs hw => ?_)
        obtain ⟨M_21, hM_21⟩ : ∃ z : ti_M, z = uI M_1 60 21 x_20 := ⟨_, rfl⟩
        have hw := hw.to hM_21.symm
        have iM_21 : mI Tm M_21 := mI_uI iM_1 hM_21 (by decide) (by decide) (ib_mk (lo := 0) (hi := 700) (by omega) (by omega))
        have vM_21 : (tI M_21 60 21).toInt = (x_20 : Int32).toInt := by rw [tI_uE hM_21]
        have v_22 : (tI M_21 60 20).toInt = (tI M_1 60 20).toInt := by rw [tI_nE hM_21 (nk (by decide))]
        have v_23 : (tI M_21 60 21).toInt = (x_20 : Int32).toInt := by rw [tI_uE hM_21]
        have v_24 : (tI M_21 60 23).toInt = (tI M_1 60 23).toInt := by rw [tI_nE hM_21 (nk (by decide))]
        refine lv_goto (tgt := 0) hx hb dX10_token_28 (by decide) ?_
        have u_25 : (tI M_21 60 21).toInt = (x_20 : Int32).toInt := by rw [(tI_uE hM_21)]
        exact ih_4 M_21 _ _ _ (by omega) iM_21 (pr.trans (pr_I hM_21 (by decide)) f_2) (by first | omega | decide) hw (lv_sub hl [0] rfl)
      refine sb_icmp_eq (tgt := 18) hx hb rfl (by decide : (10 : Int32).toInt = 10) dX10_token_6 (by decide) (fun c_6_9 => ?_) (fun c_6_9 => ?_)
      · have u_15 : 0 ≤ (tI M_1 60 20).toInt ∧ (tI M_1 60 20).toInt ≤ 700 := mI_rd (x := tI M_1 60 20) (k := 20) iM_1 rfl
        have u_16 : 0 ≤ (tI M_1 60 21).toInt ∧ (tI M_1 60 21).toInt ≤ 700 := mI_rd (x := tI M_1 60 21) (k := 21) iM_1 rfl
        exact hj_18_14  _ _ _ (by first | omega | decide) hw (lv_sub hl [0] rfl)
      · refine lv_aload_n hx hb dX10_token_9 rfl (lv_at hl 0 rfl) ?_
        refine ti_callVi (ci := 10) (av := []) C hw (s_X10_here l D A cy hJ M_1 iM_1 ) ⟨ml_X10_166, ym_X10_here, yv_X10_here, yi_X10_here, yc_X10_here⟩ yd_X10_here ob_60 (by decide) rfl rfl hl.1 (Nat.le_of_ble_eq_true rfl) ⟨by decide, by decide⟩ ⟨Nat.zero_le _, Nat.zero_le _⟩ dX10_token_10 (fun r_11 M_12 H locs hp_12 hw => ?_)
        obtain ⟨hm, b0r_11, b1r_11, p0r_11, p1r_11⟩ := hp_12
        have hw := hw.to hm
        have hhr_11 : (hr M_1).toInt = r_11.toInt := by rw [← p1r_11]
        refine lv_bipush (v := 32) hx hb dX10_token_13 (by decide) ?_
        refine sb_icmp_ne (tgt := 31) hx hb rfl (by decide : (32 : Int32).toInt = 32) dX10_token_15 (by decide) (fun c_15_12 => ?_) (fun c_15_12 => ?_)
        · refine lv_aload_n hx hb dX10_token_31 rfl (lv_at hl 0 rfl) ?_
          refine lv_aload_n hx hb dX10_token_32 rfl (lv_at hl 0 rfl) ?_
          refine ti_get (ci := 10) (k := 21) (N := 67) (T := TX10) C hw iw_10 rfl ob_60 (by decide) (by decide) fl_X10_160 rfl rfl dX10_token_33 ?_
          refine lv_topi (fun x_26 ex_26 => ?_)
          have bx_26 : 0 ≤ x_26.toInt ∧ x_26.toInt ≤ 700 := mI_rd iM_1 ex_26
          have ux_26 : (tI M_1 60 21).toInt = x_26.toInt := by rw [ex_26]
          refine ti_putI (ci := 10) (k := 22) (N := 67) (T := TX10) C hw iw_10 tyX10 tyX10_ok nmX10 rfl ob_60 (by decide) (by decide) fl_X10_170 rfl rfl rfl rfl (fn_10 A _) fs_10_22 dX10_token_36 (fun H locs hw => ?_)
          obtain ⟨M_27, hM_27⟩ : ∃ z : ti_M, z = uI M_1 60 22 x_26 := ⟨_, rfl⟩
          have hw := hw.to hM_27.symm
          have iM_27 : mI Tm M_27 := mI_uI iM_1 hM_27 (by decide) (by decide) (ib_mk (lo := 0) (hi := 700) (by omega) (by omega))
          have vM_27 : (tI M_27 60 22).toInt = (x_26 : Int32).toInt := by rw [tI_uE hM_27]
          have v_28 : (tI M_27 60 20).toInt = (tI M_1 60 20).toInt := by rw [tI_nE hM_27 (nk (by decide))]
          have v_29 : (tI M_27 60 21).toInt = (tI M_1 60 21).toInt := by rw [tI_nE hM_27 (nk (by decide))]
          have v_30 : (tI M_27 60 23).toInt = (tI M_1 60 23).toInt := by rw [tI_nE hM_27 (nk (by decide))]
          have v_31 : (hr M_27).toInt = (hr M_1).toInt := by rw [hr_I hM_27 (by decide)]
          refine lv_aload_n hx hb dX10_token_39 rfl (lv_at hl 0 rfl) ?_
          refine ti_callVi (ci := 10) (av := []) C hw (s_X10_here l D A cy hJ M_27 iM_27 ) ⟨ml_X10_166, ym_X10_here, yv_X10_here, yi_X10_here, yc_X10_here⟩ yd_X10_here ob_60 (by decide) rfl rfl hl.1 (Nat.le_of_ble_eq_true rfl) ⟨by decide, by decide⟩ ⟨Nat.zero_le _, Nat.zero_le _⟩ dX10_token_40 (fun r_32 M_33 H locs hp_33 hw => ?_)
          obtain ⟨hm, b0r_32, b1r_32, p0r_32, p1r_32⟩ := hp_33
          have hw := hw.to hm
          have hhr_32 : (hr M_27).toInt = r_32.toInt := by rw [← p1r_32]
          refine lv_istore_n (lv' := [(1, .int r_32), (0, .ref (A 60 0))]) hx hb dX10_token_43 rfl hl (by decide) rfl (fun ls hl => ?_)
          refine lv_iload_n hx hb dX10_token_44 rfl (lv_at hl 0 rfl) ?_
          refine lv_iconst (v := (-1)) hx hb dX10_token_45 (by decide) ?_
          refine sb_icmp_ne (tgt := 57) hx hb rfl (by decide : ((-1) : Int32).toInt = (-1)) dX10_token_46 (by decide) (fun c_46_33 => ?_) (fun c_46_33 => ?_)
          · refine lv_iload_n hx hb dX10_token_57 rfl (lv_at hl 0 rfl) ?_
            refine ti_callSi (av := [.int r_32]) C hw (s_X10_isSmall l D A cy hJ M_27 iM_27 r_32) ⟨ml_X10_176, ys_X10_isSmall, yi_X10_isSmall, yc_X10_isSmall⟩ yd_X10_isSmall rfl hl.1 (Nat.le_of_ble_eq_true rfl) ⟨by decide, by decide⟩ ⟨Nat.zero_le _, Nat.zero_le _⟩ dX10_token_58 (fun r_40 M_41 H locs hp_41 hw => ?_)
            obtain ⟨hm, hz⟩ := hp_41
            have hw := hw.to hm
            rcases hz with ⟨rfl, d0_42, d1_42⟩ | ⟨rfl, d0_42⟩
            · refine sb_if_eq (tgt := 145) hx hb (by decide : (1 : Int32).toInt = 1) dX10_token_61 (by decide) (fun h => absurd h (by decide)) (fun c_61_42 => ?_)
              have u_50 : (tI M_27 60 21).toInt = (x_26 : Int32).toInt := by rw [((tI_nE hM_27 (nk (by decide))).trans ex_26.symm)]
              have hl_64_48 : ∀ (n_49 : Nat) (M_45 : ti_M) (H : Heap) (locs : List Loc) (ls : Array Slot), (700 - (tI M_45 60 21).toInt : Int).toNat < n_49 → (mI Tm M_45) → (pr 21 24 M_45 M) → ((tI M 60 21).toInt ≤ (tI M_45 60 21).toInt) → ((tI M 60 21).toInt < (tI M_45 60 21).toInt ∨ (97 ≤ (hr M_45).toInt ∧ (hr M_45).toInt ≤ 122)) → ti_H ti_LM D A cy H0 M_45 H locs → lv_has ls 2 [(1, .int r_32), (0, .ref (A 60 0))] → W p l e (ti_rm 5) s m args below meth c H locs 0 0 Q (F0 m 64 ls []) := by
                intro n_49
                induction n_49 with
                | zero => intro M_45 H locs ls hf_49; exact absurd hf_49 (Nat.not_lt_zero _)
                | succ n_49 ih_49 =>
                  intro M_45 H locs ls hf_49 iM_45 f_46 j_47 j_48 hw hl
                  have v_51 : (tI M_45 60 20).toInt = (tI M 60 20).toInt := by rw [f_46.2 20 (by decide)]
                  have v_52 : 0 ≤ (tI M_45 60 21).toInt ∧ (tI M_45 60 21).toInt ≤ 700 := mI_rd (x := tI M_45 60 21) (k := 21) iM_45 rfl
                  refine lv_aload_n hx hb dX10_token_64 rfl (lv_at hl 1 rfl) ?_
                  refine ti_callVi (ci := 10) (av := []) C hw (s_X10_here l D A cy hJ M_45 iM_45 ) ⟨ml_X10_166, ym_X10_here, yv_X10_here, yi_X10_here, yc_X10_here⟩ yd_X10_here ob_60 (by decide) rfl rfl hl.1 (Nat.le_of_ble_eq_true rfl) ⟨by decide, by decide⟩ ⟨Nat.zero_le _, Nat.zero_le _⟩ dX10_token_65 (fun r_53 M_54 H locs hp_54 hw => ?_)
                  obtain ⟨hm, b0r_53, b1r_53, p0r_53, p1r_53⟩ := hp_54
                  have hw := hw.to hm
                  have hhr_53 : (hr M_45).toInt = r_53.toInt := by rw [← p1r_53]
                  refine ti_callSi (av := [.int r_53]) C hw (s_X10_isSmall l D A cy hJ M_45 iM_45 r_53) ⟨ml_X10_176, ys_X10_isSmall, yi_X10_isSmall, yc_X10_isSmall⟩ yd_X10_isSmall rfl hl.1 (Nat.le_of_ble_eq_true rfl) ⟨by decide, by decide⟩ ⟨Nat.zero_le _, Nat.zero_le _⟩ dX10_token_68 (fun r_55 M_56 H locs hp_56 hw => ?_)
                  obtain ⟨hm, hz⟩ := hp_56
                  have hw := hw.to hm
                  rcases hz with ⟨rfl, d0_57, d1_57⟩ | ⟨rfl, d0_57⟩
                  · refine sb_if_eq (tgt := 87) hx hb (by decide : (1 : Int32).toInt = 1) dX10_token_71 (by decide) (fun h => absurd h (by decide)) (fun c_71_57 => ?_)
                    refine lv_aload_n hx hb dX10_token_74 rfl (lv_at hl 1 rfl) ?_
                    refine lv_dup hx hb dX10_token_75 rfl ?_
                    refine ti_get (ci := 10) (k := 21) (N := 67) (T := TX10) C hw iw_10 rfl ob_60 (by decide) (by decide) fl_X10_160 rfl rfl dX10_token_76 ?_
                    refine lv_topi (fun x_60 ex_60 => ?_)
                    have bx_60 : 0 ≤ x_60.toInt ∧ x_60.toInt ≤ 700 := mI_rd iM_45 ex_60
                    have ux_60 : (tI M_45 60 21).toInt = x_60.toInt := by rw [ex_60]
                    refine lv_iconst (v := 1) hx hb dX10_token_79 (by decide) ?_
                    refine lv_iadd hx hb dX10_token_80 ?_
                    refine lv_topi (fun x_61 ex_61 => ?_)
                    have tx_61 : x_61.toInt = x_60.toInt + 1 := i_add ex_61 rfl (by decide : (1 : Int32).toInt = 1) (by omega) (by omega)
                    refine ti_putI (ci := 10) (k := 21) (N := 67) (T := TX10) C hw iw_10 tyX10 tyX10_ok nmX10 rfl ob_60 (by decide) (by decide) fl_X10_160 rfl rfl rfl rfl (fn_10 A _) fs_10_21 dX10_token_81 (fun H locs hw => ?_)
                    obtain ⟨M_62, hM_62⟩ : ∃ z : ti_M, z = uI M_45 60 21 x_61 := ⟨_, rfl⟩
                    have hw := hw.to hM_62.symm
                    have iM_62 : mI Tm M_62 := mI_uI iM_45 hM_62 (by decide) (by decide) (ib_mk (lo := 0) (hi := 700) (by omega) (by omega))
                    have vM_62 : (tI M_62 60 21).toInt = (x_61 : Int32).toInt := by rw [tI_uE hM_62]
                    have v_63 : (tI M_62 60 20).toInt = (tI M_45 60 20).toInt := by rw [tI_nE hM_62 (nk (by decide))]
                    have v_64 : (tI M_62 60 21).toInt = (x_61 : Int32).toInt := by rw [tI_uE hM_62]
                    have v_65 : (tI M_62 60 23).toInt = (tI M_45 60 23).toInt := by rw [tI_nE hM_62 (nk (by decide))]
                    refine lv_goto (tgt := 64) hx hb dX10_token_84 (by decide) ?_
                    have u_66 : (tI M_62 60 21).toInt = (x_61 : Int32).toInt := by rw [(tI_uE hM_62)]
                    exact ih_49 M_62 _ _ _ (by omega) iM_62 (pr.trans (pr_I hM_62 (by decide)) f_46) (by first | omega | decide) (by first | omega | decide) hw (lv_sub hl [0, 1] rfl)
                  · refine sb_if_eq (tgt := 87) hx hb (by decide : (0 : Int32).toInt = 0) dX10_token_71 (by decide) (fun c_71_58 => ?_) (fun h => absurd h (by decide))
                    refine lv_aload_n hx hb dX10_token_87 rfl (lv_at hl 1 rfl) ?_
                    refine lv_aload_n hx hb dX10_token_88 rfl (lv_at hl 1 rfl) ?_
                    refine ti_callViE (ci := 10) (av := []) C hE hw (s_X10_word l D A cy hJ M_45 iM_45 ) ⟨ml_X10_180, ym_X10_word, yv_X10_word, yi_X10_word, yc_X10_word⟩ yd_X10_word ob_60 (by decide) rfl rfl hl.1 (Nat.le_of_ble_eq_true rfl) ⟨by decide, by decide⟩ ⟨Nat.zero_le _, Nat.zero_le _⟩ dX10_token_89 (fun r_67 M_68 H locs hp_68 hw => ?_)
                    obtain ⟨hm, b0r_67, b1r_67⟩ := hp_68
                    have hw := hw.to hm
                    refine ti_putI (ci := 10) (k := 24) (N := 67) (T := TX10) C hw iw_10 tyX10 tyX10_ok nmX10 rfl ob_60 (by decide) (by decide) fl_X10_183 rfl rfl rfl rfl (fn_10 A _) fs_10_24 dX10_token_92 (fun H locs hw => ?_)
                    obtain ⟨M_69, hM_69⟩ : ∃ z : ti_M, z = uI M_45 60 24 r_67 := ⟨_, rfl⟩
                    have hw := hw.to hM_69.symm
                    have iM_69 : mI Tm M_69 := mI_va iM_45 hM_69 (fun _ => by omega)
                    have v_70 : (tI M_69 60 20).toInt = (tI M_45 60 20).toInt := by rw [tI_nE hM_69 (nk (by decide))]
                    have v_71 : (tI M_69 60 21).toInt = (tI M_45 60 21).toInt := by rw [tI_nE hM_69 (nk (by decide))]
                    have v_72 : (tI M_69 60 23).toInt = (tI M_45 60 23).toInt := by rw [tI_nE hM_69 (nk (by decide))]
                    have v_73 : (hr M_69).toInt = (hr M_45).toInt := by rw [hr_I hM_69 (by decide)]
                    refine lv_aload_n hx hb dX10_token_95 rfl (lv_at hl 1 rfl) ?_
                    refine lv_aload_n hx hb dX10_token_96 rfl (lv_at hl 1 rfl) ?_
                    refine ti_get (ci := 10) (k := 24) (N := 67) (T := TX10) C hw iw_10 rfl ob_60 (by decide) (by decide) fl_X10_183 rfl rfl dX10_token_97 ?_
                    refine ti_top (y := r_67) (tI_uE hM_69) ?_
                    refine lv_iconst (v := (-1)) hx hb dX10_token_100 (by decide) ?_
                    refine sb_icmp_eq (tgt := 108) hx hb rfl (by decide : ((-1) : Int32).toInt = (-1)) dX10_token_101 (by decide) (fun c_101_73 => ?_) (fun c_101_73 => ?_)
                    · refine lv_aload_n hx hb dX10_token_108 rfl (lv_at hl 1 rfl) ?_
                      refine ti_get (ci := 10) (k := 21) (N := 67) (T := TX10) C hw iw_10 rfl ob_60 (by decide) (by decide) fl_X10_160 rfl rfl dX10_token_109 ?_
                      refine lv_topi (fun x_75 ex_75 => ?_)
                      have bx_75 : 0 ≤ x_75.toInt ∧ x_75.toInt ≤ 700 := mI_rd iM_69 ex_75
                      have ux_75 : (tI M_69 60 21).toInt = x_75.toInt := by rw [ex_75]
                      refine lv_aload_n hx hb dX10_token_112 rfl (lv_at hl 1 rfl) ?_
                      refine ti_get (ci := 10) (k := 22) (N := 67) (T := TX10) C hw iw_10 rfl ob_60 (by decide) (by decide) fl_X10_170 rfl rfl dX10_token_113 ?_
                      refine lv_topi (fun x_76 ex_76 => ?_)
                      have bx_76 : 0 ≤ x_76.toInt ∧ x_76.toInt ≤ 700 := mI_rd iM_69 ex_76
                      have ux_76 : (tI M_69 60 22).toInt = x_76.toInt := by rw [ex_76]
                      refine lv_isub hx hb dX10_token_116 ?_
                      refine lv_topi (fun x_77 ex_77 => ?_)
                      have tx_77 : x_77.toInt = x_75.toInt - x_76.toInt := i_sub ex_77 rfl rfl (by omega) (by omega)
                      refine lv_bipush (v := 6) hx hb dX10_token_117 (by decide) ?_
                      refine sb_icmp_le (tgt := 126) hx hb rfl (by decide : (6 : Int32).toInt = 6) dX10_token_119 (by decide) (fun c_119_77 => ?_) (fun c_119_77 => ?_)
                      · refine lv_iconst (v := 1) hx hb dX10_token_126 (by decide) ?_
                        refine ti_putI (ci := 10) (k := 23) (N := 67) (T := TX10) C hw iw_10 tyX10 tyX10_ok nmX10 rfl ob_60 (by decide) (by decide) fl_X10_173 rfl rfl rfl rfl (fn_10 A _) fs_10_23 dX10_token_127 (fun H locs hw => ?_)
                        obtain ⟨M_91, hM_91⟩ : ∃ z : ti_M, z = uI M_69 60 23 1 := ⟨_, rfl⟩
                        have hw := hw.to hM_91.symm
                        have iM_91 : mI Tm M_91 := mI_so iM_69 hM_91 (fun h => absurd h (by decide))
                        have v_92 : (tI M_91 60 20).toInt = (tI M_69 60 20).toInt := by rw [tI_nE hM_91 (nk (by decide))]
                        have v_93 : (tI M_91 60 21).toInt = (tI M_69 60 21).toInt := by rw [tI_nE hM_91 (nk (by decide))]
                        have v_94 : (tI M_91 60 23).toInt = 1 := by rw [tI_uE hM_91]; decide
                        have v_95 : (hr M_91).toInt = (hr M_69).toInt := by rw [hr_I hM_91 (by decide)]
                        refine lv_aload_n hx hb dX10_token_130 rfl (lv_at hl 1 rfl) ?_
                        refine ti_get (ci := 10) (k := 23) (N := 67) (T := TX10) C hw iw_10 rfl ob_60 (by decide) (by decide) fl_X10_173 rfl rfl dX10_token_131 ?_
                        refine ti_top (y := 1) (tI_uE hM_91) ?_
                        refine lv_iconst (v := 1) hx hb dX10_token_134 (by decide) ?_
                        refine sb_icmp_ne (tgt := 225) hx hb (by decide : (1 : Int32).toInt = 1) (by decide : (1 : Int32).toInt = 1) dX10_token_135 (by decide) (fun h => absurd h (by decide)) (fun c_135_95 => ?_)
                        refine lv_aload_n hx hb dX10_token_138 rfl (lv_at hl 1 rfl) ?_
                        refine ti_callVv (ci := 10) (av := []) C hw (s_X10_name l D A cy hJ M_91 iM_91 (tI_uE hM_91)) ⟨ml_X10_186, ym_X10_name, yv_X10_name, yi_X10_name, yc_X10_name⟩ yd_X10_name ob_60 (by decide) rfl rfl hl.1 (Nat.le_of_ble_eq_true rfl) ⟨by decide, by decide⟩ ⟨Nat.zero_le _, Nat.zero_le _⟩ dX10_token_139 (fun M_98 H locs hp_98 hw => ?_)
                        obtain ⟨iM_98, q_99⟩ := hp_98
                        have v_100 : (tI M_98 60 20).toInt = (tI M_91 60 20).toInt := by rw [q_99.2 20 (by decide)]
                        have v_101 : (tI M_98 60 21).toInt = (tI M_91 60 21).toInt := by rw [q_99.2 21 (by decide)]
                        have v_102 : (tI M_98 60 23).toInt = (tI M_91 60 23).toInt := by rw [q_99.2 23 (by decide)]
                        refine lv_goto (tgt := 225) hx hb dX10_token_142 (by decide) ?_
                        exact hQ _ _ _ _ _ hw (⟨iM_98, (pr.trans (pr_w q_99 (by decide) (by decide)) (pr.trans (pr_I hM_91 (by decide)) (pr.trans (pr_I hM_69 (by decide)) f_46))), by omega, by omega⟩) dX10_token_225
                      · refine lv_iconst (v := 5) hx hb dX10_token_122 (by decide) ?_
                        refine lv_goto (tgt := 127) hx hb dX10_token_123 (by decide) ?_
                        refine ti_putI (ci := 10) (k := 23) (N := 67) (T := TX10) C hw iw_10 tyX10 tyX10_ok nmX10 rfl ob_60 (by decide) (by decide) fl_X10_173 rfl rfl rfl rfl (fn_10 A _) fs_10_23 dX10_token_127 (fun H locs hw => ?_)
                        obtain ⟨M_85, hM_85⟩ : ∃ z : ti_M, z = uI M_69 60 23 5 := ⟨_, rfl⟩
                        have hw := hw.to hM_85.symm
                        have iM_85 : mI Tm M_85 := mI_so iM_69 hM_85 (fun h => absurd h (by decide))
                        have v_86 : (tI M_85 60 20).toInt = (tI M_69 60 20).toInt := by rw [tI_nE hM_85 (nk (by decide))]
                        have v_87 : (tI M_85 60 21).toInt = (tI M_69 60 21).toInt := by rw [tI_nE hM_85 (nk (by decide))]
                        have v_88 : (tI M_85 60 23).toInt = 5 := by rw [tI_uE hM_85]; decide
                        have v_89 : (hr M_85).toInt = (hr M_69).toInt := by rw [hr_I hM_85 (by decide)]
                        refine lv_aload_n hx hb dX10_token_130 rfl (lv_at hl 1 rfl) ?_
                        refine ti_get (ci := 10) (k := 23) (N := 67) (T := TX10) C hw iw_10 rfl ob_60 (by decide) (by decide) fl_X10_173 rfl rfl dX10_token_131 ?_
                        refine ti_top (y := 5) (tI_uE hM_85) ?_
                        refine lv_iconst (v := 1) hx hb dX10_token_134 (by decide) ?_
                        refine sb_icmp_ne (tgt := 225) hx hb (by decide : (5 : Int32).toInt = 5) (by decide : (1 : Int32).toInt = 1) dX10_token_135 (by decide) (fun c_135_89 => ?_) (fun h => absurd h (by decide))
                        exact hQ _ _ _ _ _ hw (⟨iM_85, (pr.trans (pr_I hM_85 (by decide)) (pr.trans (pr_I hM_69 (by decide)) f_46)), by omega, by omega⟩) dX10_token_225
                    · refine lv_iconst (v := 0) hx hb dX10_token_104 (by decide) ?_
                      refine lv_goto (tgt := 127) hx hb dX10_token_105 (by decide) ?_
                      refine ti_putI (ci := 10) (k := 23) (N := 67) (T := TX10) C hw iw_10 tyX10 tyX10_ok nmX10 rfl ob_60 (by decide) (by decide) fl_X10_173 rfl rfl rfl rfl (fn_10 A _) fs_10_23 dX10_token_127 (fun H locs hw => ?_)
                      obtain ⟨M_79, hM_79⟩ : ∃ z : ti_M, z = uI M_69 60 23 0 := ⟨_, rfl⟩
                      have hw := hw.to hM_79.symm
                      have iM_79 : mI Tm M_79 := mI_so iM_69 hM_79 (fun _ => by rw [(tI_uE hM_69)]; omega)
                      have v_80 : (tI M_79 60 20).toInt = (tI M_69 60 20).toInt := by rw [tI_nE hM_79 (nk (by decide))]
                      have v_81 : (tI M_79 60 21).toInt = (tI M_69 60 21).toInt := by rw [tI_nE hM_79 (nk (by decide))]
                      have v_82 : (tI M_79 60 23).toInt = 0 := by rw [tI_uE hM_79]; decide
                      have v_83 : (hr M_79).toInt = (hr M_69).toInt := by rw [hr_I hM_79 (by decide)]
                      refine lv_aload_n hx hb dX10_token_130 rfl (lv_at hl 1 rfl) ?_
                      refine ti_get (ci := 10) (k := 23) (N := 67) (T := TX10) C hw iw_10 rfl ob_60 (by decide) (by decide) fl_X10_173 rfl rfl dX10_token_131 ?_
                      refine ti_top (y := 0) (tI_uE hM_79) ?_
                      refine lv_iconst (v := 1) hx hb dX10_token_134 (by decide) ?_
                      refine sb_icmp_ne (tgt := 225) hx hb (by decide : (0 : Int32).toInt = 0) (by decide : (1 : Int32).toInt = 1) dX10_token_135 (by decide) (fun c_135_83 => ?_) (fun h => absurd h (by decide))
                      exact hQ _ _ _ _ _ hw (⟨iM_79, (pr.trans (pr_I hM_79 (by decide)) (pr.trans (pr_I hM_69 (by decide)) f_46)), by omega, by omega⟩) dX10_token_225
              exact hl_64_48 ((700 - (tI M_27 60 21).toInt : Int).toNat + 1) M_27 _ _ _ (Nat.lt_succ_self _) iM_27 (pr.trans (pr_I hM_27 (by decide)) f_2) (by first | omega | decide) (by first | omega | decide) hw (lv_sub hl [0, 1] rfl)
            · refine sb_if_eq (tgt := 145) hx hb (by decide : (0 : Int32).toInt = 0) dX10_token_61 (by decide) (fun c_61_43 => ?_) (fun h => absurd h (by decide))
              refine lv_iload_n hx hb dX10_token_145 rfl (lv_at hl 0 rfl) ?_
              refine ti_callSi (av := [.int r_32]) C hw (s_X10_isDigit l D A cy hJ M_27 iM_27 r_32) ⟨ml_X10_189, ys_X10_isDigit, yi_X10_isDigit, yc_X10_isDigit⟩ yd_X10_isDigit rfl hl.1 (Nat.le_of_ble_eq_true rfl) ⟨by decide, by decide⟩ ⟨Nat.zero_le _, Nat.zero_le _⟩ dX10_token_146 (fun r_103 M_104 H locs hp_104 hw => ?_)
              obtain ⟨hm, hz⟩ := hp_104
              have hw := hw.to hm
              rcases hz with ⟨rfl, d0_105, d1_105⟩ | ⟨rfl, d0_105⟩
              · refine sb_if_eq (tgt := 220) hx hb (by decide : (1 : Int32).toInt = 1) dX10_token_149 (by decide) (fun h => absurd h (by decide)) (fun c_149_105 => ?_)
                refine lv_aload_n hx hb dX10_token_152 rfl (lv_at hl 1 rfl) ?_
                refine lv_iconst (v := 2) hx hb dX10_token_153 (by decide) ?_
                refine ti_putI (ci := 10) (k := 23) (N := 67) (T := TX10) C hw iw_10 tyX10 tyX10_ok nmX10 rfl ob_60 (by decide) (by decide) fl_X10_173 rfl rfl rfl rfl (fn_10 A _) fs_10_23 dX10_token_154 (fun H locs hw => ?_)
                obtain ⟨M_108, hM_108⟩ : ∃ z : ti_M, z = uI M_27 60 23 2 := ⟨_, rfl⟩
                have hw := hw.to hM_108.symm
                have iM_108 : mI Tm M_108 := mI_so iM_27 hM_108 (fun h => absurd h (by decide))
                have v_109 : (tI M_108 60 20).toInt = (tI M_27 60 20).toInt := by rw [tI_nE hM_108 (nk (by decide))]
                have v_110 : (tI M_108 60 21).toInt = (tI M_27 60 21).toInt := by rw [tI_nE hM_108 (nk (by decide))]
                have v_111 : (tI M_108 60 23).toInt = 2 := by rw [tI_uE hM_108]; decide
                have v_112 : (hr M_108).toInt = (hr M_27).toInt := by rw [hr_I hM_108 (by decide)]
                refine lv_aload_n hx hb dX10_token_157 rfl (lv_at hl 1 rfl) ?_
                refine lv_iconst (v := 0) hx hb dX10_token_158 (by decide) ?_
                refine ti_putI (ci := 10) (k := 24) (N := 67) (T := TX10) C hw iw_10 tyX10 tyX10_ok nmX10 rfl ob_60 (by decide) (by decide) fl_X10_183 rfl rfl rfl rfl (fn_10 A _) fs_10_24 dX10_token_159 (fun H locs hw => ?_)
                obtain ⟨M_113, hM_113⟩ : ∃ z : ti_M, z = uI M_108 60 24 0 := ⟨_, rfl⟩
                have hw := hw.to hM_113.symm
                have iM_113 : mI Tm M_113 := mI_va iM_108 hM_113 (fun h => absurd ((tI_uE hM_108).symm.trans h) (by decide))
                have v_114 : (tI M_113 60 20).toInt = (tI M_108 60 20).toInt := by rw [tI_nE hM_113 (nk (by decide))]
                have v_115 : (tI M_113 60 21).toInt = (tI M_108 60 21).toInt := by rw [tI_nE hM_113 (nk (by decide))]
                have v_116 : (tI M_113 60 23).toInt = (tI M_108 60 23).toInt := by rw [tI_nE hM_113 (nk (by decide))]
                have v_117 : (hr M_113).toInt = (hr M_108).toInt := by rw [hr_I hM_113 (by decide)]
                have u_124 : (tI M_113 60 21).toInt = (x_26 : Int32).toInt := by rw [((tI_nE hM_113 (nk (by decide))).trans ((tI_nE hM_108 (nk (by decide))).trans ((tI_nE hM_27 (nk (by decide))).trans ex_26.symm)))]
                have hl_162_122 : ∀ (n_123 : Nat) (M_118 : ti_M) (H : Heap) (locs : List Loc) (ls : Array Slot), (700 - (tI M_118 60 21).toInt : Int).toNat < n_123 → (mI Tm M_118) → (pr 21 24 M_118 M) → (tI M_118 60 23 = 2) → ((tI M 60 21).toInt ≤ (tI M_118 60 21).toInt) → ((tI M 60 21).toInt < (tI M_118 60 21).toInt ∨ (48 ≤ (hr M_118).toInt ∧ (hr M_118).toInt ≤ 57)) → ti_H ti_LM D A cy H0 M_118 H locs → lv_has ls 2 [(1, .int r_32), (0, .ref (A 60 0))] → W p l e (ti_rm 5) s m args below meth c H locs 0 0 Q (F0 m 162 ls []) := by
                  intro n_123
                  induction n_123 with
                  | zero => intro M_118 H locs ls hf_123; exact absurd hf_123 (Nat.not_lt_zero _)
                  | succ n_123 ih_123 =>
                    intro M_118 H locs ls hf_123 iM_118 f_119 f_120 j_121 j_122 hw hl
                    have v_125 : (tI M_118 60 20).toInt = (tI M 60 20).toInt := by rw [f_119.2 20 (by decide)]
                    have v_126 : 0 ≤ (tI M_118 60 21).toInt ∧ (tI M_118 60 21).toInt ≤ 700 := mI_rd (x := tI M_118 60 21) (k := 21) iM_118 rfl
                    refine lv_aload_n hx hb dX10_token_162 rfl (lv_at hl 1 rfl) ?_
                    refine ti_callVi (ci := 10) (av := []) C hw (s_X10_here l D A cy hJ M_118 iM_118 ) ⟨ml_X10_166, ym_X10_here, yv_X10_here, yi_X10_here, yc_X10_here⟩ yd_X10_here ob_60 (by decide) rfl rfl hl.1 (Nat.le_of_ble_eq_true rfl) ⟨by decide, by decide⟩ ⟨Nat.zero_le _, Nat.zero_le _⟩ dX10_token_163 (fun r_127 M_128 H locs hp_128 hw => ?_)
                    obtain ⟨hm, b0r_127, b1r_127, p0r_127, p1r_127⟩ := hp_128
                    have hw := hw.to hm
                    have hhr_127 : (hr M_118).toInt = r_127.toInt := by rw [← p1r_127]
                    refine ti_callSi (av := [.int r_127]) C hw (s_X10_isDigit l D A cy hJ M_118 iM_118 r_127) ⟨ml_X10_189, ys_X10_isDigit, yi_X10_isDigit, yc_X10_isDigit⟩ yd_X10_isDigit rfl hl.1 (Nat.le_of_ble_eq_true rfl) ⟨by decide, by decide⟩ ⟨Nat.zero_le _, Nat.zero_le _⟩ dX10_token_166 (fun r_129 M_130 H locs hp_130 hw => ?_)
                    obtain ⟨hm, hz⟩ := hp_130
                    have hw := hw.to hm
                    rcases hz with ⟨rfl, d0_131, d1_131⟩ | ⟨rfl, d0_131⟩
                    · refine sb_if_eq (tgt := 225) hx hb (by decide : (1 : Int32).toInt = 1) dX10_token_169 (by decide) (fun h => absurd h (by decide)) (fun c_169_131 => ?_)
                      refine lv_aload_n hx hb dX10_token_172 rfl (lv_at hl 1 rfl) ?_
                      refine lv_aload_n hx hb dX10_token_173 rfl (lv_at hl 1 rfl) ?_
                      refine ti_get (ci := 10) (k := 24) (N := 67) (T := TX10) C hw iw_10 rfl ob_60 (by decide) (by decide) fl_X10_183 rfl rfl dX10_token_174 ?_
                      refine lv_topi (fun x_134 ex_134 => ?_)
                      refine lv_ldc (v := 99999) hx hb C.2.2.2.1 (C.2.2.1 _ cn_X10_192) dX10_token_177 ?_
                      have hj_204_141 : ∀ (x_141 : Int32) (H : Heap) (locs : List Loc) (ls : Array Slot), ti_H ti_LM D A cy H0 M_118 H locs → lv_has ls 2 [(1, .int r_32), (0, .ref (A 60 0))] → W p l e (ti_rm 5) s m args below meth c H locs 0 0 Q (F0 m 204 ls [.int x_141, .ref (A 60 0)]) := by
                        intro x_141 H locs ls  hw hl
                        refine ti_putI (ci := 10) (k := 24) (N := 67) (T := TX10) C hw iw_10 tyX10 tyX10_ok nmX10 rfl ob_60 (by decide) (by decide) fl_X10_183 rfl rfl rfl rfl (fn_10 A _) fs_10_24 dX10_token_204 (fun H locs hw => ?_)
                        obtain ⟨M_142, hM_142⟩ : ∃ z : ti_M, z = uI M_118 60 24 x_141 := ⟨_, rfl⟩
                        have hw := hw.to hM_142.symm
                        have iM_142 : mI Tm M_142 := mI_va iM_118 hM_142 (fun h => absurd ((f_120).symm.trans h) (by decide))
                        have v_143 : (tI M_142 60 20).toInt = (tI M_118 60 20).toInt := by rw [tI_nE hM_142 (nk (by decide))]
                        have v_144 : (tI M_142 60 21).toInt = (tI M_118 60 21).toInt := by rw [tI_nE hM_142 (nk (by decide))]
                        have v_145 : (tI M_142 60 23).toInt = (tI M_118 60 23).toInt := by rw [tI_nE hM_142 (nk (by decide))]
                        have v_146 : (hr M_142).toInt = (hr M_118).toInt := by rw [hr_I hM_142 (by decide)]
                        refine lv_aload_n hx hb dX10_token_207 rfl (lv_at hl 1 rfl) ?_
                        refine lv_dup hx hb dX10_token_208 rfl ?_
                        refine ti_get (ci := 10) (k := 21) (N := 67) (T := TX10) C hw iw_10 rfl ob_60 (by decide) (by decide) fl_X10_160 rfl rfl dX10_token_209 ?_
                        refine lv_topi (fun x_147 ex_147 => ?_)
                        have bx_147 : 0 ≤ x_147.toInt ∧ x_147.toInt ≤ 700 := mI_rd iM_142 ex_147
                        have ux_147 : (tI M_142 60 21).toInt = x_147.toInt := by rw [ex_147]
                        refine lv_iconst (v := 1) hx hb dX10_token_212 (by decide) ?_
                        refine lv_iadd hx hb dX10_token_213 ?_
                        refine lv_topi (fun x_148 ex_148 => ?_)
                        have tx_148 : x_148.toInt = x_147.toInt + 1 := i_add ex_148 rfl (by decide : (1 : Int32).toInt = 1) (by omega) (by omega)
                        refine ti_putI (ci := 10) (k := 21) (N := 67) (T := TX10) C hw iw_10 tyX10 tyX10_ok nmX10 rfl ob_60 (by decide) (by decide) fl_X10_160 rfl rfl rfl rfl (fn_10 A _) fs_10_21 dX10_token_214 (fun H locs hw => ?_)
                        obtain ⟨M_149, hM_149⟩ : ∃ z : ti_M, z = uI M_142 60 21 x_148 := ⟨_, rfl⟩
                        have hw := hw.to hM_149.symm
                        have iM_149 : mI Tm M_149 := mI_uI iM_142 hM_149 (by decide) (by decide) (ib_mk (lo := 0) (hi := 700) (by omega) (by omega))
                        have vM_149 : (tI M_149 60 21).toInt = (x_148 : Int32).toInt := by rw [tI_uE hM_149]
                        have v_150 : (tI M_149 60 20).toInt = (tI M_142 60 20).toInt := by rw [tI_nE hM_149 (nk (by decide))]
                        have v_151 : (tI M_149 60 21).toInt = (x_148 : Int32).toInt := by rw [tI_uE hM_149]
                        have v_152 : (tI M_149 60 23).toInt = (tI M_142 60 23).toInt := by rw [tI_nE hM_149 (nk (by decide))]
                        refine lv_goto (tgt := 162) hx hb dX10_token_217 (by decide) ?_
                        have u_153 : (tI M_149 60 21).toInt = (x_148 : Int32).toInt := by rw [(tI_uE hM_149)]
                        exact ih_123 M_149 _ _ _ (by omega) iM_149 (pr.trans (pr_I hM_149 (by decide)) (pr.trans (pr_I hM_142 (by decide)) f_119)) ((tI_nE hM_149 (nk (by decide))).trans ((tI_nE hM_142 (nk (by decide))).trans f_120)) (by first | omega | decide) (by first | omega | decide) hw (lv_sub hl [0, 1] rfl)
                      refine sb_icmp_le (tgt := 189) hx hb rfl (by decide : (99999 : Int32).toInt = 99999) dX10_token_179 (by decide) (fun c_179_134 => ?_) (fun c_179_134 => ?_)
                      · refine lv_bipush (v := 10) hx hb dX10_token_189 (by decide) ?_
                        refine lv_aload_n hx hb dX10_token_191 rfl (lv_at hl 1 rfl) ?_
                        refine ti_get (ci := 10) (k := 24) (N := 67) (T := TX10) C hw iw_10 rfl ob_60 (by decide) (by decide) fl_X10_183 rfl rfl dX10_token_192 ?_
                        refine ti_top (y := x_134) (ex_134.symm) ?_
                        refine lv_imul hx hb dX10_token_195 ?_
                        refine lv_topi (fun x_136 ex_136 => ?_)
                        refine lv_aload_n hx hb dX10_token_196 rfl (lv_at hl 1 rfl) ?_
                        refine ti_callVi (ci := 10) (av := []) C hw (s_X10_here l D A cy hJ M_118 iM_118 ) ⟨ml_X10_166, ym_X10_here, yv_X10_here, yi_X10_here, yc_X10_here⟩ yd_X10_here ob_60 (by decide) rfl rfl hl.1 (Nat.le_of_ble_eq_true rfl) ⟨by decide, by decide⟩ ⟨Nat.zero_le _, Nat.zero_le _⟩ dX10_token_197 (fun r_137 M_138 H locs hp_138 hw => ?_)
                        obtain ⟨hm, b0r_137, b1r_137, p0r_137, p1r_137⟩ := hp_138
                        have hw := hw.to hm
                        have hhr_137 : (hr M_118).toInt = r_137.toInt := by rw [← p1r_137]
                        refine lv_iadd hx hb dX10_token_200 ?_
                        refine lv_topi (fun x_139 ex_139 => ?_)
                        refine lv_bipush (v := 48) hx hb dX10_token_201 (by decide) ?_
                        refine lv_isub hx hb dX10_token_203 ?_
                        refine lv_topi (fun x_140 ex_140 => ?_)
                        exact hj_204_141 x_140 _ _ _  hw (lv_sub hl [0, 1] rfl)
                      · refine lv_aload_n hx hb dX10_token_182 rfl (lv_at hl 1 rfl) ?_
                        refine ti_get (ci := 10) (k := 24) (N := 67) (T := TX10) C hw iw_10 rfl ob_60 (by decide) (by decide) fl_X10_183 rfl rfl dX10_token_183 ?_
                        refine ti_top (y := x_134) (ex_134.symm) ?_
                        refine lv_goto (tgt := 204) hx hb dX10_token_186 (by decide) ?_
                        exact hj_204_141 x_134 _ _ _  hw (lv_sub hl [0, 1] rfl)
                    · refine sb_if_eq (tgt := 225) hx hb (by decide : (0 : Int32).toInt = 0) dX10_token_169 (by decide) (fun c_169_132 => ?_) (fun h => absurd h (by decide))
                      exact hQ _ _ _ _ _ hw (⟨iM_118, f_119, by omega, by omega⟩) dX10_token_225
                exact hl_162_122 ((700 - (tI M_113 60 21).toInt : Int).toNat + 1) M_113 _ _ _ (Nat.lt_succ_self _) iM_113 (pr.trans (pr_I hM_113 (by decide)) (pr.trans (pr_I hM_108 (by decide)) (pr.trans (pr_I hM_27 (by decide)) f_2))) ((tI_nE hM_113 (nk (by decide))).trans (tI_uE hM_108)) (by first | omega | decide) (by first | omega | decide) hw (lv_sub hl [0, 1] rfl)
              · refine sb_if_eq (tgt := 220) hx hb (by decide : (0 : Int32).toInt = 0) dX10_token_149 (by decide) (fun c_149_106 => ?_) (fun h => absurd h (by decide))
                refine lv_aload_n hx hb dX10_token_220 rfl (lv_at hl 1 rfl) ?_
                refine lv_iload_n hx hb dX10_token_221 rfl (lv_at hl 0 rfl) ?_
                refine ti_callVv (ci := 10) (av := [.int r_32]) C hw (s_X10_sign l D A cy hJ M_27 iM_27 r_32 (by first | omega | decide) (by first | omega | decide) (by first | omega | decide)) ⟨ml_X10_193, ym_X10_sign, yv_X10_sign, yi_X10_sign, yc_X10_sign⟩ yd_X10_sign ob_60 (by decide) rfl rfl hl.1 (Nat.le_of_ble_eq_true rfl) ⟨by decide, by decide⟩ ⟨Nat.zero_le _, Nat.zero_le _⟩ dX10_token_222 (fun M_155 H locs hp_155 hw => ?_)
                obtain ⟨iM_155, q_156, p0r_154⟩ := hp_155
                have v_157 : (tI M_155 60 20).toInt = (tI M_27 60 20).toInt := by rw [q_156.2 20 (by decide)]
                have v_158 : 0 ≤ (tI M_155 60 21).toInt ∧ (tI M_155 60 21).toInt ≤ 700 := mI_rd (x := tI M_155 60 21) (k := 21) iM_155 rfl
                exact hQ _ _ _ _ _ hw (⟨iM_155, (pr.trans q_156 (pr.trans (pr_I hM_27 (by decide)) f_2)), by omega, by omega⟩) dX10_token_225
          · refine lv_aload_n hx hb dX10_token_49 rfl (lv_at hl 1 rfl) ?_
            refine lv_iconst (v := 4) hx hb dX10_token_50 (by decide) ?_
            refine ti_putI (ci := 10) (k := 23) (N := 67) (T := TX10) C hw iw_10 tyX10 tyX10_ok nmX10 rfl ob_60 (by decide) (by decide) fl_X10_173 rfl rfl rfl rfl (fn_10 A _) fs_10_23 dX10_token_51 (fun H locs hw => ?_)
            obtain ⟨M_35, hM_35⟩ : ∃ z : ti_M, z = uI M_27 60 23 4 := ⟨_, rfl⟩
            have hw := hw.to hM_35.symm
            have iM_35 : mI Tm M_35 := mI_so iM_27 hM_35 (fun h => absurd h (by decide))
            have v_36 : (tI M_35 60 20).toInt = (tI M_27 60 20).toInt := by rw [tI_nE hM_35 (nk (by decide))]
            have v_37 : (tI M_35 60 21).toInt = (tI M_27 60 21).toInt := by rw [tI_nE hM_35 (nk (by decide))]
            have v_38 : (tI M_35 60 23).toInt = 4 := by rw [tI_uE hM_35]; decide
            have v_39 : (hr M_35).toInt = (hr M_27).toInt := by rw [hr_I hM_35 (by decide)]
            refine lv_goto (tgt := 225) hx hb dX10_token_54 (by decide) ?_
            exact hQ _ _ _ _ _ hw (⟨iM_35, (pr.trans (pr_I hM_35 (by decide)) (pr.trans (pr_I hM_27 (by decide)) f_2)), by omega, by omega⟩) dX10_token_225
        · have u_17 : 0 ≤ (tI M_1 60 20).toInt ∧ (tI M_1 60 20).toInt ≤ 700 := mI_rd (x := tI M_1 60 20) (k := 20) iM_1 rfl
          have u_18 : 0 ≤ (tI M_1 60 21).toInt ∧ (tI M_1 60 21).toInt ≤ 700 := mI_rd (x := tI M_1 60 21) (k := 21) iM_1 rfl
          exact hj_18_14  _ _ _ (by first | omega | decide) hw (lv_sub hl [0] rfl)
  exact hl_0_3 ((700 - (tI M 60 21).toInt : Int).toNat + 1) M _ _ _ (Nat.lt_succ_self _) hI pr.refl (by first | omega | decide) hw (lv_sub hl [0] rfl)

variable {Tc : gC} {Tm : gM}
/-- what the reading of a law leaves -/
def pe (N M : ti_M) : Prop := (∀ k, k ≠ 3 → k ≠ 16 → k ≠ 17 → tY N 60 k = tY M 60 k) ∧ (∀ i, i ≠ 18 → tY N 60 3 i = tY M 60 3 i) ∧ (∀ i : Nat, (i : Int) < 64 + (tY M 60 3 18).toInt → tY N 60 16 i = tY M 60 16 i ∧ tY N 60 17 i = tY M 60 17 i) ∧ (tY M 60 3 18).toInt ≤ (tY N 60 3 18).toInt ∧ (∀ k, (k < 21 ∨ 30 < k) → tI N 60 k = tI M 60 k)
theorem pe.refl {M : ti_M} : pe M M := ⟨fun _ _ _ _ => rfl, fun _ _ => rfl, fun _ _ => ⟨rfl, rfl⟩, Int.le_refl _, fun _ _ => rfl⟩
theorem pe.trans {K N M : ti_M} (x : pe K N) (y : pe N M) : pe K M :=
  ⟨fun k a b c => (x.1 k a b c).trans (y.1 k a b c), fun i h => (x.2.1 i h).trans (y.2.1 i h), fun i h => ⟨(x.2.2.1 i (by have := y.2.2.2.1; omega)).1.trans (y.2.2.1 i h).1, (x.2.2.1 i (by have := y.2.2.2.1; omega)).2.trans (y.2.2.1 i h).2⟩, Int.le_trans y.2.2.2.1 x.2.2.2.1, fun k h => (x.2.2.2.2 k h).trans (y.2.2.2.2 k h)⟩
theorem pe_pr {a b : Nat} {N M : ti_M} (x : pr a b N M) (h1 : 21 ≤ a) (h2 : b ≤ 30) : pe N M :=
  ⟨fun k _ _ _ => tY_fr x.1, fun i _ => by rw [tY_fr x.1], fun i _ => ⟨by rw [tY_fr x.1], by rw [tY_fr x.1]⟩, by rw [tY_fr x.1]; exact Int.le_refl _, fun k h => x.2 k (by omega)⟩
theorem pe_I {k : Nat} {N M : ti_M} {v : Int32} (e : N = uI M 60 k v) (h : 21 ≤ k ∧ k ≤ 30) : pe N M := pe_pr (a := k) (b := k) (pr_I e (by omega)) h.1 h.2
/-- the pile of the law that began at a is d deep, if nothing is wrong -/
def ud (M : ti_M) (a n : Nat) : Option Nat := dp (fun i => tY M 60 16 (64 + i)) (fun i => tY M 60 17 (64 + i)) a n
def us (M : ti_M) (a d : Nat) : Prop := (tI M 60 25).toInt ≠ 0 ∨ ((a : Int) ≤ (tY M 60 3 18).toInt ∧ ∃ b, d ≤ b ∧ ud M a ((tY M 60 3 18).toInt.toNat - a) = some b)
theorem us_pr {x y : Nat} {N M : ti_M} {a d : Nat} (h : us M a d) (r : pr x y N M) (hf : (tI M 60 25).toInt = 0 ∨ (tI N 60 25).toInt ≠ 0) : us N a d := by
  rcases h with h | h
  · exact Or.inl (by omega)
  · by_cases f : (tI N 60 25).toInt = 0
    · refine Or.inr ?_
      unfold ud at *
      rw [tY_fr r.1, tY_fr r.1, tY_fr r.1]; exact h
    · exact Or.inl f
theorem dp_ext {s v s2 v2 : Nat → Int32} {a : Nat} : ∀ n, (∀ i, i < n → s2 (a + i) = s (a + i) ∧ v2 (a + i) = v (a + i)) → dp s2 v2 a n = dp s v a n := by
  intro n
  induction n with
  | zero => intro _; rfl
  | succ n ih =>
    intro h
    simp only [dp]
    rw [ih (fun i hi => h i (by omega)), (h n (by omega)).1, (h n (by omega)).2]
/-- one knot more -/
theorem us_put {M N : ti_M} {a d d2 i j : Nat} {s v w : Int32} (h : us M a d) (f : (tI N 60 25).toInt = (tI M 60 25).toInt) (h0 : 0 ≤ (tY M 60 3 18).toInt) (e6 : tY N 60 16 = upd (tY M 60 16) i s) (e7 : tY N 60 17 = upd (tY M 60 17) j v) (ei : (i : Int) = 64 + (tY M 60 3 18).toInt) (ej : j = i) (e3 : tY N 60 3 18 = w) (hw : w.toInt = (tY M 60 3 18).toInt + 1)
    (hs : (s.toInt = 2 ∧ v.toInt = 260 ∧ 1 ≤ d ∧ d2 = d) ∨ (s.toInt = 2 ∧ 2 ≤ d ∧ d2 = d - 1) ∨ (s.toInt ≠ 2 ∧ (s.toInt = 0 ∨ (0 ≤ v.toInt ∧ v.toInt ≤ 5)) ∧ d2 = d + 1)) : us N a d2 := by
  rcases h with h | ⟨h1, b, hb, h2⟩
  · exact Or.inl (by omega)
  · refine Or.inr ⟨by rw [e3]; omega, ?_⟩
    subst ej
    obtain ⟨n, hn⟩ : ∃ n : Nat, (tY M 60 3 18).toInt.toNat = a + n := ⟨(tY M 60 3 18).toInt.toNat - a, by omega⟩
    rw [e3, show w.toInt.toNat - a = n + 1 by omega]
    rw [show (tY M 60 3 18).toInt.toNat - a = n by omega] at h2
    unfold ud at *
    rw [e6, e7]
    simp only [dp]
    have ex : dp (fun i => upd (tY M 60 16) j s (64 + i)) (fun i => upd (tY M 60 17) j v (64 + i)) a n = dp (fun i => tY M 60 16 (64 + i)) (fun i => tY M 60 17 (64 + i)) a n := dp_ext n (fun x hx => ⟨pk_un (show 64 + (a + x) ≠ j by omega), pk_un (show 64 + (a + x) ≠ j by omega)⟩)
    have hj : j = 64 + (a + n) := by omega
    subst hj
    rw [ex, h2, Option.bind_some]
    simp only [pk_us]
    rcases hs with ⟨q1, q2, q3, q4⟩ | ⟨q1, q3, q4⟩ | ⟨q1, q2, q4⟩
    · rw [if_pos q1, if_pos q2, if_pos (by omega)]; exact ⟨b, by omega, rfl⟩
    · by_cases q2 : v.toInt = 260
      · rw [if_pos q1, if_pos q2, if_pos (by omega)]; exact ⟨b, by omega, rfl⟩
      · rw [if_pos q1, if_neg q2, if_pos (by omega)]; exact ⟨b - 1, by omega, rfl⟩
    · rw [if_neg q1, if_pos q2]; exact ⟨b + 1, by omega, rfl⟩
set_option maxHeartbeats 4000000 in
set_option maxRecDepth 100000 in
theorem s_X10_reads_7 (l : Launch) (D : va_G) (A : Nat → Nat → Nat) (cy : Nat → ClassId) (hJ : ti_inj ti_LM A) (M : ti_M) (hI : mI Tm M) (v : Int32) (h1 : 0 ≤ v.toInt) (h2 : v.toInt ≤ 64) : ti_Kv l yX10_reads cX10_reads 3 0 ti_LM D A cy M [.ref (A 60 0), .int 7, .int v] (fun M2 => mI Tm M2 ∧ M2 = uY M 60 3 (upd (tY M 60 3) 18 v)) := by
  refine ti_eV yp_X10_reads hJ ti_LM_nd (Nat.le_of_ble_eq_true rfl) ?_
  intro p e s m args below meth c Q H0 C hQ hw ls hl
  have hx := C.1
  have hb := C.2.1
  have hl : lv_has ls 3 [(0, .ref (A 60 0)), (1, .int 7), (2, .int v)] := hl
  refine lv_aload_n hx hb dX10_reads_0 rfl (lv_at hl 0 rfl) ?_
  refine ti_get (ci := 10) (k := 3) (N := 67) (T := TX10) (v := .ref (A 60 4)) C hw iw_10 rfl ob_60 (by decide) (by decide) fl_X10_13 rfl rfl dX10_reads_1 ?_
  refine lv_bipush (v := 11) hx hb dX10_reads_4 (by decide) ?_
  refine lv_iload_n hx hb dX10_reads_6 rfl (lv_at hl 1 rfl) ?_
  refine lv_iadd hx hb dX10_reads_7 ?_
  refine ti_top (y := 18) (by decide) ?_
  refine lv_iload_n hx hb dX10_reads_8 rfl (lv_at hl 2 rfl) ?_
  refine ti_iast (ci := 10) (k := 3) (n := 22) C hw ob_60 (by decide) (fun _ _ => rfl) (by unfold vp_in; decide) dX10_reads_9 (fun H locs hw => ?_)
  obtain ⟨M_1, hM_1⟩ : ∃ z : ti_M, z = uY M 60 3 (upd (tY M 60 3) (18 : Int32).toNatClampNeg v) := ⟨_, rfl⟩
  have hw := hw.to hM_1.symm
  have iM_1 : mI Tm M_1 := mI_up (i := 18) hI hM_1 (ib_mk (lo := 0) (hi := 64) (by omega) (by omega))
  exact hQ _ _ _ _ _ hw (⟨iM_1, hM_1⟩) dX10_reads_10
set_option maxHeartbeats 4000000 in
set_option maxRecDepth 100000 in
theorem s_X10_puts (l : Launch) (D : va_G) (A : Nat → Nat → Nat) (cy : Nat → ClassId) (hJ : ti_inj ti_LM A) (M : ti_M) (hI : mI Tm M) (a d d2 : Nat) (pz v : Int32) (hu : us M a d) (h63 : (tI M 60 25).toInt ≠ 0 ∨ (tY M 60 3 18).toInt ≤ 63) (hs : (tI M 60 25).toInt ≠ 0 ∨ ((pz.toInt = 2 ∧ v.toInt = 260 ∧ 1 ≤ d ∧ d2 = d) ∨ (pz.toInt = 2 ∧ 2 ≤ d ∧ d2 = d - 1) ∨ (pz.toInt ≠ 2 ∧ (pz.toInt = 0 ∨ (0 ≤ v.toInt ∧ v.toInt ≤ 5)) ∧ d2 = d + 1))) : ti_Kv l yX10_puts cX10_puts 3 1 ti_LM D A cy M [.ref (A 60 0), .int pz, .int v] (fun M2 => mI Tm M2 ∧ pe M2 M ∧ us M2 a d2 ∧ (∀ k, k ≠ 999 → tI M2 60 k = tI M 60 k) ∧ ((tI M2 60 25).toInt ≠ 0 ∨ (tY M2 60 3 18).toInt = (tY M 60 3 18).toInt + 1)) := by
  refine ti_eV yp_X10_puts hJ ti_LM_nd (Nat.le_of_ble_eq_true rfl) ?_
  intro p e s m args below meth c Q H0 C hQ hw ls hl
  have hx := C.1
  have hb := C.2.1
  have hl : lv_has ls 3 [(0, .ref (A 60 0)), (1, .int pz), (2, .int v)] := hl
  refine lv_aload_n hx hb dX10_puts_0 rfl (lv_at hl 0 rfl) ?_
  refine ti_get (ci := 10) (k := 25) (N := 67) (T := TX10) C hw iw_10 rfl ob_60 (by decide) (by decide) fl_X10_208 rfl rfl dX10_puts_1 ?_
  refine lv_topi (fun x_1 ex_1 => ?_)
  have u_2 : (tI M 60 25).toInt = x_1.toInt := by rw [ex_1]
  refine sb_if_eq (tgt := 8) hx hb rfl dX10_puts_4 (by decide) (fun c_4_2 => ?_) (fun c_4_2 => ?_)
  · refine lv_aload_n hx hb dX10_puts_8 rfl (lv_at hl 0 rfl) ?_
    refine ti_get (ci := 10) (k := 16) (N := 67) (T := TX10) (v := .ref (A 60 17)) C hw iw_10 rfl ob_60 (by decide) (by decide) fl_X10_52 rfl rfl dX10_puts_9 ?_
    refine lv_bipush (v := 64) hx hb dX10_puts_12 (by decide) ?_
    refine lv_aload_n hx hb dX10_puts_14 rfl (lv_at hl 0 rfl) ?_
    refine lv_bipush (v := 7) hx hb dX10_puts_15 (by decide) ?_
    refine ti_callVi (ci := 10) (av := [.int 7]) C hw (s_X10_fresher_7 l D A cy hJ M hI ) ⟨ml_X10_224, ym_X10_fresher, yv_X10_fresher, yi_X10_fresher, yc_X10_fresher⟩ yd_X10_fresher ob_60 (by decide) rfl rfl hl.1 (Nat.le_of_ble_eq_true rfl) ⟨by decide, by decide⟩ ⟨Nat.zero_le _, Nat.zero_le _⟩ dX10_puts_17 (fun r_4 M_5 H locs hp_5 hw => ?_)
    obtain ⟨hm, b0r_4, b1r_4, yr_4⟩ := hp_5
    have hw := hw.to hm
    have zr_4 : (tY M 60 3 18).toInt = r_4.toInt := by rw [yr_4]
    refine lv_iadd hx hb dX10_puts_20 ?_
    refine lv_topi (fun x_6 ex_6 => ?_)
    have tx_6 : x_6.toInt = 64 + r_4.toInt := i_add ex_6 (by decide : (64 : Int32).toInt = 64) rfl (by omega) (by omega)
    refine lv_iload_n hx hb dX10_puts_21 rfl (lv_at hl 1 rfl) ?_
    refine ti_iast (ci := 10) (k := 16) (n := 128) C hw ob_60 (by decide) (fun _ _ => rfl) (vp_in_iff.mpr (by omega)) dX10_puts_22 (fun H locs hw => ?_)
    obtain ⟨M_7, hM_7⟩ : ∃ z : ti_M, z = uY M 60 16 (upd (tY M 60 16) (x_6 : Int32).toNatClampNeg pz) := ⟨_, rfl⟩
    have hw := hw.to hM_7.symm
    have iM_7 : mI Tm M_7 := mI_up (i := x_6.toNatClampNeg) hI hM_7 trivial
    have v_8 : (tI M_7 60 25).toInt = (tI M 60 25).toInt := by rw [tI_uYE hM_7]
    refine lv_aload_n hx hb dX10_puts_23 rfl (lv_at hl 0 rfl) ?_
    refine ti_get (ci := 10) (k := 17) (N := 67) (T := TX10) (v := .ref (A 60 18)) C hw iw_10 rfl ob_60 (by decide) (by decide) fl_X10_55 rfl rfl dX10_puts_24 ?_
    refine lv_bipush (v := 64) hx hb dX10_puts_27 (by decide) ?_
    refine lv_aload_n hx hb dX10_puts_29 rfl (lv_at hl 0 rfl) ?_
    refine lv_bipush (v := 7) hx hb dX10_puts_30 (by decide) ?_
    refine ti_callVi (ci := 10) (av := [.int 7]) C hw (s_X10_fresher_7 l D A cy hJ M_7 iM_7 ) ⟨ml_X10_224, ym_X10_fresher, yv_X10_fresher, yi_X10_fresher, yc_X10_fresher⟩ yd_X10_fresher ob_60 (by decide) rfl rfl hl.1 (Nat.le_of_ble_eq_true rfl) ⟨by decide, by decide⟩ ⟨Nat.zero_le _, Nat.zero_le _⟩ dX10_puts_32 (fun r_9 M_10 H locs hp_10 hw => ?_)
    obtain ⟨hm, b0r_9, b1r_9, yr_9⟩ := hp_10
    have hw := hw.to hm
    have sr_9 : r_9.toInt = (r_4 : Int32).toInt := by rw [← yr_9, ((cg (tY_nE hM_7 (nk (by decide))) 18).trans yr_4)]
    have zr_9 : (tY M_7 60 3 18).toInt = r_9.toInt := by rw [yr_9]
    refine lv_iadd hx hb dX10_puts_35 ?_
    refine lv_topi (fun x_11 ex_11 => ?_)
    have tx_11 : x_11.toInt = 64 + r_9.toInt := i_add ex_11 (by decide : (64 : Int32).toInt = 64) rfl (by omega) (by omega)
    refine lv_iload_n hx hb dX10_puts_36 rfl (lv_at hl 2 rfl) ?_
    refine ti_iast (ci := 10) (k := 17) (n := 128) C hw ob_60 (by decide) (fun _ _ => rfl) (vp_in_iff.mpr (by omega)) dX10_puts_37 (fun H locs hw => ?_)
    obtain ⟨M_12, hM_12⟩ : ∃ z : ti_M, z = uY M_7 60 17 (upd (tY M_7 60 17) (x_11 : Int32).toNatClampNeg v) := ⟨_, rfl⟩
    have hw := hw.to hM_12.symm
    have iM_12 : mI Tm M_12 := mI_up (i := x_11.toNatClampNeg) iM_7 hM_12 trivial
    have v_13 : (tI M_12 60 25).toInt = (tI M_7 60 25).toInt := by rw [tI_uYE hM_12]
    refine lv_aload_n hx hb dX10_puts_38 rfl (lv_at hl 0 rfl) ?_
    refine lv_bipush (v := 7) hx hb dX10_puts_39 (by decide) ?_
    refine lv_aload_n hx hb dX10_puts_41 rfl (lv_at hl 0 rfl) ?_
    refine lv_bipush (v := 7) hx hb dX10_puts_42 (by decide) ?_
    refine ti_callVi (ci := 10) (av := [.int 7]) C hw (s_X10_fresher_7 l D A cy hJ M_12 iM_12 ) ⟨ml_X10_224, ym_X10_fresher, yv_X10_fresher, yi_X10_fresher, yc_X10_fresher⟩ yd_X10_fresher ob_60 (by decide) rfl rfl hl.1 (Nat.le_of_ble_eq_true rfl) ⟨by decide, by decide⟩ ⟨Nat.zero_le _, Nat.zero_le _⟩ dX10_puts_44 (fun r_14 M_15 H locs hp_15 hw => ?_)
    obtain ⟨hm, b0r_14, b1r_14, yr_14⟩ := hp_15
    have hw := hw.to hm
    have sr_14 : r_14.toInt = (r_4 : Int32).toInt := by rw [← yr_14, ((cg (tY_nE hM_12 (nk (by decide))) 18).trans ((cg (tY_nE hM_7 (nk (by decide))) 18).trans yr_4))]
    have zr_14 : (tY M_12 60 3 18).toInt = r_14.toInt := by rw [yr_14]
    refine lv_iconst (v := 1) hx hb dX10_puts_47 (by decide) ?_
    refine lv_iadd hx hb dX10_puts_48 ?_
    refine lv_topi (fun x_16 ex_16 => ?_)
    have tx_16 : x_16.toInt = r_14.toInt + 1 := i_add ex_16 rfl (by decide : (1 : Int32).toInt = 1) (by omega) (by omega)
    refine ti_callVv (ci := 10) (av := [.int 7, .int x_16]) C hw (s_X10_reads_7 l D A cy hJ M_12 iM_12 x_16 (by first | omega | decide) (by first | omega | decide)) ⟨ml_X10_244, ym_X10_reads, yv_X10_reads, yi_X10_reads, yc_X10_reads⟩ yd_X10_reads ob_60 (by decide) rfl rfl hl.1 (Nat.le_of_ble_eq_true rfl) ⟨by decide, by decide⟩ ⟨Nat.zero_le _, Nat.zero_le _⟩ dX10_puts_49 (fun M_18 H locs hp_18 hw => ?_)
    obtain ⟨iM_18, hM_18⟩ := hp_18
    have v_19 : (tI M_18 60 25).toInt = (tI M_12 60 25).toInt := by rw [tI_uYE hM_18]
    have e6 : tY M_18 60 16 = upd (tY M 60 16) (x_6 : Int32).toNatClampNeg pz := by rw [tY_nE hM_18 (nk (by decide)), tY_nE hM_12 (nk (by decide)), tY_uE hM_7]
    have e7 : tY M_18 60 17 = upd (tY M 60 17) (x_11 : Int32).toNatClampNeg v := by rw [tY_nE hM_18 (nk (by decide)), tY_uE hM_12, tY_nE hM_7 (nk (by decide))]
    have e3 : tY M_18 60 3 18 = x_16 := by rw [tY_uE hM_18, pk_us]
    have eo : ∀ k, k ≠ 3 → k ≠ 16 → k ≠ 17 → tY M_18 60 k = tY M 60 k := fun k a b c => (tY_nE hM_18 (nk a)).trans ((tY_nE hM_12 (nk c)).trans (tY_nE hM_7 (nk b)))
    have et : ∀ k, tI M_18 60 k = tI M 60 k := fun k => (tI_uYE hM_18).trans ((tI_uYE hM_12).trans (tI_uYE hM_7))
    have en : ∀ i, i ≠ 18 → tY M_18 60 3 i = tY M 60 3 i := fun i hi => by rw [tY_uE hM_18, pk_un hi, tY_nE hM_12 (nk (by decide)), tY_nE hM_7 (nk (by decide))]
    have ei : (((x_6 : Int32).toNatClampNeg : Nat) : Int) = 64 + (tY M 60 3 18).toInt := by show ((x_6.toInt.toNat : Nat) : Int) = _; rw [(yr_4)]; omega
    have ej : (x_11 : Int32).toNatClampNeg = (x_6 : Int32).toNatClampNeg := by show x_11.toInt.toNat = x_6.toInt.toNat; omega
    exact hQ _ _ _ _ _ hw (⟨iM_18, ⟨eo, en, fun i hi => ⟨by rw [e6, pk_un (by omega)], by rw [e7, pk_un (by omega)]⟩, by rw [e3, (yr_4)]; omega, fun k _ => et k⟩, us_put hu (by rw [et]) (by rw [(yr_4)]; omega) e6 e7 ei ej e3 (by rw [(yr_4)]; omega) (hs.resolve_left (by omega)), fun k _ => et k, by rw [et, e3, (yr_4)]; omega⟩) dX10_puts_52
  · exact hQ _ _ _ _ _ hw (⟨hI, pe.refl, Or.inl (by omega), fun _ _ => rfl, by omega⟩) dX10_puts_7

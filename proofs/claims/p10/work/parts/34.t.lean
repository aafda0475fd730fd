variable {Tc : gC} {Tm : gM}
/-- what a line that is no law leaves -/
def l0 (N M : ti_M) : Prop := (∀ k, (k < 3 ∨ 13 < k) → tY N 60 k = tY M 60 k) ∧ (∀ i, ((i < 11 ∨ i = 18) → tY N 60 3 i = tY M 60 3 i) ∧ (i < 8 → tY N 60 4 i = tY M 60 4 i)) ∧ (∀ k, (k < 18 ∨ 30 < k) → tI N 60 k = tI M 60 k)
theorem l0.refl {M : ti_M} : l0 M M := ⟨fun _ _ => rfl, fun _ => ⟨fun _ => rfl, fun _ => rfl⟩, fun _ _ => rfl⟩
theorem l0.trans {K N M : ti_M} (x : l0 K N) (y : l0 N M) : l0 K M := ⟨fun k h => (x.1 k h).trans (y.1 k h), fun k => ⟨fun h => ((x.2.1 k).1 h).trans ((y.2.1 k).1 h), fun h => ((x.2.1 k).2 h).trans ((y.2.1 k).2 h)⟩, fun k h => (x.2.2 k h).trans (y.2.2 k h)⟩
theorem l0_pr {a b : Nat} {N M : ti_M} (x : pr a b N M) (h1 : 18 ≤ a) (h2 : b ≤ 30) : l0 N M := ⟨fun k _ => tY_fr x.1, fun i => ⟨fun _ => by rw [tY_fr x.1], fun _ => by rw [tY_fr x.1]⟩, fun k h => x.2 k (by omega)⟩
theorem l0_I {k : Nat} {N M : ti_M} {v : Int32} (e : N = uI M 60 k v) (h : 18 ≤ k ∧ k ≤ 30) : l0 N M := l0_pr (a := k) (b := k) (pr_I e (by omega)) h.1 h.2
theorem l0_Y {k : Nat} {N M : ti_M} {v : Nat → Int32} (e : N = uY M 60 k v) (h : 5 ≤ k ∧ k ≤ 13) : l0 N M := ⟨fun k2 h2 => tY_nE e (nk (by omega)), fun i => ⟨fun _ => by rw [tY_nE e (nk (by omega))], fun _ => by rw [tY_nE e (nk (by omega))]⟩, fun k2 _ => tI_uYE e⟩
theorem l0_4 {i : Nat} {N M : ti_M} {v : Int32} (e : N = uY M 60 4 (upd (tY M 60 4) i v)) (h : 8 ≤ i) : l0 N M := ⟨fun k2 h2 => tY_nE e (nk (by omega)), fun j => ⟨fun _ => by rw [tY_nE e (nk (by decide))], fun hj => by rw [tY_uE e, pk_un (by omega)]⟩, fun k2 _ => tI_uYE e⟩
theorem l0_3 {i : Nat} {N M : ti_M} {v : Int32} (e : N = uY M 60 3 (upd (tY M 60 3) i v)) (h : 11 ≤ i ∧ i ≠ 18) : l0 N M := ⟨fun k2 h2 => tY_nE e (nk (by omega)), fun j => ⟨fun hj => by rw [tY_uE e, pk_un (by omega)], fun _ => by rw [tY_nE e (nk (by decide))]⟩, fun k2 _ => tI_uYE e⟩
/-- what any line leaves -/
def ln (N M : ti_M) : Prop := (∀ k, (k < 3 ∨ 17 < k) → tY N 60 k = tY M 60 k) ∧ (∀ i, (i < 11 → tY N 60 3 i = tY M 60 3 i) ∧ (i < 8 → tY N 60 4 i = tY M 60 4 i)) ∧ (∀ i, i < 3 → tY N 60 14 i = tY M 60 14 i ∧ tY N 60 15 i = tY M 60 15 i) ∧ (∀ i, i < 64 → tY N 60 16 i = tY M 60 16 i ∧ tY N 60 17 i = tY M 60 17 i) ∧ (∀ k, (k < 18 ∨ 30 < k) → tI N 60 k = tI M 60 k)
theorem ln.refl {M : ti_M} : ln M M := ⟨fun _ _ => rfl, fun _ => ⟨fun _ => rfl, fun _ => rfl⟩, fun _ _ => ⟨rfl, rfl⟩, fun _ _ => ⟨rfl, rfl⟩, fun _ _ => rfl⟩
theorem ln.trans {K N M : ti_M} (x : ln K N) (y : ln N M) : ln K M := ⟨fun k h => (x.1 k h).trans (y.1 k h), fun k => ⟨fun h => ((x.2.1 k).1 h).trans ((y.2.1 k).1 h), fun h => ((x.2.1 k).2 h).trans ((y.2.1 k).2 h)⟩, fun k h => ⟨(x.2.2.1 k h).1.trans (y.2.2.1 k h).1, (x.2.2.1 k h).2.trans (y.2.2.1 k h).2⟩, fun k h => ⟨(x.2.2.2.1 k h).1.trans (y.2.2.2.1 k h).1, (x.2.2.2.1 k h).2.trans (y.2.2.2.1 k h).2⟩, fun k h => (x.2.2.2.2 k h).trans (y.2.2.2.2 k h)⟩
theorem ln_l0 {N M : ti_M} (x : l0 N M) : ln N M := ⟨fun k h => x.1 k (by omega), fun i => ⟨fun h => (x.2.1 i).1 (Or.inl h), (x.2.1 i).2⟩, fun i _ => ⟨by rw [x.1 14 (by decide)], by rw [x.1 15 (by decide)]⟩, fun i _ => ⟨by rw [x.1 16 (by decide)], by rw [x.1 17 (by decide)]⟩, x.2.2⟩
theorem ln_pe {N M : ti_M} (x : pe N M) (h : mI Tm M) : ln N M := ⟨fun k h => x.1 k (by omega) (by omega) (by omega), fun i => ⟨fun h => x.2.1 i (by omega), fun _ => by rw [x.1 4 (by decide) (by decide) (by decide)]⟩, fun i _ => ⟨by rw [x.1 14 (by decide) (by decide) (by decide)], by rw [x.1 15 (by decide) (by decide) (by decide)]⟩, fun i hi => x.2.2.1 i (by have := b18 h; omega), fun k h => x.2.2.2.2 k (by omega)⟩
theorem ln_14 {i : Nat} {N M : ti_M} {v : Int32} (e : N = uY M 60 14 (upd (tY M 60 14) i v)) (h : 3 ≤ i) : ln N M := ⟨fun k2 h2 => tY_nE e (nk (by omega)), fun j => ⟨fun hj => by rw [tY_nE e (nk (by decide))], fun hj => by rw [tY_nE e (nk (by decide))]⟩, fun j hj => ⟨by rw [tY_uE e, pk_un (by omega)], by rw [tY_nE e (nk (by decide))]⟩, fun j hj => ⟨by rw [tY_nE e (nk (by decide))], by rw [tY_nE e (nk (by decide))]⟩, fun k2 _ => tI_uYE e⟩
theorem ln_15 {i : Nat} {N M : ti_M} {v : Int32} (e : N = uY M 60 15 (upd (tY M 60 15) i v)) (h : 3 ≤ i) : ln N M := ⟨fun k2 h2 => tY_nE e (nk (by omega)), fun j => ⟨fun hj => by rw [tY_nE e (nk (by decide))], fun hj => by rw [tY_nE e (nk (by decide))]⟩, fun j hj => ⟨by rw [tY_nE e (nk (by decide))], by rw [tY_uE e, pk_un (by omega)]⟩, fun j hj => ⟨by rw [tY_nE e (nk (by decide))], by rw [tY_nE e (nk (by decide))]⟩, fun k2 _ => tI_uYE e⟩
/-- the laws read so far go through -/
def mU (M : ti_M) : Prop := ∀ j : Nat, j < 3 → ∃ a n d : Nat, (tY M 60 14 (3 + j)).toInt = a ∧ (tY M 60 15 (3 + j)).toInt = ((a + n : Nat) : Int) ∧ ((a + n : Nat) : Int) ≤ (tY M 60 3 18).toInt ∧ ud M a n = some d
def um (M : ti_M) : Prop := ff M = 0 ∨ mU M
theorem um_l0 {N M : ti_M} (h : um M) (r : l0 N M) (hf : ff N ≤ ff M) : um N := by
  rcases h with h | h
  · exact Or.inl (by have := ff_b N; omega)
  · refine Or.inr ?_
    unfold mU ud at *
    rw [r.1 14 (by decide), r.1 15 (by decide), r.1 16 (by decide), r.1 17 (by decide), (r.2.1 18).1 (by decide)]; exact h
theorem us_0 {M : ti_M} (h : mI Tm M) : us M (tY M 60 3 18).toInt.toNat 0 := Or.inr ⟨by have := b18 h; omega, 0, Nat.le_refl _, by rw [Nat.sub_self]; rfl⟩
theorem um_law {A0 B C E : ti_M} {i i2 : Nat} {f t : Int32} (h : um A0) (hA : mI Tm A0) (hC : mI Tm C) (e1 : B = uY A0 60 14 (upd (tY A0 60 14) i f)) (hf : f.toInt = (tY A0 60 3 18).toInt) (hi : 3 ≤ i ∧ i ≤ 5) (p : pe C B) (hff : ff C ≤ ff B) (u : us C (tY B 60 3 18).toInt.toNat (0 + 1)) (e2 : E = uY C 60 15 (upd (tY C 60 15) i2 t)) (h2 : i2 = i) (ht : t.toInt = (tY C 60 3 18).toInt) : um E := by
  subst h2
  have kB : tY B 60 3 18 = tY A0 60 3 18 := by rw [tY_nE e1 (nk (by decide))]
  have k1 := b18 hA
  have k2 := b18 hC
  have k3 := p.2.2.2.1
  have fE : ff E = ff C := ff_e (tI_uYE e2)
  have fB : ff B = ff A0 := ff_e (tI_uYE e1)
  have fb := ff_b C
  have fa := ff_b A0
  by_cases q : ff C = 0
  · exact Or.inl (by omega)
  · have hU : mU A0 := h.resolve_left (by omega)
    have u := u.resolve_left (by intro w; exact q (ff_0 w))
    refine Or.inr (fun j hj => ?_)
    have e3 : tY E 60 3 18 = tY C 60 3 18 := by rw [tY_nE e2 (nk (by decide))]
    have e14 : ∀ x, tY E 60 14 x = upd (tY A0 60 14) i2 f x := fun x => by rw [tY_nE e2 (nk (by decide)), p.1 14 (by decide) (by decide) (by decide), tY_uE e1]
    have e15 : ∀ x, tY E 60 15 x = upd (tY A0 60 15) i2 t x := fun x => by rw [tY_uE e2, p.1 15 (by decide) (by decide) (by decide), tY_nE e1 (nk (by decide))]
    have eu : ∀ a n, ud E a n = ud C a n := fun a n => by unfold ud; rw [tY_nE e2 (nk (by decide)), tY_nE e2 (nk (by decide))]
    rw [kB] at u k3
    by_cases z : 3 + j = i2
    · obtain ⟨u1, b, -, u2⟩ := u
      refine ⟨(tY A0 60 3 18).toInt.toNat, (tY C 60 3 18).toInt.toNat - (tY A0 60 3 18).toInt.toNat, b, ?_, ?_, ?_, ?_⟩
      · rw [e14, z, pk_us]; omega
      · rw [e15, z, pk_us]; omega
      · rw [e3]; omega
      · rw [eu]; exact u2
    · obtain ⟨a, n, d, g1, g2, g3, g4⟩ := hU j hj
      refine ⟨a, n, d, ?_, ?_, ?_, ?_⟩
      · rw [e14, pk_un z]; exact g1
      · rw [e15, pk_un z]; exact g2
      · rw [e3]; omega
      · rw [eu, ← g4]
        unfold ud
        refine dp_ext n (fun x hx => ?_)
        have w := p.2.2.1 (64 + (a + x)) (by rw [kB]; omega)
        rw [tY_nE e1 (nk (by decide)), tY_nE e1 (nk (by decide))] at w
        exact w
theorem bn_p {i : Nat} {v : Int32} (h : 19 ≤ i ∧ i ≤ 21) (hv : ib 0 7 v) : mBN i v := by
  obtain rfl | rfl | rfl : i = 19 ∨ i = 20 ∨ i = 21 := by omega
  · exact hv
  · exact hv
  · exact hv
theorem l_ps {a b : Nat} {N M : ti_M} (ha : 21 ≤ a) (hb : b ≤ 28) (h : mI Tm N ∧ pr a b N M ∧ ((tI M 60 21).toInt ≤ (tI N 60 21).toInt) ∧ ((tI M 60 21).toInt < (tI N 60 21).toInt ∨ (tI N 60 23).toInt = (tI M 60 23).toInt ∨ (tI N 60 23).toInt = 4) ∧ ((tI M 60 25).toInt = 0 ∨ (tI N 60 25).toInt ≠ 0)) : pg M ≤ pg N ∧ (0 ≤ ff N ∧ ff N ≤ ff M) ∧ (tI N 60 29).toInt = (tI M 60 29).toInt ∧ (tI N 60 30).toInt = (tI M 60 30).toInt ∧ (tY N 60 3 18).toInt = (tY M 60 3 18).toInt :=
  ⟨pg_s h.2.2.1 h.2.2.2.1, ⟨(ff_b N).1, ff_f h.2.2.2.2⟩, by rw [h.2.1.2 29 (by omega)], by rw [h.2.1.2 30 (by omega)], by rw [tY_fr h.2.1.1]⟩
theorem s5_Y {k : Nat} {N M : ti_M} {v : Nat → Int32} (e : N = uY M 60 k v) (h : k ≠ 3) : ff N = ff M ∧ pg N = pg M ∧ (tI N 60 29).toInt = (tI M 60 29).toInt ∧ (tI N 60 30).toInt = (tI M 60 30).toInt ∧ (tY N 60 3 18).toInt = (tY M 60 3 18).toInt := ⟨ff_e (tI_uYE e), pg_e (tI_uYE e) (tI_uYE e), by rw [tI_uYE e], by rw [tI_uYE e], by rw [tY_nE e (nk (Ne.symm h))]⟩
theorem s5_3 {i : Nat} {N M : ti_M} {v : Int32} (e : N = uY M 60 3 (upd (tY M 60 3) i v)) (h : i ≠ 18) : ff N = ff M ∧ pg N = pg M ∧ (tI N 60 29).toInt = (tI M 60 29).toInt ∧ (tI N 60 30).toInt = (tI M 60 30).toInt ∧ (tY N 60 3 18).toInt = (tY M 60 3 18).toInt := ⟨ff_e (tI_uYE e), pg_e (tI_uYE e) (tI_uYE e), by rw [tI_uYE e], by rw [tI_uYE e], by rw [tY_uE e, pk_un (Ne.symm h)]⟩
set_option maxHeartbeats 4000000 in
set_option maxRecDepth 100000 in
theorem s_X10_reads (l : Launch) (D : va_G) (A : Nat → Nat → Nat) (cy : Nat → ClassId) (hJ : ti_inj ti_LM A) (M : ti_M) (hI : mI Tm M) (q v : Int32) (h1 : 0 ≤ q.toInt) (h2 : q.toInt ≤ 10) (hb0 : mBN (11 + q.toInt).toNat v) : ti_Kv l yX10_reads cX10_reads 3 0 ti_LM D A cy M [.ref (A 60 0), .int q, .int v] (fun M2 => mI Tm M2 ∧ M2 = uY M 60 3 (upd (tY M 60 3) (11 + q.toInt).toNat v)) := by
  refine ti_eV yp_X10_reads hJ ti_LM_nd (Nat.le_of_ble_eq_true rfl) ?_
  intro p e s m args below meth c Q H0 C hQ hw ls hl
  have hx := C.1
  have hb := C.2.1
  have hl : lv_has ls 3 [(0, .ref (A 60 0)), (1, .int q), (2, .int v)] := hl
  refine lv_aload_n hx hb dX10_reads_0 rfl (lv_at hl 0 rfl) ?_
  refine ti_get (ci := 10) (k := 3) (N := 67) (T := TX10) (v := .ref (A 60 4)) C hw iw_10 rfl ob_60 (by decide) (by decide) fl_X10_13 rfl rfl dX10_reads_1 ?_
  refine lv_bipush (v := 11) hx hb dX10_reads_4 (by decide) ?_
  refine lv_iload_n hx hb dX10_reads_6 rfl (lv_at hl 1 rfl) ?_
  refine lv_iadd hx hb dX10_reads_7 ?_
  refine lv_topi (fun x_1 ex_1 => ?_)
  have tx_1 : x_1.toInt = 11 + q.toInt := i_add ex_1 (by decide : (11 : Int32).toInt = 11) rfl (by omega) (by omega)
  refine lv_iload_n hx hb dX10_reads_8 rfl (lv_at hl 2 rfl) ?_
  refine ti_iast (ci := 10) (k := 3) (n := 22) C hw ob_60 (by decide) (fun _ _ => rfl) (vp_in_iff.mpr (by omega)) dX10_reads_9 (fun H locs hw => ?_)
  obtain ⟨M_2, hM_2⟩ : ∃ z : ti_M, z = uY M 60 3 (upd (tY M 60 3) (x_1 : Int32).toNatClampNeg v) := ⟨_, rfl⟩
  have hw := hw.to hM_2.symm
  have iM_2 : mI Tm M_2 := mI_up hI hM_2 (by have h := hb0; rw [show (11 + q.toInt).toNat = (x_1 : Int32).toNatClampNeg by (show _ = (x_1 : Int32).toInt.toNat; omega)] at h; exact h)
  exact hQ _ _ _ _ _ hw (⟨iM_2, by rw [show (11 + q.toInt).toNat = (x_1 : Int32).toNatClampNeg by (show _ = (x_1 : Int32).toInt.toNat; omega)]; exact hM_2⟩) dX10_reads_10
set_option maxHeartbeats 4000000 in
set_option maxRecDepth 100000 in
theorem s_X10_manLine (l : Launch) (D : va_G) (A : Nat → Nat → Nat) (cy : Nat → ClassId) (hJ : ti_inj ti_LM A) (M : ti_M) (hI : mI Tm M) (mz nm : Int32) (hm1 : 8 ≤ mz.toInt) (hm2 : mz.toInt ≤ 15) (h11 : tY M 60 3 11 = nm) (hn0 : 0 ≤ nm.toInt) (hn : nm.toInt ≤ 7) : ti_KvE l yX10_manLine cX10_manLine 2 7 ti_LM D A cy M [.ref (A 60 0), .int mz] (fun M2 => mI Tm M2 ∧ l0 M2 M ∧ (pg M ≤ pg M2) ∧ (0 ≤ ff M2) ∧ (ff M2 ≤ ff M) ∧ ((tI M2 60 29).toInt = (tI M 60 29).toInt) ∧ ((tI M2 60 30).toInt = (tI M 60 30).toInt) ∧ ((tY M2 60 3 18).toInt = (tY M 60 3 18).toInt)) := by
  refine ti_eVE yp_X10_manLine hJ ti_LM_nd (Nat.le_of_ble_eq_true rfl) ?_
  intro p e s m args below meth c Q H0 C hE hQ hw ls hl
  have hx := C.1
  have hb := C.2.1
  have hl : lv_has ls 2 [(0, .ref (A 60 0)), (1, .int mz)] := hl
  have hI30 := b30 hI
  have hI29 := b29 hI
  have hI18 := b18 hI
  have hIff := ff_b M
  refine lv_aload_n hx hb dX10_manLine_0 rfl (lv_at hl 0 rfl) ?_
  refine ti_get (ci := 10) (k := 4) (N := 67) (T := TX10) (v := .ref (A 60 5)) C hw iw_10 rfl ob_60 (by decide) (by decide) fl_X10_16 rfl rfl dX10_manLine_1 ?_
  refine lv_iload_n hx hb dX10_manLine_4 rfl (lv_at hl 1 rfl) ?_
  refine lv_aload_n hx hb dX10_manLine_5 rfl (lv_at hl 0 rfl) ?_
  refine lv_aload_n hx hb dX10_manLine_6 rfl (lv_at hl 0 rfl) ?_
  refine ti_get (ci := 10) (k := 4) (N := 67) (T := TX10) (v := .ref (A 60 5)) C hw iw_10 rfl ob_60 (by decide) (by decide) fl_X10_16 rfl rfl dX10_manLine_7 ?_
  refine lv_bipush (v := 8) hx hb dX10_manLine_10 (by decide) ?_
  refine lv_aload_n hx hb dX10_manLine_12 rfl (lv_at hl 0 rfl) ?_
  refine lv_iconst (v := 0) hx hb dX10_manLine_13 (by decide) ?_
  refine ti_callVi (ci := 10) (av := [.int 0]) C hw (s_X10_fresher_0 l D A cy hJ M hI ) ⟨ml_X10_224, ym_X10_fresher, yv_X10_fresher, yi_X10_fresher, yc_X10_fresher⟩ yd_X10_fresher ob_60 (by decide) rfl rfl hl.1 (Nat.le_of_ble_eq_true rfl) ⟨by decide, by decide⟩ ⟨Nat.zero_le _, Nat.zero_le _⟩ dX10_manLine_14 (fun r_1 M_2 H locs hp_2 hw => ?_)
  obtain ⟨hm, b0r_1, b1r_1, yr_1⟩ := hp_2
  have hw := hw.to hm
  have sr_1 : r_1.toInt = (nm : Int32).toInt := by rw [← yr_1, (h11)]
  have zr_1 : (tY M 60 3 11).toInt = r_1.toInt := by rw [yr_1]
  refine ti_callViE (ci := 10) (av := [.ref (A 60 5), .int 8, .int r_1]) C hE hw (s_X10_fresh l D A cy hJ M hI r_1 (by first | omega | decide) (by first | omega | decide)) ⟨ml_X10_257, ym_X10_fresh, yv_X10_fresh, yi_X10_fresh, yc_X10_fresh⟩ yd_X10_fresh ob_60 (by decide) rfl rfl hl.1 (Nat.le_of_ble_eq_true rfl) ⟨by decide, by decide⟩ ⟨Nat.zero_le _, Nat.zero_le _⟩ dX10_manLine_17 (fun r_3 M_4 H locs hp_4 hw => ?_)
  obtain ⟨iM_4, q_5, p_6, p_7, p_8⟩ := hp_4
  have z_9 := l_ps (by decide) (by decide) ⟨iM_4, q_5, p_6, p_7, p_8⟩
  clear p_6 p_7 p_8
  refine ti_iast (ci := 10) (k := 4) (n := 16) C hw ob_60 (by decide) (fun _ _ => rfl) (vp_in_iff.mpr (by omega)) dX10_manLine_20 (fun H locs hw => ?_)
  obtain ⟨M_10, hM_10⟩ : ∃ z : ti_M, z = uY M_4 60 4 (upd (tY M_4 60 4) (mz : Int32).toNatClampNeg r_3) := ⟨_, rfl⟩
  have hw := hw.to hM_10.symm
  have iM_10 : mI Tm M_10 := mI_up (i := mz.toNatClampNeg) iM_4 hM_10 trivial
  have z_11 := s5_Y hM_10 (by decide)
  refine lv_aload_n hx hb dX10_manLine_21 rfl (lv_at hl 0 rfl) ?_
  refine ti_get (ci := 10) (k := 5) (N := 67) (T := TX10) (v := .ref (A 60 6)) C hw iw_10 rfl ob_60 (by decide) (by decide) fl_X10_19 rfl rfl dX10_manLine_22 ?_
  refine lv_iload_n hx hb dX10_manLine_25 rfl (lv_at hl 1 rfl) ?_
  refine lv_aload_n hx hb dX10_manLine_26 rfl (lv_at hl 0 rfl) ?_
  refine lv_iconst (v := 1) hx hb dX10_manLine_27 (by decide) ?_
  refine lv_bipush (v := 99) hx hb dX10_manLine_28 (by decide) ?_
  refine ti_callViE (ci := 10) (av := [.int 1, .int 99]) C hE hw (s_X10_numeral l D A cy hJ M_10 iM_10 1 99 (by decide)) ⟨ml_X10_240, ym_X10_numeral, yv_X10_numeral, yi_X10_numeral, yc_X10_numeral⟩ yd_X10_numeral ob_60 (by decide) rfl rfl hl.1 (Nat.le_of_ble_eq_true rfl) ⟨by decide, by decide⟩ ⟨Nat.zero_le _, Nat.zero_le _⟩ dX10_manLine_30 (fun r_12 M_13 H locs hp_13 hw => ?_)
  obtain ⟨iM_13, q_14, p_15, p_16, p_17, b0r_12, b1r_12⟩ := hp_13
  have z_18 := l_ps (by decide) (by decide) ⟨iM_13, q_14, p_15, p_16, p_17⟩
  clear p_15 p_16 p_17
  have br_12 : 1 ≤ r_12.toInt ∧ r_12.toInt ≤ 99 := by have l1 : (1 : Int32).toInt = 1 := (by decide); have l2 : (99 : Int32).toInt = 99 := (by decide); omega
  refine ti_iast (ci := 10) (k := 5) (n := 16) C hw ob_60 (by decide) (fun _ _ => rfl) (vp_in_iff.mpr (by omega)) dX10_manLine_33 (fun H locs hw => ?_)
  obtain ⟨M_19, hM_19⟩ : ∃ z : ti_M, z = uY M_13 60 5 (upd (tY M_13 60 5) (mz : Int32).toNatClampNeg r_12) := ⟨_, rfl⟩
  have hw := hw.to hM_19.symm
  have iM_19 : mI Tm M_19 := mI_up (i := mz.toNatClampNeg) iM_13 hM_19 trivial
  have z_20 := s5_Y hM_19 (by decide)
  refine lv_aload_n hx hb dX10_manLine_34 rfl (lv_at hl 0 rfl) ?_
  refine ti_get (ci := 10) (k := 6) (N := 67) (T := TX10) (v := .ref (A 60 7)) C hw iw_10 rfl ob_60 (by decide) (by decide) fl_X10_22 rfl rfl dX10_manLine_35 ?_
  refine lv_iload_n hx hb dX10_manLine_38 rfl (lv_at hl 1 rfl) ?_
  refine lv_aload_n hx hb dX10_manLine_39 rfl (lv_at hl 0 rfl) ?_
  refine lv_iconst (v := 0) hx hb dX10_manLine_40 (by decide) ?_
  refine lv_bipush (v := 9) hx hb dX10_manLine_41 (by decide) ?_
  refine ti_callViE (ci := 10) (av := [.int 0, .int 9]) C hE hw (s_X10_numeral l D A cy hJ M_19 iM_19 0 9 (by decide)) ⟨ml_X10_240, ym_X10_numeral, yv_X10_numeral, yi_X10_numeral, yc_X10_numeral⟩ yd_X10_numeral ob_60 (by decide) rfl rfl hl.1 (Nat.le_of_ble_eq_true rfl) ⟨by decide, by decide⟩ ⟨Nat.zero_le _, Nat.zero_le _⟩ dX10_manLine_43 (fun r_21 M_22 H locs hp_22 hw => ?_)
  obtain ⟨iM_22, q_23, p_24, p_25, p_26, b0r_21, b1r_21⟩ := hp_22
  have z_27 := l_ps (by decide) (by decide) ⟨iM_22, q_23, p_24, p_25, p_26⟩
  clear p_24 p_25 p_26
  have br_21 : 0 ≤ r_21.toInt ∧ r_21.toInt ≤ 9 := by have l1 : (0 : Int32).toInt = 0 := (by decide); have l2 : (9 : Int32).toInt = 9 := (by decide); omega
  refine ti_iast (ci := 10) (k := 6) (n := 16) C hw ob_60 (by decide) (fun _ _ => rfl) (vp_in_iff.mpr (by omega)) dX10_manLine_46 (fun H locs hw => ?_)
  obtain ⟨M_28, hM_28⟩ : ∃ z : ti_M, z = uY M_22 60 6 (upd (tY M_22 60 6) (mz : Int32).toNatClampNeg r_21) := ⟨_, rfl⟩
  have hw := hw.to hM_28.symm
  have iM_28 : mI Tm M_28 := mI_up (i := mz.toNatClampNeg) iM_22 hM_28 trivial
  have z_29 := s5_Y hM_28 (by decide)
  refine lv_aload_n hx hb dX10_manLine_47 rfl (lv_at hl 0 rfl) ?_
  refine ti_get (ci := 10) (k := 7) (N := 67) (T := TX10) (v := .ref (A 60 8)) C hw iw_10 rfl ob_60 (by decide) (by decide) fl_X10_25 rfl rfl dX10_manLine_48 ?_
  refine lv_iload_n hx hb dX10_manLine_51 rfl (lv_at hl 1 rfl) ?_
  refine lv_aload_n hx hb dX10_manLine_52 rfl (lv_at hl 0 rfl) ?_
  refine lv_iconst (v := 1) hx hb dX10_manLine_53 (by decide) ?_
  refine lv_bipush (v := 99) hx hb dX10_manLine_54 (by decide) ?_
  refine ti_callViE (ci := 10) (av := [.int 1, .int 99]) C hE hw (s_X10_numeral l D A cy hJ M_28 iM_28 1 99 (by decide)) ⟨ml_X10_240, ym_X10_numeral, yv_X10_numeral, yi_X10_numeral, yc_X10_numeral⟩ yd_X10_numeral ob_60 (by decide) rfl rfl hl.1 (Nat.le_of_ble_eq_true rfl) ⟨by decide, by decide⟩ ⟨Nat.zero_le _, Nat.zero_le _⟩ dX10_manLine_56 (fun r_30 M_31 H locs hp_31 hw => ?_)
  obtain ⟨iM_31, q_32, p_33, p_34, p_35, b0r_30, b1r_30⟩ := hp_31
  have z_36 := l_ps (by decide) (by decide) ⟨iM_31, q_32, p_33, p_34, p_35⟩
  clear p_33 p_34 p_35
  have br_30 : 1 ≤ r_30.toInt ∧ r_30.toInt ≤ 99 := by have l1 : (1 : Int32).toInt = 1 := (by decide); have l2 : (99 : Int32).toInt = 99 := (by decide); omega
  refine ti_iast (ci := 10) (k := 7) (n := 16) C hw ob_60 (by decide) (fun _ _ => rfl) (vp_in_iff.mpr (by omega)) dX10_manLine_59 (fun H locs hw => ?_)
  obtain ⟨M_37, hM_37⟩ : ∃ z : ti_M, z = uY M_31 60 7 (upd (tY M_31 60 7) (mz : Int32).toNatClampNeg r_30) := ⟨_, rfl⟩
  have hw := hw.to hM_37.symm
  have iM_37 : mI Tm M_37 := mI_up (i := mz.toNatClampNeg) iM_31 hM_37 trivial
  have z_38 := s5_Y hM_37 (by decide)
  refine lv_aload_n hx hb dX10_manLine_60 rfl (lv_at hl 0 rfl) ?_
  refine ti_get (ci := 10) (k := 8) (N := 67) (T := TX10) (v := .ref (A 60 9)) C hw iw_10 rfl ob_60 (by decide) (by decide) fl_X10_28 rfl rfl dX10_manLine_61 ?_
  refine lv_iload_n hx hb dX10_manLine_64 rfl (lv_at hl 1 rfl) ?_
  refine lv_aload_n hx hb dX10_manLine_65 rfl (lv_at hl 0 rfl) ?_
  refine lv_iconst (v := 1) hx hb dX10_manLine_66 (by decide) ?_
  refine lv_bipush (v := 30) hx hb dX10_manLine_67 (by decide) ?_
  refine ti_callViE (ci := 10) (av := [.int 1, .int 30]) C hE hw (s_X10_numeral l D A cy hJ M_37 iM_37 1 30 (by decide)) ⟨ml_X10_240, ym_X10_numeral, yv_X10_numeral, yi_X10_numeral, yc_X10_numeral⟩ yd_X10_numeral ob_60 (by decide) rfl rfl hl.1 (Nat.le_of_ble_eq_true rfl) ⟨by decide, by decide⟩ ⟨Nat.zero_le _, Nat.zero_le _⟩ dX10_manLine_69 (fun r_39 M_40 H locs hp_40 hw => ?_)
  obtain ⟨iM_40, q_41, p_42, p_43, p_44, b0r_39, b1r_39⟩ := hp_40
  have z_45 := l_ps (by decide) (by decide) ⟨iM_40, q_41, p_42, p_43, p_44⟩
  clear p_42 p_43 p_44
  have br_39 : 1 ≤ r_39.toInt ∧ r_39.toInt ≤ 30 := by have l1 : (1 : Int32).toInt = 1 := (by decide); have l2 : (30 : Int32).toInt = 30 := (by decide); omega
  refine ti_iast (ci := 10) (k := 8) (n := 16) C hw ob_60 (by decide) (fun _ _ => rfl) (vp_in_iff.mpr (by omega)) dX10_manLine_72 (fun H locs hw => ?_)
  obtain ⟨M_46, hM_46⟩ : ∃ z : ti_M, z = uY M_40 60 8 (upd (tY M_40 60 8) (mz : Int32).toNatClampNeg r_39) := ⟨_, rfl⟩
  have hw := hw.to hM_46.symm
  have iM_46 : mI Tm M_46 := mI_up (i := mz.toNatClampNeg) iM_40 hM_46 trivial
  have z_47 := s5_Y hM_46 (by decide)
  refine lv_aload_n hx hb dX10_manLine_73 rfl (lv_at hl 0 rfl) ?_
  refine ti_get (ci := 10) (k := 9) (N := 67) (T := TX10) (v := .ref (A 60 10)) C hw iw_10 rfl ob_60 (by decide) (by decide) fl_X10_31 rfl rfl dX10_manLine_74 ?_
  refine lv_iload_n hx hb dX10_manLine_77 rfl (lv_at hl 1 rfl) ?_
  refine lv_aload_n hx hb dX10_manLine_78 rfl (lv_at hl 0 rfl) ?_
  refine lv_iconst (v := 0) hx hb dX10_manLine_79 (by decide) ?_
  refine lv_bipush (v := 99) hx hb dX10_manLine_80 (by decide) ?_
  refine ti_callViE (ci := 10) (av := [.int 0, .int 99]) C hE hw (s_X10_numeral l D A cy hJ M_46 iM_46 0 99 (by decide)) ⟨ml_X10_240, ym_X10_numeral, yv_X10_numeral, yi_X10_numeral, yc_X10_numeral⟩ yd_X10_numeral ob_60 (by decide) rfl rfl hl.1 (Nat.le_of_ble_eq_true rfl) ⟨by decide, by decide⟩ ⟨Nat.zero_le _, Nat.zero_le _⟩ dX10_manLine_82 (fun r_48 M_49 H locs hp_49 hw => ?_)
  obtain ⟨iM_49, q_50, p_51, p_52, p_53, b0r_48, b1r_48⟩ := hp_49
  have z_54 := l_ps (by decide) (by decide) ⟨iM_49, q_50, p_51, p_52, p_53⟩
  clear p_51 p_52 p_53
  have br_48 : 0 ≤ r_48.toInt ∧ r_48.toInt ≤ 99 := by have l1 : (0 : Int32).toInt = 0 := (by decide); have l2 : (99 : Int32).toInt = 99 := (by decide); omega
  refine ti_iast (ci := 10) (k := 9) (n := 16) C hw ob_60 (by decide) (fun _ _ => rfl) (vp_in_iff.mpr (by omega)) dX10_manLine_85 (fun H locs hw => ?_)
  obtain ⟨M_55, hM_55⟩ : ∃ z : ti_M, z = uY M_49 60 9 (upd (tY M_49 60 9) (mz : Int32).toNatClampNeg r_48) := ⟨_, rfl⟩
  have hw := hw.to hM_55.symm
  have iM_55 : mI Tm M_55 := mI_up (i := mz.toNatClampNeg) iM_49 hM_55 trivial
  have z_56 := s5_Y hM_55 (by decide)
  refine lv_aload_n hx hb dX10_manLine_86 rfl (lv_at hl 0 rfl) ?_
  refine ti_get (ci := 10) (k := 10) (N := 67) (T := TX10) (v := .ref (A 60 11)) C hw iw_10 rfl ob_60 (by decide) (by decide) fl_X10_34 rfl rfl dX10_manLine_87 ?_
  refine lv_iload_n hx hb dX10_manLine_90 rfl (lv_at hl 1 rfl) ?_
  refine lv_aload_n hx hb dX10_manLine_91 rfl (lv_at hl 0 rfl) ?_
  refine lv_iconst (v := 0) hx hb dX10_manLine_92 (by decide) ?_
  refine lv_bipush (v := 99) hx hb dX10_manLine_93 (by decide) ?_
  refine ti_callViE (ci := 10) (av := [.int 0, .int 99]) C hE hw (s_X10_numeral l D A cy hJ M_55 iM_55 0 99 (by decide)) ⟨ml_X10_240, ym_X10_numeral, yv_X10_numeral, yi_X10_numeral, yc_X10_numeral⟩ yd_X10_numeral ob_60 (by decide) rfl rfl hl.1 (Nat.le_of_ble_eq_true rfl) ⟨by decide, by decide⟩ ⟨Nat.zero_le _, Nat.zero_le _⟩ dX10_manLine_95 (fun r_57 M_58 H locs hp_58 hw => ?_)
  obtain ⟨iM_58, q_59, p_60, p_61, p_62, b0r_57, b1r_57⟩ := hp_58
  have z_63 := l_ps (by decide) (by decide) ⟨iM_58, q_59, p_60, p_61, p_62⟩
  clear p_60 p_61 p_62
  have br_57 : 0 ≤ r_57.toInt ∧ r_57.toInt ≤ 99 := by have l1 : (0 : Int32).toInt = 0 := (by decide); have l2 : (99 : Int32).toInt = 99 := (by decide); omega
  refine ti_iast (ci := 10) (k := 10) (n := 16) C hw ob_60 (by decide) (fun _ _ => rfl) (vp_in_iff.mpr (by omega)) dX10_manLine_98 (fun H locs hw => ?_)
  obtain ⟨M_64, hM_64⟩ : ∃ z : ti_M, z = uY M_58 60 10 (upd (tY M_58 60 10) (mz : Int32).toNatClampNeg r_57) := ⟨_, rfl⟩
  have hw := hw.to hM_64.symm
  have iM_64 : mI Tm M_64 := mI_up (i := mz.toNatClampNeg) iM_58 hM_64 trivial
  have z_65 := s5_Y hM_64 (by decide)
  refine lv_aload_n hx hb dX10_manLine_99 rfl (lv_at hl 0 rfl) ?_
  refine ti_get (ci := 10) (k := 11) (N := 67) (T := TX10) (v := .ref (A 60 12)) C hw iw_10 rfl ob_60 (by decide) (by decide) fl_X10_37 rfl rfl dX10_manLine_100 ?_
  refine lv_iload_n hx hb dX10_manLine_103 rfl (lv_at hl 1 rfl) ?_
  refine lv_aload_n hx hb dX10_manLine_104 rfl (lv_at hl 0 rfl) ?_
  refine lv_iconst (v := 0) hx hb dX10_manLine_105 (by decide) ?_
  refine lv_bipush (v := 59) hx hb dX10_manLine_106 (by decide) ?_
  refine ti_callViE (ci := 10) (av := [.int 0, .int 59]) C hE hw (s_X10_numeral l D A cy hJ M_64 iM_64 0 59 (by decide)) ⟨ml_X10_240, ym_X10_numeral, yv_X10_numeral, yi_X10_numeral, yc_X10_numeral⟩ yd_X10_numeral ob_60 (by decide) rfl rfl hl.1 (Nat.le_of_ble_eq_true rfl) ⟨by decide, by decide⟩ ⟨Nat.zero_le _, Nat.zero_le _⟩ dX10_manLine_108 (fun r_66 M_67 H locs hp_67 hw => ?_)
  obtain ⟨iM_67, q_68, p_69, p_70, p_71, b0r_66, b1r_66⟩ := hp_67
  have z_72 := l_ps (by decide) (by decide) ⟨iM_67, q_68, p_69, p_70, p_71⟩
  clear p_69 p_70 p_71
  have br_66 : 0 ≤ r_66.toInt ∧ r_66.toInt ≤ 59 := by have l1 : (0 : Int32).toInt = 0 := (by decide); have l2 : (59 : Int32).toInt = 59 := (by decide); omega
  refine ti_iast (ci := 10) (k := 11) (n := 16) C hw ob_60 (by decide) (fun _ _ => rfl) (vp_in_iff.mpr (by omega)) dX10_manLine_111 (fun H locs hw => ?_)
  obtain ⟨M_73, hM_73⟩ : ∃ z : ti_M, z = uY M_67 60 11 (upd (tY M_67 60 11) (mz : Int32).toNatClampNeg r_66) := ⟨_, rfl⟩
  have hw := hw.to hM_73.symm
  have iM_73 : mI Tm M_73 := mI_up (i := mz.toNatClampNeg) iM_67 hM_73 trivial
  have z_74 := s5_Y hM_73 (by decide)
  refine lv_aload_n hx hb dX10_manLine_112 rfl (lv_at hl 0 rfl) ?_
  refine ti_get (ci := 10) (k := 13) (N := 67) (T := TX10) (v := .ref (A 60 14)) C hw iw_10 rfl ob_60 (by decide) (by decide) fl_X10_43 rfl rfl dX10_manLine_113 ?_
  refine lv_iload_n hx hb dX10_manLine_116 rfl (lv_at hl 1 rfl) ?_
  refine lv_iconst (v := 0) hx hb dX10_manLine_117 (by decide) ?_
  refine ti_iast (ci := 10) (k := 13) (n := 16) C hw ob_60 (by decide) (fun _ _ => rfl) (vp_in_iff.mpr (by omega)) dX10_manLine_118 (fun H locs hw => ?_)
  obtain ⟨M_75, hM_75⟩ : ∃ z : ti_M, z = uY M_73 60 13 (upd (tY M_73 60 13) (mz : Int32).toNatClampNeg 0) := ⟨_, rfl⟩
  have hw := hw.to hM_75.symm
  have iM_75 : mI Tm M_75 := mI_up (i := mz.toNatClampNeg) iM_73 hM_75 trivial
  have z_76 := s5_Y hM_75 (by decide)
  refine lv_aload_n hx hb dX10_manLine_119 rfl (lv_at hl 0 rfl) ?_
  refine ti_get (ci := 10) (k := 12) (N := 67) (T := TX10) (v := .ref (A 60 13)) C hw iw_10 rfl ob_60 (by decide) (by decide) fl_X10_40 rfl rfl dX10_manLine_120 ?_
  refine lv_iload_n hx hb dX10_manLine_123 rfl (lv_at hl 1 rfl) ?_
  refine lv_aload_n hx hb dX10_manLine_124 rfl (lv_at hl 0 rfl) ?_
  refine lv_bipush (v := 9) hx hb dX10_manLine_125 (by decide) ?_
  refine ti_callVi (ci := 10) (av := [.int 9]) C hw (s_X10_isWord l D A cy hJ M_75 iM_75 9) ⟨ml_X10_261, ym_X10_isWord, yv_X10_isWord, yi_X10_isWord, yc_X10_isWord⟩ yd_X10_isWord ob_60 (by decide) rfl rfl hl.1 (Nat.le_of_ble_eq_true rfl) ⟨by decide, by decide⟩ ⟨Nat.zero_le _, Nat.zero_le _⟩ dX10_manLine_127 (fun r_77 M_78 H locs hp_78 hw => ?_)
  obtain ⟨hm, hz⟩ := hp_78
  have hw := hw.to hm
  have hj_138_86 : ∀ (x_84 : Int32) (H : Heap) (locs : List Loc) (ls : Array Slot), (0 ≤ x_84.toInt) → (x_84.toInt ≤ 1) → ti_H ti_LM D A cy H0 M_75 H locs → lv_has ls 2 [(0, .ref (A 60 0)), (1, .int mz)] → W p l e (ti_rm 7) s m args below meth c H locs 0 0 Q (F0 m 138 ls [.int x_84, .int mz, .ref (A 60 13)]) := by
    intro x_84 H locs ls b_85 b_86 hw hl
    refine ti_iast (ci := 10) (k := 12) (n := 16) C hw ob_60 (by decide) (fun _ _ => rfl) (vp_in_iff.mpr (by omega)) dX10_manLine_138 (fun H locs hw => ?_)
    obtain ⟨M_87, hM_87⟩ : ∃ z : ti_M, z = uY M_75 60 12 (upd (tY M_75 60 12) (mz : Int32).toNatClampNeg x_84) := ⟨_, rfl⟩
    have hw := hw.to hM_87.symm
    have iM_87 : mI Tm M_87 := mI_up (i := mz.toNatClampNeg) iM_75 hM_87 trivial
    have z_88 := s5_Y hM_87 (by decide)
    refine lv_aload_n hx hb dX10_manLine_139 rfl (lv_at hl 0 rfl) ?_
    refine ti_get (ci := 10) (k := 12) (N := 67) (T := TX10) (v := .ref (A 60 13)) C hw iw_10 rfl ob_60 (by decide) (by decide) fl_X10_40 rfl rfl dX10_manLine_140 ?_
    refine lv_iload_n hx hb dX10_manLine_143 rfl (lv_at hl 1 rfl) ?_
    refine ti_iald (ci := 10) (k := 12) (n := 16) C hw ob_60 (by decide) (fun _ _ => rfl) (vp_in_iff.mpr (by omega)) dX10_manLine_144 ?_
    refine ti_top (y := x_84) (((cg (tY_uE hM_87) mz.toNatClampNeg).trans (pk_us ..))) ?_
    refine lv_iconst (v := 1) hx hb dX10_manLine_145 (by decide) ?_
    have hj_153_107 : ∀ (M_99 : ti_M) (H : Heap) (locs : List Loc) (ls : Array Slot), (mI Tm M_99) → (l0 M_99 M) → (tY M_99 60 3 11 = nm) → (pg M ≤ pg M_99) → (0 ≤ ff M_99) → (ff M_99 ≤ ff M) → ((tI M_99 60 29).toInt = (tI M 60 29).toInt) → ((tI M_99 60 30).toInt = (tI M 60 30).toInt) → ((tY M_99 60 3 18).toInt = (tY M 60 3 18).toInt) → ti_H ti_LM D A cy H0 M_99 H locs → lv_has ls 2 [(0, .ref (A 60 0)), (1, .int mz)] → W p l e (ti_rm 7) s m args below meth c H locs 0 0 Q (F0 m 153 ls []) := by
      intro M_99 H locs ls iM_99 f_100 f_101 j_102 j_103 j_104 j_105 j_106 j_107 hw hl
      refine lv_aload_n hx hb dX10_manLine_153 rfl (lv_at hl 0 rfl) ?_
      refine lv_iconst (v := 0) hx hb dX10_manLine_154 (by decide) ?_
      refine lv_aload_n hx hb dX10_manLine_155 rfl (lv_at hl 0 rfl) ?_
      refine lv_iconst (v := 0) hx hb dX10_manLine_156 (by decide) ?_
      refine ti_callVi (ci := 10) (av := [.int 0]) C hw (s_X10_fresher_0 l D A cy hJ M_99 iM_99 ) ⟨ml_X10_224, ym_X10_fresher, yv_X10_fresher, yi_X10_fresher, yc_X10_fresher⟩ yd_X10_fresher ob_60 (by decide) rfl rfl hl.1 (Nat.le_of_ble_eq_true rfl) ⟨by decide, by decide⟩ ⟨Nat.zero_le _, Nat.zero_le _⟩ dX10_manLine_157 (fun r_108 M_109 H locs hp_109 hw => ?_)
      obtain ⟨hm, b0r_108, b1r_108, yr_108⟩ := hp_109
      have hw := hw.to hm
      have sr_108 : r_108.toInt = (nm : Int32).toInt := by rw [← yr_108, (f_101)]
      have zr_108 : (tY M_99 60 3 11).toInt = r_108.toInt := by rw [yr_108]
      refine lv_iconst (v := 1) hx hb dX10_manLine_160 (by decide) ?_
      refine lv_iadd hx hb dX10_manLine_161 ?_
      refine lv_topi (fun x_110 ex_110 => ?_)
      have tx_110 : x_110.toInt = r_108.toInt + 1 := i_add ex_110 rfl (by decide : (1 : Int32).toInt = 1) (by omega) (by omega)
      refine ti_callVv (ci := 10) (av := [.int 0, .int x_110]) C hw (s_X10_reads l D A cy hJ M_99 iM_99 0 x_110 (by decide) (by decide) (by rw [show (11 + (0 : Int32).toInt).toNat = 11 by decide]; exact (ib_mk (lo := 0) (hi := 8) (by omega) (by omega)))) ⟨ml_X10_244, ym_X10_reads, yv_X10_reads, yi_X10_reads, yc_X10_reads⟩ yd_X10_reads ob_60 (by decide) rfl rfl hl.1 (Nat.le_of_ble_eq_true rfl) ⟨by decide, by decide⟩ ⟨Nat.zero_le _, Nat.zero_le _⟩ dX10_manLine_162 (fun M_112 H locs hp_112 hw => ?_)
      obtain ⟨iM_112, hM_112⟩ := hp_112
      rw [show (11 + (0 : Int32).toInt).toNat = 11 by decide] at hM_112
      have z_113 := s5_3 hM_112 (by decide)
      exact hQ _ _ _ _ _ hw (⟨iM_112, (l0.trans (l0_3 hM_112 (by decide)) f_100), (by omega), (by omega), (by omega), (by omega), (by omega), (by omega)⟩) dX10_manLine_165
    refine sb_icmp_ne (tgt := 153) hx hb rfl (by decide : (1 : Int32).toInt = 1) dX10_manLine_146 (by decide) (fun c_146_88 => ?_) (fun c_146_88 => ?_)
    · exact hj_153_107 M_87 _ _ _ iM_87 (l0.trans (l0_Y hM_87 (by decide)) (l0.trans (l0_Y hM_75 (by decide)) (l0.trans (l0_Y hM_73 (by decide)) (l0.trans (l0_pr q_68 (by decide) (by decide)) (l0.trans (l0_Y hM_64 (by decide)) (l0.trans (l0_pr q_59 (by decide) (by decide)) (l0.trans (l0_Y hM_55 (by decide)) (l0.trans (l0_pr q_50 (by decide) (by decide)) (l0.trans (l0_Y hM_46 (by decide)) (l0.trans (l0_pr q_41 (by decide) (by decide)) (l0.trans (l0_Y hM_37 (by decide)) (l0.trans (l0_pr q_32 (by decide) (by decide)) (l0.trans (l0_Y hM_28 (by decide)) (l0.trans (l0_pr q_23 (by decide) (by decide)) (l0.trans (l0_Y hM_19 (by decide)) (l0.trans (l0_pr q_14 (by decide) (by decide)) (l0.trans (l0_4 hM_10 (by show 8 ≤ (mz : Int32).toInt.toNat; omega)) (l0_pr q_5 (by decide) (by decide))))))))))))))))))) ((cg (tY_nE hM_87 (nk (by decide))) 11).trans ((cg (tY_nE hM_75 (nk (by decide))) 11).trans ((cg (tY_nE hM_73 (nk (by decide))) 11).trans ((cg (tY_fr q_68.1) 11).trans ((cg (tY_nE hM_64 (nk (by decide))) 11).trans ((cg (tY_fr q_59.1) 11).trans ((cg (tY_nE hM_55 (nk (by decide))) 11).trans ((cg (tY_fr q_50.1) 11).trans ((cg (tY_nE hM_46 (nk (by decide))) 11).trans ((cg (tY_fr q_41.1) 11).trans ((cg (tY_nE hM_37 (nk (by decide))) 11).trans ((cg (tY_fr q_32.1) 11).trans ((cg (tY_nE hM_28 (nk (by decide))) 11).trans ((cg (tY_fr q_23.1) 11).trans ((cg (tY_nE hM_19 (nk (by decide))) 11).trans ((cg (tY_fr q_14.1) 11).trans ((cg (tY_nE hM_10 (nk (by decide))) 11).trans ((cg (tY_fr q_5.1) 11).trans h11)))))))))))))))))) (by first | omega | decide) (by first | omega | decide) (by first | omega | decide) (by first | omega | decide) (by first | omega | decide) (by first | omega | decide) hw (lv_sub hl [0, 1] rfl)
    · refine lv_aload_n hx hb dX10_manLine_149 rfl (lv_at hl 0 rfl) ?_
      refine ti_callVvE (ci := 10) (av := []) C hE hw (s_X10_token l D A cy hJ M_87 iM_87 ) ⟨ml_X10_214, ym_X10_token, yv_X10_token, yi_X10_token, yc_X10_token⟩ yd_X10_token ob_60 (by decide) rfl rfl hl.1 (Nat.le_of_ble_eq_true rfl) ⟨by decide, by decide⟩ ⟨Nat.zero_le _, Nat.zero_le _⟩ dX10_manLine_150 (fun M_91 H locs hp_91 hw => ?_)
      obtain ⟨iM_91, q_92, z_93, z_94, z_95, z_96, z_97, z_98⟩ := l_tk hp_91
      clear hp_91
      exact hj_153_107 M_91 _ _ _ iM_91 (l0.trans (l0_pr q_92 (by decide) (by decide)) (l0.trans (l0_Y hM_87 (by decide)) (l0.trans (l0_Y hM_75 (by decide)) (l0.trans (l0_Y hM_73 (by decide)) (l0.trans (l0_pr q_68 (by decide) (by decide)) (l0.trans (l0_Y hM_64 (by decide)) (l0.trans (l0_pr q_59 (by decide) (by decide)) (l0.trans (l0_Y hM_55 (by decide)) (l0.trans (l0_pr q_50 (by decide) (by decide)) (l0.trans (l0_Y hM_46 (by decide)) (l0.trans (l0_pr q_41 (by decide) (by decide)) (l0.trans (l0_Y hM_37 (by decide)) (l0.trans (l0_pr q_32 (by decide) (by decide)) (l0.trans (l0_Y hM_28 (by decide)) (l0.trans (l0_pr q_23 (by decide) (by decide)) (l0.trans (l0_Y hM_19 (by decide)) (l0.trans (l0_pr q_14 (by decide) (by decide)) (l0.trans (l0_4 hM_10 (by show 8 ≤ (mz : Int32).toInt.toNat; omega)) (l0_pr q_5 (by decide) (by decide)))))))))))))))))))) ((cg (tY_fr q_92.1) 11).trans ((cg (tY_nE hM_87 (nk (by decide))) 11).trans ((cg (tY_nE hM_75 (nk (by decide))) 11).trans ((cg (tY_nE hM_73 (nk (by decide))) 11).trans ((cg (tY_fr q_68.1) 11).trans ((cg (tY_nE hM_64 (nk (by decide))) 11).trans ((cg (tY_fr q_59.1) 11).trans ((cg (tY_nE hM_55 (nk (by decide))) 11).trans ((cg (tY_fr q_50.1) 11).trans ((cg (tY_nE hM_46 (nk (by decide))) 11).trans ((cg (tY_fr q_41.1) 11).trans ((cg (tY_nE hM_37 (nk (by decide))) 11).trans ((cg (tY_fr q_32.1) 11).trans ((cg (tY_nE hM_28 (nk (by decide))) 11).trans ((cg (tY_fr q_23.1) 11).trans ((cg (tY_nE hM_19 (nk (by decide))) 11).trans ((cg (tY_fr q_14.1) 11).trans ((cg (tY_nE hM_10 (nk (by decide))) 11).trans ((cg (tY_fr q_5.1) 11).trans h11))))))))))))))))))) (by first | omega | decide) (by first | omega | decide) (by first | omega | decide) (by first | omega | decide) (by first | omega | decide) (by first | omega | decide) hw (lv_sub hl [0, 1] rfl)
  rcases hz with ⟨rfl, d0_79, d1_79, d2_79⟩ | rfl
  · have z_80 : ff M_75 = 1 := ff_1 d0_79
    have z_81 : pg M_75 = 2 * (tI M_75 60 21).toInt := pg_3 (by rw [d1_79]; decide)
    refine sb_if_eq (tgt := 137) hx hb (by decide : (1 : Int32).toInt = 1) dX10_manLine_130 (by decide) (fun h => absurd h (by decide)) (fun c_130_81 => ?_)
    refine lv_iconst (v := 1) hx hb dX10_manLine_133 (by decide) ?_
    refine lv_goto (tgt := 138) hx hb dX10_manLine_134 (by decide) ?_
    exact hj_138_86 1 _ _ _ (by have lt0 : (1 : Int32).toInt = 1 := (by decide); first | omega | decide) (by have lt0 : (1 : Int32).toInt = 1 := (by decide); first | omega | decide) hw (lv_sub hl [0, 1] rfl)
  · refine sb_if_eq (tgt := 137) hx hb (by decide : (0 : Int32).toInt = 0) dX10_manLine_130 (by decide) (fun c_130_82 => ?_) (fun h => absurd h (by decide))
    refine lv_iconst (v := 0) hx hb dX10_manLine_137 (by decide) ?_
    exact hj_138_86 0 _ _ _ (by have lt0 : (0 : Int32).toInt = 0 := (by decide); first | omega | decide) (by have lt0 : (0 : Int32).toInt = 0 := (by decide); first | omega | decide) hw (lv_sub hl [0, 1] rfl)
set_option maxHeartbeats 4000000 in
set_option maxRecDepth 100000 in
theorem s_X10_guardLine (l : Launch) (D : va_G) (A : Nat → Nat → Nat) (cy : Nat → ClassId) (hJ : ti_inj ti_LM A) (M : ti_M) (hI : mI Tm M)  : ti_KvE l yX10_guardLine cX10_guardLine 3 7 ti_LM D A cy M [.ref (A 60 0)] (fun M2 => mI Tm M2 ∧ l0 M2 M ∧ (pg M ≤ pg M2) ∧ (0 ≤ ff M2) ∧ (ff M2 ≤ ff M) ∧ ((tI M2 60 29).toInt = (tI M 60 29).toInt) ∧ ((tI M2 60 30).toInt = (tI M 60 30).toInt) ∧ ((tY M2 60 3 18).toInt = (tY M 60 3 18).toInt)) := by
  refine ti_eVE yp_X10_guardLine hJ ti_LM_nd (Nat.le_of_ble_eq_true rfl) ?_
  intro p e s m args below meth c Q H0 C hE hQ hw ls hl
  have hx := C.1
  have hb := C.2.1
  have hl : lv_has ls 3 [(0, .ref (A 60 0))] := hl
  have hI30 := b30 hI
  have hI29 := b29 hI
  have hI18 := b18 hI
  have hIff := ff_b M
  refine lv_aload_n hx hb dX10_guardLine_0 rfl (lv_at hl 0 rfl) ?_
  refine ti_callVi (ci := 10) (av := []) C hw (s_X10_manAtHand l D A cy hJ M hI ) ⟨ml_X10_264, ym_X10_manAtHand, yv_X10_manAtHand, yi_X10_manAtHand, yc_X10_manAtHand⟩ yd_X10_manAtHand ob_60 (by decide) rfl rfl hl.1 (Nat.le_of_ble_eq_true rfl) ⟨by decide, by decide⟩ ⟨Nat.zero_le _, Nat.zero_le _⟩ dX10_guardLine_1 (fun r_1 M_2 H locs hp_2 hw => ?_)
  obtain ⟨iM_2, q_3, p_4, p_5, p_6, b0r_1, b1r_1⟩ := hp_2
  have z_7 := l_ps (by decide) (by decide) ⟨iM_2, q_3, p_4, p_5, p_6⟩
  clear p_4 p_5 p_6
  refine lv_istore_n (lv' := [(1, .int r_1), (0, .ref (A 60 0))]) hx hb dX10_guardLine_4 rfl hl (by decide) rfl (fun ls hl => ?_)
  refine lv_aload_n hx hb dX10_guardLine_5 rfl (lv_at hl 1 rfl) ?_
  refine ti_get (ci := 10) (k := 25) (N := 67) (T := TX10) C hw iw_10 rfl ob_60 (by decide) (by decide) fl_X10_208 rfl rfl dX10_guardLine_6 ?_
  refine lv_topi (fun x_8 ex_8 => ?_)
  have u_9 : (tI M_2 60 25).toInt = x_8.toInt := by rw [ex_8]
  have ufx_8 : (tI M_2 60 25).toInt = x_8.toInt := by rw [ex_8]
  have hj_29_30 : ∀ (M_23 : ti_M) (H : Heap) (locs : List Loc) (ls : Array Slot), (mI Tm M_23) → (l0 M_23 M) → (pg M ≤ pg M_23) → (0 ≤ ff M_23) → (ff M_23 ≤ ff M) → ((tI M_23 60 29).toInt = (tI M 60 29).toInt) → ((tI M_23 60 30).toInt = (tI M 60 30).toInt) → ((tY M_23 60 3 18).toInt = (tY M 60 3 18).toInt) → ti_H ti_LM D A cy H0 M_23 H locs → lv_has ls 3 [(1, .int r_1), (0, .ref (A 60 0))] → W p l e (ti_rm 7) s m args below meth c H locs 0 0 Q (F0 m 29 ls []) := by
    intro M_23 H locs ls iM_23 f_24 j_25 j_26 j_27 j_28 j_29 j_30 hw hl
    refine lv_aload_n hx hb dX10_guardLine_29 rfl (lv_at hl 1 rfl) ?_
    refine ti_callVvE (ci := 10) (av := []) C hE hw (s_X10_goOn l D A cy hJ M_23 iM_23 ) ⟨ml_X10_267, ym_X10_goOn, yv_X10_goOn, yi_X10_goOn, yc_X10_goOn⟩ yd_X10_goOn ob_60 (by decide) rfl rfl hl.1 (Nat.le_of_ble_eq_true rfl) ⟨by decide, by decide⟩ ⟨Nat.zero_le _, Nat.zero_le _⟩ dX10_guardLine_30 (fun M_32 H locs hp_32 hw => ?_)
    obtain ⟨iM_32, q_33, z_34, z_35, z_36, z_37, z_38⟩ := l_go hp_32
    clear hp_32
    refine lv_aload_n hx hb dX10_guardLine_33 rfl (lv_at hl 1 rfl) ?_
    refine ti_callVi (ci := 10) (av := []) C hw (s_X10_manAtHand l D A cy hJ M_32 iM_32 ) ⟨ml_X10_264, ym_X10_manAtHand, yv_X10_manAtHand, yi_X10_manAtHand, yc_X10_manAtHand⟩ yd_X10_manAtHand ob_60 (by decide) rfl rfl hl.1 (Nat.le_of_ble_eq_true rfl) ⟨by decide, by decide⟩ ⟨Nat.zero_le _, Nat.zero_le _⟩ dX10_guardLine_34 (fun r_39 M_40 H locs hp_40 hw => ?_)
    obtain ⟨iM_40, q_41, p_42, p_43, p_44, b0r_39, b1r_39⟩ := hp_40
    have z_45 := l_ps (by decide) (by decide) ⟨iM_40, q_41, p_42, p_43, p_44⟩
    clear p_42 p_43 p_44
    refine lv_istore_n (lv' := [(2, .int r_39), (1, .int r_1), (0, .ref (A 60 0))]) hx hb dX10_guardLine_37 rfl hl (by decide) rfl (fun ls hl => ?_)
    refine lv_aload_n hx hb dX10_guardLine_38 rfl (lv_at hl 2 rfl) ?_
    refine ti_get (ci := 10) (k := 25) (N := 67) (T := TX10) C hw iw_10 rfl ob_60 (by decide) (by decide) fl_X10_208 rfl rfl dX10_guardLine_39 ?_
    refine lv_topi (fun x_46 ex_46 => ?_)
    have u_47 : (tI M_40 60 25).toInt = x_46.toInt := by rw [ex_46]
    have ufx_46 : (tI M_40 60 25).toInt = x_46.toInt := by rw [ex_46]
    have hj_55_66 : ∀ (M_59 : ti_M) (H : Heap) (locs : List Loc) (ls : Array Slot), (mI Tm M_59) → (l0 M_59 M) → (pg M ≤ pg M_59) → (0 ≤ ff M_59) → (ff M_59 ≤ ff M) → ((tI M_59 60 29).toInt = (tI M 60 29).toInt) → ((tI M_59 60 30).toInt = (tI M 60 30).toInt) → ((tY M_59 60 3 18).toInt = (tY M 60 3 18).toInt) → ti_H ti_LM D A cy H0 M_59 H locs → lv_has ls 3 [(2, .int r_39), (1, .int r_1), (0, .ref (A 60 0))] → W p l e (ti_rm 7) s m args below meth c H locs 0 0 Q (F0 m 55 ls []) := by
      intro M_59 H locs ls iM_59 f_60 j_61 j_62 j_63 j_64 j_65 j_66 hw hl
      refine lv_aload_n hx hb dX10_guardLine_55 rfl (lv_at hl 2 rfl) ?_
      refine ti_get (ci := 10) (k := 25) (N := 67) (T := TX10) C hw iw_10 rfl ob_60 (by decide) (by decide) fl_X10_208 rfl rfl dX10_guardLine_56 ?_
      refine lv_topi (fun x_67 ex_67 => ?_)
      have u_68 : (tI M_59 60 25).toInt = x_67.toInt := by rw [ex_67]
      have ufx_67 : (tI M_59 60 25).toInt = x_67.toInt := by rw [ex_67]
      refine sb_if_eq (tgt := 63) hx hb rfl dX10_guardLine_59 (by decide) (fun c_59_68 => ?_) (fun c_59_68 => ?_)
      · have z_70 : ff M_59 = 1 := ff_1 (ufx_67.trans c_59_68)
        clear c_59_68
        refine lv_aload_n hx hb dX10_guardLine_63 rfl (lv_at hl 2 rfl) ?_
        refine ti_get (ci := 10) (k := 13) (N := 67) (T := TX10) (v := .ref (A 60 14)) C hw iw_10 rfl ob_60 (by decide) (by decide) fl_X10_43 rfl rfl dX10_guardLine_64 ?_
        refine lv_bipush (v := 8) hx hb dX10_guardLine_67 (by decide) ?_
        refine lv_iload_n hx hb dX10_guardLine_69 rfl (lv_at hl 1 rfl) ?_
        refine lv_iadd hx hb dX10_guardLine_70 ?_
        refine lv_topi (fun x_71 ex_71 => ?_)
        have tx_71 : x_71.toInt = 8 + r_1.toInt := i_add ex_71 (by decide : (8 : Int32).toInt = 8) rfl (by omega) (by omega)
        refine lv_iload_n hx hb dX10_guardLine_71 rfl (lv_at hl 0 rfl) ?_
        refine lv_iconst (v := 1) hx hb dX10_guardLine_72 (by decide) ?_
        refine lv_iadd hx hb dX10_guardLine_73 ?_
        refine lv_topi (fun x_72 ex_72 => ?_)
        have tx_72 : x_72.toInt = r_39.toInt + 1 := i_add ex_72 rfl (by decide : (1 : Int32).toInt = 1) (by omega) (by omega)
        refine ti_iast (ci := 10) (k := 13) (n := 16) C hw ob_60 (by decide) (fun _ _ => rfl) (vp_in_iff.mpr (by omega)) dX10_guardLine_74 (fun H locs hw => ?_)
        obtain ⟨M_73, hM_73⟩ : ∃ z : ti_M, z = uY M_59 60 13 (upd (tY M_59 60 13) (x_71 : Int32).toNatClampNeg x_72) := ⟨_, rfl⟩
        have hw := hw.to hM_73.symm
        have iM_73 : mI Tm M_73 := mI_up (i := x_71.toNatClampNeg) iM_59 hM_73 trivial
        have z_74 := s5_Y hM_73 (by decide)
        refine lv_aload_n hx hb dX10_guardLine_75 rfl (lv_at hl 2 rfl) ?_
        refine ti_callVvE (ci := 10) (av := []) C hE hw (s_X10_token l D A cy hJ M_73 iM_73 ) ⟨ml_X10_214, ym_X10_token, yv_X10_token, yi_X10_token, yc_X10_token⟩ yd_X10_token ob_60 (by decide) rfl rfl hl.1 (Nat.le_of_ble_eq_true rfl) ⟨by decide, by decide⟩ ⟨Nat.zero_le _, Nat.zero_le _⟩ dX10_guardLine_76 (fun M_76 H locs hp_76 hw => ?_)
        obtain ⟨iM_76, q_77, z_78, z_79, z_80, z_81, z_82, z_83⟩ := l_tk hp_76
        clear hp_76
        exact hQ _ _ _ _ _ hw (⟨iM_76, (l0.trans (l0_pr q_77 (by decide) (by decide)) (l0.trans (l0_Y hM_73 (by decide)) f_60)), (by omega), (by omega), (by omega), (by omega), (by omega), (by omega)⟩) dX10_guardLine_79
      · have z_70 : ff M_59 = 0 := ff_0 (fun h => c_59_68 (ufx_67.symm.trans h))
        clear c_59_68
        exact hQ _ _ _ _ _ hw (⟨iM_59, f_60, (by omega), (by omega), (by omega), (by omega), (by omega), (by omega)⟩) dX10_guardLine_62
    refine sb_if_ne (tgt := 55) hx hb rfl dX10_guardLine_42 (by decide) (fun c_42_47 => ?_) (fun c_42_47 => ?_)
    · have z_49 : ff M_40 = 0 := ff_0 (fun h => c_42_47 (ufx_46.symm.trans h))
      clear c_42_47
      exact hj_55_66 M_40 _ _ _ iM_40 (l0.trans (l0_pr q_41 (by decide) (by decide)) (l0.trans (l0_pr q_33 (by decide) (by decide)) f_24)) (by first | omega | decide) (by first | omega | decide) (by first | omega | decide) (by first | omega | decide) (by first | omega | decide) (by first | omega | decide) hw (lv_sub hl [0, 1, 2] rfl)
    · have z_49 : ff M_40 = 1 := ff_1 (ufx_46.trans c_42_47)
      clear c_42_47
      refine lv_iload_n hx hb dX10_guardLine_45 rfl (lv_at hl 1 rfl) ?_
      refine lv_iload_n hx hb dX10_guardLine_46 rfl (lv_at hl 0 rfl) ?_
      refine sb_icmp_ne (tgt := 55) hx hb rfl rfl dX10_guardLine_47 (by decide) (fun c_47_49 => ?_) (fun c_47_49 => ?_)
      · exact hj_55_66 M_40 _ _ _ iM_40 (l0.trans (l0_pr q_41 (by decide) (by decide)) (l0.trans (l0_pr q_33 (by decide) (by decide)) f_24)) (by first | omega | decide) (by first | omega | decide) (by first | omega | decide) (by first | omega | decide) (by first | omega | decide) (by first | omega | decide) hw (lv_sub hl [0, 1, 2] rfl)
      · refine lv_aload_n hx hb dX10_guardLine_50 rfl (lv_at hl 2 rfl) ?_
        refine lv_iconst (v := 5) hx hb dX10_guardLine_51 (by decide) ?_
        refine ti_callVv (ci := 10) (av := [.int 5]) C hw (s_X10_wrong l D A cy hJ M_40 iM_40 5 (by decide)) ⟨ml_X10_217, ym_X10_wrong, yv_X10_wrong, yi_X10_wrong, yc_X10_wrong⟩ yd_X10_wrong ob_60 (by decide) rfl rfl hl.1 (Nat.le_of_ble_eq_true rfl) ⟨by decide, by decide⟩ ⟨Nat.zero_le _, Nat.zero_le _⟩ dX10_guardLine_52 (fun M_52 H locs hp_52 hw => ?_)
        obtain ⟨iM_52, q_53, z_54, z_55, z_56, z_57, z_58⟩ := l_wr hp_52
        clear hp_52
        exact hj_55_66 M_52 _ _ _ iM_52 (l0.trans (l0_pr q_53 (by decide) (by decide)) (l0.trans (l0_pr q_41 (by decide) (by decide)) (l0.trans (l0_pr q_33 (by decide) (by decide)) f_24))) (by first | omega | decide) (by first | omega | decide) (by first | omega | decide) (by first | omega | decide) (by first | omega | decide) (by first | omega | decide) hw (lv_sub hl [0, 1, 2] rfl)
  refine sb_if_ne (tgt := 29) hx hb rfl dX10_guardLine_9 (by decide) (fun c_9_9 => ?_) (fun c_9_9 => ?_)
  · have z_11 : ff M_2 = 0 := ff_0 (fun h => c_9_9 (ufx_8.symm.trans h))
    clear c_9_9
    exact hj_29_30 M_2 _ _ _ iM_2 (l0_pr q_3 (by decide) (by decide)) (by first | omega | decide) (by first | omega | decide) (by first | omega | decide) (by first | omega | decide) (by first | omega | decide) (by first | omega | decide) hw (lv_sub hl [0, 1] rfl)
  · have z_11 : ff M_2 = 1 := ff_1 (ufx_8.trans c_9_9)
    clear c_9_9
    refine lv_aload_n hx hb dX10_guardLine_12 rfl (lv_at hl 1 rfl) ?_
    refine ti_get (ci := 10) (k := 13) (N := 67) (T := TX10) (v := .ref (A 60 14)) C hw iw_10 rfl ob_60 (by decide) (by decide) fl_X10_43 rfl rfl dX10_guardLine_13 ?_
    refine lv_bipush (v := 8) hx hb dX10_guardLine_16 (by decide) ?_
    refine lv_iload_n hx hb dX10_guardLine_18 rfl (lv_at hl 0 rfl) ?_
    refine lv_iadd hx hb dX10_guardLine_19 ?_
    refine lv_topi (fun x_12 ex_12 => ?_)
    have tx_12 : x_12.toInt = 8 + r_1.toInt := i_add ex_12 (by decide : (8 : Int32).toInt = 8) rfl (by omega) (by omega)
    refine ti_iald (ci := 10) (k := 13) (n := 16) C hw ob_60 (by decide) (fun _ _ => rfl) (vp_in_iff.mpr (by omega)) dX10_guardLine_20 ?_
    refine lv_topi (fun x_13 ex_13 => ?_)
    have yx_13 : tY M_2 60 13 x_12.toNatClampNeg = x_13 := (ex_13.symm)
    have wx_13 : tY M 60 13 x_12.toNatClampNeg = x_13 := ((cg (tY_fr q_3.1) x_12.toNatClampNeg)).symm.trans yx_13
    refine sb_if_le (tgt := 29) hx hb rfl dX10_guardLine_21 (by decide) (fun c_21_13 => ?_) (fun c_21_13 => ?_)
    · exact hj_29_30 M_2 _ _ _ iM_2 (l0_pr q_3 (by decide) (by decide)) (by first | omega | decide) (by first | omega | decide) (by first | omega | decide) (by first | omega | decide) (by first | omega | decide) (by first | omega | decide) hw (lv_sub hl [0, 1] rfl)
    · refine lv_aload_n hx hb dX10_guardLine_24 rfl (lv_at hl 1 rfl) ?_
      refine lv_iconst (v := 3) hx hb dX10_guardLine_25 (by decide) ?_
      refine ti_callVv (ci := 10) (av := [.int 3]) C hw (s_X10_wrong l D A cy hJ M_2 iM_2 3 (by decide)) ⟨ml_X10_217, ym_X10_wrong, yv_X10_wrong, yi_X10_wrong, yc_X10_wrong⟩ yd_X10_wrong ob_60 (by decide) rfl rfl hl.1 (Nat.le_of_ble_eq_true rfl) ⟨by decide, by decide⟩ ⟨Nat.zero_le _, Nat.zero_le _⟩ dX10_guardLine_26 (fun M_16 H locs hp_16 hw => ?_)
      obtain ⟨iM_16, q_17, z_18, z_19, z_20, z_21, z_22⟩ := l_wr hp_16
      clear hp_16
      exact hj_29_30 M_16 _ _ _ iM_16 (l0.trans (l0_pr q_17 (by decide) (by decide)) (l0_pr q_3 (by decide) (by decide))) (by first | omega | decide) (by first | omega | decide) (by first | omega | decide) (by first | omega | decide) (by first | omega | decide) (by first | omega | decide) hw (lv_sub hl [0, 1] rfl)
set_option maxHeartbeats 4000000 in
set_option maxRecDepth 100000 in
theorem s_X10_powerLine (l : Launch) (D : va_G) (A : Nat → Nat → Nat) (cy : Nat → ClassId) (hJ : ti_inj ti_LM A) (M : ti_M) (hI : mI Tm M) (hf : ff M = 1) : ti_KvE l yX10_powerLine cX10_powerLine 2 7 ti_LM D A cy M [.ref (A 60 0)] (fun M2 => mI Tm M2 ∧ l0 M2 M ∧ (pg M ≤ pg M2) ∧ (0 ≤ ff M2) ∧ (ff M2 ≤ ff M) ∧ ((tI M2 60 29).toInt = (tI M 60 29).toInt) ∧ ((tI M2 60 30).toInt = (tI M 60 30).toInt) ∧ ((tY M2 60 3 18).toInt = (tY M 60 3 18).toInt)) := by
  refine ti_eVE yp_X10_powerLine hJ ti_LM_nd (Nat.le_of_ble_eq_true rfl) ?_
  intro p e s m args below meth c Q H0 C hE hQ hw ls hl
  have hx := C.1
  have hb := C.2.1
  have hl : lv_has ls 2 [(0, .ref (A 60 0))] := hl
  have hI30 := b30 hI
  have hI29 := b29 hI
  have hI18 := b18 hI
  have hIff := ff_b M
  refine lv_aload_n hx hb dX10_powerLine_0 rfl (lv_at hl 0 rfl) ?_
  refine ti_get (ci := 10) (k := 23) (N := 67) (T := TX10) C hw iw_10 rfl ob_60 (by decide) (by decide) fl_X10_173 rfl rfl dX10_powerLine_1 ?_
  refine lv_topi (fun x_1 ex_1 => ?_)
  have hj_25_5 : ∀  (H : Heap) (locs : List Loc) (ls : Array Slot), ti_H ti_LM D A cy H0 M H locs → lv_has ls 2 [(0, .ref (A 60 0))] → W p l e (ti_rm 7) s m args below meth c H locs 0 0 Q (F0 m 25 ls []) := by
    intro  H locs ls  hw hl
    refine lv_aload_n hx hb dX10_powerLine_25 rfl (lv_at hl 0 rfl) ?_
    refine lv_iconst (v := 1) hx hb dX10_powerLine_26 (by decide) ?_
    refine ti_callVv (ci := 10) (av := [.int 1]) C hw (s_X10_wrong l D A cy hJ M hI 1 (by decide)) ⟨ml_X10_217, ym_X10_wrong, yv_X10_wrong, yi_X10_wrong, yc_X10_wrong⟩ yd_X10_wrong ob_60 (by decide) rfl rfl hl.1 (Nat.le_of_ble_eq_true rfl) ⟨by decide, by decide⟩ ⟨Nat.zero_le _, Nat.zero_le _⟩ dX10_powerLine_27 (fun M_7 H locs hp_7 hw => ?_)
    obtain ⟨iM_7, q_8, z_9, z_10, z_11, z_12, z_13⟩ := l_wr hp_7
    clear hp_7
    refine lv_aload_n hx hb dX10_powerLine_30 rfl (lv_at hl 0 rfl) ?_
    refine ti_get (ci := 10) (k := 24) (N := 67) (T := TX10) C hw iw_10 rfl ob_60 (by decide) (by decide) fl_X10_183 rfl rfl dX10_powerLine_31 ?_
    refine lv_topi (fun x_19 ex_19 => ?_)
    refine lv_bipush (v := 10) hx hb dX10_powerLine_34 (by decide) ?_
    refine lv_isub hx hb dX10_powerLine_36 ?_
    refine lv_topi (fun x_20 ex_20 => ?_)
    refine lv_istore_n (lv' := [(1, .int x_20), (0, .ref (A 60 0))]) hx hb dX10_powerLine_37 rfl hl (by decide) rfl (fun ls hl => ?_)
    refine lv_aload_n hx hb dX10_powerLine_38 rfl (lv_at hl 1 rfl) ?_
    refine ti_get (ci := 10) (k := 25) (N := 67) (T := TX10) C hw iw_10 rfl ob_60 (by decide) (by decide) fl_X10_208 rfl rfl dX10_powerLine_39 ?_
    refine lv_topi (fun x_21 ex_21 => ?_)
    have u_22 : (tI M_7 60 25).toInt = x_21.toInt := by rw [ex_21]
    have ufx_21 : (tI M_7 60 25).toInt = x_21.toInt := by rw [ex_21]
    refine sb_if_ne (tgt := 65) hx hb rfl dX10_powerLine_42 (by decide) (fun c_42_22 => ?_) (fun c_42_22 => by have z_24 : ff M_7 = 1 := ff_1 (ufx_21.trans c_42_22); omega)
    have z_24 : ff M_7 = 0 := ff_0 (fun h => c_42_22 (ufx_21.symm.trans h))
    clear c_42_22
    refine lv_aload_n hx hb dX10_powerLine_65 rfl (lv_at hl 1 rfl) ?_
    refine ti_get (ci := 10) (k := 25) (N := 67) (T := TX10) C hw iw_10 rfl ob_60 (by decide) (by decide) fl_X10_208 rfl rfl dX10_powerLine_66 ?_
    refine ti_top (y := x_21) (ex_21.symm) ?_
    refine sb_if_eq (tgt := 73) hx hb rfl dX10_powerLine_69 (by decide) (fun c_69_37 => by have z_39 : ff M_7 = 1 := ff_1 (ufx_21.trans c_69_37); omega) (fun c_69_37 => ?_)
    have z_39 : ff M_7 = 0 := ff_0 (fun h => c_69_37 (ufx_21.symm.trans h))
    clear c_69_37
    exact hQ _ _ _ _ _ hw (⟨iM_7, (l0_pr q_8 (by decide) (by decide)), (by omega), (by omega), (by omega), (by omega), (by omega), (by omega)⟩) dX10_powerLine_72
  refine sb_if_ne (tgt := 25) hx hb rfl dX10_powerLine_4 (by decide) (fun c_4_1 => ?_) (fun c_4_1 => ?_)
  · exact hj_25_5  _ _ _  hw (lv_sub hl [0] rfl)
  · refine lv_aload_n hx hb dX10_powerLine_7 rfl (lv_at hl 0 rfl) ?_
    refine ti_get (ci := 10) (k := 24) (N := 67) (T := TX10) C hw iw_10 rfl ob_60 (by decide) (by decide) fl_X10_183 rfl rfl dX10_powerLine_8 ?_
    refine lv_topi (fun x_3 ex_3 => ?_)
    refine lv_bipush (v := 10) hx hb dX10_powerLine_11 (by decide) ?_
    refine sb_icmp_lt (tgt := 25) hx hb rfl (by decide : (10 : Int32).toInt = 10) dX10_powerLine_13 (by decide) (fun c_13_3 => ?_) (fun c_13_3 => ?_)
    · exact hj_25_5  _ _ _  hw (lv_sub hl [0] rfl)
    · refine lv_aload_n hx hb dX10_powerLine_16 rfl (lv_at hl 0 rfl) ?_
      refine ti_get (ci := 10) (k := 24) (N := 67) (T := TX10) C hw iw_10 rfl ob_60 (by decide) (by decide) fl_X10_183 rfl rfl dX10_powerLine_17 ?_
      refine ti_top (y := x_3) (ex_3.symm) ?_
      refine lv_bipush (v := 12) hx hb dX10_powerLine_20 (by decide) ?_
      refine sb_icmp_le (tgt := 30) hx hb rfl (by decide : (12 : Int32).toInt = 12) dX10_powerLine_22 (by decide) (fun c_22_4 => ?_) (fun c_22_4 => ?_)
      · refine lv_aload_n hx hb dX10_powerLine_30 rfl (lv_at hl 0 rfl) ?_
        refine ti_get (ci := 10) (k := 24) (N := 67) (T := TX10) C hw iw_10 rfl ob_60 (by decide) (by decide) fl_X10_183 rfl rfl dX10_powerLine_31 ?_
        refine ti_top (y := x_3) (ex_3.symm) ?_
        refine lv_bipush (v := 10) hx hb dX10_powerLine_34 (by decide) ?_
        refine lv_isub hx hb dX10_powerLine_36 ?_
        refine lv_topi (fun x_14 ex_14 => ?_)
        have lox_14x_3 := x_3.le_toInt
        have hix_14x_3 := x_3.toInt_lt
        have tx_14 : x_14.toInt = x_3.toInt - 10 := i_sub ex_14 rfl (by decide : (10 : Int32).toInt = 10) (by omega) (by omega)
        refine lv_istore_n (lv' := [(1, .int x_14), (0, .ref (A 60 0))]) hx hb dX10_powerLine_37 rfl hl (by decide) rfl (fun ls hl => ?_)
        refine lv_aload_n hx hb dX10_powerLine_38 rfl (lv_at hl 1 rfl) ?_
        refine ti_get (ci := 10) (k := 25) (N := 67) (T := TX10) C hw iw_10 rfl ob_60 (by decide) (by decide) fl_X10_208 rfl rfl dX10_powerLine_39 ?_
        refine lv_topi (fun x_15 ex_15 => ?_)
        have u_16 : (tI M 60 25).toInt = x_15.toInt := by rw [ex_15]
        have ufx_15 : (tI M 60 25).toInt = x_15.toInt := by rw [ex_15]
        refine sb_if_ne (tgt := 65) hx hb rfl dX10_powerLine_42 (by decide) (fun c_42_16 => by have z_18 : ff M = 0 := ff_0 (fun h => c_42_16 (ufx_15.symm.trans h)); omega) (fun c_42_16 => ?_)
        have z_18 : ff M = 1 := ff_1 (ufx_15.trans c_42_16)
        clear c_42_16
        refine lv_aload_n hx hb dX10_powerLine_45 rfl (lv_at hl 1 rfl) ?_
        refine ti_get (ci := 10) (k := 18) (N := 67) (T := TX10) C hw iw_10 rfl ob_60 (by decide) (by decide) fl_X10_228 rfl rfl dX10_powerLine_46 ?_
        refine lv_topi (fun x_25 ex_25 => ?_)
        refine lv_bipush (v := 12) hx hb dX10_powerLine_49 (by decide) ?_
        refine lv_iload_n hx hb dX10_powerLine_51 rfl (lv_at hl 0 rfl) ?_
        refine lv_iadd hx hb dX10_powerLine_52 ?_
        refine lv_topi (fun x_26 ex_26 => ?_)
        have tx_26 : x_26.toInt = 12 + x_14.toInt := i_add ex_26 (by decide : (12 : Int32).toInt = 12) rfl (by omega) (by omega)
        refine lv_ishr hx hb dX10_powerLine_53 ?_
        refine lv_topi (fun x_27 ex_27 => ?_)
        refine lv_iconst (v := 1) hx hb dX10_powerLine_54 (by decide) ?_
        refine lv_iand hx hb dX10_powerLine_55 ?_
        refine lv_topi (fun x_28 ex_28 => ?_)
        have bx_28 := i_and 1 ex_28 (by decide) (by decide)
        refine lv_iconst (v := 1) hx hb dX10_powerLine_56 (by decide) ?_
        refine sb_icmp_ne (tgt := 65) hx hb rfl (by decide : (1 : Int32).toInt = 1) dX10_powerLine_57 (by decide) (fun c_57_28 => ?_) (fun c_57_28 => ?_)
        · refine lv_aload_n hx hb dX10_powerLine_65 rfl (lv_at hl 1 rfl) ?_
          refine ti_get (ci := 10) (k := 25) (N := 67) (T := TX10) C hw iw_10 rfl ob_60 (by decide) (by decide) fl_X10_208 rfl rfl dX10_powerLine_66 ?_
          refine ti_top (y := x_15) (ex_15.symm) ?_
          refine sb_if_eq (tgt := 73) hx hb rfl dX10_powerLine_69 (by decide) (fun c_69_39 => ?_) (fun c_69_39 => by have z_41 : ff M = 0 := ff_0 (fun h => c_69_39 (ufx_15.symm.trans h)); omega)
          have z_41 : ff M = 1 := ff_1 (ufx_15.trans c_69_39)
          clear c_69_39
          refine lv_aload_n hx hb dX10_powerLine_73 rfl (lv_at hl 1 rfl) ?_
          refine lv_dup hx hb dX10_powerLine_74 rfl ?_
          refine ti_get (ci := 10) (k := 18) (N := 67) (T := TX10) C hw iw_10 rfl ob_60 (by decide) (by decide) fl_X10_228 rfl rfl dX10_powerLine_75 ?_
          refine ti_top (y := x_25) (ex_25.symm) ?_
          refine lv_iconst (v := 1) hx hb dX10_powerLine_78 (by decide) ?_
          refine lv_bipush (v := 12) hx hb dX10_powerLine_79 (by decide) ?_
          refine lv_iload_n hx hb dX10_powerLine_81 rfl (lv_at hl 0 rfl) ?_
          refine lv_iadd hx hb dX10_powerLine_82 ?_
          refine lv_topi (fun x_46 ex_46 => ?_)
          have tx_46 : x_46.toInt = 12 + x_14.toInt := i_add ex_46 (by decide : (12 : Int32).toInt = 12) rfl (by omega) (by omega)
          refine lv_ishl hx hb dX10_powerLine_83 ?_
          refine lv_topi (fun x_47 ex_47 => ?_)
          refine lv_ior hx hb dX10_powerLine_84 ?_
          refine lv_topi (fun x_48 ex_48 => ?_)
          refine ti_putI (ci := 10) (k := 18) (N := 67) (T := TX10) C hw iw_10 tyX10 tyX10_ok nmX10 rfl ob_60 (by decide) (by decide) fl_X10_228 rfl rfl rfl rfl (fn_10 A _) fs_10_18 dX10_powerLine_85 (fun H locs hw => ?_)
          obtain ⟨M_49, hM_49⟩ : ∃ z : ti_M, z = uI M 60 18 x_48 := ⟨_, rfl⟩
          have hw := hw.to hM_49.symm
          have iM_49 : mI Tm M_49 := mI_uI hI hM_49 (by decide) (by decide) trivial
          have z_50 : ff M_49 = ff M := ff_I hM_49 (by decide)
          have z_51 : pg M_49 = pg M := pg_I hM_49 (by decide)
          have z_52 : (tI M_49 60 29).toInt = (tI M 60 29).toInt := by rw [tI_nE hM_49 (nk (by decide))]
          have z_53 : (tI M_49 60 30).toInt = (tI M 60 30).toInt := by rw [tI_nE hM_49 (nk (by decide))]
          have z_54 : (tY M_49 60 3 18).toInt = (tY M 60 3 18).toInt := by rw [tY_uIE hM_49]
          refine lv_aload_n hx hb dX10_powerLine_88 rfl (lv_at hl 1 rfl) ?_
          refine ti_callVvE (ci := 10) (av := []) C hE hw (s_X10_token l D A cy hJ M_49 iM_49 ) ⟨ml_X10_214, ym_X10_token, yv_X10_token, yi_X10_token, yc_X10_token⟩ yd_X10_token ob_60 (by decide) rfl rfl hl.1 (Nat.le_of_ble_eq_true rfl) ⟨by decide, by decide⟩ ⟨Nat.zero_le _, Nat.zero_le _⟩ dX10_powerLine_89 (fun M_56 H locs hp_56 hw => ?_)
          obtain ⟨iM_56, q_57, z_58, z_59, z_60, z_61, z_62, z_63⟩ := l_tk hp_56
          clear hp_56
          refine lv_aload_n hx hb dX10_powerLine_92 rfl (lv_at hl 1 rfl) ?_
          refine lv_bipush (v := 8) hx hb dX10_powerLine_93 (by decide) ?_
          refine lv_iload_n hx hb dX10_powerLine_95 rfl (lv_at hl 0 rfl) ?_
          refine lv_iadd hx hb dX10_powerLine_96 ?_
          refine lv_topi (fun x_64 ex_64 => ?_)
          have tx_64 : x_64.toInt = 8 + x_14.toInt := i_add ex_64 (by decide : (8 : Int32).toInt = 8) rfl (by omega) (by omega)
          refine lv_aload_n hx hb dX10_powerLine_97 rfl (lv_at hl 1 rfl) ?_
          refine lv_iconst (v := 0) hx hb dX10_powerLine_98 (by decide) ?_
          refine lv_bipush (v := 7) hx hb dX10_powerLine_99 (by decide) ?_
          refine ti_callViE (ci := 10) (av := [.int 0, .int 7]) C hE hw (s_X10_numeral l D A cy hJ M_56 iM_56 0 7 (by decide)) ⟨ml_X10_240, ym_X10_numeral, yv_X10_numeral, yi_X10_numeral, yc_X10_numeral⟩ yd_X10_numeral ob_60 (by decide) rfl rfl hl.1 (Nat.le_of_ble_eq_true rfl) ⟨by decide, by decide⟩ ⟨Nat.zero_le _, Nat.zero_le _⟩ dX10_powerLine_101 (fun r_65 M_66 H locs hp_66 hw => ?_)
          obtain ⟨iM_66, q_67, p_68, p_69, p_70, b0r_65, b1r_65⟩ := hp_66
          have z_71 := l_ps (by decide) (by decide) ⟨iM_66, q_67, p_68, p_69, p_70⟩
          clear p_68 p_69 p_70
          have br_65 : 0 ≤ r_65.toInt ∧ r_65.toInt ≤ 7 := by have l1 : (0 : Int32).toInt = 0 := (by decide); have l2 : (7 : Int32).toInt = 7 := (by decide); omega
          refine ti_callVv (ci := 10) (av := [.int x_64, .int r_65]) C hw (s_X10_reads l D A cy hJ M_66 iM_66 x_64 r_65 (by omega) (by omega) (bn_p (by omega) (ib_mk (lo := 0) (hi := 7) (by omega) (by omega)))) ⟨ml_X10_244, ym_X10_reads, yv_X10_reads, yi_X10_reads, yc_X10_reads⟩ yd_X10_reads ob_60 (by decide) rfl rfl hl.1 (Nat.le_of_ble_eq_true rfl) ⟨by decide, by decide⟩ ⟨Nat.zero_le _, Nat.zero_le _⟩ dX10_powerLine_104 (fun M_73 H locs hp_73 hw => ?_)
          obtain ⟨iM_73, hM_73⟩ := hp_73
          have z_74 := s5_3 hM_73 (by omega)
          exact hQ _ _ _ _ _ hw (⟨iM_73, (l0.trans (l0_3 hM_73 (by omega)) (l0.trans (l0_pr q_67 (by decide) (by decide)) (l0.trans (l0_pr q_57 (by decide) (by decide)) (l0_I hM_49 (by decide))))), (by omega), (by omega), (by omega), (by omega), (by omega), (by omega)⟩) dX10_powerLine_107
        · refine lv_aload_n hx hb dX10_powerLine_60 rfl (lv_at hl 1 rfl) ?_
          refine lv_iconst (v := 3) hx hb dX10_powerLine_61 (by decide) ?_
          refine ti_callVv (ci := 10) (av := [.int 3]) C hw (s_X10_wrong l D A cy hJ M hI 3 (by decide)) ⟨ml_X10_217, ym_X10_wrong, yv_X10_wrong, yi_X10_wrong, yc_X10_wrong⟩ yd_X10_wrong ob_60 (by decide) rfl rfl hl.1 (Nat.le_of_ble_eq_true rfl) ⟨by decide, by decide⟩ ⟨Nat.zero_le _, Nat.zero_le _⟩ dX10_powerLine_62 (fun M_31 H locs hp_31 hw => ?_)
          obtain ⟨iM_31, q_32, z_33, z_34, z_35, z_36, z_37⟩ := l_wr hp_31
          clear hp_31
          refine lv_aload_n hx hb dX10_powerLine_65 rfl (lv_at hl 1 rfl) ?_
          refine ti_get (ci := 10) (k := 25) (N := 67) (T := TX10) C hw iw_10 rfl ob_60 (by decide) (by decide) fl_X10_208 rfl rfl dX10_powerLine_66 ?_
          refine lv_topi (fun x_42 ex_42 => ?_)
          have u_43 : (tI M_31 60 25).toInt = x_42.toInt := by rw [ex_42]
          have ufx_42 : (tI M_31 60 25).toInt = x_42.toInt := by rw [ex_42]
          refine sb_if_eq (tgt := 73) hx hb rfl dX10_powerLine_69 (by decide) (fun c_69_43 => by have z_45 : ff M_31 = 1 := ff_1 (ufx_42.trans c_69_43); omega) (fun c_69_43 => ?_)
          have z_45 : ff M_31 = 0 := ff_0 (fun h => c_69_43 (ufx_42.symm.trans h))
          clear c_69_43
          exact hQ _ _ _ _ _ hw (⟨iM_31, (l0_pr q_32 (by decide) (by decide)), (by omega), (by omega), (by omega), (by omega), (by omega), (by omega)⟩) dX10_powerLine_72
      · exact hj_25_5  _ _ _  hw (lv_sub hl [0] rfl)
set_option maxHeartbeats 4000000 in
set_option maxRecDepth 100000 in
theorem s_X10_lawLine (l : Launch) (D : va_G) (A : Nat → Nat → Nat) (cy : Nat → ClassId) (hJ : ti_inj ti_LM A) (M : ti_M) (hI : mI Tm M) (hf : ff M = 1) (hum : um M) (h1 : (tY M 60 3 18).toInt ≤ (tI M 60 30).toInt + 64 - 64 * ff M) (h2 : (tI M 60 29).toInt ≤ 8 - 8 * ff M) : ti_KvE l yX10_lawLine cX10_lawLine 2 650 ti_LM D A cy M [.ref (A 60 0)] (fun M2 => mI Tm M2 ∧ ln M2 M ∧ (pg M ≤ pg M2) ∧ (0 ≤ ff M2) ∧ (ff M2 ≤ ff M) ∧ ((tY M2 60 3 18).toInt ≤ (tI M2 60 30).toInt + 64 - 64 * ff M2) ∧ ((tI M2 60 29).toInt ≤ 8 - 8 * ff M2) ∧ (0 ≤ (tY M2 60 3 18).toInt) ∧ ((tY M2 60 3 18).toInt ≤ 64) ∧ (0 ≤ (tI M2 60 29).toInt) ∧ ((tI M2 60 29).toInt ≤ 8) ∧ (0 ≤ (tI M2 60 30).toInt) ∧ ((tI M2 60 30).toInt ≤ 64) ∧ um M2) := by
  refine ti_eVE yp_X10_lawLine hJ ti_LM_nd (Nat.le_of_ble_eq_true rfl) ?_
  intro p e s m args below meth c Q H0 C hE hQ hw ls hl
  have hx := C.1
  have hb := C.2.1
  have hl : lv_has ls 2 [(0, .ref (A 60 0))] := hl
  have hI30 := b30 hI
  have hI29 := b29 hI
  have hI18 := b18 hI
  have hIff := ff_b M
  refine lv_aload_n hx hb dX10_lawLine_0 rfl (lv_at hl 0 rfl) ?_
  refine ti_get (ci := 10) (k := 23) (N := 67) (T := TX10) C hw iw_10 rfl ob_60 (by decide) (by decide) fl_X10_173 rfl rfl dX10_lawLine_1 ?_
  refine lv_topi (fun x_1 ex_1 => ?_)
  have hj_25_5 : ∀  (H : Heap) (locs : List Loc) (ls : Array Slot), ti_H ti_LM D A cy H0 M H locs → lv_has ls 2 [(0, .ref (A 60 0))] → W p l e (ti_rm 650) s m args below meth c H locs 0 0 Q (F0 m 25 ls []) := by
    intro  H locs ls  hw hl
    refine lv_aload_n hx hb dX10_lawLine_25 rfl (lv_at hl 0 rfl) ?_
    refine lv_iconst (v := 1) hx hb dX10_lawLine_26 (by decide) ?_
    refine ti_callVv (ci := 10) (av := [.int 1]) C hw (s_X10_wrong l D A cy hJ M hI 1 (by decide)) ⟨ml_X10_217, ym_X10_wrong, yv_X10_wrong, yi_X10_wrong, yc_X10_wrong⟩ yd_X10_wrong ob_60 (by decide) rfl rfl hl.1 (Nat.le_of_ble_eq_true rfl) ⟨by decide, by decide⟩ ⟨Nat.zero_le _, Nat.zero_le _⟩ dX10_lawLine_27 (fun M_7 H locs hp_7 hw => ?_)
    obtain ⟨iM_7, q_8, z_9, z_10, z_11, z_12, z_13⟩ := l_wr hp_7
    clear hp_7
    refine lv_aload_n hx hb dX10_lawLine_30 rfl (lv_at hl 0 rfl) ?_
    refine ti_get (ci := 10) (k := 24) (N := 67) (T := TX10) C hw iw_10 rfl ob_60 (by decide) (by decide) fl_X10_183 rfl rfl dX10_lawLine_31 ?_
    refine lv_topi (fun x_19 ex_19 => ?_)
    refine lv_bipush (v := 13) hx hb dX10_lawLine_34 (by decide) ?_
    refine lv_isub hx hb dX10_lawLine_36 ?_
    refine lv_topi (fun x_20 ex_20 => ?_)
    refine lv_istore_n (lv' := [(1, .int x_20), (0, .ref (A 60 0))]) hx hb dX10_lawLine_37 rfl hl (by decide) rfl (fun ls hl => ?_)
    refine lv_aload_n hx hb dX10_lawLine_38 rfl (lv_at hl 1 rfl) ?_
    refine ti_get (ci := 10) (k := 25) (N := 67) (T := TX10) C hw iw_10 rfl ob_60 (by decide) (by decide) fl_X10_208 rfl rfl dX10_lawLine_39 ?_
    refine lv_topi (fun x_21 ex_21 => ?_)
    have u_22 : (tI M_7 60 25).toInt = x_21.toInt := by rw [ex_21]
    have ufx_21 : (tI M_7 60 25).toInt = x_21.toInt := by rw [ex_21]
    refine sb_if_ne (tgt := 65) hx hb rfl dX10_lawLine_42 (by decide) (fun c_42_22 => ?_) (fun c_42_22 => by have z_24 : ff M_7 = 1 := ff_1 (ufx_21.trans c_42_22); omega)
    have z_24 : ff M_7 = 0 := ff_0 (fun h => c_42_22 (ufx_21.symm.trans h))
    clear c_42_22
    refine lv_aload_n hx hb dX10_lawLine_65 rfl (lv_at hl 1 rfl) ?_
    refine ti_get (ci := 10) (k := 25) (N := 67) (T := TX10) C hw iw_10 rfl ob_60 (by decide) (by decide) fl_X10_208 rfl rfl dX10_lawLine_66 ?_
    refine ti_top (y := x_21) (ex_21.symm) ?_
    refine sb_if_eq (tgt := 73) hx hb rfl dX10_lawLine_69 (by decide) (fun c_69_37 => by have z_39 : ff M_7 = 1 := ff_1 (ufx_21.trans c_69_37); omega) (fun c_69_37 => ?_)
    have z_39 : ff M_7 = 0 := ff_0 (fun h => c_69_37 (ufx_21.symm.trans h))
    clear c_69_37
    exact hQ _ _ _ _ _ hw (⟨iM_7, (ln_l0 (l0_pr q_8 (by decide) (by decide))), (by omega), (by omega), (by omega), (by omega), (by omega), (by omega), (by omega), (by omega), (by omega), (by omega), (by omega), Or.inl (by omega)⟩) dX10_lawLine_72
  refine sb_if_ne (tgt := 25) hx hb rfl dX10_lawLine_4 (by decide) (fun c_4_1 => ?_) (fun c_4_1 => ?_)
  · exact hj_25_5  _ _ _  hw (lv_sub hl [0] rfl)
  · refine lv_aload_n hx hb dX10_lawLine_7 rfl (lv_at hl 0 rfl) ?_
    refine ti_get (ci := 10) (k := 24) (N := 67) (T := TX10) C hw iw_10 rfl ob_60 (by decide) (by decide) fl_X10_183 rfl rfl dX10_lawLine_8 ?_
    refine lv_topi (fun x_3 ex_3 => ?_)
    refine lv_bipush (v := 13) hx hb dX10_lawLine_11 (by decide) ?_
    refine sb_icmp_lt (tgt := 25) hx hb rfl (by decide : (13 : Int32).toInt = 13) dX10_lawLine_13 (by decide) (fun c_13_3 => ?_) (fun c_13_3 => ?_)
    · exact hj_25_5  _ _ _  hw (lv_sub hl [0] rfl)
    · refine lv_aload_n hx hb dX10_lawLine_16 rfl (lv_at hl 0 rfl) ?_
      refine ti_get (ci := 10) (k := 24) (N := 67) (T := TX10) C hw iw_10 rfl ob_60 (by decide) (by decide) fl_X10_183 rfl rfl dX10_lawLine_17 ?_
      refine ti_top (y := x_3) (ex_3.symm) ?_
      refine lv_bipush (v := 15) hx hb dX10_lawLine_20 (by decide) ?_
      refine sb_icmp_le (tgt := 30) hx hb rfl (by decide : (15 : Int32).toInt = 15) dX10_lawLine_22 (by decide) (fun c_22_4 => ?_) (fun c_22_4 => ?_)
      · refine lv_aload_n hx hb dX10_lawLine_30 rfl (lv_at hl 0 rfl) ?_
        refine ti_get (ci := 10) (k := 24) (N := 67) (T := TX10) C hw iw_10 rfl ob_60 (by decide) (by decide) fl_X10_183 rfl rfl dX10_lawLine_31 ?_
        refine ti_top (y := x_3) (ex_3.symm) ?_
        refine lv_bipush (v := 13) hx hb dX10_lawLine_34 (by decide) ?_
        refine lv_isub hx hb dX10_lawLine_36 ?_
        refine lv_topi (fun x_14 ex_14 => ?_)
        have lox_14x_3 := x_3.le_toInt
        have hix_14x_3 := x_3.toInt_lt
        have tx_14 : x_14.toInt = x_3.toInt - 13 := i_sub ex_14 rfl (by decide : (13 : Int32).toInt = 13) (by omega) (by omega)
        refine lv_istore_n (lv' := [(1, .int x_14), (0, .ref (A 60 0))]) hx hb dX10_lawLine_37 rfl hl (by decide) rfl (fun ls hl => ?_)
        refine lv_aload_n hx hb dX10_lawLine_38 rfl (lv_at hl 1 rfl) ?_
        refine ti_get (ci := 10) (k := 25) (N := 67) (T := TX10) C hw iw_10 rfl ob_60 (by decide) (by decide) fl_X10_208 rfl rfl dX10_lawLine_39 ?_
        refine lv_topi (fun x_15 ex_15 => ?_)
        have u_16 : (tI M 60 25).toInt = x_15.toInt := by rw [ex_15]
        have ufx_15 : (tI M 60 25).toInt = x_15.toInt := by rw [ex_15]
        refine sb_if_ne (tgt := 65) hx hb rfl dX10_lawLine_42 (by decide) (fun c_42_16 => by have z_18 : ff M = 0 := ff_0 (fun h => c_42_16 (ufx_15.symm.trans h)); omega) (fun c_42_16 => ?_)
        have z_18 : ff M = 1 := ff_1 (ufx_15.trans c_42_16)
        clear c_42_16
        refine lv_aload_n hx hb dX10_lawLine_45 rfl (lv_at hl 1 rfl) ?_
        refine ti_get (ci := 10) (k := 18) (N := 67) (T := TX10) C hw iw_10 rfl ob_60 (by decide) (by decide) fl_X10_228 rfl rfl dX10_lawLine_46 ?_
        refine lv_topi (fun x_25 ex_25 => ?_)
        refine lv_bipush (v := 16) hx hb dX10_lawLine_49 (by decide) ?_
        refine lv_iload_n hx hb dX10_lawLine_51 rfl (lv_at hl 0 rfl) ?_
        refine lv_iadd hx hb dX10_lawLine_52 ?_
        refine lv_topi (fun x_26 ex_26 => ?_)
        have tx_26 : x_26.toInt = 16 + x_14.toInt := i_add ex_26 (by decide : (16 : Int32).toInt = 16) rfl (by omega) (by omega)
        refine lv_ishr hx hb dX10_lawLine_53 ?_
        refine lv_topi (fun x_27 ex_27 => ?_)
        refine lv_iconst (v := 1) hx hb dX10_lawLine_54 (by decide) ?_
        refine lv_iand hx hb dX10_lawLine_55 ?_
        refine lv_topi (fun x_28 ex_28 => ?_)
        have bx_28 := i_and 1 ex_28 (by decide) (by decide)
        refine lv_iconst (v := 1) hx hb dX10_lawLine_56 (by decide) ?_
        refine sb_icmp_ne (tgt := 65) hx hb rfl (by decide : (1 : Int32).toInt = 1) dX10_lawLine_57 (by decide) (fun c_57_28 => ?_) (fun c_57_28 => ?_)
        · refine lv_aload_n hx hb dX10_lawLine_65 rfl (lv_at hl 1 rfl) ?_
          refine ti_get (ci := 10) (k := 25) (N := 67) (T := TX10) C hw iw_10 rfl ob_60 (by decide) (by decide) fl_X10_208 rfl rfl dX10_lawLine_66 ?_
          refine ti_top (y := x_15) (ex_15.symm) ?_
          refine sb_if_eq (tgt := 73) hx hb rfl dX10_lawLine_69 (by decide) (fun c_69_39 => ?_) (fun c_69_39 => by have z_41 : ff M = 0 := ff_0 (fun h => c_69_39 (ufx_15.symm.trans h)); omega)
          have z_41 : ff M = 1 := ff_1 (ufx_15.trans c_69_39)
          clear c_69_39
          refine lv_aload_n hx hb dX10_lawLine_73 rfl (lv_at hl 1 rfl) ?_
          refine lv_dup hx hb dX10_lawLine_74 rfl ?_
          refine ti_get (ci := 10) (k := 18) (N := 67) (T := TX10) C hw iw_10 rfl ob_60 (by decide) (by decide) fl_X10_228 rfl rfl dX10_lawLine_75 ?_
          refine ti_top (y := x_25) (ex_25.symm) ?_
          refine lv_iconst (v := 1) hx hb dX10_lawLine_78 (by decide) ?_
          refine lv_bipush (v := 16) hx hb dX10_lawLine_79 (by decide) ?_
          refine lv_iload_n hx hb dX10_lawLine_81 rfl (lv_at hl 0 rfl) ?_
          refine lv_iadd hx hb dX10_lawLine_82 ?_
          refine lv_topi (fun x_46 ex_46 => ?_)
          have tx_46 : x_46.toInt = 16 + x_14.toInt := i_add ex_46 (by decide : (16 : Int32).toInt = 16) rfl (by omega) (by omega)
          refine lv_ishl hx hb dX10_lawLine_83 ?_
          refine lv_topi (fun x_47 ex_47 => ?_)
          refine lv_ior hx hb dX10_lawLine_84 ?_
          refine lv_topi (fun x_48 ex_48 => ?_)
          refine ti_putI (ci := 10) (k := 18) (N := 67) (T := TX10) C hw iw_10 tyX10 tyX10_ok nmX10 rfl ob_60 (by decide) (by decide) fl_X10_228 rfl rfl rfl rfl (fn_10 A _) fs_10_18 dX10_lawLine_85 (fun H locs hw => ?_)
          obtain ⟨M_49, hM_49⟩ : ∃ z : ti_M, z = uI M 60 18 x_48 := ⟨_, rfl⟩
          have hw := hw.to hM_49.symm
          have iM_49 : mI Tm M_49 := mI_uI hI hM_49 (by decide) (by decide) trivial
          have z_50 : ff M_49 = ff M := ff_I hM_49 (by decide)
          have z_51 : pg M_49 = pg M := pg_I hM_49 (by decide)
          have z_52 : (tI M_49 60 29).toInt = (tI M 60 29).toInt := by rw [tI_nE hM_49 (nk (by decide))]
          have z_53 : (tI M_49 60 30).toInt = (tI M 60 30).toInt := by rw [tI_nE hM_49 (nk (by decide))]
          have z_54 : (tY M_49 60 3 18).toInt = (tY M 60 3 18).toInt := by rw [tY_uIE hM_49]
          refine lv_aload_n hx hb dX10_lawLine_88 rfl (lv_at hl 1 rfl) ?_
          refine ti_callVvE (ci := 10) (av := []) C hE hw (s_X10_token l D A cy hJ M_49 iM_49 ) ⟨ml_X10_214, ym_X10_token, yv_X10_token, yi_X10_token, yc_X10_token⟩ yd_X10_token ob_60 (by decide) rfl rfl hl.1 (Nat.le_of_ble_eq_true rfl) ⟨by decide, by decide⟩ ⟨Nat.zero_le _, Nat.zero_le _⟩ dX10_lawLine_89 (fun M_56 H locs hp_56 hw => ?_)
          obtain ⟨iM_56, q_57, z_58, z_59, z_60, z_61, z_62, z_63⟩ := l_tk hp_56
          clear hp_56
          refine lv_aload_n hx hb dX10_lawLine_92 rfl (lv_at hl 1 rfl) ?_
          refine ti_get (ci := 10) (k := 14) (N := 67) (T := TX10) (v := .ref (A 60 15)) C hw iw_10 rfl ob_60 (by decide) (by decide) fl_X10_46 rfl rfl dX10_lawLine_93 ?_
          refine lv_iconst (v := 3) hx hb dX10_lawLine_96 (by decide) ?_
          refine lv_iload_n hx hb dX10_lawLine_97 rfl (lv_at hl 0 rfl) ?_
          refine lv_iadd hx hb dX10_lawLine_98 ?_
          refine lv_topi (fun x_64 ex_64 => ?_)
          have tx_64 : x_64.toInt = 3 + x_14.toInt := i_add ex_64 (by decide : (3 : Int32).toInt = 3) rfl (by omega) (by omega)
          refine lv_aload_n hx hb dX10_lawLine_99 rfl (lv_at hl 1 rfl) ?_
          refine lv_bipush (v := 7) hx hb dX10_lawLine_100 (by decide) ?_
          refine ti_callVi (ci := 10) (av := [.int 7]) C hw (s_X10_fresher_7 l D A cy hJ M_56 iM_56 ) ⟨ml_X10_224, ym_X10_fresher, yv_X10_fresher, yi_X10_fresher, yc_X10_fresher⟩ yd_X10_fresher ob_60 (by decide) rfl rfl hl.1 (Nat.le_of_ble_eq_true rfl) ⟨by decide, by decide⟩ ⟨Nat.zero_le _, Nat.zero_le _⟩ dX10_lawLine_102 (fun r_65 M_66 H locs hp_66 hw => ?_)
          obtain ⟨hm, b0r_65, b1r_65, yr_65⟩ := hp_66
          have hw := hw.to hm
          have zr_65 : (tY M_56 60 3 18).toInt = r_65.toInt := by rw [yr_65]
          refine ti_iast (ci := 10) (k := 14) (n := 6) C hw ob_60 (by decide) (fun _ _ => rfl) (vp_in_iff.mpr (by omega)) dX10_lawLine_105 (fun H locs hw => ?_)
          obtain ⟨M_67, hM_67⟩ : ∃ z : ti_M, z = uY M_56 60 14 (upd (tY M_56 60 14) (x_64 : Int32).toNatClampNeg r_65) := ⟨_, rfl⟩
          have hw := hw.to hM_67.symm
          have iM_67 : mI Tm M_67 := mI_up (i := x_64.toNatClampNeg) iM_56 hM_67 (ib_mk (lo := 0) (hi := 64) (by omega) (by omega))
          have z_68 := s5_Y hM_67 (by decide)
          refine lv_aload_n hx hb dX10_lawLine_106 rfl (lv_at hl 1 rfl) ?_
          refine ti_callVvE (ci := 10) (av := []) C hE hw (s_X10_expression 8 l D A cy hJ M_67 iM_67 (tY M_67 60 3 18).toInt.toNat 0 (by decide) (us_0 iM_67) (by omega) (by omega) (by omega)) ⟨ml_X10_270, ym_X10_expression, yv_X10_expression, yi_X10_expression, yc_X10_expression⟩ yd_X10_expression ob_60 (by decide) rfl rfl hl.1 (Nat.le_of_ble_eq_true rfl) ⟨by decide, by decide⟩ ⟨Nat.zero_le _, Nat.zero_le _⟩ dX10_lawLine_107 (fun M_70 H locs hp_70 hw => ?_)
          obtain ⟨iM_70, q_71, p_72, p_73, p_74, p_75, p_76, p_77, p_78, p_79, p_80, p_81, p_82, p_83, p_84, u_85⟩ := hp_70
          refine lv_aload_n hx hb dX10_lawLine_110 rfl (lv_at hl 1 rfl) ?_
          refine ti_get (ci := 10) (k := 15) (N := 67) (T := TX10) (v := .ref (A 60 16)) C hw iw_10 rfl ob_60 (by decide) (by decide) fl_X10_49 rfl rfl dX10_lawLine_111 ?_
          refine lv_iconst (v := 3) hx hb dX10_lawLine_114 (by decide) ?_
          refine lv_iload_n hx hb dX10_lawLine_115 rfl (lv_at hl 0 rfl) ?_
          refine lv_iadd hx hb dX10_lawLine_116 ?_
          refine lv_topi (fun x_86 ex_86 => ?_)
          have tx_86 : x_86.toInt = 3 + x_14.toInt := i_add ex_86 (by decide : (3 : Int32).toInt = 3) rfl (by omega) (by omega)
          refine lv_aload_n hx hb dX10_lawLine_117 rfl (lv_at hl 1 rfl) ?_
          refine lv_bipush (v := 7) hx hb dX10_lawLine_118 (by decide) ?_
          refine ti_callVi (ci := 10) (av := [.int 7]) C hw (s_X10_fresher_7 l D A cy hJ M_70 iM_70 ) ⟨ml_X10_224, ym_X10_fresher, yv_X10_fresher, yi_X10_fresher, yc_X10_fresher⟩ yd_X10_fresher ob_60 (by decide) rfl rfl hl.1 (Nat.le_of_ble_eq_true rfl) ⟨by decide, by decide⟩ ⟨Nat.zero_le _, Nat.zero_le _⟩ dX10_lawLine_120 (fun r_87 M_88 H locs hp_88 hw => ?_)
          obtain ⟨hm, b0r_87, b1r_87, yr_87⟩ := hp_88
          have hw := hw.to hm
          have zr_87 : (tY M_70 60 3 18).toInt = r_87.toInt := by rw [yr_87]
          refine ti_iast (ci := 10) (k := 15) (n := 6) C hw ob_60 (by decide) (fun _ _ => rfl) (vp_in_iff.mpr (by omega)) dX10_lawLine_123 (fun H locs hw => ?_)
          obtain ⟨M_89, hM_89⟩ : ∃ z : ti_M, z = uY M_70 60 15 (upd (tY M_70 60 15) (x_86 : Int32).toNatClampNeg r_87) := ⟨_, rfl⟩
          have hw := hw.to hM_89.symm
          have iM_89 : mI Tm M_89 := mI_up (i := x_86.toNatClampNeg) iM_70 hM_89 (ib_mk (lo := 0) (hi := 64) (by omega) (by omega))
          have z_90 := s5_Y hM_89 (by decide)
          exact hQ _ _ _ _ _ hw (⟨iM_89, (ln.trans (ln_15 hM_89 (by show 3 ≤ (x_86 : Int32).toInt.toNat; omega)) (ln.trans (ln_pe q_71 iM_67) (ln.trans (ln_14 hM_67 (by show 3 ≤ (x_64 : Int32).toInt.toNat; omega)) (ln.trans (ln_l0 (l0_pr q_57 (by decide) (by decide))) (ln_l0 (l0_I hM_49 (by decide))))))), (by omega), (by omega), (by omega), (by omega), (by omega), (by omega), (by omega), (by omega), (by omega), (by omega), (by omega), um_law (um_l0 hum (l0.trans (l0_pr q_57 (by decide) (by decide)) (l0_I hM_49 (by decide))) (by omega)) iM_56 iM_70 hM_67 (by omega) (by show 3 ≤ (x_64 : Int32).toInt.toNat ∧ (x_64 : Int32).toInt.toNat ≤ 5; omega) q_71 (by omega) u_85 hM_89 (by show (x_86 : Int32).toInt.toNat = (x_64 : Int32).toInt.toNat; omega) (by omega)⟩) dX10_lawLine_124
        · refine lv_aload_n hx hb dX10_lawLine_60 rfl (lv_at hl 1 rfl) ?_
          refine lv_iconst (v := 3) hx hb dX10_lawLine_61 (by decide) ?_
          refine ti_callVv (ci := 10) (av := [.int 3]) C hw (s_X10_wrong l D A cy hJ M hI 3 (by decide)) ⟨ml_X10_217, ym_X10_wrong, yv_X10_wrong, yi_X10_wrong, yc_X10_wrong⟩ yd_X10_wrong ob_60 (by decide) rfl rfl hl.1 (Nat.le_of_ble_eq_true rfl) ⟨by decide, by decide⟩ ⟨Nat.zero_le _, Nat.zero_le _⟩ dX10_lawLine_62 (fun M_31 H locs hp_31 hw => ?_)
          obtain ⟨iM_31, q_32, z_33, z_34, z_35, z_36, z_37⟩ := l_wr hp_31
          clear hp_31
          refine lv_aload_n hx hb dX10_lawLine_65 rfl (lv_at hl 1 rfl) ?_
          refine ti_get (ci := 10) (k := 25) (N := 67) (T := TX10) C hw iw_10 rfl ob_60 (by decide) (by decide) fl_X10_208 rfl rfl dX10_lawLine_66 ?_
          refine lv_topi (fun x_42 ex_42 => ?_)
          have u_43 : (tI M_31 60 25).toInt = x_42.toInt := by rw [ex_42]
          have ufx_42 : (tI M_31 60 25).toInt = x_42.toInt := by rw [ex_42]
          refine sb_if_eq (tgt := 73) hx hb rfl dX10_lawLine_69 (by decide) (fun c_69_43 => by have z_45 : ff M_31 = 1 := ff_1 (ufx_42.trans c_69_43); omega) (fun c_69_43 => ?_)
          have z_45 : ff M_31 = 0 := ff_0 (fun h => c_69_43 (ufx_42.symm.trans h))
          clear c_69_43
          exact hQ _ _ _ _ _ hw (⟨iM_31, (ln_l0 (l0_pr q_32 (by decide) (by decide))), (by omega), (by omega), (by omega), (by omega), (by omega), (by omega), (by omega), (by omega), (by omega), (by omega), (by omega), Or.inl (by omega)⟩) dX10_lawLine_72
      · exact hj_25_5  _ _ _  hw (lv_sub hl [0] rfl)
set_option maxHeartbeats 4000000 in
set_option maxRecDepth 100000 in
theorem s_X10_line (l : Launch) (D : va_G) (A : Nat → Nat → Nat) (cy : Nat → ClassId) (hJ : ti_inj ti_LM A) (M : ti_M) (hI : mI Tm M) (hf : ff M = 1) (hum : um M) (h1 : (tY M 60 3 18).toInt ≤ (tI M 60 30).toInt + 64 - 64 * ff M) (h2 : (tI M 60 29).toInt ≤ 8 - 8 * ff M) (hs : pg M = 2 * (tI M 60 21).toInt) : ti_KvE l yX10_line cX10_line 2 651 ti_LM D A cy M [.ref (A 60 0)] (fun M2 => mI Tm M2 ∧ ln M2 M ∧ (pg M + 2 * ff M2 ≤ pg M2) ∧ (0 ≤ ff M2) ∧ (ff M2 ≤ 1) ∧ ((tY M2 60 3 18).toInt ≤ (tI M2 60 30).toInt + 64 - 64 * ff M2) ∧ ((tI M2 60 29).toInt ≤ 8 - 8 * ff M2) ∧ (0 ≤ (tY M2 60 3 18).toInt) ∧ ((tY M2 60 3 18).toInt ≤ 64) ∧ (0 ≤ (tI M2 60 29).toInt) ∧ ((tI M2 60 29).toInt ≤ 8) ∧ (0 ≤ (tI M2 60 30).toInt) ∧ ((tI M2 60 30).toInt ≤ 64) ∧ um M2) := by
  refine ti_eVE yp_X10_line hJ ti_LM_nd (Nat.le_of_ble_eq_true rfl) ?_
  intro p e s m args below meth c Q H0 C hE hQ hw ls hl
  have hx := C.1
  have hb := C.2.1
  have hl : lv_has ls 2 [(0, .ref (A 60 0))] := hl
  have hI30 := b30 hI
  have hI29 := b29 hI
  have hI18 := b18 hI
  have hIff := ff_b M
  refine lv_aload_n hx hb dX10_line_0 rfl (lv_at hl 0 rfl) ?_
  refine ti_get (ci := 10) (k := 23) (N := 67) (T := TX10) C hw iw_10 rfl ob_60 (by decide) (by decide) fl_X10_173 rfl rfl dX10_line_1 ?_
  refine lv_topi (fun x_1 ex_1 => ?_)
  have hj_16_4 : ∀  (H : Heap) (locs : List Loc) (ls : Array Slot), ti_H ti_LM D A cy H0 M H locs → lv_has ls 2 [(0, .ref (A 60 0))] → W p l e (ti_rm 651) s m args below meth c H locs 0 0 Q (F0 m 16 ls []) := by
    intro  H locs ls  hw hl
    refine lv_aload_n hx hb dX10_line_16 rfl (lv_at hl 0 rfl) ?_
    refine lv_iconst (v := 1) hx hb dX10_line_17 (by decide) ?_
    refine ti_callVv (ci := 10) (av := [.int 1]) C hw (s_X10_wrong l D A cy hJ M hI 1 (by decide)) ⟨ml_X10_217, ym_X10_wrong, yv_X10_wrong, yi_X10_wrong, yc_X10_wrong⟩ yd_X10_wrong ob_60 (by decide) rfl rfl hl.1 (Nat.le_of_ble_eq_true rfl) ⟨by decide, by decide⟩ ⟨Nat.zero_le _, Nat.zero_le _⟩ dX10_line_18 (fun M_6 H locs hp_6 hw => ?_)
    obtain ⟨iM_6, q_7, z_8, z_9, z_10, z_11, z_12⟩ := l_wr hp_6
    clear hp_6
    exact hQ _ _ _ _ _ hw (⟨iM_6, (ln_l0 (l0_pr q_7 (by decide) (by decide))), (by omega), (by omega), (by omega), (by omega), (by omega), (by omega), (by omega), (by omega), (by omega), (by omega), (by omega), (um_l0 hum (l0_pr q_7 (by decide) (by decide)) (by omega))⟩) dX10_line_21
  refine sb_if_ne (tgt := 16) hx hb rfl dX10_line_4 (by decide) (fun c_4_1 => ?_) (fun c_4_1 => ?_)
  · exact hj_16_4  _ _ _  hw (lv_sub hl [0] rfl)
  · refine lv_aload_n hx hb dX10_line_7 rfl (lv_at hl 0 rfl) ?_
    refine ti_get (ci := 10) (k := 24) (N := 67) (T := TX10) C hw iw_10 rfl ob_60 (by decide) (by decide) fl_X10_183 rfl rfl dX10_line_8 ?_
    refine lv_topi (fun x_3 ex_3 => ?_)
    refine lv_bipush (v := 8) hx hb dX10_line_11 (by decide) ?_
    refine sb_icmp_le (tgt := 22) hx hb rfl (by decide : (8 : Int32).toInt = 8) dX10_line_13 (by decide) (fun c_13_3 => ?_) (fun c_13_3 => ?_)
    · refine lv_aload_n hx hb dX10_line_22 rfl (lv_at hl 0 rfl) ?_
      refine ti_get (ci := 10) (k := 24) (N := 67) (T := TX10) C hw iw_10 rfl ob_60 (by decide) (by decide) fl_X10_183 rfl rfl dX10_line_23 ?_
      refine ti_top (y := x_3) (ex_3.symm) ?_
      refine lv_istore_n (lv' := [(1, .int x_3), (0, .ref (A 60 0))]) hx hb dX10_line_26 rfl hl (by decide) rfl (fun ls hl => ?_)
      refine lv_iload_n hx hb dX10_line_27 rfl (lv_at hl 0 rfl) ?_
      have hj_49_25 : ∀  (H : Heap) (locs : List Loc) (ls : Array Slot), (x_3.toInt ≠ 0 ∨ (tY M 60 3 11).toInt ≤ 7) → ti_H ti_LM D A cy H0 M H locs → lv_has ls 2 [(1, .int x_3), (0, .ref (A 60 0))] → W p l e (ti_rm 651) s m args below meth c H locs 0 0 Q (F0 m 49 ls []) := by
        intro  H locs ls j_25 hw hl
        refine lv_iload_n hx hb dX10_line_49 rfl (lv_at hl 0 rfl) ?_
        refine lv_iconst (v := 3) hx hb dX10_line_50 (by decide) ?_
        have hj_85_60 : ∀  (H : Heap) (locs : List Loc) (ls : Array Slot), (x_3.toInt ≠ 0 ∨ (tY M 60 3 11).toInt ≤ 7) → ti_H ti_LM D A cy H0 M H locs → lv_has ls 2 [(1, .int x_3), (0, .ref (A 60 0))] → W p l e (ti_rm 651) s m args below meth c H locs 0 0 Q (F0 m 85 ls []) := by
          intro  H locs ls j_60 hw hl
          refine lv_aload_n hx hb dX10_line_85 rfl (lv_at hl 1 rfl) ?_
          refine lv_dup hx hb dX10_line_86 rfl ?_
          refine ti_get (ci := 10) (k := 18) (N := 67) (T := TX10) C hw iw_10 rfl ob_60 (by decide) (by decide) fl_X10_228 rfl rfl dX10_line_87 ?_
          refine lv_topi (fun x_61 ex_61 => ?_)
          refine lv_iconst (v := 1) hx hb dX10_line_90 (by decide) ?_
          refine lv_iload_n hx hb dX10_line_91 rfl (lv_at hl 0 rfl) ?_
          refine lv_ishl hx hb dX10_line_92 ?_
          refine lv_topi (fun x_62 ex_62 => ?_)
          refine lv_ior hx hb dX10_line_93 ?_
          refine lv_topi (fun x_63 ex_63 => ?_)
          refine ti_putI (ci := 10) (k := 18) (N := 67) (T := TX10) C hw iw_10 tyX10 tyX10_ok nmX10 rfl ob_60 (by decide) (by decide) fl_X10_228 rfl rfl rfl rfl (fn_10 A _) fs_10_18 dX10_line_94 (fun H locs hw => ?_)
          obtain ⟨M_64, hM_64⟩ : ∃ z : ti_M, z = uI M 60 18 x_63 := ⟨_, rfl⟩
          have hw := hw.to hM_64.symm
          have iM_64 : mI Tm M_64 := mI_uI hI hM_64 (by decide) (by decide) trivial
          have z_65 : ff M_64 = ff M := ff_I hM_64 (by decide)
          have z_66 : pg M_64 = pg M := pg_I hM_64 (by decide)
          have z_67 : (tI M_64 60 29).toInt = (tI M 60 29).toInt := by rw [tI_nE hM_64 (nk (by decide))]
          have z_68 : (tI M_64 60 30).toInt = (tI M 60 30).toInt := by rw [tI_nE hM_64 (nk (by decide))]
          have z_69 : (tY M_64 60 3 18).toInt = (tY M 60 3 18).toInt := by rw [tY_uIE hM_64]
          have z_70 : (tI M_64 60 21).toInt = (tI M 60 21).toInt := by rw [tI_nE hM_64 (nk (by decide))]
          refine lv_aload_n hx hb dX10_line_97 rfl (lv_at hl 1 rfl) ?_
          refine ti_callVvE (ci := 10) (av := []) C hE hw (s_X10_token l D A cy hJ M_64 iM_64 ) ⟨ml_X10_214, ym_X10_token, yv_X10_token, yi_X10_token, yc_X10_token⟩ yd_X10_token ob_60 (by decide) rfl rfl hl.1 (Nat.le_of_ble_eq_true rfl) ⟨by decide, by decide⟩ ⟨Nat.zero_le _, Nat.zero_le _⟩ dX10_line_98 (fun M_72 H locs hp_72 hw => ?_)
          obtain ⟨iM_72, q_73, z_74, z_75, z_76, z_77, z_78, z_79⟩ := l_tk hp_72
          clear hp_72
          refine lv_iload_n hx hb dX10_line_101 rfl (lv_at hl 0 rfl) ?_
          have hj_270_199 : ∀ (M_186 : ti_M) (H : Heap) (locs : List Loc) (ls : Array Slot), (mI Tm M_186) → (ln M_186 M) → (pg M + 1 ≤ pg M_186) → (0 ≤ ff M_186) → (ff M_186 ≤ 1) → ((tY M_186 60 3 18).toInt ≤ (tI M_186 60 30).toInt + 64 - 64 * ff M_186) → ((tI M_186 60 29).toInt ≤ 8 - 8 * ff M_186) → (0 ≤ (tY M_186 60 3 18).toInt) → ((tY M_186 60 3 18).toInt ≤ 64) → (0 ≤ (tI M_186 60 29).toInt) → ((tI M_186 60 29).toInt ≤ 8) → (0 ≤ (tI M_186 60 30).toInt) → ((tI M_186 60 30).toInt ≤ 64) → (um M_186) → ti_H ti_LM D A cy H0 M_186 H locs → lv_has ls 2 [(1, .int x_3), (0, .ref (A 60 0))] → W p l e (ti_rm 651) s m args below meth c H locs 0 0 Q (F0 m 270 ls []) := by
            intro M_186 H locs ls iM_186 f_187 j_188 j_189 j_190 j_191 j_192 j_193 j_194 j_195 j_196 j_197 j_198 j_199 hw hl
            refine lv_aload_n hx hb dX10_line_270 rfl (lv_at hl 1 rfl) ?_
            refine ti_get (ci := 10) (k := 25) (N := 67) (T := TX10) C hw iw_10 rfl ob_60 (by decide) (by decide) fl_X10_208 rfl rfl dX10_line_271 ?_
            refine lv_topi (fun x_200 ex_200 => ?_)
            have u_201 : (tI M_186 60 25).toInt = x_200.toInt := by rw [ex_200]
            have ufx_200 : (tI M_186 60 25).toInt = x_200.toInt := by rw [ex_200]
            refine sb_if_eq (tgt := 278) hx hb rfl dX10_line_274 (by decide) (fun c_274_201 => ?_) (fun c_274_201 => ?_)
            · have z_203 : ff M_186 = 1 := ff_1 (ufx_200.trans c_274_201)
              clear c_274_201
              refine lv_aload_n hx hb dX10_line_278 rfl (lv_at hl 1 rfl) ?_
              refine lv_bipush (v := 59) hx hb dX10_line_279 (by decide) ?_
              refine ti_callVi (ci := 10) (av := [.int 59]) C hw (s_X10_isSign l D A cy hJ M_186 iM_186 59) ⟨ml_X10_251, ym_X10_isSign, yv_X10_isSign, yi_X10_isSign, yc_X10_isSign⟩ yd_X10_isSign ob_60 (by decide) rfl rfl hl.1 (Nat.le_of_ble_eq_true rfl) ⟨by decide, by decide⟩ ⟨Nat.zero_le _, Nat.zero_le _⟩ dX10_line_281 (fun r_204 M_205 H locs hp_205 hw => ?_)
              obtain ⟨hm, hz⟩ := hp_205
              have hw := hw.to hm
              have hj_299_242 : ∀ (M_228 : ti_M) (H : Heap) (locs : List Loc) (ls : Array Slot), (mI Tm M_228) → (ln M_228 M) → (pg M + 2 * ff M_228 ≤ pg M_228) → (pg M + 1 ≤ pg M_228) → (0 ≤ ff M_228) → (ff M_228 ≤ 1) → ((tY M_228 60 3 18).toInt ≤ (tI M_228 60 30).toInt + 64 - 64 * ff M_228) → ((tI M_228 60 29).toInt ≤ 8 - 8 * ff M_228) → (0 ≤ (tY M_228 60 3 18).toInt) → ((tY M_228 60 3 18).toInt ≤ 64) → (0 ≤ (tI M_228 60 29).toInt) → ((tI M_228 60 29).toInt ≤ 8) → (0 ≤ (tI M_228 60 30).toInt) → ((tI M_228 60 30).toInt ≤ 64) → (um M_228) → ti_H ti_LM D A cy H0 M_228 H locs → lv_has ls 2 [(1, .int x_3), (0, .ref (A 60 0))] → W p l e (ti_rm 651) s m args below meth c H locs 0 0 Q (F0 m 299 ls []) := by
                intro M_228 H locs ls iM_228 f_229 j_230 j_231 j_232 j_233 j_234 j_235 j_236 j_237 j_238 j_239 j_240 j_241 j_242 hw hl
                refine lv_aload_n hx hb dX10_line_299 rfl (lv_at hl 1 rfl) ?_
                refine lv_dup hx hb dX10_line_300 rfl ?_
                refine ti_get (ci := 10) (k := 19) (N := 67) (T := TX10) C hw iw_10 rfl ob_60 (by decide) (by decide) fl_X10_254 rfl rfl dX10_line_301 ?_
                refine lv_topi (fun x_243 ex_243 => ?_)
                refine lv_iconst (v := 1) hx hb dX10_line_304 (by decide) ?_
                refine lv_iadd hx hb dX10_line_305 ?_
                refine lv_topi (fun x_244 ex_244 => ?_)
                refine ti_putI (ci := 10) (k := 19) (N := 67) (T := TX10) C hw iw_10 tyX10 tyX10_ok nmX10 rfl ob_60 (by decide) (by decide) fl_X10_254 rfl rfl rfl rfl (fn_10 A _) fs_10_19 dX10_line_306 (fun H locs hw => ?_)
                obtain ⟨M_245, hM_245⟩ : ∃ z : ti_M, z = uI M_228 60 19 x_244 := ⟨_, rfl⟩
                have hw := hw.to hM_245.symm
                have iM_245 : mI Tm M_245 := mI_uI iM_228 hM_245 (by decide) (by decide) trivial
                have z_246 : ff M_245 = ff M_228 := ff_I hM_245 (by decide)
                have z_247 : pg M_245 = pg M_228 := pg_I hM_245 (by decide)
                have z_248 : (tI M_245 60 29).toInt = (tI M_228 60 29).toInt := by rw [tI_nE hM_245 (nk (by decide))]
                have z_249 : (tI M_245 60 30).toInt = (tI M_228 60 30).toInt := by rw [tI_nE hM_245 (nk (by decide))]
                have z_250 : (tY M_245 60 3 18).toInt = (tY M_228 60 3 18).toInt := by rw [tY_uIE hM_245]
                have z_251 : (tI M_245 60 21).toInt = (tI M_228 60 21).toInt := by rw [tI_nE hM_245 (nk (by decide))]
                exact hQ _ _ _ _ _ hw (⟨iM_245, (ln.trans (ln_l0 (l0_I hM_245 (by decide))) f_229), (by omega), (by omega), (by omega), (by omega), (by omega), (by omega), (by omega), (by omega), (by omega), (by omega), (by omega), (um_l0 j_242 (l0_I hM_245 (by decide)) (by omega))⟩) dX10_line_309
              rcases hz with ⟨rfl, d0_206, d1_206, d2_206⟩ | rfl
              · have z_207 : ff M_186 = 1 := ff_1 d0_206
                have z_208 : pg M_186 = 2 * (tI M_186 60 21).toInt := pg_3 (by rw [d1_206]; decide)
                refine sb_if_ne (tgt := 295) hx hb (by decide : (1 : Int32).toInt = 1) dX10_line_284 (by decide) (fun c_284_208 => ?_) (fun h => absurd h (by decide))
                refine lv_aload_n hx hb dX10_line_295 rfl (lv_at hl 1 rfl) ?_
                refine ti_callVvE (ci := 10) (av := []) C hE hw (s_X10_token l D A cy hJ M_186 iM_186 ) ⟨ml_X10_214, ym_X10_token, yv_X10_token, yi_X10_token, yc_X10_token⟩ yd_X10_token ob_60 (by decide) rfl rfl hl.1 (Nat.le_of_ble_eq_true rfl) ⟨by decide, by decide⟩ ⟨Nat.zero_le _, Nat.zero_le _⟩ dX10_line_296 (fun M_220 H locs hp_220 hw => ?_)
                obtain ⟨iM_220, q_221, z_222, z_223, z_224, z_225, z_226, z_227⟩ := l_tk hp_220
                clear hp_220
                exact hj_299_242 M_220 _ _ _ iM_220 (ln.trans (ln_l0 (l0_pr q_221 (by decide) (by decide))) f_187) (by first | omega | decide) (by first | omega | decide) (by first | omega | decide) (by first | omega | decide) (by first | omega | decide) (by first | omega | decide) (by first | omega | decide) (by first | omega | decide) (by first | omega | decide) (by first | omega | decide) (by first | omega | decide) (by first | omega | decide) (um_l0 j_199 (l0_pr q_221 (by decide) (by decide)) (by omega)) hw (lv_sub hl [0, 1] rfl)
              · refine sb_if_ne (tgt := 295) hx hb (by decide : (0 : Int32).toInt = 0) dX10_line_284 (by decide) (fun h => absurd h (by decide)) (fun c_284_209 => ?_)
                refine lv_aload_n hx hb dX10_line_287 rfl (lv_at hl 1 rfl) ?_
                refine lv_iconst (v := 1) hx hb dX10_line_288 (by decide) ?_
                refine ti_callVv (ci := 10) (av := [.int 1]) C hw (s_X10_wrong l D A cy hJ M_186 iM_186 1 (by decide)) ⟨ml_X10_217, ym_X10_wrong, yv_X10_wrong, yi_X10_wrong, yc_X10_wrong⟩ yd_X10_wrong ob_60 (by decide) rfl rfl hl.1 (Nat.le_of_ble_eq_true rfl) ⟨by decide, by decide⟩ ⟨Nat.zero_le _, Nat.zero_le _⟩ dX10_line_289 (fun M_212 H locs hp_212 hw => ?_)
                obtain ⟨iM_212, q_213, z_214, z_215, z_216, z_217, z_218⟩ := l_wr hp_212
                clear hp_212
                refine lv_goto (tgt := 299) hx hb dX10_line_292 (by decide) ?_
                exact hj_299_242 M_212 _ _ _ iM_212 (ln.trans (ln_l0 (l0_pr q_213 (by decide) (by decide))) f_187) (by first | omega | decide) (by first | omega | decide) (by first | omega | decide) (by first | omega | decide) (by first | omega | decide) (by first | omega | decide) (by first | omega | decide) (by first | omega | decide) (by first | omega | decide) (by first | omega | decide) (by first | omega | decide) (by first | omega | decide) (um_l0 j_199 (l0_pr q_213 (by decide) (by decide)) (by omega)) hw (lv_sub hl [0, 1] rfl)
            · have z_203 : ff M_186 = 0 := ff_0 (fun h => c_274_201 (ufx_200.symm.trans h))
              clear c_274_201
              exact hQ _ _ _ _ _ hw (⟨iM_186, f_187, (by omega), (by omega), (by omega), (by omega), (by omega), (by omega), (by omega), (by omega), (by omega), (by omega), (by omega), j_199⟩) dX10_line_277
          by_cases s_80_0 : x_3 = 0
          · refine lv_tableIn (tgt := 148) (off := 46) hx hb dX10_line_102 (by rw [s_80_0]; decide) (by rw [s_80_0]; decide) (by rw [s_80_0]; decide) (by decide) ?_
            have w0 : (x_3 : Int32).toInt = 0 := by rw [s_80_0]; decide
            have w1 : (tY M_72 60 3 11).toInt = (tY M 60 3 11).toInt := by rw [(((tY_fr q_73.1).trans (tY_uIE hM_64)))]
            refine lv_aload_n hx hb dX10_line_148 rfl (lv_at hl 1 rfl) ?_
            refine lv_bipush (v := 8) hx hb dX10_line_149 (by decide) ?_
            refine lv_aload_n hx hb dX10_line_151 rfl (lv_at hl 1 rfl) ?_
            refine lv_iconst (v := 0) hx hb dX10_line_152 (by decide) ?_
            refine ti_callVi (ci := 10) (av := [.int 0]) C hw (s_X10_fresher_0 l D A cy hJ M_72 iM_72 ) ⟨ml_X10_224, ym_X10_fresher, yv_X10_fresher, yi_X10_fresher, yc_X10_fresher⟩ yd_X10_fresher ob_60 (by decide) rfl rfl hl.1 (Nat.le_of_ble_eq_true rfl) ⟨by decide, by decide⟩ ⟨Nat.zero_le _, Nat.zero_le _⟩ dX10_line_153 (fun r_81 M_82 H locs hp_82 hw => ?_)
            obtain ⟨hm, b0r_81, b1r_81, yr_81⟩ := hp_82
            have hw := hw.to hm
            have zr_81 : (tY M_72 60 3 11).toInt = r_81.toInt := by rw [yr_81]
            refine lv_iadd hx hb dX10_line_156 ?_
            refine lv_topi (fun x_83 ex_83 => ?_)
            have tx_83 : x_83.toInt = 8 + r_81.toInt := i_add ex_83 (by decide : (8 : Int32).toInt = 8) rfl (by omega) (by omega)
            refine ti_callVvE (ci := 10) (av := [.int x_83]) C hE hw (s_X10_manLine l D A cy hJ M_72 iM_72 x_83 r_81 (by omega) (by omega) (yr_81) (by omega) (by omega)) ⟨ml_X10_231, ym_X10_manLine, yv_X10_manLine, yi_X10_manLine, yc_X10_manLine⟩ yd_X10_manLine ob_60 (by decide) rfl rfl hl.1 (Nat.le_of_ble_eq_true rfl) ⟨by decide, by decide⟩ ⟨Nat.zero_le _, Nat.zero_le _⟩ dX10_line_157 (fun M_85 H locs hp_85 hw => ?_)
            obtain ⟨iM_85, q_86, z_87, z_88, z_89, z_90, z_91, z_92⟩ := hp_85
            refine lv_goto (tgt := 270) hx hb dX10_line_160 (by decide) ?_
            exact hj_270_199 M_85 _ _ _ iM_85 (ln.trans (ln_l0 q_86) (ln.trans (ln_l0 (l0_pr q_73 (by decide) (by decide))) (ln_l0 (l0_I hM_64 (by decide))))) (by first | omega | decide) (by first | omega | decide) (by first | omega | decide) (by first | omega | decide) (by first | omega | decide) (by first | omega | decide) (by first | omega | decide) (by first | omega | decide) (by first | omega | decide) (by first | omega | decide) (by first | omega | decide) (um_l0 hum (l0.trans q_86 (l0.trans (l0_pr q_73 (by decide) (by decide)) (l0_I hM_64 (by decide)))) (by omega)) hw (lv_sub hl [0, 1] rfl)
          · by_cases s_80_1 : x_3 = 1
            · refine lv_tableIn (tgt := 163) (off := 61) hx hb dX10_line_102 (by rw [s_80_1]; decide) (by rw [s_80_1]; decide) (by rw [s_80_1]; decide) (by decide) ?_
              refine lv_aload_n hx hb dX10_line_163 rfl (lv_at hl 1 rfl) ?_
              refine ti_callVvE (ci := 10) (av := []) C hE hw (s_X10_guardLine l D A cy hJ M_72 iM_72 ) ⟨ml_X10_234, ym_X10_guardLine, yv_X10_guardLine, yi_X10_guardLine, yc_X10_guardLine⟩ yd_X10_guardLine ob_60 (by decide) rfl rfl hl.1 (Nat.le_of_ble_eq_true rfl) ⟨by decide, by decide⟩ ⟨Nat.zero_le _, Nat.zero_le _⟩ dX10_line_164 (fun M_94 H locs hp_94 hw => ?_)
              obtain ⟨iM_94, q_95, z_96, z_97, z_98, z_99, z_100, z_101⟩ := hp_94
              refine lv_goto (tgt := 270) hx hb dX10_line_167 (by decide) ?_
              exact hj_270_199 M_94 _ _ _ iM_94 (ln.trans (ln_l0 q_95) (ln.trans (ln_l0 (l0_pr q_73 (by decide) (by decide))) (ln_l0 (l0_I hM_64 (by decide))))) (by first | omega | decide) (by first | omega | decide) (by first | omega | decide) (by first | omega | decide) (by first | omega | decide) (by first | omega | decide) (by first | omega | decide) (by first | omega | decide) (by first | omega | decide) (by first | omega | decide) (by first | omega | decide) (um_l0 hum (l0.trans q_95 (l0.trans (l0_pr q_73 (by decide) (by decide)) (l0_I hM_64 (by decide)))) (by omega)) hw (lv_sub hl [0, 1] rfl)
            · by_cases s_80_2 : x_3 = 2
              · refine lv_tableIn (tgt := 170) (off := 68) hx hb dX10_line_102 (by rw [s_80_2]; decide) (by rw [s_80_2]; decide) (by rw [s_80_2]; decide) (by decide) ?_
                refine lv_aload_n hx hb dX10_line_170 rfl (lv_at hl 1 rfl) ?_
                refine ti_callVvE (ci := 10) (av := []) C hE hw (s_X10_powerLine l D A cy hJ M_72 iM_72 (by omega)) ⟨ml_X10_237, ym_X10_powerLine, yv_X10_powerLine, yi_X10_powerLine, yc_X10_powerLine⟩ yd_X10_powerLine ob_60 (by decide) rfl rfl hl.1 (Nat.le_of_ble_eq_true rfl) ⟨by decide, by decide⟩ ⟨Nat.zero_le _, Nat.zero_le _⟩ dX10_line_171 (fun M_103 H locs hp_103 hw => ?_)
                obtain ⟨iM_103, q_104, z_105, z_106, z_107, z_108, z_109, z_110⟩ := hp_103
                refine lv_goto (tgt := 270) hx hb dX10_line_174 (by decide) ?_
                exact hj_270_199 M_103 _ _ _ iM_103 (ln.trans (ln_l0 q_104) (ln.trans (ln_l0 (l0_pr q_73 (by decide) (by decide))) (ln_l0 (l0_I hM_64 (by decide))))) (by first | omega | decide) (by first | omega | decide) (by first | omega | decide) (by first | omega | decide) (by first | omega | decide) (by first | omega | decide) (by first | omega | decide) (by first | omega | decide) (by first | omega | decide) (by first | omega | decide) (by first | omega | decide) (um_l0 hum (l0.trans q_104 (l0.trans (l0_pr q_73 (by decide) (by decide)) (l0_I hM_64 (by decide)))) (by omega)) hw (lv_sub hl [0, 1] rfl)
              · by_cases s_80_3 : x_3 = 3
                · refine lv_tableIn (tgt := 177) (off := 75) hx hb dX10_line_102 (by rw [s_80_3]; decide) (by rw [s_80_3]; decide) (by rw [s_80_3]; decide) (by decide) ?_
                  refine lv_aload_n hx hb dX10_line_177 rfl (lv_at hl 1 rfl) ?_
                  refine lv_iconst (v := 1) hx hb dX10_line_178 (by decide) ?_
                  refine lv_aload_n hx hb dX10_line_179 rfl (lv_at hl 1 rfl) ?_
                  refine lv_iconst (v := 0) hx hb dX10_line_180 (by decide) ?_
                  refine lv_sipush (v := 999) hx hb dX10_line_181 (by decide) ?_
                  refine ti_callViE (ci := 10) (av := [.int 0, .int 999]) C hE hw (s_X10_numeral l D A cy hJ M_72 iM_72 0 999 (by decide)) ⟨ml_X10_240, ym_X10_numeral, yv_X10_numeral, yi_X10_numeral, yc_X10_numeral⟩ yd_X10_numeral ob_60 (by decide) rfl rfl hl.1 (Nat.le_of_ble_eq_true rfl) ⟨by decide, by decide⟩ ⟨Nat.zero_le _, Nat.zero_le _⟩ dX10_line_184 (fun r_111 M_112 H locs hp_112 hw => ?_)
                  obtain ⟨iM_112, q_113, p_114, p_115, p_116, b0r_111, b1r_111⟩ := hp_112
                  have z_117 := l_ps (by decide) (by decide) ⟨iM_112, q_113, p_114, p_115, p_116⟩
                  clear p_114 p_115 p_116
                  have br_111 : 0 ≤ r_111.toInt ∧ r_111.toInt ≤ 999 := by have l1 : (0 : Int32).toInt = 0 := (by decide); have l2 : (999 : Int32).toInt = 999 := (by decide); omega
                  refine ti_callVv (ci := 10) (av := [.int 1, .int r_111]) C hw (s_X10_reads l D A cy hJ M_112 iM_112 1 r_111 (by decide) (by decide) (by rw [show (11 + (1 : Int32).toInt).toNat = 12 by decide]; exact trivial)) ⟨ml_X10_244, ym_X10_reads, yv_X10_reads, yi_X10_reads, yc_X10_reads⟩ yd_X10_reads ob_60 (by decide) rfl rfl hl.1 (Nat.le_of_ble_eq_true rfl) ⟨by decide, by decide⟩ ⟨Nat.zero_le _, Nat.zero_le _⟩ dX10_line_187 (fun M_119 H locs hp_119 hw => ?_)
                  obtain ⟨iM_119, hM_119⟩ := hp_119
                  rw [show (11 + (1 : Int32).toInt).toNat = 12 by decide] at hM_119
                  have z_120 := s5_3 hM_119 (by decide)
                  refine lv_aload_n hx hb dX10_line_190 rfl (lv_at hl 1 rfl) ?_
                  refine lv_iconst (v := 2) hx hb dX10_line_191 (by decide) ?_
                  refine lv_aload_n hx hb dX10_line_192 rfl (lv_at hl 1 rfl) ?_
                  refine lv_iconst (v := 1) hx hb dX10_line_193 (by decide) ?_
                  refine lv_bipush (v := 9) hx hb dX10_line_194 (by decide) ?_
                  refine ti_callViE (ci := 10) (av := [.int 1, .int 9]) C hE hw (s_X10_numeral l D A cy hJ M_119 iM_119 1 9 (by decide)) ⟨ml_X10_240, ym_X10_numeral, yv_X10_numeral, yi_X10_numeral, yc_X10_numeral⟩ yd_X10_numeral ob_60 (by decide) rfl rfl hl.1 (Nat.le_of_ble_eq_true rfl) ⟨by decide, by decide⟩ ⟨Nat.zero_le _, Nat.zero_le _⟩ dX10_line_196 (fun r_121 M_122 H locs hp_122 hw => ?_)
                  obtain ⟨iM_122, q_123, p_124, p_125, p_126, b0r_121, b1r_121⟩ := hp_122
                  have z_127 := l_ps (by decide) (by decide) ⟨iM_122, q_123, p_124, p_125, p_126⟩
                  clear p_124 p_125 p_126
                  have br_121 : 1 ≤ r_121.toInt ∧ r_121.toInt ≤ 9 := by have l1 : (1 : Int32).toInt = 1 := (by decide); have l2 : (9 : Int32).toInt = 9 := (by decide); omega
                  refine ti_callVv (ci := 10) (av := [.int 2, .int r_121]) C hw (s_X10_reads l D A cy hJ M_122 iM_122 2 r_121 (by decide) (by decide) (by rw [show (11 + (2 : Int32).toInt).toNat = 13 by decide]; exact trivial)) ⟨ml_X10_244, ym_X10_reads, yv_X10_reads, yi_X10_reads, yc_X10_reads⟩ yd_X10_reads ob_60 (by decide) rfl rfl hl.1 (Nat.le_of_ble_eq_true rfl) ⟨by decide, by decide⟩ ⟨Nat.zero_le _, Nat.zero_le _⟩ dX10_line_199 (fun M_129 H locs hp_129 hw => ?_)
                  obtain ⟨iM_129, hM_129⟩ := hp_129
                  rw [show (11 + (2 : Int32).toInt).toNat = 13 by decide] at hM_129
                  have z_130 := s5_3 hM_129 (by decide)
                  refine lv_goto (tgt := 270) hx hb dX10_line_202 (by decide) ?_
                  exact hj_270_199 M_129 _ _ _ iM_129 (ln.trans (ln_l0 (l0_3 hM_129 (by decide))) (ln.trans (ln_l0 (l0_pr q_123 (by decide) (by decide))) (ln.trans (ln_l0 (l0_3 hM_119 (by decide))) (ln.trans (ln_l0 (l0_pr q_113 (by decide) (by decide))) (ln.trans (ln_l0 (l0_pr q_73 (by decide) (by decide))) (ln_l0 (l0_I hM_64 (by decide)))))))) (by first | omega | decide) (by first | omega | decide) (by first | omega | decide) (by first | omega | decide) (by first | omega | decide) (by first | omega | decide) (by first | omega | decide) (by first | omega | decide) (by first | omega | decide) (by first | omega | decide) (by first | omega | decide) (um_l0 hum (l0.trans (l0_3 hM_129 (by decide)) (l0.trans (l0_pr q_123 (by decide) (by decide)) (l0.trans (l0_3 hM_119 (by decide)) (l0.trans (l0_pr q_113 (by decide) (by decide)) (l0.trans (l0_pr q_73 (by decide) (by decide)) (l0_I hM_64 (by decide))))))) (by omega)) hw (lv_sub hl [0, 1] rfl)
                · by_cases s_80_4 : x_3 = 4
                  · refine lv_tableIn (tgt := 205) (off := 103) hx hb dX10_line_102 (by rw [s_80_4]; decide) (by rw [s_80_4]; decide) (by rw [s_80_4]; decide) (by decide) ?_
                    refine lv_aload_n hx hb dX10_line_205 rfl (lv_at hl 1 rfl) ?_
                    refine lv_iconst (v := 3) hx hb dX10_line_206 (by decide) ?_
                    refine lv_aload_n hx hb dX10_line_207 rfl (lv_at hl 1 rfl) ?_
                    refine lv_iconst (v := 1) hx hb dX10_line_208 (by decide) ?_
                    refine lv_bipush (v := 30) hx hb dX10_line_209 (by decide) ?_
                    refine ti_callViE (ci := 10) (av := [.int 1, .int 30]) C hE hw (s_X10_numeral l D A cy hJ M_72 iM_72 1 30 (by decide)) ⟨ml_X10_240, ym_X10_numeral, yv_X10_numeral, yi_X10_numeral, yc_X10_numeral⟩ yd_X10_numeral ob_60 (by decide) rfl rfl hl.1 (Nat.le_of_ble_eq_true rfl) ⟨by decide, by decide⟩ ⟨Nat.zero_le _, Nat.zero_le _⟩ dX10_line_211 (fun r_131 M_132 H locs hp_132 hw => ?_)
                    obtain ⟨iM_132, q_133, p_134, p_135, p_136, b0r_131, b1r_131⟩ := hp_132
                    have z_137 := l_ps (by decide) (by decide) ⟨iM_132, q_133, p_134, p_135, p_136⟩
                    clear p_134 p_135 p_136
                    have br_131 : 1 ≤ r_131.toInt ∧ r_131.toInt ≤ 30 := by have l1 : (1 : Int32).toInt = 1 := (by decide); have l2 : (30 : Int32).toInt = 30 := (by decide); omega
                    refine ti_callVv (ci := 10) (av := [.int 3, .int r_131]) C hw (s_X10_reads l D A cy hJ M_132 iM_132 3 r_131 (by decide) (by decide) (by rw [show (11 + (3 : Int32).toInt).toNat = 14 by decide]; exact (ib_mk (lo := 1) (hi := 30) (by omega) (by omega)))) ⟨ml_X10_244, ym_X10_reads, yv_X10_reads, yi_X10_reads, yc_X10_reads⟩ yd_X10_reads ob_60 (by decide) rfl rfl hl.1 (Nat.le_of_ble_eq_true rfl) ⟨by decide, by decide⟩ ⟨Nat.zero_le _, Nat.zero_le _⟩ dX10_line_214 (fun M_139 H locs hp_139 hw => ?_)
                    obtain ⟨iM_139, hM_139⟩ := hp_139
                    rw [show (11 + (3 : Int32).toInt).toNat = 14 by decide] at hM_139
                    have z_140 := s5_3 hM_139 (by decide)
                    refine lv_goto (tgt := 270) hx hb dX10_line_217 (by decide) ?_
                    exact hj_270_199 M_139 _ _ _ iM_139 (ln.trans (ln_l0 (l0_3 hM_139 (by decide))) (ln.trans (ln_l0 (l0_pr q_133 (by decide) (by decide))) (ln.trans (ln_l0 (l0_pr q_73 (by decide) (by decide))) (ln_l0 (l0_I hM_64 (by decide)))))) (by first | omega | decide) (by first | omega | decide) (by first | omega | decide) (by first | omega | decide) (by first | omega | decide) (by first | omega | decide) (by first | omega | decide) (by first | omega | decide) (by first | omega | decide) (by first | omega | decide) (by first | omega | decide) (um_l0 hum (l0.trans (l0_3 hM_139 (by decide)) (l0.trans (l0_pr q_133 (by decide) (by decide)) (l0.trans (l0_pr q_73 (by decide) (by decide)) (l0_I hM_64 (by decide))))) (by omega)) hw (lv_sub hl [0, 1] rfl)
                  · by_cases s_80_5 : x_3 = 5
                    · refine lv_tableIn (tgt := 220) (off := 118) hx hb dX10_line_102 (by rw [s_80_5]; decide) (by rw [s_80_5]; decide) (by rw [s_80_5]; decide) (by decide) ?_
                      refine lv_aload_n hx hb dX10_line_220 rfl (lv_at hl 1 rfl) ?_
                      refine lv_iconst (v := 4) hx hb dX10_line_221 (by decide) ?_
                      refine lv_aload_n hx hb dX10_line_222 rfl (lv_at hl 1 rfl) ?_
                      refine lv_iconst (v := 1) hx hb dX10_line_223 (by decide) ?_
                      refine lv_bipush (v := 7) hx hb dX10_line_224 (by decide) ?_
                      refine ti_callViE (ci := 10) (av := [.int 1, .int 7]) C hE hw (s_X10_numeral l D A cy hJ M_72 iM_72 1 7 (by decide)) ⟨ml_X10_240, ym_X10_numeral, yv_X10_numeral, yi_X10_numeral, yc_X10_numeral⟩ yd_X10_numeral ob_60 (by decide) rfl rfl hl.1 (Nat.le_of_ble_eq_true rfl) ⟨by decide, by decide⟩ ⟨Nat.zero_le _, Nat.zero_le _⟩ dX10_line_226 (fun r_141 M_142 H locs hp_142 hw => ?_)
                      obtain ⟨iM_142, q_143, p_144, p_145, p_146, b0r_141, b1r_141⟩ := hp_142
                      have z_147 := l_ps (by decide) (by decide) ⟨iM_142, q_143, p_144, p_145, p_146⟩
                      clear p_144 p_145 p_146
                      have br_141 : 1 ≤ r_141.toInt ∧ r_141.toInt ≤ 7 := by have l1 : (1 : Int32).toInt = 1 := (by decide); have l2 : (7 : Int32).toInt = 7 := (by decide); omega
                      refine ti_callVv (ci := 10) (av := [.int 4, .int r_141]) C hw (s_X10_reads l D A cy hJ M_142 iM_142 4 r_141 (by decide) (by decide) (by rw [show (11 + (4 : Int32).toInt).toNat = 15 by decide]; exact trivial)) ⟨ml_X10_244, ym_X10_reads, yv_X10_reads, yi_X10_reads, yc_X10_reads⟩ yd_X10_reads ob_60 (by decide) rfl rfl hl.1 (Nat.le_of_ble_eq_true rfl) ⟨by decide, by decide⟩ ⟨Nat.zero_le _, Nat.zero_le _⟩ dX10_line_229 (fun M_149 H locs hp_149 hw => ?_)
                      obtain ⟨iM_149, hM_149⟩ := hp_149
                      rw [show (11 + (4 : Int32).toInt).toNat = 15 by decide] at hM_149
                      have z_150 := s5_3 hM_149 (by decide)
                      refine lv_goto (tgt := 270) hx hb dX10_line_232 (by decide) ?_
                      exact hj_270_199 M_149 _ _ _ iM_149 (ln.trans (ln_l0 (l0_3 hM_149 (by decide))) (ln.trans (ln_l0 (l0_pr q_143 (by decide) (by decide))) (ln.trans (ln_l0 (l0_pr q_73 (by decide) (by decide))) (ln_l0 (l0_I hM_64 (by decide)))))) (by first | omega | decide) (by first | omega | decide) (by first | omega | decide) (by first | omega | decide) (by first | omega | decide) (by first | omega | decide) (by first | omega | decide) (by first | omega | decide) (by first | omega | decide) (by first | omega | decide) (by first | omega | decide) (um_l0 hum (l0.trans (l0_3 hM_149 (by decide)) (l0.trans (l0_pr q_143 (by decide) (by decide)) (l0.trans (l0_pr q_73 (by decide) (by decide)) (l0_I hM_64 (by decide))))) (by omega)) hw (lv_sub hl [0, 1] rfl)
                    · by_cases s_80_6 : x_3 = 6
                      · refine lv_tableIn (tgt := 235) (off := 133) hx hb dX10_line_102 (by rw [s_80_6]; decide) (by rw [s_80_6]; decide) (by rw [s_80_6]; decide) (by decide) ?_
                        refine lv_aload_n hx hb dX10_line_235 rfl (lv_at hl 1 rfl) ?_
                        refine lv_iconst (v := 5) hx hb dX10_line_236 (by decide) ?_
                        refine lv_aload_n hx hb dX10_line_237 rfl (lv_at hl 1 rfl) ?_
                        refine lv_iconst (v := 0) hx hb dX10_line_238 (by decide) ?_
                        refine lv_bipush (v := 99) hx hb dX10_line_239 (by decide) ?_
                        refine ti_callViE (ci := 10) (av := [.int 0, .int 99]) C hE hw (s_X10_numeral l D A cy hJ M_72 iM_72 0 99 (by decide)) ⟨ml_X10_240, ym_X10_numeral, yv_X10_numeral, yi_X10_numeral, yc_X10_numeral⟩ yd_X10_numeral ob_60 (by decide) rfl rfl hl.1 (Nat.le_of_ble_eq_true rfl) ⟨by decide, by decide⟩ ⟨Nat.zero_le _, Nat.zero_le _⟩ dX10_line_241 (fun r_151 M_152 H locs hp_152 hw => ?_)
                        obtain ⟨iM_152, q_153, p_154, p_155, p_156, b0r_151, b1r_151⟩ := hp_152
                        have z_157 := l_ps (by decide) (by decide) ⟨iM_152, q_153, p_154, p_155, p_156⟩
                        clear p_154 p_155 p_156
                        have br_151 : 0 ≤ r_151.toInt ∧ r_151.toInt ≤ 99 := by have l1 : (0 : Int32).toInt = 0 := (by decide); have l2 : (99 : Int32).toInt = 99 := (by decide); omega
                        refine ti_callVv (ci := 10) (av := [.int 5, .int r_151]) C hw (s_X10_reads l D A cy hJ M_152 iM_152 5 r_151 (by decide) (by decide) (by rw [show (11 + (5 : Int32).toInt).toNat = 16 by decide]; exact trivial)) ⟨ml_X10_244, ym_X10_reads, yv_X10_reads, yi_X10_reads, yc_X10_reads⟩ yd_X10_reads ob_60 (by decide) rfl rfl hl.1 (Nat.le_of_ble_eq_true rfl) ⟨by decide, by decide⟩ ⟨Nat.zero_le _, Nat.zero_le _⟩ dX10_line_244 (fun M_159 H locs hp_159 hw => ?_)
                        obtain ⟨iM_159, hM_159⟩ := hp_159
                        rw [show (11 + (5 : Int32).toInt).toNat = 16 by decide] at hM_159
                        have z_160 := s5_3 hM_159 (by decide)
                        refine lv_goto (tgt := 270) hx hb dX10_line_247 (by decide) ?_
                        exact hj_270_199 M_159 _ _ _ iM_159 (ln.trans (ln_l0 (l0_3 hM_159 (by decide))) (ln.trans (ln_l0 (l0_pr q_153 (by decide) (by decide))) (ln.trans (ln_l0 (l0_pr q_73 (by decide) (by decide))) (ln_l0 (l0_I hM_64 (by decide)))))) (by first | omega | decide) (by first | omega | decide) (by first | omega | decide) (by first | omega | decide) (by first | omega | decide) (by first | omega | decide) (by first | omega | decide) (by first | omega | decide) (by first | omega | decide) (by first | omega | decide) (by first | omega | decide) (um_l0 hum (l0.trans (l0_3 hM_159 (by decide)) (l0.trans (l0_pr q_153 (by decide) (by decide)) (l0.trans (l0_pr q_73 (by decide) (by decide)) (l0_I hM_64 (by decide))))) (by omega)) hw (lv_sub hl [0, 1] rfl)
                      · by_cases s_80_7 : x_3 = 7
                        · refine lv_tableIn (tgt := 250) (off := 148) hx hb dX10_line_102 (by rw [s_80_7]; decide) (by rw [s_80_7]; decide) (by rw [s_80_7]; decide) (by decide) ?_
                          refine lv_aload_n hx hb dX10_line_250 rfl (lv_at hl 1 rfl) ?_
                          refine lv_bipush (v := 6) hx hb dX10_line_251 (by decide) ?_
                          refine lv_aload_n hx hb dX10_line_253 rfl (lv_at hl 1 rfl) ?_
                          refine lv_iconst (v := 0) hx hb dX10_line_254 (by decide) ?_
                          refine lv_ldc (v := 99999) hx hb C.2.2.2.1 (C.2.2.1 _ cn_X10_192) dX10_line_255 ?_
                          refine ti_callViE (ci := 10) (av := [.int 0, .int 99999]) C hE hw (s_X10_numeral l D A cy hJ M_72 iM_72 0 99999 (by decide)) ⟨ml_X10_240, ym_X10_numeral, yv_X10_numeral, yi_X10_numeral, yc_X10_numeral⟩ yd_X10_numeral ob_60 (by decide) rfl rfl hl.1 (Nat.le_of_ble_eq_true rfl) ⟨by decide, by decide⟩ ⟨Nat.zero_le _, Nat.zero_le _⟩ dX10_line_257 (fun r_161 M_162 H locs hp_162 hw => ?_)
                          obtain ⟨iM_162, q_163, p_164, p_165, p_166, b0r_161, b1r_161⟩ := hp_162
                          have z_167 := l_ps (by decide) (by decide) ⟨iM_162, q_163, p_164, p_165, p_166⟩
                          clear p_164 p_165 p_166
                          have br_161 : 0 ≤ r_161.toInt ∧ r_161.toInt ≤ 99999 := by have l1 : (0 : Int32).toInt = 0 := (by decide); have l2 : (99999 : Int32).toInt = 99999 := (by decide); omega
                          refine ti_callVv (ci := 10) (av := [.int 6, .int r_161]) C hw (s_X10_reads l D A cy hJ M_162 iM_162 6 r_161 (by decide) (by decide) (by rw [show (11 + (6 : Int32).toInt).toNat = 17 by decide]; exact trivial)) ⟨ml_X10_244, ym_X10_reads, yv_X10_reads, yi_X10_reads, yc_X10_reads⟩ yd_X10_reads ob_60 (by decide) rfl rfl hl.1 (Nat.le_of_ble_eq_true rfl) ⟨by decide, by decide⟩ ⟨Nat.zero_le _, Nat.zero_le _⟩ dX10_line_260 (fun M_169 H locs hp_169 hw => ?_)
                          obtain ⟨iM_169, hM_169⟩ := hp_169
                          rw [show (11 + (6 : Int32).toInt).toNat = 17 by decide] at hM_169
                          have z_170 := s5_3 hM_169 (by decide)
                          refine lv_goto (tgt := 270) hx hb dX10_line_263 (by decide) ?_
                          exact hj_270_199 M_169 _ _ _ iM_169 (ln.trans (ln_l0 (l0_3 hM_169 (by decide))) (ln.trans (ln_l0 (l0_pr q_163 (by decide) (by decide))) (ln.trans (ln_l0 (l0_pr q_73 (by decide) (by decide))) (ln_l0 (l0_I hM_64 (by decide)))))) (by first | omega | decide) (by first | omega | decide) (by first | omega | decide) (by first | omega | decide) (by first | omega | decide) (by first | omega | decide) (by first | omega | decide) (by first | omega | decide) (by first | omega | decide) (by first | omega | decide) (by first | omega | decide) (um_l0 hum (l0.trans (l0_3 hM_169 (by decide)) (l0.trans (l0_pr q_163 (by decide) (by decide)) (l0.trans (l0_pr q_73 (by decide) (by decide)) (l0_I hM_64 (by decide))))) (by omega)) hw (lv_sub hl [0, 1] rfl)
                        · refine lv_tableOut (tgt := 266) hx hb dX10_line_102 (ti_out (lo := 0) (hi := 7) x_3 (fun v h1 h2 => by rcases (show v = 0 ∨ v = 1 ∨ v = 2 ∨ v = 3 ∨ v = 4 ∨ v = 5 ∨ v = 6 ∨ v = 7 by omega) with rfl | rfl | rfl | rfl | rfl | rfl | rfl | rfl <;> first | exact ti_nev 0 s_80_0 (by decide) | exact ti_nev 1 s_80_1 (by decide) | exact ti_nev 2 s_80_2 (by decide) | exact ti_nev 3 s_80_3 (by decide) | exact ti_nev 4 s_80_4 (by decide) | exact ti_nev 5 s_80_5 (by decide) | exact ti_nev 6 s_80_6 (by decide) | exact ti_nev 7 s_80_7 (by decide))) (by decide) ?_
                          refine lv_aload_n hx hb dX10_line_266 rfl (lv_at hl 1 rfl) ?_
                          refine ti_callVvE (ci := 10) (av := []) C hE hw (s_X10_lawLine l D A cy hJ M_72 iM_72 (by omega) (um_l0 hum (l0.trans (l0_pr q_73 (by decide) (by decide)) (l0_I hM_64 (by decide))) (by omega)) (by omega) (by omega)) ⟨ml_X10_248, ym_X10_lawLine, yv_X10_lawLine, yi_X10_lawLine, yc_X10_lawLine⟩ yd_X10_lawLine ob_60 (by decide) rfl rfl hl.1 (Nat.le_of_ble_eq_true rfl) ⟨by decide, by decide⟩ ⟨Nat.zero_le _, Nat.zero_le _⟩ dX10_line_267 (fun M_172 H locs hp_172 hw => ?_)
                          obtain ⟨iM_172, q_173, z_174, z_175, z_176, z_177, z_178, z_179, z_180, z_181, z_182, z_183, z_184, u_185⟩ := hp_172
                          exact hj_270_199 M_172 _ _ _ iM_172 (ln.trans q_173 (ln.trans (ln_l0 (l0_pr q_73 (by decide) (by decide))) (ln_l0 (l0_I hM_64 (by decide))))) (by first | omega | decide) (by first | omega | decide) (by first | omega | decide) (by first | omega | decide) (by first | omega | decide) (by first | omega | decide) (by first | omega | decide) (by first | omega | decide) (by first | omega | decide) (by first | omega | decide) (by first | omega | decide) u_185 hw (lv_sub hl [0, 1] rfl)
        refine sb_icmp_lt (tgt := 77) hx hb rfl (by decide : (3 : Int32).toInt = 3) dX10_line_51 (by decide) (fun c_51_25 => ?_) (fun c_51_25 => ?_)
        · refine lv_aload_n hx hb dX10_line_77 rfl (lv_at hl 1 rfl) ?_
          refine ti_get (ci := 10) (k := 25) (N := 67) (T := TX10) C hw iw_10 rfl ob_60 (by decide) (by decide) fl_X10_208 rfl rfl dX10_line_78 ?_
          refine lv_topi (fun x_44 ex_44 => ?_)
          have u_45 : (tI M 60 25).toInt = x_44.toInt := by rw [ex_44]
          have ufx_44 : (tI M 60 25).toInt = x_44.toInt := by rw [ex_44]
          refine sb_if_eq (tgt := 85) hx hb rfl dX10_line_81 (by decide) (fun c_81_45 => ?_) (fun c_81_45 => by have z_47 : ff M = 0 := ff_0 (fun h => c_81_45 (ufx_44.symm.trans h)); omega)
          have z_47 : ff M = 1 := ff_1 (ufx_44.trans c_81_45)
          clear c_81_45
          exact hj_85_60  _ _ _ (by first | omega | decide) hw (lv_sub hl [0, 1] rfl)
        · refine lv_iload_n hx hb dX10_line_54 rfl (lv_at hl 0 rfl) ?_
          refine lv_bipush (v := 7) hx hb dX10_line_55 (by decide) ?_
          refine sb_icmp_gt (tgt := 77) hx hb rfl (by decide : (7 : Int32).toInt = 7) dX10_line_57 (by decide) (fun c_57_26 => ?_) (fun c_57_26 => ?_)
          · refine lv_aload_n hx hb dX10_line_77 rfl (lv_at hl 1 rfl) ?_
            refine ti_get (ci := 10) (k := 25) (N := 67) (T := TX10) C hw iw_10 rfl ob_60 (by decide) (by decide) fl_X10_208 rfl rfl dX10_line_78 ?_
            refine lv_topi (fun x_48 ex_48 => ?_)
            have u_49 : (tI M 60 25).toInt = x_48.toInt := by rw [ex_48]
            have ufx_48 : (tI M 60 25).toInt = x_48.toInt := by rw [ex_48]
            refine sb_if_eq (tgt := 85) hx hb rfl dX10_line_81 (by decide) (fun c_81_49 => ?_) (fun c_81_49 => by have z_51 : ff M = 0 := ff_0 (fun h => c_81_49 (ufx_48.symm.trans h)); omega)
            have z_51 : ff M = 1 := ff_1 (ufx_48.trans c_81_49)
            clear c_81_49
            exact hj_85_60  _ _ _ (by first | omega | decide) hw (lv_sub hl [0, 1] rfl)
          · refine lv_aload_n hx hb dX10_line_60 rfl (lv_at hl 1 rfl) ?_
            refine ti_get (ci := 10) (k := 18) (N := 67) (T := TX10) C hw iw_10 rfl ob_60 (by decide) (by decide) fl_X10_228 rfl rfl dX10_line_61 ?_
            refine lv_topi (fun x_28 ex_28 => ?_)
            refine lv_iload_n hx hb dX10_line_64 rfl (lv_at hl 0 rfl) ?_
            refine lv_ishr hx hb dX10_line_65 ?_
            refine lv_topi (fun x_29 ex_29 => ?_)
            refine lv_iconst (v := 1) hx hb dX10_line_66 (by decide) ?_
            refine lv_iand hx hb dX10_line_67 ?_
            refine lv_topi (fun x_30 ex_30 => ?_)
            have bx_30 := i_and 1 ex_30 (by decide) (by decide)
            refine lv_iconst (v := 1) hx hb dX10_line_68 (by decide) ?_
            refine sb_icmp_ne (tgt := 77) hx hb rfl (by decide : (1 : Int32).toInt = 1) dX10_line_69 (by decide) (fun c_69_30 => ?_) (fun c_69_30 => ?_)
            · refine lv_aload_n hx hb dX10_line_77 rfl (lv_at hl 1 rfl) ?_
              refine ti_get (ci := 10) (k := 25) (N := 67) (T := TX10) C hw iw_10 rfl ob_60 (by decide) (by decide) fl_X10_208 rfl rfl dX10_line_78 ?_
              refine lv_topi (fun x_52 ex_52 => ?_)
              have u_53 : (tI M 60 25).toInt = x_52.toInt := by rw [ex_52]
              have ufx_52 : (tI M 60 25).toInt = x_52.toInt := by rw [ex_52]
              refine sb_if_eq (tgt := 85) hx hb rfl dX10_line_81 (by decide) (fun c_81_53 => ?_) (fun c_81_53 => by have z_55 : ff M = 0 := ff_0 (fun h => c_81_53 (ufx_52.symm.trans h)); omega)
              have z_55 : ff M = 1 := ff_1 (ufx_52.trans c_81_53)
              clear c_81_53
              exact hj_85_60  _ _ _ (by first | omega | decide) hw (lv_sub hl [0, 1] rfl)
            · refine lv_aload_n hx hb dX10_line_72 rfl (lv_at hl 1 rfl) ?_
              refine lv_iconst (v := 3) hx hb dX10_line_73 (by decide) ?_
              refine ti_callVv (ci := 10) (av := [.int 3]) C hw (s_X10_wrong l D A cy hJ M hI 3 (by decide)) ⟨ml_X10_217, ym_X10_wrong, yv_X10_wrong, yi_X10_wrong, yc_X10_wrong⟩ yd_X10_wrong ob_60 (by decide) rfl rfl hl.1 (Nat.le_of_ble_eq_true rfl) ⟨by decide, by decide⟩ ⟨Nat.zero_le _, Nat.zero_le _⟩ dX10_line_74 (fun M_33 H locs hp_33 hw => ?_)
              obtain ⟨iM_33, q_34, z_35, z_36, z_37, z_38, z_39⟩ := l_wr hp_33
              clear hp_33
              refine lv_aload_n hx hb dX10_line_77 rfl (lv_at hl 1 rfl) ?_
              refine ti_get (ci := 10) (k := 25) (N := 67) (T := TX10) C hw iw_10 rfl ob_60 (by decide) (by decide) fl_X10_208 rfl rfl dX10_line_78 ?_
              refine lv_topi (fun x_56 ex_56 => ?_)
              have u_57 : (tI M_33 60 25).toInt = x_56.toInt := by rw [ex_56]
              have ufx_56 : (tI M_33 60 25).toInt = x_56.toInt := by rw [ex_56]
              refine sb_if_eq (tgt := 85) hx hb rfl dX10_line_81 (by decide) (fun c_81_57 => by have z_59 : ff M_33 = 1 := ff_1 (ufx_56.trans c_81_57); omega) (fun c_81_57 => ?_)
              have z_59 : ff M_33 = 0 := ff_0 (fun h => c_81_57 (ufx_56.symm.trans h))
              clear c_81_57
              exact hQ _ _ _ _ _ hw (⟨iM_33, (ln_l0 (l0_pr q_34 (by decide) (by decide))), (by omega), (by omega), (by omega), (by omega), (by omega), (by omega), (by omega), (by omega), (by omega), (by omega), (by omega), (um_l0 hum (l0_pr q_34 (by decide) (by decide)) (by omega))⟩) dX10_line_84
      refine sb_if_ne (tgt := 49) hx hb rfl dX10_line_28 (by decide) (fun c_28_12 => ?_) (fun c_28_12 => ?_)
      · exact hj_49_25  _ _ _ (by first | omega | decide) hw (lv_sub hl [0, 1] rfl)
      · refine lv_aload_n hx hb dX10_line_31 rfl (lv_at hl 1 rfl) ?_
        refine lv_iconst (v := 0) hx hb dX10_line_32 (by decide) ?_
        refine ti_callVi (ci := 10) (av := [.int 0]) C hw (s_X10_fresher_0 l D A cy hJ M hI ) ⟨ml_X10_224, ym_X10_fresher, yv_X10_fresher, yi_X10_fresher, yc_X10_fresher⟩ yd_X10_fresher ob_60 (by decide) rfl rfl hl.1 (Nat.le_of_ble_eq_true rfl) ⟨by decide, by decide⟩ ⟨Nat.zero_le _, Nat.zero_le _⟩ dX10_line_33 (fun r_14 M_15 H locs hp_15 hw => ?_)
        obtain ⟨hm, b0r_14, b1r_14, yr_14⟩ := hp_15
        have hw := hw.to hm
        have zr_14 : (tY M 60 3 11).toInt = r_14.toInt := by rw [yr_14]
        refine lv_bipush (v := 8) hx hb dX10_line_36 (by decide) ?_
        refine sb_icmp_ne (tgt := 49) hx hb rfl (by decide : (8 : Int32).toInt = 8) dX10_line_38 (by decide) (fun c_38_15 => ?_) (fun c_38_15 => ?_)
        · exact hj_49_25  _ _ _ (by first | omega | decide) hw (lv_sub hl [0, 1] rfl)
        · refine lv_aload_n hx hb dX10_line_41 rfl (lv_at hl 1 rfl) ?_
          refine lv_iconst (v := 2) hx hb dX10_line_42 (by decide) ?_
          refine ti_callVv (ci := 10) (av := [.int 2]) C hw (s_X10_wrong l D A cy hJ M hI 2 (by decide)) ⟨ml_X10_217, ym_X10_wrong, yv_X10_wrong, yi_X10_wrong, yc_X10_wrong⟩ yd_X10_wrong ob_60 (by decide) rfl rfl hl.1 (Nat.le_of_ble_eq_true rfl) ⟨by decide, by decide⟩ ⟨Nat.zero_le _, Nat.zero_le _⟩ dX10_line_43 (fun M_18 H locs hp_18 hw => ?_)
          obtain ⟨iM_18, q_19, z_20, z_21, z_22, z_23, z_24⟩ := l_wr hp_18
          clear hp_18
          refine lv_goto (tgt := 77) hx hb dX10_line_46 (by decide) ?_
          refine lv_aload_n hx hb dX10_line_77 rfl (lv_at hl 1 rfl) ?_
          refine ti_get (ci := 10) (k := 25) (N := 67) (T := TX10) C hw iw_10 rfl ob_60 (by decide) (by decide) fl_X10_208 rfl rfl dX10_line_78 ?_
          refine lv_topi (fun x_40 ex_40 => ?_)
          have u_41 : (tI M_18 60 25).toInt = x_40.toInt := by rw [ex_40]
          have ufx_40 : (tI M_18 60 25).toInt = x_40.toInt := by rw [ex_40]
          refine sb_if_eq (tgt := 85) hx hb rfl dX10_line_81 (by decide) (fun c_81_41 => by have z_43 : ff M_18 = 1 := ff_1 (ufx_40.trans c_81_41); omega) (fun c_81_41 => ?_)
          have z_43 : ff M_18 = 0 := ff_0 (fun h => c_81_41 (ufx_40.symm.trans h))
          clear c_81_41
          exact hQ _ _ _ _ _ hw (⟨iM_18, (ln_l0 (l0_pr q_19 (by decide) (by decide))), (by omega), (by omega), (by omega), (by omega), (by omega), (by omega), (by omega), (by omega), (by omega), (by omega), (by omega), (um_l0 hum (l0_pr q_19 (by decide) (by decide)) (by omega))⟩) dX10_line_84
    · exact hj_16_4  _ _ _  hw (lv_sub hl [0] rfl)

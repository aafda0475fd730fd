variable {Tc : gC} {Tm : gM}
def eL (N M : ti_M) : Prop := (∀ k : Nat, tI N 60 k = tI M 60 k) ∧ ∀ k : Nat, k ≠ 50 → tY N 60 k = tY M 60 k
theorem eL.refl {M : ti_M} : eL M M := ⟨fun _ => rfl, fun _ _ => rfl⟩
theorem eL.trans {K N M : ti_M} (x : eL K N) (y : eL N M) : eL K M := ⟨fun k => (x.1 k).trans (y.1 k), fun k h => (x.2 k h).trans (y.2 k h)⟩
theorem eL_Y {N M : ti_M} {f : Nat → Int32} (e : N = uY M 60 50 f) : eL N M := ⟨fun _ => tI_uYE e, fun _ h => tY_nE e (nk h)⟩
def lg (to a n : Nat) (N M : ti_M) : Prop := (∀ i : Nat, i < n → tY N 60 50 (360 * to + i) = tY M 60 50 (360 * a + i)) ∧ ∀ i : Nat, i < 360 * to ∨ 360 * to + n ≤ i → tY N 60 50 i = tY M 60 50 i
theorem lg_0 {to a n : Nat} {M : ti_M} (h : n = 0) : lg to a n M M := ⟨fun i hi => by omega, fun _ _ => rfl⟩
theorem lg_s {to a n i j : Nat} {v : Int32} {G N M : ti_M} (h : lg to a n G M) (e : N = uY G 60 50 (upd (tY G 60 50) i v)) (hi : i = 360 * to + n) (hj : j = 360 * a + n) (y : tY G 60 50 j = v) (hne : to ≠ a) (ht : to ≤ 1) (ha : a ≤ 1) (hn : n < 360) : lg to a (n + 1) N M := by
  subst hi hj
  refine ⟨fun k hk => ?_, fun k hk => ?_⟩
  · rw [tY_uE e]
    by_cases r : k = n
    · subst r
      rw [pk_us, ← y]
      exact h.2 _ (by omega)
    · rw [pk_un (by omega)]; exact h.1 k (by omega)
  · rw [tY_uE e, pk_un (by omega)]; exact h.2 k (by omega)
section
variable {t a : Nat} {tx s si p : Nat → Int} {u : Nat → Nat → Int} {c : Int} {N M1 M2 M3 : ti_M} {v : Int32}
theorem kR_keep (h4 : 0 ≤ tx 4 ∧ tx 4 ≤ 8) (h : kR tx s u c p M1) (E : eR 2 M2 M1) (x : cx 2 0 M2 M1) (L : eL M3 M2) (l : lg 1 0 360 M3 M2) (eN : N = uI M3 60 51 v) : kR tx s u c p N ∧ qR (tx 4).toNat 2 s N ∧ qV (tx 4).toNat 2 s N ∧ hI3 p (s 2) N := by
  obtain ⟨a1, a2, a3, ⟨a4, a5⟩, a6, a7⟩ := h
  have hn : (tx 4).toNat ≤ 8 := by omega
  have r : ∀ k i : Nat, k ≠ 50 → tY N 60 k i = tY M2 60 k i := fun k i hk => (cg (tY_uIE eN) i).trans (cg (L.2 k hk) i)
  have rb : ∀ q k i : Nat, bk q k i → tY N 60 k i = tY M2 60 k i := fun q k i b => r k i (by have := b.2.1; omega)
  have hl : lw N M1 := fun k h1 h2 => funext fun i => (r k i (by omega)).trans (E.2 k i (fun b => by have := b.1; omega))
  have i50 : ∀ i : Nat, tY M2 60 50 i = tY M1 60 50 i := fun i => E.2 50 i (fun b => by have := b.2.1; omega)
  have n50 : ∀ i : Nat, tY N 60 50 i = tY M3 60 50 i := fun i => cg (tY_uIE eN) i
  refine ⟨⟨tR_lw a1 hl, qR_rows (qR_ne a2 E (by decide) hn) (rb 0) hn, qV_rows (qV_ne a3 E (by decide) hn) (rb 0) hn, ⟨?_, fun i hi => ?_⟩, fun m k h1 h2 h3 => ?_, ?_⟩, qR_rows (cx_qR hn x a2) (rb 2) hn, qV_rows (cx_qV hn x a3) (rb 2) hn, fun m k h1 h2 h3 => ?_⟩
  · rw [tI_nE eN (nk (by decide)), L.1 52, E.1 52 (by decide)]; exact a4
  · have y := a5 i hi
    exact ⟨qR_rows (qR_ne y.1 E (by omega) hn) (rb _) hn, qV_rows (qV_ne y.2 E (by omega) hn) (rb _) hn⟩
  · rw [n50, l.2 _ (by omega), i50]; exact a6 m k h1 h2 h3
  · rw [tI_nE eN (nk (by decide)), L.1 53, E.1 53 (by decide)]; exact a7
  · have y := l.1 (3 * m + k) (by omega)
    rw [n50, show 360 + (3 * m + k) = 360 * 1 + (3 * m + k) by omega, y, show 360 * 0 + (3 * m + k) = 3 * m + k by omega, i50]; exact a6 m k h1 h2 h3
theorem kR_back (h4 : 0 ≤ tx 4 ∧ tx 4 ≤ 8) (h : kR tx s u c p M1) (hq : qR (tx 4).toNat 2 si M1) (hv : qV (tx 4).toNat 2 si M1) (hi : hI3 p (si 2) M1) (E : eR 0 M2 M1) (x : cx 0 2 M2 M1) (L : eL M3 M2) (l : lg 0 1 360 M3 M2) (eN : N = uI M3 60 52 v) (hz : v.toInt = 0) : kR tx si u 0 p N ∧ iR N M1 := by
  obtain ⟨a1, a2, a3, ⟨a4, a5⟩, a6, a7⟩ := h
  have hn : (tx 4).toNat ≤ 8 := by omega
  have r : ∀ k i : Nat, k ≠ 50 → tY N 60 k i = tY M2 60 k i := fun k i hk => (cg (tY_uIE eN) i).trans (cg (L.2 k hk) i)
  have rb : ∀ q k i : Nat, bk q k i → tY N 60 k i = tY M2 60 k i := fun q k i b => r k i (by have := b.2.1; omega)
  have hl : lw N M1 := fun k h1 h2 => funext fun i => (r k i (by omega)).trans (E.2 k i (fun b => by have := b.1; omega))
  have i50 : ∀ i : Nat, tY M2 60 50 i = tY M1 60 50 i := fun i => E.2 50 i (fun b => by have := b.2.1; omega)
  have n50 : ∀ i : Nat, tY N 60 50 i = tY M3 60 50 i := fun i => cg (tY_uIE eN) i
  refine ⟨⟨tR_lw a1 hl, qR_rows (cx_qR hn x hq) (rb 0) hn, qV_rows (cx_qV hn x hv) (rb 0) hn, ⟨by rw [tI_uE eN, hz], fun i hi => by omega⟩, fun m k h1 h2 h3 => ?_, ?_⟩, ?_, fun k i b => ?_, fun i h => ?_⟩
  · have y := l.1 (3 * m + k) (by omega)
    rw [n50, show 3 * m + k = 360 * 0 + (3 * m + k) by omega, y, show 360 * 1 + (3 * m + k) = 360 + (3 * m + k) by omega, i50]; exact hi m k h1 h2 h3
  · rw [tI_nE eN (nk (by decide)), L.1 53, E.1 53 (by decide)]; exact a7
  · rw [tI_nE eN (nk (by decide)), L.1 51, E.1 51 (by decide)]
  · exact (rb 2 k i b).trans (E.2 k i (fun b2 => absurd (bk_1 b b2) (by decide)))
  · rw [n50, l.2 _ (by omega), i50]
end
/-- minutes go by: the queue that is, the log, the steps -/
def eG (N M : ti_M) : Prop := (∀ k : Nat, k ≠ 33 → k ≠ 52 → tI N 60 k = tI M 60 k) ∧ ∀ k i : Nat, ¬ bk 0 k i → ¬ (k = 50 ∧ i < 360) → tY N 60 k i = tY M 60 k i
theorem eG.refl {M : ti_M} : eG M M := ⟨fun _ _ _ => rfl, fun _ _ _ _ => rfl⟩
theorem eG.trans {K N M : ti_M} (x : eG K N) (y : eG N M) : eG K M := ⟨fun k a b => (x.1 k a b).trans (y.1 k a b), fun k i a b => (x.2 k i a b).trans (y.2 k i a b)⟩
theorem eG_eR {N M : ti_M} (h : eR 0 N M) : eG N M := ⟨fun k a _ => h.1 k a, fun k i a _ => h.2 k i a⟩
theorem eG_I {N M : ti_M} {k : Nat} {v : Int32} (e : N = uI M 60 k v) (h : k = 33 ∨ k = 52) : eG N M := ⟨fun k2 a b => tI_nE e (nk (by omega)), fun _ i _ _ => cg (tY_uIE e) i⟩
theorem eG_Y {N M : ti_M} {z v : Int32} (e : N = uY M 60 50 (upd (tY M 60 50) z.toNatClampNeg v)) (h0 : 0 ≤ z.toInt) (h : z.toInt < 360) : eG N M := by
  rw [i_cl (n := z.toInt.toNat) (by omega)] at e
  refine ⟨fun _ _ _ => tI_uYE e, fun k i _ b => ?_⟩
  by_cases r : k = 50
  · subst r; rw [tY_uE e, pk_un (by omega)]
  · exact cg (tY_nE e (nk r)) i
theorem eG_lw {N M : ti_M} (h : eG N M) : lw N M := fun k h1 h2 => funext fun i => h.2 k i (fun b => by have := b.1; omega) (by omega)
section
variable {tx s s2 p p2 : Nat → Int} {u : Nat → Nat → Int} {c c2 h : Int} {G G1 G2 N M : ti_M} {v0 v1 v2 z0 z1 z2 : Int32}
theorem eG_rg {n : Nat} (x : rgR n u c M) (E : eG N M) (hn : n ≤ 8) (h52 : (tI N 60 52).toInt = c2) (hc : c2 ≤ c) : rgR n u c2 N := ⟨h52, fun i hi => by
  have y := x.2 i (by omega)
  exact ⟨qR_rows y.1 (fun k j b => E.2 k j (fun b2 => by have := bk_1 b b2; omega) (by have := b.2.1; omega)) hn, qV_rows y.2 (fun k j b => E.2 k j (fun b2 => by have := bk_1 b b2; omega) (by have := b.2.1; omega)) hn⟩⟩
theorem iR_eG (E : eG N M) : iR N M := ⟨E.1 51 (by decide) (by decide), fun k i b => E.2 k i (fun b2 => absurd (bk_1 b b2) (by decide)) (by have := b.2.1; omega), fun i h => E.2 50 i (fun b => by have := b.2.1; omega) (by omega)⟩
theorem kR_go (h4 : 0 ≤ tx 4 ∧ tx 4 ≤ 8) (x : kR tx s u c p M) (E : eG N M) (hq : qR (tx 4).toNat 0 s2 N) (hv : qV (tx 4).toNat 0 s2 N) (hp : hR p2 (s2 2) N) (h52 : (tI N 60 52).toInt = c2) (hc : c2 ≤ c) : kR tx s2 u c2 p2 N :=
  ⟨tR_lw x.1 (eG_lw E), hq, hv, eG_rg x.2.2.2.1 E (by omega) h52 hc, hp, (E.1 53 (by decide) (by decide)).trans x.2.2.2.2.2⟩
/-- three more in the log -/
theorem hR_st (x : hR p h G) (h0 : 0 ≤ h) (h9 : h < 120) (e0 : G1 = uY G 60 50 (upd (tY G 60 50) z0.toNatClampNeg v0)) (e1 : G2 = uY G1 60 50 (upd (tY G1 60 50) z1.toNatClampNeg v1)) (e2 : N = uY G2 60 50 (upd (tY G2 60 50) z2.toNatClampNeg v2)) (i0 : z0.toInt = 3 * h) (i1 : z1.toInt = 3 * h + 1) (i2 : z2.toInt = 3 * h + 2) (w0 : v0.toInt = bq_ma s (s 112)) (w1 : v1.toInt = bq_ma s (s 113)) (w2 : v2.toInt = bq_ma s (s 114)) : hR (bq_hp s h.toNat p) (h + 1) N := by
  rw [i_cl (n := 3 * h.toNat) (by omega)] at e0
  rw [i_cl (n := 3 * h.toNat + 1) (by omega)] at e1
  rw [i_cl (n := 3 * h.toNat + 2) (by omega)] at e2
  intro m k h1 h2 h3
  rw [tY_uE e2, tY_uE e1, tY_uE e0]
  unfold bq_hp
  by_cases r : m = h.toNat
  · subst r
    rcases (show k = 0 ∨ k = 1 ∨ k = 2 by omega) with rfl | rfl | rfl
    · rw [pk_un (by omega), pk_un (by omega), show 3 * h.toNat + 0 = 3 * h.toNat by omega, pk_us, su_n (by omega), su_n (by omega), show 120 * 0 + h.toNat = h.toNat by omega, su_s]; exact w0
    · rw [pk_un (by omega), pk_us, su_n (by omega), show 120 * 1 + h.toNat = 120 + h.toNat by omega, su_s]; exact w1
    · rw [pk_us, show 120 * 2 + h.toNat = 240 + h.toNat by omega, su_s]; exact w2
  · rw [pk_un (by omega), pk_un (by omega), pk_un (by omega), su_n (by omega), su_n (by omega), su_n (by omega)]
    exact x m k (by omega) h2 h3
end
set_option maxHeartbeats 4000000 in
set_option maxRecDepth 100000 in
theorem z_X10_copiesLog (l : Launch) (D : va_G) (A : Nat → Nat → Nat) (cy : Nat → ClassId) (hJ : ti_inj ti_LM A) (M : ti_M) (hI : mI Tm M) (to as : Int32) (h1 : 0 ≤ to.toInt) (h2 : to.toInt ≤ 1) (h3 : 0 ≤ as.toInt) (h4 : as.toInt ≤ 1) (hne : to.toInt ≠ as.toInt) : ti_Kv l yX10_copiesLog cX10_copiesLog 4 0 ti_LM D A cy M [.ref (A 60 0), .int to, .int as] (fun M2 => eL M2 M ∧ lg to.toInt.toNat as.toInt.toNat 360 M2 M ∧ mI Tm M2 ∧ qw M2 M) := by
  refine ti_eV yp_X10_copiesLog hJ ti_LM_nd (Nat.le_of_ble_eq_true rfl) ?_
  intro p e s m args below meth c Q H0 C hQ hw ls hl
  have hx := C.1
  have hb := C.2.1
  have hl : lv_has ls 4 [(0, .ref (A 60 0)), (1, .int to), (2, .int as)] := hl
  refine lv_iconst (v := 0) hx hb dX10_copiesLog_0 (by decide) ?_
  refine lv_istore_n (lv' := [(3, .int 0), (0, .ref (A 60 0)), (1, .int to), (2, .int as)]) hx hb dX10_copiesLog_1 rfl hl (by decide) rfl (fun ls hl => ?_)
  have hl_2_7 : ∀ (n_8 : Nat) (x_1 : Int32) (M_4 : ti_M) (H : Heap) (locs : List Loc) (ls : Array Slot), (360 - x_1.toInt : Int).toNat < n_8 → (0 ≤ x_1.toInt) → (x_1.toInt ≤ 360) → (mI Tm M_4) → (qw M_4 M) → (eL M_4 M) → (lg to.toInt.toNat as.toInt.toNat (x_1.toInt).toNat M_4 M) → ti_H ti_LM D A cy H0 M_4 H locs → lv_has ls 4 [(3, .int x_1), (0, .ref (A 60 0)), (1, .int to), (2, .int as)] → W p l e (ti_rm 0) s m args below meth c H locs 0 0 Q (F0 m 2 ls []) := by
    intro n_8
    induction n_8 with
    | zero => intro x_1 M_4 H locs ls hf_8; exact absurd hf_8 (Nat.not_lt_zero _)
    | succ n_8 ih_8 =>
      intro x_1 M_4 H locs ls hf_8 b_2 b_3 iM_4 f_5 f_6 j_7 hw hl
      refine lv_iload_n hx hb dX10_copiesLog_2 rfl (lv_at hl 0 rfl) ?_
      refine lv_sipush (v := 360) hx hb dX10_copiesLog_3 (by decide) ?_
      refine sb_icmp_ge (tgt := 39) hx hb rfl (by decide : (360 : Int32).toInt = 360) dX10_copiesLog_6 (by decide) (fun c_6_8 => ?_) (fun c_6_8 => ?_)
      · exact hQ _ _ _ _ _ hw (⟨f_6, (by have h := j_7; rwa [show x_1.toInt.toNat = 360 by omega] at h), iM_4, f_5⟩) dX10_copiesLog_39
      · refine lv_aload_n hx hb dX10_copiesLog_9 rfl (lv_at hl 1 rfl) ?_
        refine ti_get (ci := 10) (k := 50) (N := 67) (T := TX10) (v := .ref (A 60 51)) C hw iw_10 rfl ob_60 (by decide) (by decide) fl_X10_117 rfl rfl dX10_copiesLog_10 ?_
        refine lv_sipush (v := 360) hx hb dX10_copiesLog_13 (by decide) ?_
        refine lv_iload_n hx hb dX10_copiesLog_16 rfl (lv_at hl 2 rfl) ?_
        refine lv_imul hx hb dX10_copiesLog_17 ?_
        refine lv_topi (fun x_10 ex_10 => ?_)
        have tx_10 : x_10.toInt = 360 * to.toInt := i_mul ex_10 (by decide : (360 : Int32).toInt = 360) rfl (by omega) (by omega)
        refine lv_iload_n hx hb dX10_copiesLog_18 rfl (lv_at hl 0 rfl) ?_
        refine lv_iadd hx hb dX10_copiesLog_19 ?_
        refine lv_topi (fun x_11 ex_11 => ?_)
        have tx_11 : x_11.toInt = x_10.toInt + x_1.toInt := i_add ex_11 rfl rfl (by omega) (by omega)
        refine lv_aload_n hx hb dX10_copiesLog_20 rfl (lv_at hl 1 rfl) ?_
        refine ti_get (ci := 10) (k := 50) (N := 67) (T := TX10) (v := .ref (A 60 51)) C hw iw_10 rfl ob_60 (by decide) (by decide) fl_X10_117 rfl rfl dX10_copiesLog_21 ?_
        refine lv_sipush (v := 360) hx hb dX10_copiesLog_24 (by decide) ?_
        refine lv_iload_n hx hb dX10_copiesLog_27 rfl (lv_at hl 3 rfl) ?_
        refine lv_imul hx hb dX10_copiesLog_28 ?_
        refine lv_topi (fun x_12 ex_12 => ?_)
        have tx_12 : x_12.toInt = 360 * as.toInt := i_mul ex_12 (by decide : (360 : Int32).toInt = 360) rfl (by omega) (by omega)
        refine lv_iload_n hx hb dX10_copiesLog_29 rfl (lv_at hl 0 rfl) ?_
        refine lv_iadd hx hb dX10_copiesLog_30 ?_
        refine lv_topi (fun x_13 ex_13 => ?_)
        have tx_13 : x_13.toInt = x_12.toInt + x_1.toInt := i_add ex_13 rfl rfl (by omega) (by omega)
        refine ti_iald (ci := 10) (k := 50) (n := 720) C hw ob_60 (by decide) (fun _ _ => rfl) (vp_in_iff.mpr (by omega)) dX10_copiesLog_31 ?_
        refine lv_topi (fun x_14 ex_14 => ?_)
        have yx_14 : tY M_4 60 50 x_13.toNatClampNeg = x_14 := (ex_14.symm)
        refine ti_iast (ci := 10) (k := 50) (n := 720) C hw ob_60 (by decide) (fun _ _ => rfl) (vp_in_iff.mpr (by omega)) dX10_copiesLog_32 (fun H locs hw => ?_)
        obtain ⟨M_15, hM_15⟩ : ∃ z : ti_M, z = uY M_4 60 50 (upd (tY M_4 60 50) (x_11 : Int32).toNatClampNeg x_14) := ⟨_, rfl⟩
        have hw := hw.to hM_15.symm
        have iM_15 : mI Tm M_15 := mI_up (i := x_11.toNatClampNeg) iM_4 hM_15 trivial
        obtain ⟨x_16, ex_16⟩ : ∃ z : Int32, z = x_1 + 1 := ⟨_, rfl⟩
        have tx_16 : x_16.toInt = x_1.toInt + 1 := i_add ex_16 rfl (by decide) (by omega) (by omega)
        refine lv_iinc (v := x_16) (lv' := [(3, .int x_16), (0, .ref (A 60 0)), (1, .int to), (2, .int as)]) hx hb dX10_copiesLog_33 hl (k := 0) rfl (by rw [ex_16]; rfl) (by decide) rfl (fun ls hl => ?_)
        refine lv_goto (tgt := 2) hx hb dX10_copiesLog_36 (by decide) ?_
        exact ih_8 x_16 M_15 _ _ _ (by omega) (by first | omega | decide) (by first | omega | decide) iM_15 (qw.trans (qw_Y hM_15 (by decide)) f_5) (eL.trans (eL_Y hM_15) f_6) (by rw [show x_16.toInt.toNat = x_1.toInt.toNat + 1 by omega]; exact lg_s j_7 hM_15 (i_cl (by omega)) (i_cl (by omega)) yx_14 (by omega) (by omega) (by omega) (by omega)) hw (lv_sub hl [0, 1, 2, 3] rfl)
  exact hl_2_7 ((360 - 0 : Int).toNat + 1) 0 M _ _ _ (Nat.lt_succ_self _) (by have lt0 : (0 : Int32).toInt = 0 := (by decide); first | omega | decide) (by have lt0 : (0 : Int32).toInt = 0 := (by decide); first | omega | decide) hI qw.refl eL.refl (lg_0 (by decide)) hw (lv_sub hl [0, 1, 2, 3] rfl)
set_option maxHeartbeats 4000000 in
set_option maxRecDepth 100000 in
theorem z_X10_undo (l : Launch) (D : va_G) (A : Nat → Nat → Nat) (cy : Nat → ClassId) (hJ : ti_inj ti_LM A) (M : ti_M) (hI : mI Tm M) (hF : mF Tm M) (tx rg lp : Nat → Int) (ug : Nat → Nat → Int) (cu : Int) (ht4 : 0 ≤ tx 4 ∧ tx 4 ≤ 8) (htW : tW tx) (hwf : wF tx rg) (h1r : rg 1 = 0) (hk : kR tx rg ug cu lp M) (hm2 : ∀ i : Nat, (i : Int) < cu → ug i 2 = rg 2) : ti_Ki l yX10_undo cX10_undo 1 (some .int) 1 ti_LM D A cy M [.ref (A 60 0)] (fun r M2 => ((cu = 0 ∧ r.toInt = -1 ∧ kR tx rg ug cu lp M2) ∨ (0 < cu ∧ r.toInt = cu - 1 ∧ kR tx (ug (cu - 1).toNat) ug (cu - 1) lp M2)) ∧ iR M2 M ∧ mF Tm M2 ∧ tI M2 60 2 = tI M 60 2 ∧ lw M2 M) := by
  refine ti_eI yp_X10_undo hJ ti_LM_nd (Nat.le_of_ble_eq_true rfl) ?_
  intro p e s m args below meth c Q H0 C hQ hw ls hl
  have hx := C.1
  have hb := C.2.1
  have hl : lv_has ls 1 [(0, .ref (A 60 0))] := hl
  obtain ⟨htr, hr, hV, hu, hp0, htw⟩ := id hk
  have t4 : tx 4 = (tY M 60 3 0).toInt := htr.1.1
  have w83 := wF_8 hwf
  have q3r : rg 3 = (tY M 60 38 0).toInt := hr.1.2.1
  have hu1 := hu.1
  refine lv_aload_n hx hb dX10_undo_0 rfl (lv_at hl 0 rfl) ?_
  refine lv_iconst (v := 0) hx hb dX10_undo_1 (by decide) ?_
  refine ti_putI (ci := 10) (k := 0) (N := 67) (T := TX10) C hw iw_10 tyX10 tyX10_ok nmX10 rfl ob_60 (by decide) (by decide) fl_X10_154 rfl rfl rfl rfl (fn_10 A _) fs_10_0 dX10_undo_2 (fun H locs hw => ?_)
  obtain ⟨M, h0⟩ : ∃ z : ti_M, z = uI M 60 0 0 := ⟨_, rfl⟩
  have hw := hw.to h0.symm
  have hI : mI Tm M := mI_uI hI h0 (by decide) (by decide) trivial
  have hF : mF Tm M := mF_qw hF hI (qw_I h0 (by decide))
  have ir0 := iR_0 h0
  have e2r := tI_nE (k2 := 2) (o2 := 60) h0 (nk (by decide))
  have e51r := tI_nE (k2 := 51) (o2 := 60) h0 (nk (by decide))
  have lwr : lw M _ := fun _ _ _ => tY_uIE h0
  have hk := kR_0 hk h0
  obtain ⟨htr, hr, hV, hu, hp0, htw⟩ := id hk
  have t4 : tx 4 = (tY M 60 3 0).toInt := htr.1.1
  have w83 := wF_8 hwf
  have q3r : rg 3 = (tY M 60 38 0).toInt := hr.1.2.1
  have hu1 := hu.1
  refine lv_aload_n hx hb dX10_undo_5 rfl (lv_at hl 0 rfl) ?_
  refine ti_get (ci := 10) (k := 52) (N := 67) (T := TX10) C hw iw_10 rfl ob_60 (by decide) (by decide) fl_X10_317 rfl rfl dX10_undo_6 ?_
  refine lv_topi (fun x_1 ex_1 => ?_)
  have bx_1 : 0 ≤ x_1.toInt ∧ x_1.toInt ≤ 20 := mI_rd hI ex_1
  have ux_1 : (tI M 60 52).toInt = x_1.toInt := by rw [ex_1]
  refine sb_if_ne (tgt := 14) hx hb rfl dX10_undo_9 (by decide) (fun c_9_1 => ?_) (fun c_9_1 => ?_)
  · refine lv_aload_n hx hb dX10_undo_14 rfl (lv_at hl 0 rfl) ?_
    refine lv_dup hx hb dX10_undo_15 rfl ?_
    refine ti_get (ci := 10) (k := 52) (N := 67) (T := TX10) C hw iw_10 rfl ob_60 (by decide) (by decide) fl_X10_317 rfl rfl dX10_undo_16 ?_
    refine ti_top (y := x_1) (ex_1.symm) ?_
    have u_3 : (tI M 60 52).toInt = (x_1 : Int32).toInt := by rw [(ex_1.symm)]
    refine lv_iconst (v := 1) hx hb dX10_undo_19 (by decide) ?_
    refine lv_isub hx hb dX10_undo_20 ?_
    refine lv_topi (fun x_4 ex_4 => ?_)
    have tx_4 : x_4.toInt = x_1.toInt - 1 := i_sub ex_4 rfl (by decide : (1 : Int32).toInt = 1) (by omega) (by omega)
    refine ti_putI (ci := 10) (k := 52) (N := 67) (T := TX10) C hw iw_10 tyX10 tyX10_ok nmX10 rfl ob_60 (by decide) (by decide) fl_X10_317 rfl rfl rfl rfl (fn_10 A _) fs_10_52 dX10_undo_21 (fun H locs hw => ?_)
    obtain ⟨M_5, hM_5⟩ : ∃ z : ti_M, z = uI M 60 52 x_4 := ⟨_, rfl⟩
    have hw := hw.to hM_5.symm
    have iM_5 : mI Tm M_5 := mI_uI hI hM_5 (by decide) (by decide) (ib_mk (lo := 0) (hi := 20) (by omega) (by omega))
    have vM_5 : (tI M_5 60 52).toInt = (x_4 : Int32).toInt := by rw [tI_uE hM_5]
    have hs_6 : qR (tx 4).toNat 0 rg M_5 := qR_I hr hM_5
    have mfM_5 : mF Tm M_5 := mF_52 hF iM_5 hM_5 (by rw [(ex_1.symm)]; omega)
    refine lv_aload_n hx hb dX10_undo_24 rfl (lv_at hl 0 rfl) ?_
    refine lv_iconst (v := 0) hx hb dX10_undo_25 (by decide) ?_
    refine lv_iconst (v := 3) hx hb dX10_undo_26 (by decide) ?_
    refine lv_aload_n hx hb dX10_undo_27 rfl (lv_at hl 0 rfl) ?_
    refine ti_get (ci := 10) (k := 52) (N := 67) (T := TX10) C hw iw_10 rfl ob_60 (by decide) (by decide) fl_X10_317 rfl rfl dX10_undo_28 ?_
    refine ti_top (y := x_4) (tI_uE hM_5) ?_
    have u_7 : (tI M_5 60 52).toInt = (x_4 : Int32).toInt := by rw [(tI_uE hM_5)]
    refine lv_iadd hx hb dX10_undo_31 ?_
    refine lv_topi (fun x_8 ex_8 => ?_)
    have tx_8 : x_8.toInt = 3 + x_4.toInt := i_add ex_8 (by decide : (3 : Int32).toInt = 3) rfl (by omega) (by omega)
    refine ti_callVv (ci := 10) (av := [.int 0, .int x_8]) C hw (z_X10_copies l D A cy hJ M_5 iM_5 0 x_8 (by first | omega | decide | (have l0 : (0 : Int32).toInt = 0 := (by decide); have l2 : (2 : Int32).toInt = 2 := (by decide); have l3 : (3 : Int32).toInt = 3 := (by decide); omega)) (by first | omega | decide | (have l0 : (0 : Int32).toInt = 0 := (by decide); have l2 : (2 : Int32).toInt = 2 := (by decide); have l3 : (3 : Int32).toInt = 3 := (by decide); omega)) (by first | omega | decide | (have l0 : (0 : Int32).toInt = 0 := (by decide); have l2 : (2 : Int32).toInt = 2 := (by decide); have l3 : (3 : Int32).toInt = 3 := (by decide); omega)) (by first | omega | decide | (have l0 : (0 : Int32).toInt = 0 := (by decide); have l2 : (2 : Int32).toInt = 2 := (by decide); have l3 : (3 : Int32).toInt = 3 := (by decide); omega)) (by first | omega | decide | (have l0 : (0 : Int32).toInt = 0 := (by decide); have l2 : (2 : Int32).toInt = 2 := (by decide); have l3 : (3 : Int32).toInt = 3 := (by decide); omega)) (by first | omega | decide | (have l0 : (0 : Int32).toInt = 0 := (by decide); have l2 : (2 : Int32).toInt = 2 := (by decide); have l3 : (3 : Int32).toInt = 3 := (by decide); omega))) ⟨ml_X10_404, ym_X10_copies, yv_X10_copies, yi_X10_copies, yc_X10_copies⟩ yd_X10_copies ob_60 (by decide) rfl rfl hl.1 (Nat.le_of_ble_eq_true rfl) ⟨by decide, by decide⟩ ⟨Nat.zero_le _, Nat.zero_le _⟩ dX10_undo_32 (fun M_10 H locs hp_10 hw => ?_)
    obtain ⟨erM_10, cxM_10, hqM_10⟩ := hp_10
    rw [show (0 : Int32).toInt.toNat = 0 by decide] at erM_10 cxM_10
    obtain ⟨iM_10, q_11, q_12⟩ := hqM_10
    have q_12n : cq 0 (x_8).toInt.toNat M_10 M_5 := by rw [show (0 : Int32).toNatClampNeg = 0 from by decide] at q_12; exact q_12
    have gsM_10 : gq M_5 (x_8).toInt.toNat := by have g := gq_I hM_5 (hF.2.2.2.2 x_4.toInt.toNat (by rw [(ex_1.symm)]; omega)); rwa [show 3 + x_4.toInt.toNat = (x_8).toInt.toNat by omega] at g
    have mfM_10 : mF Tm M_10 := mF_cq mfM_5 iM_10 q_11 q_12n gsM_10
    have gtM_10 : gq M_10 0 := gq_cq q_12n gsM_10
    refine lv_aload_n hx hb dX10_undo_35 rfl (lv_at hl 0 rfl) ?_
    refine ti_get (ci := 10) (k := 52) (N := 67) (T := TX10) C hw iw_10 rfl ob_60 (by decide) (by decide) fl_X10_317 rfl rfl dX10_undo_36 ?_
    refine ti_top (y := x_4) ((erM_10.1 52 (by decide)).trans (tI_uE hM_5)) ?_
    have u_13 : (tI M_10 60 52).toInt = (x_4 : Int32).toInt := by rw [((erM_10.1 52 (by decide)).trans (tI_uE hM_5))]
    have kk_14 := kR_tb ht4 hk eR.refl hM_5 erM_10 cxM_10 (by omega) (by omega) (by omega) (hm2 _ (by omega))
    exact hQ _ _ _ _ _ _ hw rfl (⟨Or.inr ⟨by omega, by omega, kk_14.1⟩, kk_14.2.trans ir0, mfM_10, (((erM_10.1 2 (by decide)).trans (tI_nE hM_5 (nk (by decide))))).trans e2r, lw_t (lw_t q_11.1 (fun k a b => tY_uIE hM_5)) lwr⟩) dX10_undo_39
  · refine lv_iconst (v := (-1)) hx hb dX10_undo_12 (by decide) ?_
    exact hQ _ _ _ _ _ _ hw rfl (⟨Or.inl ⟨by omega, by decide, hk⟩, (iR_eR eR.refl).trans ir0, hF, (rfl).trans e2r, lw_t (fun _ _ _ => rfl) lwr⟩) dX10_undo_13
set_option maxHeartbeats 4000000 in
set_option maxRecDepth 100000 in
theorem z_X10_keep (l : Launch) (D : va_G) (A : Nat → Nat → Nat) (cy : Nat → ClassId) (hJ : ti_inj ti_LM A) (M : ti_M) (hI : mI Tm M) (hF : mF Tm M) (tx rg lp : Nat → Int) (ug : Nat → Nat → Int) (cu : Int) (ht4 : 0 ≤ tx 4 ∧ tx 4 ≤ 8) (htW : tW tx) (hwf : wF tx rg) (h1r : rg 1 = 0) (hk : kR tx rg ug cu lp M) : ti_Ki l yX10_keep cX10_keep 1 (some .int) 1 ti_LM D A cy M [.ref (A 60 0)] (fun r M2 => r.toInt = rg 2 ∧ kR tx rg ug cu lp M2 ∧ tI M2 60 51 = 1 ∧ (qR (tx 4).toNat 2 rg M2 ∧ qV (tx 4).toNat 2 rg M2 ∧ hI3 lp (rg 2) M2) ∧ mF Tm M2 ∧ tI M2 60 2 = tI M 60 2 ∧ lw M2 M) := by
  refine ti_eI yp_X10_keep hJ ti_LM_nd (Nat.le_of_ble_eq_true rfl) ?_
  intro p e s m args below meth c Q H0 C hQ hw ls hl
  have hx := C.1
  have hb := C.2.1
  have hl : lv_has ls 1 [(0, .ref (A 60 0))] := hl
  obtain ⟨htr, hr, hV, hu, hp0, htw⟩ := id hk
  have t4 : tx 4 = (tY M 60 3 0).toInt := htr.1.1
  have w83 := wF_8 hwf
  have q3r : rg 3 = (tY M 60 38 0).toInt := hr.1.2.1
  have hu1 := hu.1
  refine lv_aload_n hx hb dX10_keep_0 rfl (lv_at hl 0 rfl) ?_
  refine lv_iconst (v := 0) hx hb dX10_keep_1 (by decide) ?_
  refine ti_putI (ci := 10) (k := 0) (N := 67) (T := TX10) C hw iw_10 tyX10 tyX10_ok nmX10 rfl ob_60 (by decide) (by decide) fl_X10_154 rfl rfl rfl rfl (fn_10 A _) fs_10_0 dX10_keep_2 (fun H locs hw => ?_)
  obtain ⟨M, h0⟩ : ∃ z : ti_M, z = uI M 60 0 0 := ⟨_, rfl⟩
  have hw := hw.to h0.symm
  have hI : mI Tm M := mI_uI hI h0 (by decide) (by decide) trivial
  have hF : mF Tm M := mF_qw hF hI (qw_I h0 (by decide))
  have ir0 := iR_0 h0
  have e2r := tI_nE (k2 := 2) (o2 := 60) h0 (nk (by decide))
  have e51r := tI_nE (k2 := 51) (o2 := 60) h0 (nk (by decide))
  have lwr : lw M _ := fun _ _ _ => tY_uIE h0
  have hk := kR_0 hk h0
  obtain ⟨htr, hr, hV, hu, hp0, htw⟩ := id hk
  have t4 : tx 4 = (tY M 60 3 0).toInt := htr.1.1
  have w83 := wF_8 hwf
  have q3r : rg 3 = (tY M 60 38 0).toInt := hr.1.2.1
  have hu1 := hu.1
  refine lv_aload_n hx hb dX10_keep_5 rfl (lv_at hl 0 rfl) ?_
  refine lv_iconst (v := 2) hx hb dX10_keep_6 (by decide) ?_
  refine lv_iconst (v := 0) hx hb dX10_keep_7 (by decide) ?_
  refine ti_callVv (ci := 10) (av := [.int 2, .int 0]) C hw (z_X10_copies l D A cy hJ M hI 2 0 (by first | omega | decide | (have l0 : (0 : Int32).toInt = 0 := (by decide); have l2 : (2 : Int32).toInt = 2 := (by decide); have l3 : (3 : Int32).toInt = 3 := (by decide); omega)) (by first | omega | decide | (have l0 : (0 : Int32).toInt = 0 := (by decide); have l2 : (2 : Int32).toInt = 2 := (by decide); have l3 : (3 : Int32).toInt = 3 := (by decide); omega)) (by first | omega | decide | (have l0 : (0 : Int32).toInt = 0 := (by decide); have l2 : (2 : Int32).toInt = 2 := (by decide); have l3 : (3 : Int32).toInt = 3 := (by decide); omega)) (by first | omega | decide | (have l0 : (0 : Int32).toInt = 0 := (by decide); have l2 : (2 : Int32).toInt = 2 := (by decide); have l3 : (3 : Int32).toInt = 3 := (by decide); omega)) (by first | omega | decide | (have l0 : (0 : Int32).toInt = 0 := (by decide); have l2 : (2 : Int32).toInt = 2 := (by decide); have l3 : (3 : Int32).toInt = 3 := (by decide); omega)) (by first | omega | decide | (have l0 : (0 : Int32).toInt = 0 := (by decide); have l2 : (2 : Int32).toInt = 2 := (by decide); have l3 : (3 : Int32).toInt = 3 := (by decide); omega))) ⟨ml_X10_404, ym_X10_copies, yv_X10_copies, yi_X10_copies, yc_X10_copies⟩ yd_X10_copies ob_60 (by decide) rfl rfl hl.1 (Nat.le_of_ble_eq_true rfl) ⟨by decide, by decide⟩ ⟨Nat.zero_le _, Nat.zero_le _⟩ dX10_keep_8 (fun M_2 H locs hp_2 hw => ?_)
  obtain ⟨erM_2, cxM_2, hqM_2⟩ := hp_2
  rw [show (2 : Int32).toInt.toNat = 2 by decide] at erM_2 cxM_2
  rw [show (0 : Int32).toInt.toNat = 0 by decide] at cxM_2
  obtain ⟨iM_2, q_3, q_4⟩ := hqM_2
  have q_4n : cq 2 0 M_2 M := by rw [show (2 : Int32).toNatClampNeg = 2 from by decide] at q_4; rw [show (0 : Int32).toNatClampNeg = 0 from by decide] at q_4; exact q_4
  have gsM_2 : gq M 0 := hF.2.2.1
  have mfM_2 : mF Tm M_2 := mF_cq hF iM_2 q_3 q_4n gsM_2
  have gtM_2 : gq M_2 2 := gq_cq q_4n gsM_2
  refine lv_aload_n hx hb dX10_keep_11 rfl (lv_at hl 0 rfl) ?_
  refine lv_iconst (v := 1) hx hb dX10_keep_12 (by decide) ?_
  refine lv_iconst (v := 0) hx hb dX10_keep_13 (by decide) ?_
  refine ti_callVv (ci := 10) (av := [.int 1, .int 0]) C hw (z_X10_copiesLog l D A cy hJ M_2 iM_2 1 0 (by first | omega | decide) (by first | omega | decide) (by first | omega | decide) (by first | omega | decide) (by decide)) ⟨ml_X10_497, ym_X10_copiesLog, yv_X10_copiesLog, yi_X10_copiesLog, yc_X10_copiesLog⟩ yd_X10_copiesLog ob_60 (by decide) rfl rfl hl.1 (Nat.le_of_ble_eq_true rfl) ⟨by decide, by decide⟩ ⟨Nat.zero_le _, Nat.zero_le _⟩ dX10_keep_14 (fun M_6 H locs hp_6 hw => ?_)
  obtain ⟨elM_6, lgM_6, hqM_6⟩ := hp_6
  rw [show (1 : Int32).toInt.toNat = 1 by decide, show (0 : Int32).toInt.toNat = 0 by decide] at lgM_6
  obtain ⟨iM_6, q_7⟩ := hqM_6
  refine lv_aload_n hx hb dX10_keep_17 rfl (lv_at hl 0 rfl) ?_
  refine lv_iconst (v := 1) hx hb dX10_keep_18 (by decide) ?_
  refine ti_putI (ci := 10) (k := 51) (N := 67) (T := TX10) C hw iw_10 tyX10 tyX10_ok nmX10 rfl ob_60 (by decide) (by decide) fl_X10_313 rfl rfl rfl rfl (fn_10 A _) fs_10_51 dX10_keep_19 (fun H locs hw => ?_)
  obtain ⟨M_8, hM_8⟩ : ∃ z : ti_M, z = uI M_6 60 51 1 := ⟨_, rfl⟩
  have hw := hw.to hM_8.symm
  have iM_8 : mI Tm M_8 := mI_uI iM_6 hM_8 (by decide) (by decide) trivial
  have mfM_8 : mF Tm M_8 := mF_51 (mF_qw mfM_2 iM_6 q_7) iM_8 hM_8 (gq_qw q_7 gtM_2)
  refine lv_aload_n hx hb dX10_keep_22 rfl (lv_at hl 0 rfl) ?_
  refine ti_get (ci := 10) (k := 34) (N := 67) (T := TX10) (v := .ref (A 60 35)) C hw iw_10 rfl ob_60 (by decide) (by decide) fl_X10_69 rfl rfl dX10_keep_23 ?_
  refine lv_iconst (v := 0) hx hb dX10_keep_26 (by decide) ?_
  refine ti_iald (ci := 10) (k := 34) (n := 23) C hw ob_60 (by decide) (fun _ _ => rfl) (by unfold vp_in; decide) dX10_keep_27 ?_
  refine lv_topi (fun x_9 ex_9 => ?_)
  have yx_9 : tY M_8 60 34 0 = x_9 := ((congrArg _ (by decide)).symm.trans ex_9.symm)
  have bx_9 : 0 ≤ x_9.toInt ∧ x_9.toInt ≤ 120 := mI_ry (k := 34) (i := 0) iM_8 yx_9.symm (by decide)
  have zx_9 : (tY M_8 60 34 0).toInt = x_9.toInt := by rw [yx_9]
  have wx_9 : tY M_6 60 34 0 = x_9 := ((cg (tY_uIE hM_8) 0)).symm.trans yx_9
  have zwx_9 : (tY M_6 60 34 0).toInt = x_9.toInt := by rw [wx_9]
  have kk_10 := kR_keep ht4 hk erM_2 cxM_2 elM_6 lgM_6 hM_8
  have r2 : rg 2 = (tY M 60 34 0).toInt := hr.1.1
  have r34 : tY M_8 60 34 0 = tY M 60 34 0 := (cg (tY_uIE hM_8) 0).trans ((cg (elM_6.2 34 (by decide)) 0).trans ((erM_2.2 34 0 (fun b => by have := b.2.2; rw [if_pos (by decide)] at this; omega)).trans (cg rfl 0)))
  exact hQ _ _ _ _ _ _ hw rfl (⟨(by rw [r2, ← r34, yx_9]), kk_10.1, tI_uE hM_8, kk_10.2, mfM_8, (((tI_nE hM_8 (nk (by decide))).trans ((q_7.2.1.1).trans (erM_2.1 2 (by decide))))).trans e2r, lw_t (lw_t (fun k a b => tY_uIE hM_8) (lw_t q_7.1 q_3.1)) lwr⟩) dX10_keep_28
set_option maxHeartbeats 4000000 in
set_option maxRecDepth 100000 in
theorem z_X10_back (l : Launch) (D : va_G) (A : Nat → Nat → Nat) (cy : Nat → ClassId) (hJ : ti_inj ti_LM A) (M : ti_M) (hI : mI Tm M) (hF : mF Tm M) (tx rg lp : Nat → Int) (ug : Nat → Nat → Int) (cu : Int) (ht4 : 0 ≤ tx 4 ∧ tx 4 ≤ 8) (htW : tW tx) (hwf : wF tx rg) (h1r : rg 1 = 0) (hk : kR tx rg ug cu lp M) (si : Nat → Int) (hi9 : ¬ (tI M 60 51).toInt = 0 → qR (tx 4).toNat 2 si M ∧ qV (tx 4).toNat 2 si M ∧ hI3 lp (si 2) M) : ti_Ki l yX10_back cX10_back 1 (some .int) 1 ti_LM D A cy M [.ref (A 60 0)] (fun r M2 => (((tI M 60 51).toInt = 0 ∧ r.toInt = -1 ∧ kR tx rg ug cu lp M2) ∨ (¬ (tI M 60 51).toInt = 0 ∧ r.toInt = si 2 ∧ kR tx si ug 0 lp M2)) ∧ iR M2 M ∧ mF Tm M2 ∧ tI M2 60 2 = tI M 60 2 ∧ lw M2 M) := by
  refine ti_eI yp_X10_back hJ ti_LM_nd (Nat.le_of_ble_eq_true rfl) ?_
  intro p e s m args below meth c Q H0 C hQ hw ls hl
  have hx := C.1
  have hb := C.2.1
  have hl : lv_has ls 1 [(0, .ref (A 60 0))] := hl
  obtain ⟨htr, hr, hV, hu, hp0, htw⟩ := id hk
  have t4 : tx 4 = (tY M 60 3 0).toInt := htr.1.1
  have w83 := wF_8 hwf
  have q3r : rg 3 = (tY M 60 38 0).toInt := hr.1.2.1
  have hu1 := hu.1
  refine lv_aload_n hx hb dX10_back_0 rfl (lv_at hl 0 rfl) ?_
  refine lv_iconst (v := 0) hx hb dX10_back_1 (by decide) ?_
  refine ti_putI (ci := 10) (k := 0) (N := 67) (T := TX10) C hw iw_10 tyX10 tyX10_ok nmX10 rfl ob_60 (by decide) (by decide) fl_X10_154 rfl rfl rfl rfl (fn_10 A _) fs_10_0 dX10_back_2 (fun H locs hw => ?_)
  obtain ⟨M, h0⟩ : ∃ z : ti_M, z = uI M 60 0 0 := ⟨_, rfl⟩
  have hw := hw.to h0.symm
  have hI : mI Tm M := mI_uI hI h0 (by decide) (by decide) trivial
  have hF : mF Tm M := mF_qw hF hI (qw_I h0 (by decide))
  have ir0 := iR_0 h0
  have e2r := tI_nE (k2 := 2) (o2 := 60) h0 (nk (by decide))
  have e51r := tI_nE (k2 := 51) (o2 := 60) h0 (nk (by decide))
  have lwr : lw M _ := fun _ _ _ => tY_uIE h0
  have hk := kR_0 hk h0
  obtain ⟨htr, hr, hV, hu, hp0, htw⟩ := id hk
  have t4 : tx 4 = (tY M 60 3 0).toInt := htr.1.1
  have w83 := wF_8 hwf
  have q3r : rg 3 = (tY M 60 38 0).toInt := hr.1.2.1
  have hu1 := hu.1
  have hi9 := hi9_0 hi9 h0
  refine lv_aload_n hx hb dX10_back_5 rfl (lv_at hl 0 rfl) ?_
  refine ti_get (ci := 10) (k := 51) (N := 67) (T := TX10) C hw iw_10 rfl ob_60 (by decide) (by decide) fl_X10_313 rfl rfl dX10_back_6 ?_
  refine lv_topi (fun x_1 ex_1 => ?_)
  refine sb_if_ne (tgt := 14) hx hb rfl dX10_back_9 (by decide) (fun c_9_1 => ?_) (fun c_9_1 => ?_)
  · refine lv_aload_n hx hb dX10_back_14 rfl (lv_at hl 0 rfl) ?_
    refine lv_iconst (v := 0) hx hb dX10_back_15 (by decide) ?_
    refine lv_iconst (v := 2) hx hb dX10_back_16 (by decide) ?_
    refine ti_callVv (ci := 10) (av := [.int 0, .int 2]) C hw (z_X10_copies l D A cy hJ M hI 0 2 (by first | omega | decide | (have l0 : (0 : Int32).toInt = 0 := (by decide); have l2 : (2 : Int32).toInt = 2 := (by decide); have l3 : (3 : Int32).toInt = 3 := (by decide); omega)) (by first | omega | decide | (have l0 : (0 : Int32).toInt = 0 := (by decide); have l2 : (2 : Int32).toInt = 2 := (by decide); have l3 : (3 : Int32).toInt = 3 := (by decide); omega)) (by first | omega | decide | (have l0 : (0 : Int32).toInt = 0 := (by decide); have l2 : (2 : Int32).toInt = 2 := (by decide); have l3 : (3 : Int32).toInt = 3 := (by decide); omega)) (by first | omega | decide | (have l0 : (0 : Int32).toInt = 0 := (by decide); have l2 : (2 : Int32).toInt = 2 := (by decide); have l3 : (3 : Int32).toInt = 3 := (by decide); omega)) (by first | omega | decide | (have l0 : (0 : Int32).toInt = 0 := (by decide); have l2 : (2 : Int32).toInt = 2 := (by decide); have l3 : (3 : Int32).toInt = 3 := (by decide); omega)) (by first | omega | decide | (have l0 : (0 : Int32).toInt = 0 := (by decide); have l2 : (2 : Int32).toInt = 2 := (by decide); have l3 : (3 : Int32).toInt = 3 := (by decide); omega))) ⟨ml_X10_404, ym_X10_copies, yv_X10_copies, yi_X10_copies, yc_X10_copies⟩ yd_X10_copies ob_60 (by decide) rfl rfl hl.1 (Nat.le_of_ble_eq_true rfl) ⟨by decide, by decide⟩ ⟨Nat.zero_le _, Nat.zero_le _⟩ dX10_back_17 (fun M_4 H locs hp_4 hw => ?_)
    obtain ⟨erM_4, cxM_4, hqM_4⟩ := hp_4
    rw [show (0 : Int32).toInt.toNat = 0 by decide] at erM_4 cxM_4
    rw [show (2 : Int32).toInt.toNat = 2 by decide] at cxM_4
    obtain ⟨iM_4, q_5, q_6⟩ := hqM_4
    have q_6n : cq 0 2 M_4 M := by rw [show (0 : Int32).toNatClampNeg = 0 from by decide] at q_6; rw [show (2 : Int32).toNatClampNeg = 2 from by decide] at q_6; exact q_6
    have gsM_4 : gq M 2 := hF.2.2.2.1 (by rw [(ex_1.symm)]; omega)
    have mfM_4 : mF Tm M_4 := mF_cq hF iM_4 q_5 q_6n gsM_4
    have gtM_4 : gq M_4 0 := gq_cq q_6n gsM_4
    refine lv_aload_n hx hb dX10_back_20 rfl (lv_at hl 0 rfl) ?_
    refine lv_iconst (v := 0) hx hb dX10_back_21 (by decide) ?_
    refine lv_iconst (v := 1) hx hb dX10_back_22 (by decide) ?_
    refine ti_callVv (ci := 10) (av := [.int 0, .int 1]) C hw (z_X10_copiesLog l D A cy hJ M_4 iM_4 0 1 (by first | omega | decide) (by first | omega | decide) (by first | omega | decide) (by first | omega | decide) (by decide)) ⟨ml_X10_497, ym_X10_copiesLog, yv_X10_copiesLog, yi_X10_copiesLog, yc_X10_copiesLog⟩ yd_X10_copiesLog ob_60 (by decide) rfl rfl hl.1 (Nat.le_of_ble_eq_true rfl) ⟨by decide, by decide⟩ ⟨Nat.zero_le _, Nat.zero_le _⟩ dX10_back_23 (fun M_8 H locs hp_8 hw => ?_)
    obtain ⟨elM_8, lgM_8, hqM_8⟩ := hp_8
    rw [show (0 : Int32).toInt.toNat = 0 by decide, show (1 : Int32).toInt.toNat = 1 by decide] at lgM_8
    obtain ⟨iM_8, q_9⟩ := hqM_8
    refine lv_aload_n hx hb dX10_back_26 rfl (lv_at hl 0 rfl) ?_
    refine lv_iconst (v := 0) hx hb dX10_back_27 (by decide) ?_
    refine ti_putI (ci := 10) (k := 52) (N := 67) (T := TX10) C hw iw_10 tyX10 tyX10_ok nmX10 rfl ob_60 (by decide) (by decide) fl_X10_317 rfl rfl rfl rfl (fn_10 A _) fs_10_52 dX10_back_28 (fun H locs hw => ?_)
    obtain ⟨M_10, hM_10⟩ : ∃ z : ti_M, z = uI M_8 60 52 0 := ⟨_, rfl⟩
    have hw := hw.to hM_10.symm
    have iM_10 : mI Tm M_10 := mI_uI iM_8 hM_10 (by decide) (by decide) (ib_mk (lo := 0) (hi := 20) (by decide) (by decide))
    have vM_10 : (tI M_10 60 52).toInt = 0 := by rw [tI_uE hM_10]; decide
    have u52 : 0 ≤ (tI M_8 60 52).toInt := (iM_8.1 52).1
    have mfM_10 : mF Tm M_10 := mF_52 (mF_qw mfM_4 iM_8 q_9) iM_10 hM_10 (by have l0 : (0 : Int32).toInt = 0 := (by decide); omega)
    refine lv_aload_n hx hb dX10_back_31 rfl (lv_at hl 0 rfl) ?_
    refine ti_get (ci := 10) (k := 34) (N := 67) (T := TX10) (v := .ref (A 60 35)) C hw iw_10 rfl ob_60 (by decide) (by decide) fl_X10_69 rfl rfl dX10_back_32 ?_
    refine lv_iconst (v := 0) hx hb dX10_back_35 (by decide) ?_
    refine ti_iald (ci := 10) (k := 34) (n := 23) C hw ob_60 (by decide) (fun _ _ => rfl) (by unfold vp_in; decide) dX10_back_36 ?_
    refine lv_topi (fun x_11 ex_11 => ?_)
    have yx_11 : tY M_10 60 34 0 = x_11 := ((congrArg _ (by decide)).symm.trans ex_11.symm)
    have bx_11 : 0 ≤ x_11.toInt ∧ x_11.toInt ≤ 120 := mI_ry (k := 34) (i := 0) iM_10 yx_11.symm (by decide)
    have zx_11 : (tY M_10 60 34 0).toInt = x_11.toInt := by rw [yx_11]
    have wx_11 : tY M_8 60 34 0 = x_11 := ((cg (tY_uIE hM_10) 0)).symm.trans yx_11
    have zwx_11 : (tY M_8 60 34 0).toInt = x_11.toInt := by rw [wx_11]
    have n51 : ¬ (tI M 60 51).toInt = 0 := by have q : tI M 60 51 = x_1 := (ex_1.symm); rw [q]; omega
    obtain ⟨iq, iv, il⟩ := hi9 n51
    have eK : ∀ k i : Nat, tY M 60 k i = tY M 60 k i := fun k i => cg (tY_fr (rfl : M.2.1 = M.2.1)) i
    have kk_12 := kR_back ht4 hk (qR_rows iq (fun k i _ => eK k i) (by omega)) (qV_rows iv (fun k i _ => eK k i) (by omega)) (fun a b x y z => by rw [eK]; exact il a b x y z) erM_4 cxM_4 elM_8 lgM_8 hM_10 (by decide)
    have r2 := kk_12.1.2.1.1.1
    exact hQ _ _ _ _ _ _ hw rfl (⟨Or.inr ⟨by rw [← e51r]; exact n51, (by rw [r2, yx_11]), kk_12.1⟩, (kk_12.2.trans (iR_eR eR.refl)).trans ir0, mfM_10, (((tI_nE hM_10 (nk (by decide))).trans ((q_9.2.1.1).trans (erM_4.1 2 (by decide))))).trans e2r, lw_t (lw_t (fun k a b => tY_uIE hM_10) (lw_t q_9.1 q_5.1)) lwr⟩) dX10_back_37
  · refine lv_iconst (v := (-1)) hx hb dX10_back_12 (by decide) ?_
    exact hQ _ _ _ _ _ _ hw rfl (⟨Or.inl ⟨by have q : tI M 60 51 = x_1 := (ex_1.symm); rw [← e51r, q]; omega, by decide, hk⟩, (iR_eR eR.refl).trans ir0, hF, (rfl).trans e2r, lw_t (fun _ _ _ => rfl) lwr⟩) dX10_back_13
set_option maxHeartbeats 4000000 in
set_option maxRecDepth 100000 in
theorem z_X10_go (l : Launch) (D : va_G) (A : Nat → Nat → Nat) (cy : Nat → ClassId) (hJ : ti_inj ti_LM A) (M : ti_M) (hI : mI Tm M) (hF : mF Tm M) (z1 : Int32) (tx rg lp : Nat → Int) (ug : Nat → Nat → Int) (cu : Int) (ht4 : 0 ≤ tx 4 ∧ tx 4 ≤ 8) (htW : tW tx) (hwf : wF tx rg) (h1r : rg 1 = 0) (hk : kR tx rg ug cu lp M) : ti_Ki l yX10_go cX10_go 5 (some .int) 7 ti_LM D A cy M [.ref (A 60 0), .int z1] (fun r M2 => ((¬ (0 ≤ z1.toInt ∧ z1.toInt ≤ 120 - rg 2) ∧ r.toInt = -1 ∧ kR tx rg ug cu lp M2) ∨ ((0 ≤ z1.toInt ∧ z1.toInt ≤ 120 - rg 2) ∧ r.toInt = rg 2 + z1.toInt ∧ kR tx (bq_pl tx z1.toInt.toNat rg) ug (if 0 < z1.toInt then 0 else cu) (bq_gh tx z1.toInt.toNat rg lp) M2)) ∧ iR M2 M ∧ mF Tm M2 ∧ tI M2 60 2 = tI M 60 2 ∧ lw M2 M) := by
  refine ti_eI yp_X10_go hJ ti_LM_nd (Nat.le_of_ble_eq_true rfl) ?_
  intro p e s m args below meth c Q H0 C hQ hw ls hl
  have hx := C.1
  have hb := C.2.1
  have hl : lv_has ls 5 [(0, .ref (A 60 0)), (1, .int z1)] := hl
  obtain ⟨htr, hr, hV, hu, hp0, htw⟩ := id hk
  have t4 : tx 4 = (tY M 60 3 0).toInt := htr.1.1
  have w83 := wF_8 hwf
  have q3r : rg 3 = (tY M 60 38 0).toInt := hr.1.2.1
  have hu1 := hu.1
  have h5r := hwf.2.1.2
  have q2r : rg 2 = (tY M 60 34 0).toInt := hr.1.1
  refine lv_aload_n hx hb dX10_go_0 rfl (lv_at hl 0 rfl) ?_
  refine lv_iconst (v := 0) hx hb dX10_go_1 (by decide) ?_
  refine ti_putI (ci := 10) (k := 0) (N := 67) (T := TX10) C hw iw_10 tyX10 tyX10_ok nmX10 rfl ob_60 (by decide) (by decide) fl_X10_154 rfl rfl rfl rfl (fn_10 A _) fs_10_0 dX10_go_2 (fun H locs hw => ?_)
  obtain ⟨M, h0⟩ : ∃ z : ti_M, z = uI M 60 0 0 := ⟨_, rfl⟩
  have hw := hw.to h0.symm
  have hI : mI Tm M := mI_uI hI h0 (by decide) (by decide) trivial
  have hF : mF Tm M := mF_qw hF hI (qw_I h0 (by decide))
  have ir0 := iR_0 h0
  have e2r := tI_nE (k2 := 2) (o2 := 60) h0 (nk (by decide))
  have e51r := tI_nE (k2 := 51) (o2 := 60) h0 (nk (by decide))
  have lwr : lw M _ := fun _ _ _ => tY_uIE h0
  have hk := kR_0 hk h0
  obtain ⟨htr, hr, hV, hu, hp0, htw⟩ := id hk
  have t4 : tx 4 = (tY M 60 3 0).toInt := htr.1.1
  have w83 := wF_8 hwf
  have q3r : rg 3 = (tY M 60 38 0).toInt := hr.1.2.1
  have hu1 := hu.1
  have q2r : rg 2 = (tY M 60 34 0).toInt := hr.1.1
  have m34 : 0 ≤ (tY M 60 34 0).toInt ∧ (tY M 60 34 0).toInt ≤ 120 := mI_ry (k := 34) (i := 0) hI rfl (by decide)
  have m52 : 0 ≤ (tI M 60 52).toInt := (hI.1 52).1
  refine lv_iload_n hx hb dX10_go_5 rfl (lv_at hl 1 rfl) ?_
  refine sb_if_lt (tgt := 23) hx hb rfl dX10_go_6 (by decide) (fun c_6_0 => ?_) (fun c_6_0 => ?_)
  · refine lv_iconst (v := (-1)) hx hb dX10_go_23 (by decide) ?_
    exact hQ _ _ _ _ _ _ hw rfl (⟨Or.inl ⟨by omega, by decide, hk⟩, (iR_eR eR.refl).trans ir0, hF, (rfl).trans e2r, lw_t (fun _ _ _ => rfl) lwr⟩) dX10_go_24
  · refine lv_iload_n hx hb dX10_go_9 rfl (lv_at hl 1 rfl) ?_
    refine lv_bipush (v := 120) hx hb dX10_go_10 (by decide) ?_
    refine sb_icmp_gt (tgt := 23) hx hb rfl (by decide : (120 : Int32).toInt = 120) dX10_go_12 (by decide) (fun c_12_1 => ?_) (fun c_12_1 => ?_)
    · refine lv_iconst (v := (-1)) hx hb dX10_go_23 (by decide) ?_
      exact hQ _ _ _ _ _ _ hw rfl (⟨Or.inl ⟨by omega, by decide, hk⟩, (iR_eR eR.refl).trans ir0, hF, (rfl).trans e2r, lw_t (fun _ _ _ => rfl) lwr⟩) dX10_go_24
    · refine lv_iload_n hx hb dX10_go_15 rfl (lv_at hl 1 rfl) ?_
      refine lv_aload_n hx hb dX10_go_16 rfl (lv_at hl 0 rfl) ?_
      refine ti_callVi (ci := 10) (av := []) C hw (s_X10_minutesLeft l D A cy hJ M hI ) ⟨ml_X10_430, ym_X10_minutesLeft, yv_X10_minutesLeft, yi_X10_minutesLeft, yc_X10_minutesLeft⟩ yd_X10_minutesLeft ob_60 (by decide) rfl rfl hl.1 (Nat.le_of_ble_eq_true rfl) ⟨by decide, by decide⟩ ⟨Nat.zero_le _, Nat.zero_le _⟩ dX10_go_17 (fun r_3 M_4 H locs hp_4 hw => ?_)
      obtain ⟨hm, b0r_3, b1r_3, p0r_3⟩ := hp_4
      have hw := hw.to hm
      refine sb_icmp_le (tgt := 25) hx hb rfl rfl dX10_go_20 (by decide) (fun c_20_4 => ?_) (fun c_20_4 => ?_)
      · refine lv_iload_n hx hb dX10_go_25 rfl (lv_at hl 1 rfl) ?_
        have hl_36_31 : ∀ (n_32 : Nat) (x_10 : Int32) (M_13 : ti_M) (g_18 : Nat → Int) (p_20 : Nat → Int) (H : Heap) (locs : List Loc) (ls : Array Slot), (120 - x_10.toInt : Int).toNat < n_32 → (0 ≤ x_10.toInt) → (x_10.toInt ≤ 120) → (mI Tm M_13) → (mF Tm M_13) → (tI M_13 60 2 = tI M 60 2) → (lw M_13 M) → (eG M_13 M) → (qR (tx 4).toNat 0 g_18 M_13) → (hR p_20 (g_18 2) M_13) → ((tY M_13 60 34 0).toInt + z1.toInt - x_10.toInt ≤ 120) → (x_10.toInt ≤ z1.toInt) → (bq_pl tx ((z1.toInt) - (x_10.toInt)).toNat g_18 = bq_pl tx z1.toInt.toNat rg) → (bq_gh tx ((z1.toInt) - (x_10.toInt)).toNat g_18 p_20 = bq_gh tx z1.toInt.toNat rg lp) → (wF tx g_18) → (qV (tx 4).toNat 0 g_18 M_13) → ((tI M_13 60 52).toInt = if 0 < z1.toInt then 0 else cu) → (g_18 2 = rg 2 + x_10.toInt) → (g_18 1 = 0) → (0 ≤ g_18 5) → ti_H ti_LM D A cy H0 M_13 H locs → lv_has ls 5 [(2, .int x_10), (0, .ref (A 60 0)), (1, .int z1)] → W p l e (ti_rm 7) s m args below meth c H locs 0 0 Q (F0 m 36 ls []) := by
          intro n_32
          induction n_32 with
          | zero => intro x_10 M_13 g_18 p_20 H locs ls hf_32; exact absurd hf_32 (Nat.not_lt_zero _)
          | succ n_32 ih_32 =>
            intro x_10 M_13 g_18 p_20 H locs ls hf_32 b_11 b_12 iM_13 f_14 f_15 f_16 f_17 hs_19 hp_21 j_22 j_23 j_24 j_25 j_26 j_27 j_28 j_29 j_30 j_31 hw hl
            refine lv_iload_n hx hb dX10_go_36 rfl (lv_at hl 0 rfl) ?_
            refine lv_iload_n hx hb dX10_go_37 rfl (lv_at hl 2 rfl) ?_
            refine sb_icmp_ge (tgt := 98) hx hb rfl rfl dX10_go_38 (by decide) (fun c_38_33 => ?_) (fun c_38_33 => ?_)
            · refine lv_aload_n hx hb dX10_go_98 rfl (lv_at hl 1 rfl) ?_
              refine ti_get (ci := 10) (k := 34) (N := 67) (T := TX10) (v := .ref (A 60 35)) C hw iw_10 rfl ob_60 (by decide) (by decide) fl_X10_69 rfl rfl dX10_go_99 ?_
              refine lv_iconst (v := 0) hx hb dX10_go_102 (by decide) ?_
              refine ti_iald (ci := 10) (k := 34) (n := 23) C hw ob_60 (by decide) (fun _ _ => rfl) (by unfold vp_in; decide) dX10_go_103 ?_
              refine lv_topi (fun x_81 ex_81 => ?_)
              have yx_81 : tY M_13 60 34 0 = x_81 := ((congrArg _ (by decide)).symm.trans ex_81.symm)
              have bx_81 : 0 ≤ x_81.toInt ∧ x_81.toInt ≤ 120 := mI_ry (k := 34) (i := 0) iM_13 yx_81.symm (by decide)
              have zx_81 : (tY M_13 60 34 0).toInt = x_81.toInt := by rw [yx_81]
              have L_82 : g_18 2 = x_81.toInt := (hs_19.1.1).trans (congrArg Int32.toInt (yx_81))
              have E_83 : bq_pl tx z1.toInt.toNat rg = g_18 := by rw [← j_24, show (z1.toInt - x_10.toInt).toNat = 0 by omega]; rfl
              have E_84 : bq_gh tx z1.toInt.toNat rg lp = p_20 := by rw [← j_25, show (z1.toInt - x_10.toInt).toNat = 0 by omega]; rfl
              exact hQ _ _ _ _ _ _ hw rfl (⟨Or.inr ⟨by omega, by omega, by rw [E_83, E_84]; exact kR_go ht4 hk f_17 hs_19 j_27 hp_21 j_28 (by split <;> omega)⟩, (iR_eG f_17).trans ir0, f_14, ((f_15)).trans e2r, lw_t f_16 lwr⟩) dX10_go_104
            · refine lv_aload_n hx hb dX10_go_41 rfl (lv_at hl 1 rfl) ?_
              refine ti_get (ci := 10) (k := 34) (N := 67) (T := TX10) (v := .ref (A 60 35)) C hw iw_10 rfl ob_60 (by decide) (by decide) fl_X10_69 rfl rfl dX10_go_42 ?_
              refine lv_iconst (v := 0) hx hb dX10_go_45 (by decide) ?_
              refine ti_iald (ci := 10) (k := 34) (n := 23) C hw ob_60 (by decide) (fun _ _ => rfl) (by unfold vp_in; decide) dX10_go_46 ?_
              refine lv_topi (fun x_35 ex_35 => ?_)
              have yx_35 : tY M_13 60 34 0 = x_35 := ((congrArg _ (by decide)).symm.trans ex_35.symm)
              have bx_35 : 0 ≤ x_35.toInt ∧ x_35.toInt ≤ 120 := mI_ry (k := 34) (i := 0) iM_13 yx_35.symm (by decide)
              have zx_35 : (tY M_13 60 34 0).toInt = x_35.toInt := by rw [yx_35]
              have L_36 : g_18 2 = x_35.toInt := (hs_19.1.1).trans (congrArg Int32.toInt (yx_35))
              refine lv_istore_n (lv' := [(3, .int x_35), (2, .int x_10), (0, .ref (A 60 0)), (1, .int z1)]) hx hb dX10_go_47 rfl hl (by decide) rfl (fun ls hl => ?_)
              refine lv_aload_n hx hb dX10_go_48 rfl (lv_at hl 2 rfl) ?_
              refine lv_iconst (v := 0) hx hb dX10_go_49 (by decide) ?_
              refine lv_iconst (v := 1) hx hb dX10_go_50 (by decide) ?_
              refine ti_callVv (ci := 10) (av := [.int 0, .int 1]) C hw (z_X10_passes_0 l D A cy hJ M_13 iM_13 f_14.2.2.1.1 f_14.2.1 1 (by first | omega | decide | (have l0 : (0 : Int32).toInt = 0 := (by decide); have l2 : (2 : Int32).toInt = 2 := (by decide); have l3 : (3 : Int32).toInt = 3 := (by decide); omega)) tx g_18 (tR_lw htr (eG_lw f_17)) ht4 hs_19 j_27 j_26 ((f_17.1 53 (by decide) (by decide)).trans htw) htW (by omega) (by decide) (by omega)) ⟨ml_X10_407, ym_X10_passes, yv_X10_passes, yi_X10_passes, yc_X10_passes⟩ yd_X10_passes ob_60 (by decide) rfl rfl hl.1 (Nat.le_of_ble_eq_true rfl) ⟨by decide, by decide⟩ ⟨Nat.zero_le _, Nat.zero_le _⟩ dX10_go_51 (fun M_38 H locs hp_38 hw => ?_)
              obtain ⟨erM_38, hrM_38, qvM_38, hqM_38⟩ := hp_38
              obtain ⟨iM_38, q_39, q_40, p0r_37⟩ := hqM_38
              obtain ⟨g_41, eg_41⟩ : ∃ z : Nat → Int, z = bq_ps tx g_18 := ⟨_, rfl⟩
              rw [← eg_41] at hrM_38
              have w1g_41 : g_41 1 = g_18 1 := by rw [eg_41]; exact ps_1
              have w2g_41 : g_41 2 = g_18 2 + 1 := by rw [eg_41, ps_2, bw_id (by omega) (by omega)]
              have w5g_41 : 0 ≤ g_41 5 := by rw [eg_41]; exact ps_5 (by omega)
              have wpg_41 : wF tx g_41 := by rw [eg_41]; exact wF_ps htW j_26
              rw [← eg_41] at qvM_38
              have wqg_41 := (wpg_41).2.2.2.2.2.2.2
              have hp_42 : hR p_20 (g_18 2) M_38 := fun a b x y z => by rw [erM_38.2 50 _ (fun b => by have := b.2.1; omega)]; exact hp_21 a b x y z
              have mfM_38 : mF Tm M_38 := mF_rq (q := 0) f_14 iM_38 q_39 (fun _ => q_40) (by decide)
              refine lv_iconst (v := 0) hx hb dX10_go_54 (by decide) ?_
              refine lv_istore (lv' := [(4, .int 0), (3, .int x_35), (2, .int x_10), (0, .ref (A 60 0)), (1, .int z1)]) hx hb dX10_go_55 hl (by decide) rfl (fun ls hl => ?_)
              refine lv_iload hx hb dX10_go_57 (lv_at hl 0 rfl) ?_
              refine lv_iconst (v := 3) hx hb dX10_go_59 (by decide) ?_
              refine sb_icmp_ge (tgt := 92) hx hb (by decide : (0 : Int32).toInt = 0) (by decide : (3 : Int32).toInt = 3) dX10_go_60 (by decide) (fun h => absurd h (by decide)) (fun c_60_42 => ?_)
              refine lv_aload_n hx hb dX10_go_63 rfl (lv_at hl 3 rfl) ?_
              refine ti_get (ci := 10) (k := 50) (N := 67) (T := TX10) (v := .ref (A 60 51)) C hw iw_10 rfl ob_60 (by decide) (by decide) fl_X10_117 rfl rfl dX10_go_64 ?_
              refine lv_iconst (v := 3) hx hb dX10_go_67 (by decide) ?_
              refine lv_iload_n hx hb dX10_go_68 rfl (lv_at hl 1 rfl) ?_
              refine lv_imul hx hb dX10_go_69 ?_
              refine lv_topi (fun x_44 ex_44 => ?_)
              have tx_44 : x_44.toInt = 3 * x_35.toInt := i_mul ex_44 (by decide : (3 : Int32).toInt = 3) rfl (by omega) (by omega)
              refine lv_iload hx hb dX10_go_70 (lv_at hl 0 rfl) ?_
              refine lv_iadd hx hb dX10_go_72 ?_
              refine lv_topi (fun x_45 ex_45 => ?_)
              have tx_45 : x_45.toInt = x_44.toInt + 0 := i_add ex_45 rfl (by decide : (0 : Int32).toInt = 0) (by omega) (by omega)
              refine lv_aload_n hx hb dX10_go_73 rfl (lv_at hl 3 rfl) ?_
              refine lv_iconst (v := 0) hx hb dX10_go_74 (by decide) ?_
              refine lv_aload_n hx hb dX10_go_75 rfl (lv_at hl 3 rfl) ?_
              refine ti_get (ci := 10) (k := 49) (N := 67) (T := TX10) (v := .ref (A 60 50)) C hw iw_10 rfl ob_60 (by decide) (by decide) fl_X10_114 rfl rfl dX10_go_76 ?_
              refine lv_iload hx hb dX10_go_79 (lv_at hl 0 rfl) ?_
              refine ti_iald (ci := 10) (k := 49) (n := 69) C hw ob_60 (by decide) (fun _ _ => rfl) (by unfold vp_in; decide) dX10_go_81 ?_
              refine lv_topi (fun x_46 ex_46 => ?_)
              have yx_46 : tY M_38 60 49 0 = x_46 := ((congrArg _ (by decide)).symm.trans ex_46.symm)
              have bx_46 : 0 ≤ x_46.toInt ∧ x_46.toInt ≤ 7 := mI_ry (k := 49) (i := 0) iM_38 yx_46.symm
              have L_47 : g_41 112 = x_46.toInt := (hrM_38.2.2.1 (0) (by omega)).trans (congrArg Int32.toInt (yx_46))
              refine ti_callVi (ci := 10) (av := [.int 0, .int x_46]) C hw (z_X10_standsAt_0 l D A cy hJ M_38 iM_38 x_46 (by first | omega | decide) (by first | omega | decide) tx g_41 (tR_lw htr (eG_lw (eG.trans (eG_eR erM_38) f_17))) ht4 hrM_38) ⟨ml_X10_417, ym_X10_standsAt, yv_X10_standsAt, yi_X10_standsAt, yc_X10_standsAt⟩ yd_X10_standsAt ob_60 (by decide) rfl rfl hl.1 (Nat.le_of_ble_eq_true rfl) ⟨by decide, by decide⟩ ⟨Nat.zero_le _, Nat.zero_le _⟩ dX10_go_82 (fun r_48 M_49 H locs hp_49 hw => ?_)
              obtain ⟨hm, b0r_48, b1r_48, psr_48⟩ := hp_49
              have hw := hw.to hm
              refine ti_iast (ci := 10) (k := 50) (n := 720) C hw ob_60 (by decide) (fun _ _ => rfl) (vp_in_iff.mpr (by omega)) dX10_go_85 (fun H locs hw => ?_)
              obtain ⟨M_50, hM_50⟩ : ∃ z : ti_M, z = uY M_38 60 50 (upd (tY M_38 60 50) (x_45 : Int32).toNatClampNeg r_48) := ⟨_, rfl⟩
              have hw := hw.to hM_50.symm
              have iM_50 : mI Tm M_50 := mI_up (i := x_45.toNatClampNeg) iM_38 hM_50 trivial
              have hs_51 : qR (tx 4).toNat 0 g_41 M_50 := qR_rows hrM_38 (fun k i b => cg (tY_nE hM_50 (nk (by have := b.2.1; omega))) i) (by omega)
              have qv_52 : qV (tx 4).toNat 0 g_41 M_50 := qV_rows qvM_38 (fun k i b => cg (tY_nE hM_50 (nk (by have := b.2.1; omega))) i) (by omega)
              have eg_53 : eG M_50 M_38 := eG_Y hM_50 (by omega) (by omega)
              refine lv_iinc (v := 1) (lv' := [(4, .int 1), (3, .int x_35), (2, .int x_10), (0, .ref (A 60 0)), (1, .int z1)]) hx hb dX10_go_86 hl (k := 0) rfl (by decide) (by decide) rfl (fun ls hl => ?_)
              refine lv_goto (tgt := 57) hx hb dX10_go_89 (by decide) ?_
              refine lv_iload hx hb dX10_go_57 (lv_at hl 0 rfl) ?_
              refine lv_iconst (v := 3) hx hb dX10_go_59 (by decide) ?_
              refine sb_icmp_ge (tgt := 92) hx hb (by decide : (1 : Int32).toInt = 1) (by decide : (3 : Int32).toInt = 3) dX10_go_60 (by decide) (fun h => absurd h (by decide)) (fun c_60_53 => ?_)
              refine lv_aload_n hx hb dX10_go_63 rfl (lv_at hl 3 rfl) ?_
              refine ti_get (ci := 10) (k := 50) (N := 67) (T := TX10) (v := .ref (A 60 51)) C hw iw_10 rfl ob_60 (by decide) (by decide) fl_X10_117 rfl rfl dX10_go_64 ?_
              refine lv_iconst (v := 3) hx hb dX10_go_67 (by decide) ?_
              refine lv_iload_n hx hb dX10_go_68 rfl (lv_at hl 1 rfl) ?_
              refine lv_imul hx hb dX10_go_69 ?_
              refine lv_topi (fun x_55 ex_55 => ?_)
              have tx_55 : x_55.toInt = 3 * x_35.toInt := i_mul ex_55 (by decide : (3 : Int32).toInt = 3) rfl (by omega) (by omega)
              refine lv_iload hx hb dX10_go_70 (lv_at hl 0 rfl) ?_
              refine lv_iadd hx hb dX10_go_72 ?_
              refine lv_topi (fun x_56 ex_56 => ?_)
              have tx_56 : x_56.toInt = x_55.toInt + 1 := i_add ex_56 rfl (by decide : (1 : Int32).toInt = 1) (by omega) (by omega)
              refine lv_aload_n hx hb dX10_go_73 rfl (lv_at hl 3 rfl) ?_
              refine lv_iconst (v := 0) hx hb dX10_go_74 (by decide) ?_
              refine lv_aload_n hx hb dX10_go_75 rfl (lv_at hl 3 rfl) ?_
              refine ti_get (ci := 10) (k := 49) (N := 67) (T := TX10) (v := .ref (A 60 50)) C hw iw_10 rfl ob_60 (by decide) (by decide) fl_X10_114 rfl rfl dX10_go_76 ?_
              refine lv_iload hx hb dX10_go_79 (lv_at hl 0 rfl) ?_
              refine ti_iald (ci := 10) (k := 49) (n := 69) C hw ob_60 (by decide) (fun _ _ => rfl) (by unfold vp_in; decide) dX10_go_81 ?_
              refine lv_topi (fun x_57 ex_57 => ?_)
              have yx_57 : tY M_50 60 49 1 = x_57 := ((congrArg _ (by decide)).symm.trans ex_57.symm)
              have bx_57 : 0 ≤ x_57.toInt ∧ x_57.toInt ≤ 7 := mI_ry (k := 49) (i := 1) iM_50 yx_57.symm
              have wx_57 : tY M_38 60 49 1 = x_57 := ((cg (tY_nE hM_50 (nk (by decide))) 1)).symm.trans yx_57
              have L_58 : g_41 113 = x_57.toInt := (hs_51.2.2.1 (1) (by omega)).trans (congrArg Int32.toInt ((cg (tY_nE hM_50 (nk (by decide))) 1).trans wx_57))
              refine ti_callVi (ci := 10) (av := [.int 0, .int x_57]) C hw (z_X10_standsAt_0 l D A cy hJ M_50 iM_50 x_57 (by first | omega | decide) (by first | omega | decide) tx g_41 (tR_lw htr (eG_lw (eG.trans eg_53 (eG.trans (eG_eR erM_38) f_17)))) ht4 hs_51) ⟨ml_X10_417, ym_X10_standsAt, yv_X10_standsAt, yi_X10_standsAt, yc_X10_standsAt⟩ yd_X10_standsAt ob_60 (by decide) rfl rfl hl.1 (Nat.le_of_ble_eq_true rfl) ⟨by decide, by decide⟩ ⟨Nat.zero_le _, Nat.zero_le _⟩ dX10_go_82 (fun r_59 M_60 H locs hp_60 hw => ?_)
              obtain ⟨hm, b0r_59, b1r_59, psr_59⟩ := hp_60
              have hw := hw.to hm
              refine ti_iast (ci := 10) (k := 50) (n := 720) C hw ob_60 (by decide) (fun _ _ => rfl) (vp_in_iff.mpr (by omega)) dX10_go_85 (fun H locs hw => ?_)
              obtain ⟨M_61, hM_61⟩ : ∃ z : ti_M, z = uY M_50 60 50 (upd (tY M_50 60 50) (x_56 : Int32).toNatClampNeg r_59) := ⟨_, rfl⟩
              have hw := hw.to hM_61.symm
              have iM_61 : mI Tm M_61 := mI_up (i := x_56.toNatClampNeg) iM_50 hM_61 trivial
              have hs_62 : qR (tx 4).toNat 0 g_41 M_61 := qR_rows hs_51 (fun k i b => cg (tY_nE hM_61 (nk (by have := b.2.1; omega))) i) (by omega)
              have qv_63 : qV (tx 4).toNat 0 g_41 M_61 := qV_rows qv_52 (fun k i b => cg (tY_nE hM_61 (nk (by have := b.2.1; omega))) i) (by omega)
              have eg_64 : eG M_61 M_50 := eG_Y hM_61 (by omega) (by omega)
              refine lv_iinc (v := 2) (lv' := [(4, .int 2), (3, .int x_35), (2, .int x_10), (0, .ref (A 60 0)), (1, .int z1)]) hx hb dX10_go_86 hl (k := 0) rfl (by decide) (by decide) rfl (fun ls hl => ?_)
              refine lv_goto (tgt := 57) hx hb dX10_go_89 (by decide) ?_
              refine lv_iload hx hb dX10_go_57 (lv_at hl 0 rfl) ?_
              refine lv_iconst (v := 3) hx hb dX10_go_59 (by decide) ?_
              refine sb_icmp_ge (tgt := 92) hx hb (by decide : (2 : Int32).toInt = 2) (by decide : (3 : Int32).toInt = 3) dX10_go_60 (by decide) (fun h => absurd h (by decide)) (fun c_60_64 => ?_)
              refine lv_aload_n hx hb dX10_go_63 rfl (lv_at hl 3 rfl) ?_
              refine ti_get (ci := 10) (k := 50) (N := 67) (T := TX10) (v := .ref (A 60 51)) C hw iw_10 rfl ob_60 (by decide) (by decide) fl_X10_117 rfl rfl dX10_go_64 ?_
              refine lv_iconst (v := 3) hx hb dX10_go_67 (by decide) ?_
              refine lv_iload_n hx hb dX10_go_68 rfl (lv_at hl 1 rfl) ?_
              refine lv_imul hx hb dX10_go_69 ?_
              refine lv_topi (fun x_66 ex_66 => ?_)
              have tx_66 : x_66.toInt = 3 * x_35.toInt := i_mul ex_66 (by decide : (3 : Int32).toInt = 3) rfl (by omega) (by omega)
              refine lv_iload hx hb dX10_go_70 (lv_at hl 0 rfl) ?_
              refine lv_iadd hx hb dX10_go_72 ?_
              refine lv_topi (fun x_67 ex_67 => ?_)
              have tx_67 : x_67.toInt = x_66.toInt + 2 := i_add ex_67 rfl (by decide : (2 : Int32).toInt = 2) (by omega) (by omega)
              refine lv_aload_n hx hb dX10_go_73 rfl (lv_at hl 3 rfl) ?_
              refine lv_iconst (v := 0) hx hb dX10_go_74 (by decide) ?_
              refine lv_aload_n hx hb dX10_go_75 rfl (lv_at hl 3 rfl) ?_
              refine ti_get (ci := 10) (k := 49) (N := 67) (T := TX10) (v := .ref (A 60 50)) C hw iw_10 rfl ob_60 (by decide) (by decide) fl_X10_114 rfl rfl dX10_go_76 ?_
              refine lv_iload hx hb dX10_go_79 (lv_at hl 0 rfl) ?_
              refine ti_iald (ci := 10) (k := 49) (n := 69) C hw ob_60 (by decide) (fun _ _ => rfl) (by unfold vp_in; decide) dX10_go_81 ?_
              refine lv_topi (fun x_68 ex_68 => ?_)
              have yx_68 : tY M_61 60 49 2 = x_68 := ((congrArg _ (by decide)).symm.trans ex_68.symm)
              have bx_68 : 0 ≤ x_68.toInt ∧ x_68.toInt ≤ 7 := mI_ry (k := 49) (i := 2) iM_61 yx_68.symm
              have wx_68 : tY M_38 60 49 2 = x_68 := (((cg (tY_nE hM_61 (nk (by decide))) 2).trans (cg (tY_nE hM_50 (nk (by decide))) 2))).symm.trans yx_68
              have L_69 : g_41 114 = x_68.toInt := (hs_62.2.2.1 (2) (by omega)).trans (congrArg Int32.toInt ((cg (tY_nE hM_61 (nk (by decide))) 2).trans ((cg (tY_nE hM_50 (nk (by decide))) 2).trans wx_68)))
              refine ti_callVi (ci := 10) (av := [.int 0, .int x_68]) C hw (z_X10_standsAt_0 l D A cy hJ M_61 iM_61 x_68 (by first | omega | decide) (by first | omega | decide) tx g_41 (tR_lw htr (eG_lw (eG.trans eg_64 (eG.trans eg_53 (eG.trans (eG_eR erM_38) f_17))))) ht4 hs_62) ⟨ml_X10_417, ym_X10_standsAt, yv_X10_standsAt, yi_X10_standsAt, yc_X10_standsAt⟩ yd_X10_standsAt ob_60 (by decide) rfl rfl hl.1 (Nat.le_of_ble_eq_true rfl) ⟨by decide, by decide⟩ ⟨Nat.zero_le _, Nat.zero_le _⟩ dX10_go_82 (fun r_70 M_71 H locs hp_71 hw => ?_)
              obtain ⟨hm, b0r_70, b1r_70, psr_70⟩ := hp_71
              have hw := hw.to hm
              refine ti_iast (ci := 10) (k := 50) (n := 720) C hw ob_60 (by decide) (fun _ _ => rfl) (vp_in_iff.mpr (by omega)) dX10_go_85 (fun H locs hw => ?_)
              obtain ⟨M_72, hM_72⟩ : ∃ z : ti_M, z = uY M_61 60 50 (upd (tY M_61 60 50) (x_67 : Int32).toNatClampNeg r_70) := ⟨_, rfl⟩
              have hw := hw.to hM_72.symm
              have iM_72 : mI Tm M_72 := mI_up (i := x_67.toNatClampNeg) iM_61 hM_72 trivial
              have hs_73 : qR (tx 4).toNat 0 g_41 M_72 := qR_rows hs_62 (fun k i b => cg (tY_nE hM_72 (nk (by have := b.2.1; omega))) i) (by omega)
              have qv_74 : qV (tx 4).toNat 0 g_41 M_72 := qV_rows qv_63 (fun k i b => cg (tY_nE hM_72 (nk (by have := b.2.1; omega))) i) (by omega)
              have eg_75 : eG M_72 M_61 := eG_Y hM_72 (by omega) (by omega)
              refine lv_iinc (v := 3) (lv' := [(4, .int 3), (3, .int x_35), (2, .int x_10), (0, .ref (A 60 0)), (1, .int z1)]) hx hb dX10_go_86 hl (k := 0) rfl (by decide) (by decide) rfl (fun ls hl => ?_)
              refine lv_goto (tgt := 57) hx hb dX10_go_89 (by decide) ?_
              refine lv_iload hx hb dX10_go_57 (lv_at hl 0 rfl) ?_
              refine lv_iconst (v := 3) hx hb dX10_go_59 (by decide) ?_
              refine sb_icmp_ge (tgt := 92) hx hb (by decide : (3 : Int32).toInt = 3) (by decide : (3 : Int32).toInt = 3) dX10_go_60 (by decide) (fun c_60_75 => ?_) (fun h => absurd h (by decide))
              obtain ⟨x_77, ex_77⟩ : ∃ z : Int32, z = x_10 + 1 := ⟨_, rfl⟩
              have tx_77 : x_77.toInt = x_10.toInt + 1 := i_add ex_77 rfl (by decide) (by omega) (by omega)
              refine lv_iinc (v := x_77) (lv' := [(2, .int x_77), (4, .int 3), (3, .int x_35), (0, .ref (A 60 0)), (1, .int z1)]) hx hb dX10_go_92 hl (k := 2) rfl (by rw [ex_77]; rfl) (by decide) rfl (fun ls hl => ?_)
              refine lv_goto (tgt := 36) hx hb dX10_go_95 (by decide) ?_
              have lk_78 : (tY M_72 60 34 0).toInt = (tY M_38 60 34 0).toInt := by rw [((cg (tY_nE hM_72 (nk (by decide))) 0).trans ((cg (tY_nE hM_61 (nk (by decide))) 0).trans (cg (tY_nE hM_50 (nk (by decide))) 0)))]
              obtain ⟨p_79, ep_79⟩ : ∃ z : Nat → Int, z = bq_hp g_41 (g_18 2).toNat p_20 := ⟨_, rfl⟩
              have hp_80 : hR p_79 (g_41 2) M_72 := by rw [ep_79, w2g_41]; exact hR_st (s := g_41) hp_42 (by omega) (by omega) hM_50 hM_61 hM_72 (by omega) (by omega) (by omega) (by rw [L_47]; exact psr_48) (by rw [L_58]; exact psr_59) (by rw [L_69]; exact psr_70)
              exact ih_32 x_77 M_72 g_41 p_79 _ _ _ (by omega) (by first | omega | decide) (by first | omega | decide) iM_72 (mF_qw mfM_38 iM_72 (qw.trans (qw_Y hM_72 (by decide)) (qw.trans (qw_Y hM_61 (by decide)) (qw_Y hM_50 (by decide))))) ((tI_uYE hM_72).trans ((tI_uYE hM_61).trans ((tI_uYE hM_50).trans ((erM_38.1 2 (by decide)).trans f_15)))) (lw_t (fun k a b => tY_nE hM_72 (nk (by omega))) (lw_t (fun k a b => tY_nE hM_61 (nk (by omega))) (lw_t (fun k a b => tY_nE hM_50 (nk (by omega))) (lw_t q_39.1 f_16)))) (eG.trans eg_75 (eG.trans eg_64 (eG.trans eg_53 (eG.trans (eG_eR erM_38) f_17)))) hs_73 hp_80 (by first | omega | decide) (by first | omega | decide) (by rw [← j_24, pl_go (tx := tx) (s := g_18) (f := (z1.toInt - x_10.toInt).toNat) (f' := (z1.toInt - x_77.toInt).toNat) (by omega), ← eg_41]) (by rw [← j_25, gh_go (tx := tx) (s := g_18) (p := p_20) (f := (z1.toInt - x_10.toInt).toNat) (f' := (z1.toInt - x_77.toInt).toNat) (by omega), ← eg_41, ← ep_79]) wpg_41 qv_74 (by rw [(((tI_uYE hM_72).trans ((tI_uYE hM_61).trans ((tI_uYE hM_50).trans (erM_38.1 52 (by decide))))))]; exact j_28) (by first | omega | decide) (by first | omega | decide) (by first | omega | decide) hw (lv_sub hl [0, 3, 4] rfl)
        refine sb_if_le (tgt := 34) hx hb rfl dX10_go_26 (by decide) (fun c_26_5 => ?_) (fun c_26_5 => ?_)
        · refine lv_iconst (v := 0) hx hb dX10_go_34 (by decide) ?_
          refine lv_istore_n (lv' := [(2, .int 0), (0, .ref (A 60 0)), (1, .int z1)]) hx hb dX10_go_35 rfl hl (by decide) rfl (fun ls hl => ?_)
          exact hl_36_31 ((120 - 0 : Int).toNat + 1) 0 M rg lp _ _ _ (Nat.lt_succ_self _) (by have lt0 : (0 : Int32).toInt = 0 := (by decide); first | omega | decide) (by have lt0 : (0 : Int32).toInt = 0 := (by decide); first | omega | decide) hI hF rfl (fun _ _ _ => rfl) eG.refl hr hp0 (by have lt0 : (0 : Int32).toInt = 0 := (by decide); first | omega | decide) (by have lt0 : (0 : Int32).toInt = 0 := (by decide); first | omega | decide) (by rw [show (0 : Int32).toInt = 0 by decide, show z1.toInt - 0 = z1.toInt by omega]) (by rw [show (0 : Int32).toInt = 0 by decide, show z1.toInt - 0 = z1.toInt by omega]) hwf hV (by rw [if_neg (by omega), (rfl : tI M 60 52 = _)]; exact hu1) (by have lt0 : (0 : Int32).toInt = 0 := (by decide); first | omega | decide) (by have lt0 : (0 : Int32).toInt = 0 := (by decide); first | omega | decide) (by have lt0 : (0 : Int32).toInt = 0 := (by decide); first | omega | decide) hw (lv_sub hl [0, 1, 2] rfl)
        · refine lv_aload_n hx hb dX10_go_29 rfl (lv_at hl 0 rfl) ?_
          refine lv_iconst (v := 0) hx hb dX10_go_30 (by decide) ?_
          refine ti_putI (ci := 10) (k := 52) (N := 67) (T := TX10) C hw iw_10 tyX10 tyX10_ok nmX10 rfl ob_60 (by decide) (by decide) fl_X10_317 rfl rfl rfl rfl (fn_10 A _) fs_10_52 dX10_go_31 (fun H locs hw => ?_)
          obtain ⟨M_7, hM_7⟩ : ∃ z : ti_M, z = uI M 60 52 0 := ⟨_, rfl⟩
          have hw := hw.to hM_7.symm
          have iM_7 : mI Tm M_7 := mI_uI hI hM_7 (by decide) (by decide) (ib_mk (lo := 0) (hi := 20) (by decide) (by decide))
          have vM_7 : (tI M_7 60 52).toInt = 0 := by rw [tI_uE hM_7]; decide
          have hs_8 : qR (tx 4).toNat 0 rg M_7 := qR_I hr hM_7
          have hp_9 : hR lp (rg 2) M_7 := fun a b x y z => by rw [cg (tY_uIE hM_7) _]; exact hp0 a b x y z
          have u52 : 0 ≤ (tI M 60 52).toInt := (hI.1 52).1
          have mfM_7 : mF Tm M_7 := mF_52 hF iM_7 hM_7 (by have l0 : (0 : Int32).toInt = 0 := (by decide); omega)
          refine lv_iconst (v := 0) hx hb dX10_go_34 (by decide) ?_
          refine lv_istore_n (lv' := [(2, .int 0), (0, .ref (A 60 0)), (1, .int z1)]) hx hb dX10_go_35 rfl hl (by decide) rfl (fun ls hl => ?_)
          have lk_33 : (tY M_7 60 34 0).toInt = (tY M 60 34 0).toInt := by rw [(cg (tY_uIE hM_7) 0)]
          exact hl_36_31 ((120 - 0 : Int).toNat + 1) 0 M_7 rg lp _ _ _ (Nat.lt_succ_self _) (by have lt0 : (0 : Int32).toInt = 0 := (by decide); first | omega | decide) (by have lt0 : (0 : Int32).toInt = 0 := (by decide); first | omega | decide) iM_7 mfM_7 (tI_nE hM_7 (nk (by decide))) (fun k a b => tY_uIE hM_7) (eG_I hM_7 (by decide)) hs_8 hp_9 (by have lt0 : (0 : Int32).toInt = 0 := (by decide); first | omega | decide) (by have lt0 : (0 : Int32).toInt = 0 := (by decide); first | omega | decide) (by rw [show (0 : Int32).toInt = 0 by decide, show z1.toInt - 0 = z1.toInt by omega]) (by rw [show (0 : Int32).toInt = 0 by decide, show z1.toInt - 0 = z1.toInt by omega]) hwf (qV_rows hV (fun k i _ => cg (tY_fr ((ry_I hM_7) : M_7.2.1 = M.2.1)) i) (by omega)) (by rw [if_pos (by omega), ((tI_uE hM_7))]; decide) (by have lt0 : (0 : Int32).toInt = 0 := (by decide); first | omega | decide) (by have lt0 : (0 : Int32).toInt = 0 := (by decide); first | omega | decide) (by have lt0 : (0 : Int32).toInt = 0 := (by decide); first | omega | decide) hw (lv_sub hl [0, 1, 2] rfl)
      · refine lv_iconst (v := (-1)) hx hb dX10_go_23 (by decide) ?_
        exact hQ _ _ _ _ _ _ hw rfl (⟨Or.inl ⟨by omega, by decide, hk⟩, (iR_eR eR.refl).trans ir0, hF, (rfl).trans e2r, lw_t (fun _ _ _ => rfl) lwr⟩) dX10_go_24

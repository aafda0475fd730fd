variable {Tc : gC} {Tm : gM}
/-! what changes of the queue that is leave, between calls of the class -/
/-- all objects but the queues, the steps, the image keep ints and rows (the holders' log apart), and what is told stays -/
def kG (N M : ti_M) : Prop := (∀ o k : Nat, o < 27 ∨ 48 < o → tI N o k = tI M o k ∧ (¬ (o = 0 ∧ k = 4) → tY N o k = tY M o k)) ∧ tT N 0 1 = tT M 0 1 ∧ tT N 0 2 = tT M 0 2 ∧ tT N 49 0 = tT M 49 0
theorem kG.refl {M : ti_M} : kG M M := ⟨fun _ _ _ => ⟨rfl, fun _ => rfl⟩, rfl, rfl, rfl⟩
theorem kG.trans {K N M : ti_M} (x : kG K N) (y : kG N M) : kG K M := ⟨fun o k h => ⟨(x.1 o k h).1.trans (y.1 o k h).1, fun q => ((x.1 o k h).2 q).trans ((y.1 o k h).2 q)⟩, x.2.1.trans y.2.1, x.2.2.1.trans y.2.2.1, x.2.2.2.trans y.2.2.2⟩
/-- the holders' log of the class: 120 a power -/
def pC (p : Nat → Int) (M : ti_M) : Prop := ∀ i : Nat, i < 360 → p i = (tY M 0 4 i).toInt
/-- the ring: c entries, the eldest first -/
def rg5 (t : Nat) (u : Nat → Nat → Int) (c : Int) (M : ti_M) : Prop := (tI M 28 2).toInt = c ∧ ∀ i : Nat, (i : Int) < c → qC (29 + ((tI M 28 1).toInt.toNat + i) % 20) (u i) M ∧ tT M (29 + ((tI M 28 1).toInt.toNat + i) % 20) 0 = some t
/-- a state is remembered; the eldest of twenty goes -/
def bq_rb (u : Nat → Nat → Int) (c : Int) (s : Nat → Int) (i : Nat) : Nat → Int := if c < 20 then (if (i : Int) = c then s else u i) else (if i = 19 then s else u (i + 1))
def bq_rc (c : Int) : Int := if c < 20 then c + 1 else c
/-- the class between calls: what is told, the queue that is, the ring, the log -/
def kC (t : Nat) (tx s : Nat → Int) (u : Nat → Nat → Int) (c : Int) (p : Nat → Int) (M : ti_M) : Prop := tC t tx M ∧ tT M 0 1 = some t ∧ tT M 27 0 = some t ∧ qC 27 s M ∧ rg5 t u c M ∧ pC p M
section
variable {t : Nat} {tx s s2 p p2 : Nat → Int} {u : Nat → Nat → Int} {c : Int} {K N M : ti_M}
theorem kG_eo (E : eo 27 N M) (T : N.2.2.2 = M.2.2.2) : kG N M := ⟨fun o k h => ⟨E.1 o k (by omega), fun _ => E.2 o k (by omega)⟩, tT_fr T, tT_fr T, tT_fr T⟩
theorem fX_eo (E : eo 27 N M) : fX N M := fun k => ⟨E.1 0 k (by decide), E.1 2 k (by decide), E.1 28 k (by decide), fun o h => E.1 o k (by omega)⟩
theorem qC_same {q : Nat} (h : qC q s M) (e : ∀ k : Nat, tI N q k = tI M q k ∧ tY N q k = tY M q k) : qC q s N := ⟨fun k h1 h2 => by rw [(e k).1]; exact h.1 k h1 h2, fun k i h1 h2 hi h7 => by rw [(e k).2]; exact h.2 k i h1 h2 hi h7⟩
theorem rg5_to (h : rg5 t u c M) (e : ∀ o k : Nat, 28 ≤ o → o ≤ 48 → tI N o k = tI M o k ∧ tY N o k = tY M o k) (eT : ∀ o : Nat, 29 ≤ o → o ≤ 48 → tT N o 0 = tT M o 0) : rg5 t u c N := by
  refine ⟨by rw [(e 28 2 (by decide) (by decide)).1]; exact h.1, fun i hi => ?_⟩
  rw [(e 28 1 (by decide) (by decide)).1]
  have b : ((tI M 28 1).toInt.toNat + i) % 20 < 20 := Nat.mod_lt _ (by decide)
  exact ⟨qC_same (h.2 i hi).1 (fun k => e _ k (by omega) (by omega)), (eT _ (by omega) (by omega)).trans (h.2 i hi).2⟩
theorem pC_to (h : pC p M) (e : tY N 0 4 = tY M 0 4) : pC p N := fun i hi => by rw [e]; exact h i hi
theorem pC_Y {i v : Int32} {j : Nat} {z : Int} (h : pC p M) (hi : i.toInt = (j : Int)) (hv : v.toInt = z) (e : N = uY M 0 4 (upd (tY M 0 4) i.toNatClampNeg v)) : pC (pp_su p j z) N := by
  rw [i_cl hi] at e
  intro k hk
  rw [tY_uE e]
  by_cases r : k = j
  · subst r; rw [su_s, pk_us, hv]
  · rw [su_n r, pk_un r]; exact h k hk
theorem k27 {o ci : Nat} (hc : ti_cls o = ci) (h : ci = 1 ∨ ci = 2 ∨ ci = 8) : 1 ≤ o ∧ o < 27 := by
  unfold ti_cls at hc
  repeat' split at hc
  all_goals omega
theorem tC_lo (ht : t = 3 ∨ t = 4) (h : tC t tx M) (e : ∀ o k : Nat, 1 ≤ o → o < 27 → tI N o k = tI M o k ∧ tY N o k = tY M o k) : tC t tx N := by
  have e2 : ∀ i : Nat, i < 8 → 1 ≤ ti_men t i ∧ ti_men t i < 27 := fun i hi => k27 (ob_m ht hi).1 (by decide)
  have e3 : ∀ i : Nat, i < 3 → 1 ≤ ti_laws t i ∧ ti_laws t i < 27 := fun i hi => k27 (ob_l ht hi).1 (by decide)
  refine ⟨fun k h1 h2 => ?_, fun i hi => ?_, fun i k hi h1 h2 => ?_, fun j hj => ⟨?_, fun n hn => ?_⟩⟩
  · rw [(e t k (by omega) (by omega)).1]; exact h.1 k h1 h2
  · rw [(e t 1 (by omega) (by omega)).2]; exact h.2.1 i hi
  · rw [(e _ k (e2 i hi).1 (e2 i hi).2).1]; exact h.2.2.1 i k hi h1 h2
  · rw [(e _ 3 (e3 j hj).1 (e3 j hj).2).1]; exact (h.2.2.2 j hj).1
  · rw [(e _ 0 (e3 j hj).1 (e3 j hj).2).2]; exact (h.2.2.2 j hj).2 n hn
theorem tC_kG (ht : t = 3 ∨ t = 4) (h : tC t tx M) (e : kG N M) : tC t tx N := tC_lo ht h (fun o k a b => ⟨(e.1 o k (by omega)).1, (e.1 o k (by omega)).2 (by omega)⟩)
theorem kC_eo (ht : t = 3 ∨ t = 4) (h : kC t tx s u c p M) (E : eo 27 N M) (T : N.2.2.2 = M.2.2.2) (hq : qC 27 s2 N) : kC t tx s2 u c p N :=
  ⟨tC_eo ht ob_27.1 h.1 E, (tT_fr T).trans h.2.1, (tT_fr T).trans h.2.2.1, hq, rg5_to h.2.2.2.2.1 (fun o k a b => ⟨E.1 o k (by omega), E.2 o k (by omega)⟩) (fun _ _ _ => tT_fr T), pC_to h.2.2.2.2.2 (E.2 0 4 (by decide))⟩
/-- a state remembered -/
theorem kC_rem {i kk : Nat} {f n f2 n2 v : Int32} (ht : t = 3 ∨ t = 4) (h : kC t tx s u c p M) (E : eo (29 + i) K M) (eT : N.2.2.2 = (uT M (29 + i) 0 (some t)).2.2.2) (eN : N = uI K 28 kk v) (hf : tI M 28 1 = f) (hn : tI M 28 2 = n) (b1 : 0 ≤ f.toInt) (b2 : f.toInt ≤ 19) (b3 : 0 ≤ n.toInt) (b4 : n.toInt ≤ 20) (hi : (i : Int) = (f.toInt + n.toInt) % 20) (hq : qC (29 + i) s K) (hf2 : tI N 28 1 = f2) (hn2 : tI N 28 2 = n2)
    (hh : (n.toInt < 20 ∧ f2.toInt = f.toInt ∧ n2.toInt = n.toInt + 1) ∨ (n.toInt = 20 ∧ n2.toInt = 20 ∧ f2.toInt = (f.toInt + 1) % 20)) : kG N M ∧ kC t tx s (bq_rb u c s) (bq_rc c) p N := by
  have hi20 : i < 20 := by omega
  have keep : ∀ o k : Nat, ¬ (k = 0 ∧ o = 29 + i) → tT N o k = tT M o k := fun o k q => (tT_fr eT).trans (tT_n _ _ _ _ q)
  have new : tT N (29 + i) 0 = some t := (tT_fr eT).trans (tT_u _ _ _ _)
  have hK : ∀ o k : Nat, o ≠ 28 → o ≠ 29 + i → tI N o k = tI M o k ∧ tY N o k = tY M o k := fun o k a b => ⟨(tI_nE eN (no a)).trans (E.1 o k b), (tY_uIE eN).trans (E.2 o k b)⟩
  have hG : kG N M := ⟨fun o k a => ⟨(hK o k (by omega) (by omega)).1, fun _ => (hK o k (by omega) (by omega)).2⟩, keep 0 1 (by omega), keep 0 2 (by omega), keep 49 0 (by omega)⟩
  have hq2 : qC (29 + i) s N := qC_same hq (fun k => ⟨tI_nE eN (no (by omega)), tY_uIE eN⟩)
  obtain ⟨h1, h2, h3, h4, ⟨h5, h6⟩, h7⟩ := h
  rw [hn] at h5
  rw [hf] at h6
  refine ⟨hG, tC_kG ht h1 hG, (keep 0 1 (by omega)).trans h2, (keep 27 0 (by omega)).trans h3, qC_same h4 (fun k => hK 27 k (by omega) (by omega)), ⟨?_, fun j hj => ?_⟩, pC_to h7 (hK 0 4 (by omega) (by omega)).2⟩
  · unfold bq_rc
    rw [hn2]
    rcases hh with ⟨a0, a1, a2⟩ | ⟨a0, a1, a2⟩ <;> split <;> omega
  · rw [hf2]
    unfold bq_rc at hj
    unfold bq_rb
    rcases hh with ⟨a0, a1, a2⟩ | ⟨a0, a1, a2⟩
    · rw [if_pos (by omega)] at hj
      rw [if_pos (by omega)]
      by_cases q : (j : Int) = c
      · rw [if_pos q, show (f2.toInt.toNat + j) % 20 = i by omega]
        exact ⟨hq2, new⟩
      · rw [if_neg q, show (f2.toInt.toNat + j) % 20 = (f.toInt.toNat + j) % 20 by omega]
        have x := h6 j (by omega)
        exact ⟨qC_same x.1 (fun k => hK _ k (by omega) (by omega)), (keep _ _ (by omega)).trans x.2⟩
    · rw [if_neg (by omega)] at hj
      rw [if_neg (by omega)]
      by_cases q : j = 19
      · rw [if_pos q, show (f2.toInt.toNat + j) % 20 = i by omega]
        exact ⟨hq2, new⟩
      · rw [if_neg q, show (f2.toInt.toNat + j) % 20 = (f.toInt.toNat + (j + 1)) % 20 by omega]
        have x := h6 (j + 1) (by omega)
        exact ⟨qC_same x.1 (fun k => hK _ k (by omega) (by omega)), (keep _ _ (by omega)).trans x.2⟩
/-- the latest entry of the ring -/
theorem kC_get {i : Nat} {f n : Int32} (h : kC t tx s u c p M) (hf : tI M 28 1 = f) (hn : tI M 28 2 = n) (b1 : 0 ≤ f.toInt) (b3 : 0 < n.toInt) (b4 : n.toInt ≤ 20) (hi : (i : Int) = (f.toInt + (n.toInt - 1)) % 20) : qC (29 + i) (u (c - 1).toNat) M ∧ tT M (29 + i) 0 = some t := by
  obtain ⟨-, -, -, -, ⟨h5, h6⟩, -⟩ := h
  rw [hn] at h5
  rw [hf] at h6
  have x := h6 (c - 1).toNat (by omega)
  rwa [show (f.toInt.toNat + (c - 1).toNat) % 20 = i by omega] at x
theorem kC_tb {n n2 : Int32} (ht : t = 3 ∨ t = 4) (h : kC t tx s u c p M) (eK : K = uI M 28 2 n2) (E : eo 27 N K) (eT : N.2.2.2 = (uT M 27 0 (some t)).2.2.2) (hn : tI M 28 2 = n) (b3 : 0 < n.toInt) (e2 : n2.toInt = n.toInt - 1) (hq : qC 27 s2 N) : kG N M ∧ kC t tx s2 u (c - 1) p N := by
  have keep : ∀ o k : Nat, ¬ (k = 0 ∧ o = 27) → tT N o k = tT M o k := fun o k q => (tT_fr eT).trans (tT_n _ _ _ _ q)
  have hK : ∀ o k : Nat, o ≠ 28 → o ≠ 27 → tI N o k = tI M o k ∧ tY N o k = tY M o k := fun o k a b => ⟨(E.1 o k b).trans (tI_nE eK (no a)), (E.2 o k b).trans (tY_uIE eK)⟩
  have hG : kG N M := ⟨fun o k a => ⟨(hK o k (by omega) (by omega)).1, fun _ => (hK o k (by omega) (by omega)).2⟩, keep 0 1 (by omega), keep 0 2 (by omega), keep 49 0 (by omega)⟩
  obtain ⟨h1, h2, h3, h4, ⟨h5, h6⟩, h7⟩ := h
  rw [hn] at h5
  have e1 : tI N 28 1 = tI M 28 1 := (E.1 28 1 (by decide)).trans (tI_nE eK (nk (by decide)))
  refine ⟨hG, tC_kG ht h1 hG, (keep 0 1 (by omega)).trans h2, (tT_fr eT).trans (tT_u _ _ _ _), hq, ⟨?_, fun j hj => ?_⟩, pC_to h7 (hK 0 4 (by omega) (by omega)).2⟩
  · rw [(E.1 28 2 (by decide)).trans (tI_uE eK)]; omega
  · rw [e1]
    have x := h6 j (by omega)
    exact ⟨qC_same x.1 (fun k => hK _ k (by omega) (by omega)), (keep _ _ (by omega)).trans x.2⟩
end
/-- holders written down for a minute -/
def bq_hp (s : Nat → Int) (mi : Nat) (p : Nat → Int) : Nat → Int := pp_su (pp_su (pp_su p mi (bq_ma s (s 112))) (120 + mi) (bq_ma s (s 113))) (240 + mi) (bq_ma s (s 114))
/-- holders written down while minutes go by -/
def bq_gh (tx : Nat → Int) : Nat → (Nat → Int) → (Nat → Int) → Nat → Int
  | 0, _, p => p
  | f + 1, s, p => bq_gh tx f (bq_ps tx s) (bq_hp (bq_ps tx s) (s 2).toNat p)
theorem gh_go {tx : Nat → Int} {f f' : Nat} {s p : Nat → Int} (e : f = f' + 1) : bq_gh tx f s p = bq_gh tx f' (bq_ps tx s) (bq_hp (bq_ps tx s) (s 2).toNat p) := by subst e; rfl
/-- coin given for a place -/
def bq_s1w (s : Nat → Int) (a b k : Int) : Nat → Int := pp_su (bq_ex s a b) (192 + a.toNat) (bw (bq_ex s a b (192 + a.toNat) - k))
def bq_sw (s : Nat → Int) (a b k : Int) : Nat → Int := pp_su (bq_s1w s a b k) (192 + b.toNat) (bw (bq_s1w s a b k (192 + b.toNat) + k))
set_option maxHeartbeats 4000000 in
set_option maxRecDepth 100000 in
theorem z_X5_remember (l : Launch) (D : va_G) (A : Nat → Nat → Nat) (cy : Nat → ClassId) (hJ : ti_inj ti_LT A) (M : ti_M) (hI : cI Tc M) (hF : cF Tc M) (t : Nat) (ht : t = 3 ∨ t = 4) (tx rg lp : Nat → Int) (ug : Nat → Nat → Int) (cu : Int) (hk : kC t tx rg ug cu lp M) : ti_Kv l yX5_remember cX5_remember 2 2 ti_LT D A cy M [.ref (A 28 0), .ref (A 27 0)] (fun M2 => cF Tc M2 ∧ kG M2 M ∧ kC t tx rg (bq_rb ug cu rg) (bq_rc cu) lp M2) := by
  refine ti_eV yp_X5_remember hJ ti_LT_nd (Nat.le_of_ble_eq_true rfl) ?_
  intro p e s m args below meth c Q H0 C hQ hw ls hl
  have hx := C.1
  have hb := C.2.1
  have hl : lv_has ls 2 [(0, .ref (A 28 0)), (1, .ref (A 27 0))] := hl
  obtain ⟨htx, hT1, hT, hs, hr, hp0⟩ := id hk
  have l4 : 0 ≤ tx 4 ∧ tx 4 ≤ 8 := by rw [htx.1 4 (by decide) (by decide)]; exact cI_rd (k := 4) hI (ob_t ht).1 rfl
  have h4 : tx 4 = (tI M t 4).toInt := htx.1 4 (by decide) (by decide)
  refine lv_aload_n hx hb dX5_remember_0 rfl (lv_at hl 0 rfl) ?_
  refine ti_get (ci := 5) (k := 0) (N := 3) (T := TX5) (v := .ref (A 28 1)) C hw iw_5 rfl ob_28 (by decide) (by decide) fl_X5_11 rfl rfl dX5_remember_1 ?_
  refine lv_aload_n hx hb dX5_remember_4 rfl (lv_at hl 0 rfl) ?_
  refine ti_get (ci := 5) (k := 1) (N := 3) (T := TX5) C hw iw_5 rfl ob_28 (by decide) (by decide) fl_X5_17 rfl rfl dX5_remember_5 ?_
  refine lv_topi (fun x_1 ex_1 => ?_)
  have bx_1 : 0 ≤ x_1.toInt ∧ x_1.toInt ≤ 19 := cI_rd hI ob_28.1 ex_1
  have ux_1 : (tI M 28 1).toInt = x_1.toInt := by rw [ex_1]
  refine lv_aload_n hx hb dX5_remember_8 rfl (lv_at hl 0 rfl) ?_
  refine ti_get (ci := 5) (k := 2) (N := 3) (T := TX5) C hw iw_5 rfl ob_28 (by decide) (by decide) fl_X5_21 rfl rfl dX5_remember_9 ?_
  refine lv_topi (fun x_2 ex_2 => ?_)
  have bx_2 : 0 ≤ x_2.toInt ∧ x_2.toInt ≤ 20 := cI_rd hI ob_28.1 ex_2
  have ux_2 : (tI M 28 2).toInt = x_2.toInt := by rw [ex_2]
  refine lv_iadd hx hb dX5_remember_12 ?_
  refine lv_topi (fun x_3 ex_3 => ?_)
  have tx_3 : x_3.toInt = x_1.toInt + x_2.toInt := i_add ex_3 rfl rfl (by omega) (by omega)
  refine lv_bipush (v := 20) hx hb dX5_remember_13 (by decide) ?_
  refine lv_irem hx hb dX5_remember_15 (by decide) ?_
  refine lv_topi (fun x_4 ex_4 => ?_)
  have bx_4 := i_rem ex_4 rfl (by decide : (20 : Int32).toInt = 20) (by omega) (by decide)
  refine ti_aald (ci := 5) (k := 0) (n := 20) (t0 := 6) (Cn := RX3) (gg := (fun i => 29 + i)) (j := x_4.toNatClampNeg) C hw ob_28 (by decide) (fun _ _ => rfl) rfl (vp_in_iff.mpr (by omega)) rfl dX5_remember_16 ?_
  have ob_5 : ti_ob ti_LT (29 + x_4.toNatClampNeg) 3 := ob_r (i_nt rfl (by omega) (by omega))
  refine lv_aload_n hx hb dX5_remember_17 rfl (lv_at hl 1 rfl) ?_
  refine ti_callVv (ci := 3) (av := [.ref (A 27 0)]) C hw (z_X3_copy l D A cy hJ M hI (29 + x_4.toNatClampNeg) 27 t ob_5 ob_27 ht (hT) (fun _ => Or.inl rfl) (by omega) rg hs) ⟨ml_X5_25, ym_X3_copy, yv_X3_copy, yi_X3_copy, yc_X3_copy⟩ yd_X3_copy ob_5 (by decide) rfl rfl hl.1 (Nat.le_of_ble_eq_true rfl) ⟨by decide, by decide⟩ ⟨Nat.zero_le _, Nat.zero_le _⟩ dX5_remember_18 (fun M_7 H locs hp_7 hw => ?_)
  obtain ⟨iM_7, q_8, q_9, hs_10⟩ := hp_7
  refine lv_aload_n hx hb dX5_remember_21 rfl (lv_at hl 0 rfl) ?_
  refine ti_get (ci := 5) (k := 2) (N := 3) (T := TX5) C hw iw_5 rfl ob_28 (by decide) (by decide) fl_X5_21 rfl rfl dX5_remember_22 ?_
  refine ti_top (y := x_2) (((q_9.1 28 2 (cls_ne ob_28.1 ob_5.1 (by decide)))).trans ex_2.symm) ?_
  have u_11 : (tI M_7 28 2).toInt = (x_2 : Int32).toInt := by rw [(((q_9.1 28 2 (cls_ne ob_28.1 ob_5.1 (by decide)))).trans ex_2.symm)]
  refine lv_bipush (v := 20) hx hb dX5_remember_25 (by decide) ?_
  refine sb_icmp_ge (tgt := 43) hx hb rfl (by decide : (20 : Int32).toInt = 20) dX5_remember_27 (by decide) (fun c_27_11 => ?_) (fun c_27_11 => ?_)
  · refine lv_aload_n hx hb dX5_remember_43 rfl (lv_at hl 0 rfl) ?_
    refine lv_aload_n hx hb dX5_remember_44 rfl (lv_at hl 0 rfl) ?_
    refine ti_get (ci := 5) (k := 1) (N := 3) (T := TX5) C hw iw_5 rfl ob_28 (by decide) (by decide) fl_X5_17 rfl rfl dX5_remember_45 ?_
    refine ti_top (y := x_1) (((q_9.1 28 1 (cls_ne ob_28.1 ob_5.1 (by decide)))).trans ex_1.symm) ?_
    have u_16 : (tI M_7 28 1).toInt = (x_1 : Int32).toInt := by rw [(((q_9.1 28 1 (cls_ne ob_28.1 ob_5.1 (by decide)))).trans ex_1.symm)]
    refine lv_iconst (v := 1) hx hb dX5_remember_48 (by decide) ?_
    refine lv_iadd hx hb dX5_remember_49 ?_
    refine lv_topi (fun x_17 ex_17 => ?_)
    have tx_17 : x_17.toInt = x_1.toInt + 1 := i_add ex_17 rfl (by decide : (1 : Int32).toInt = 1) (by omega) (by omega)
    refine lv_bipush (v := 20) hx hb dX5_remember_50 (by decide) ?_
    refine lv_irem hx hb dX5_remember_52 (by decide) ?_
    refine lv_topi (fun x_18 ex_18 => ?_)
    have bx_18 := i_rem ex_18 rfl (by decide : (20 : Int32).toInt = 20) (by omega) (by decide)
    refine ti_putI (ci := 5) (k := 1) (N := 3) (T := TX5) C hw iw_5 tyX5 tyX5_ok nmX5 rfl ob_28 (by decide) (by decide) fl_X5_17 rfl rfl rfl rfl (fn_5 A _) fs_5_1 dX5_remember_53 (fun H locs hw => ?_)
    obtain ⟨M_19, hM_19⟩ : ∃ z : ti_M, z = uI M_7 28 1 x_18 := ⟨_, rfl⟩
    have hw := hw.to hM_19.symm
    have iM_19 : cI Tc M_19 := cI_uI iM_7 hM_19 ob_28.1 (ib_mk (lo := 0) (hi := 19) (by omega) (by omega))
    have vM_19 : (tI M_19 28 1).toInt = (x_18 : Int32).toInt := by rw [tI_uE hM_19]
    exact hQ _ _ _ _ _ hw (⟨cF_rem hF iM_19 ht ((rf_I hM_19).trans q_8) (ex_1.symm) (ex_2.symm) (by omega) (by omega) (by omega) (by omega) (by show ((x_4.toInt.toNat : Nat) : Int) = _; omega) (fun k => (tI_nE hM_19 (no (by decide))).trans (q_9.1 0 k (by omega))) (tI_uE hM_19) ((tI_nE hM_19 (nk (by decide))).trans (((q_9.1 28 2 (cls_ne ob_28.1 ob_5.1 (by decide)))).trans ex_2.symm)) (Or.inr ⟨by omega, by omega, by omega⟩), kC_rem ht hk q_9 ((rf_I hM_19).trans q_8) hM_19 (ex_1.symm) (ex_2.symm) (by omega) (by omega) (by omega) (by omega) (by show ((x_4.toInt.toNat : Nat) : Int) = _; omega) hs_10 (tI_uE hM_19) ((tI_nE hM_19 (nk (by decide))).trans (((q_9.1 28 2 (cls_ne ob_28.1 ob_5.1 (by decide)))).trans ex_2.symm)) (Or.inr ⟨by omega, by omega, by omega⟩)⟩) dX5_remember_56
  · refine lv_aload_n hx hb dX5_remember_30 rfl (lv_at hl 0 rfl) ?_
    refine lv_dup hx hb dX5_remember_31 rfl ?_
    refine ti_get (ci := 5) (k := 2) (N := 3) (T := TX5) C hw iw_5 rfl ob_28 (by decide) (by decide) fl_X5_21 rfl rfl dX5_remember_32 ?_
    refine ti_top (y := x_2) (((q_9.1 28 2 (cls_ne ob_28.1 ob_5.1 (by decide)))).trans ex_2.symm) ?_
    have u_13 : (tI M_7 28 2).toInt = (x_2 : Int32).toInt := by rw [(((q_9.1 28 2 (cls_ne ob_28.1 ob_5.1 (by decide)))).trans ex_2.symm)]
    refine lv_iconst (v := 1) hx hb dX5_remember_35 (by decide) ?_
    refine lv_iadd hx hb dX5_remember_36 ?_
    refine lv_topi (fun x_14 ex_14 => ?_)
    have tx_14 : x_14.toInt = x_2.toInt + 1 := i_add ex_14 rfl (by decide : (1 : Int32).toInt = 1) (by omega) (by omega)
    refine ti_putI (ci := 5) (k := 2) (N := 3) (T := TX5) C hw iw_5 tyX5 tyX5_ok nmX5 rfl ob_28 (by decide) (by decide) fl_X5_21 rfl rfl rfl rfl (fn_5 A _) fs_5_2 dX5_remember_37 (fun H locs hw => ?_)
    obtain ⟨M_15, hM_15⟩ : ∃ z : ti_M, z = uI M_7 28 2 x_14 := ⟨_, rfl⟩
    have hw := hw.to hM_15.symm
    have iM_15 : cI Tc M_15 := cI_uI iM_7 hM_15 ob_28.1 (ib_mk (lo := 0) (hi := 20) (by omega) (by omega))
    have vM_15 : (tI M_15 28 2).toInt = (x_14 : Int32).toInt := by rw [tI_uE hM_15]
    refine lv_goto (tgt := 56) hx hb dX5_remember_40 (by decide) ?_
    exact hQ _ _ _ _ _ hw (⟨cF_rem hF iM_15 ht ((rf_I hM_15).trans q_8) (ex_1.symm) (ex_2.symm) (by omega) (by omega) (by omega) (by omega) (by show ((x_4.toInt.toNat : Nat) : Int) = _; omega) (fun k => (tI_nE hM_15 (no (by decide))).trans (q_9.1 0 k (by omega))) ((tI_nE hM_15 (nk (by decide))).trans (((q_9.1 28 1 (cls_ne ob_28.1 ob_5.1 (by decide)))).trans ex_1.symm)) (tI_uE hM_15) (Or.inl ⟨rfl, by omega⟩), kC_rem ht hk q_9 ((rf_I hM_15).trans q_8) hM_15 (ex_1.symm) (ex_2.symm) (by omega) (by omega) (by omega) (by omega) (by show ((x_4.toInt.toNat : Nat) : Int) = _; omega) hs_10 ((tI_nE hM_15 (nk (by decide))).trans (((q_9.1 28 1 (cls_ne ob_28.1 ob_5.1 (by decide)))).trans ex_1.symm)) (tI_uE hM_15) (Or.inl ⟨by omega, rfl, by omega⟩)⟩) dX5_remember_56
set_option maxHeartbeats 4000000 in
set_option maxRecDepth 100000 in
theorem z_X5_takeBack (l : Launch) (D : va_G) (A : Nat → Nat → Nat) (cy : Nat → ClassId) (hJ : ti_inj ti_LT A) (M : ti_M) (hI : cI Tc M) (hF : cF Tc M) (t : Nat) (ht : t = 3 ∨ t = 4) (tx rg lp : Nat → Int) (ug : Nat → Nat → Int) (cu : Int) (hk : kC t tx rg ug cu lp M) : ti_Ki l yX5_takeBack cX5_takeBack 2 (some .boolean) 2 ti_LT D A cy M [.ref (A 28 0), .ref (A 27 0)] (fun r M2 => (cu = 0 ∧ r = 0 ∧ M2 = M) ∨ (0 < cu ∧ r = 1 ∧ cF Tc M2 ∧ kG M2 M ∧ kC t tx (ug (cu - 1).toNat) ug (cu - 1) lp M2)) := by
  refine ti_eI yp_X5_takeBack hJ ti_LT_nd (Nat.le_of_ble_eq_true rfl) ?_
  intro p e s m args below meth c Q H0 C hQ hw ls hl
  have hx := C.1
  have hb := C.2.1
  have hl : lv_has ls 2 [(0, .ref (A 28 0)), (1, .ref (A 27 0))] := hl
  obtain ⟨htx, hT1, hT, hs, hr, hp0⟩ := id hk
  have l4 : 0 ≤ tx 4 ∧ tx 4 ≤ 8 := by rw [htx.1 4 (by decide) (by decide)]; exact cI_rd (k := 4) hI (ob_t ht).1 rfl
  have h4 : tx 4 = (tI M t 4).toInt := htx.1 4 (by decide) (by decide)
  have hc : (tI M 28 2).toInt = cu := hr.1
  refine lv_aload_n hx hb dX5_takeBack_0 rfl (lv_at hl 0 rfl) ?_
  refine ti_get (ci := 5) (k := 2) (N := 3) (T := TX5) C hw iw_5 rfl ob_28 (by decide) (by decide) fl_X5_21 rfl rfl dX5_takeBack_1 ?_
  refine lv_topi (fun x_1 ex_1 => ?_)
  have bx_1 : 0 ≤ x_1.toInt ∧ x_1.toInt ≤ 20 := cI_rd hI ob_28.1 ex_1
  have ux_1 : (tI M 28 2).toInt = x_1.toInt := by rw [ex_1]
  refine sb_if_ne (tgt := 9) hx hb rfl dX5_takeBack_4 (by decide) (fun c_4_1 => ?_) (fun c_4_1 => ?_)
  · refine lv_aload_n hx hb dX5_takeBack_9 rfl (lv_at hl 0 rfl) ?_
    refine lv_dup hx hb dX5_takeBack_10 rfl ?_
    refine ti_get (ci := 5) (k := 2) (N := 3) (T := TX5) C hw iw_5 rfl ob_28 (by decide) (by decide) fl_X5_21 rfl rfl dX5_takeBack_11 ?_
    refine ti_top (y := x_1) (ex_1.symm) ?_
    have u_3 : (tI M 28 2).toInt = (x_1 : Int32).toInt := by rw [(ex_1.symm)]
    refine lv_iconst (v := 1) hx hb dX5_takeBack_14 (by decide) ?_
    refine lv_isub hx hb dX5_takeBack_15 ?_
    refine lv_topi (fun x_4 ex_4 => ?_)
    have tx_4 : x_4.toInt = x_1.toInt - 1 := i_sub ex_4 rfl (by decide : (1 : Int32).toInt = 1) (by omega) (by omega)
    refine ti_putI (ci := 5) (k := 2) (N := 3) (T := TX5) C hw iw_5 tyX5 tyX5_ok nmX5 rfl ob_28 (by decide) (by decide) fl_X5_21 rfl rfl rfl rfl (fn_5 A _) fs_5_2 dX5_takeBack_16 (fun H locs hw => ?_)
    obtain ⟨M_5, hM_5⟩ : ∃ z : ti_M, z = uI M 28 2 x_4 := ⟨_, rfl⟩
    have hw := hw.to hM_5.symm
    have iM_5 : cI Tc M_5 := cI_uI hI hM_5 ob_28.1 (ib_mk (lo := 0) (hi := 20) (by omega) (by omega))
    have vM_5 : (tI M_5 28 2).toInt = (x_4 : Int32).toInt := by rw [tI_uE hM_5]
    refine lv_aload_n hx hb dX5_takeBack_19 rfl (lv_at hl 1 rfl) ?_
    refine lv_aload_n hx hb dX5_takeBack_20 rfl (lv_at hl 0 rfl) ?_
    refine ti_get (ci := 5) (k := 0) (N := 3) (T := TX5) (v := .ref (A 28 1)) C hw iw_5 rfl ob_28 (by decide) (by decide) fl_X5_11 rfl rfl dX5_takeBack_21 ?_
    refine lv_aload_n hx hb dX5_takeBack_24 rfl (lv_at hl 0 rfl) ?_
    refine ti_get (ci := 5) (k := 1) (N := 3) (T := TX5) C hw iw_5 rfl ob_28 (by decide) (by decide) fl_X5_17 rfl rfl dX5_takeBack_25 ?_
    refine lv_topi (fun x_6 ex_6 => ?_)
    have bx_6 : 0 ≤ x_6.toInt ∧ x_6.toInt ≤ 19 := cI_rd iM_5 ob_28.1 ex_6
    have ux_6 : (tI M_5 28 1).toInt = x_6.toInt := by rw [ex_6]
    refine lv_aload_n hx hb dX5_takeBack_28 rfl (lv_at hl 0 rfl) ?_
    refine ti_get (ci := 5) (k := 2) (N := 3) (T := TX5) C hw iw_5 rfl ob_28 (by decide) (by decide) fl_X5_21 rfl rfl dX5_takeBack_29 ?_
    refine ti_top (y := x_4) (tI_uE hM_5) ?_
    have u_7 : (tI M_5 28 2).toInt = (x_4 : Int32).toInt := by rw [(tI_uE hM_5)]
    refine lv_iadd hx hb dX5_takeBack_32 ?_
    refine lv_topi (fun x_8 ex_8 => ?_)
    have tx_8 : x_8.toInt = x_6.toInt + x_4.toInt := i_add ex_8 rfl rfl (by omega) (by omega)
    refine lv_bipush (v := 20) hx hb dX5_takeBack_33 (by decide) ?_
    refine lv_irem hx hb dX5_takeBack_35 (by decide) ?_
    refine lv_topi (fun x_9 ex_9 => ?_)
    have bx_9 := i_rem ex_9 rfl (by decide : (20 : Int32).toInt = 20) (by omega) (by decide)
    refine ti_aald (ci := 5) (k := 0) (n := 20) (t0 := 6) (Cn := RX3) (gg := (fun i => 29 + i)) (j := x_9.toNatClampNeg) C hw ob_28 (by decide) (fun _ _ => rfl) rfl (vp_in_iff.mpr (by omega)) rfl dX5_takeBack_36 ?_
    have ob_10 : ti_ob ti_LT (29 + x_9.toNatClampNeg) 3 := ob_r (i_nt rfl (by omega) (by omega))
    obtain ⟨hq9, hT9⟩ := kC_get (i := x_9.toNatClampNeg) hk (((tI_nE hM_5 (nk (by decide)))).symm.trans ex_6.symm) (ex_1.symm) (by omega) (by omega) (by omega) (by show ((x_9.toInt.toNat : Nat) : Int) = _; omega)
    refine ti_callVv (ci := 3) (av := [.ref (A (29 + x_9.toNatClampNeg) 0)]) C hw (z_X3_copy l D A cy hJ M_5 iM_5 27 (29 + x_9.toNatClampNeg) t ob_27 ob_10 ht ((tT_uIE hM_5).trans hT9) (fun _ => cPr (i_nt (x := x_9) rfl (by omega) (by omega))) (by omega) (ug (cu - 1).toNat) (qC_same hq9 (fun k => ⟨tI_nE hM_5 (no (by omega)), tY_uIE hM_5⟩))) ⟨ml_X5_25, ym_X3_copy, yv_X3_copy, yi_X3_copy, yc_X3_copy⟩ yd_X3_copy ob_27 (by decide) rfl rfl hl.1 (Nat.le_of_ble_eq_true rfl) ⟨by decide, by decide⟩ ⟨Nat.zero_le _, Nat.zero_le _⟩ dX5_takeBack_37 (fun M_12 H locs hp_12 hw => ?_)
    obtain ⟨iM_12, q_13, q_14, hs_15⟩ := hp_12
    refine lv_iconst (v := 1) hx hb dX5_takeBack_40 (by decide) ?_
    exact hQ _ _ _ _ _ _ hw rfl (Or.inr ⟨by omega, rfl, cF_back hF iM_12 ht (rf_TTc (q_13) (rf_I hM_5)) (ex_1.symm) (fun k => (q_14.1 0 k (by decide)).trans (tI_nE hM_5 (no (by decide)))) ((q_14.1 28 1 (by decide)).trans (tI_nE hM_5 (nk (by decide)))) (((q_14.1 28 2 (by decide))).trans (tI_uE hM_5)) (by omega) (by omega), kC_tb ht hk hM_5 q_14 (rf_TTc (q_13) (rf_I hM_5)) (ex_1.symm) (by omega) (by omega) hs_15⟩) dX5_takeBack_41
  · refine lv_iconst (v := 0) hx hb dX5_takeBack_7 (by decide) ?_
    exact hQ _ _ _ _ _ _ hw rfl (Or.inl ⟨by omega, rfl, rfl⟩) dX5_takeBack_8
set_option maxHeartbeats 4000000 in
set_option maxRecDepth 100000 in
theorem z_X9_isPower (l : Launch) (D : va_G) (A : Nat → Nat → Nat) (cy : Nat → ClassId) (hJ : ti_inj ti_LT A) (M : ti_M) (hI : cI Tc M)  (mn : Int32) : ti_Ki l yX9_isPower cX9_isPower 2 (some .boolean) 0 ti_LT D A cy M [.ref (A 0 0), .int mn] (fun r M2 => M2 = M ∧ ((r = 1 ∧ 0 ≤ mn.toInt ∧ mn.toInt ≤ 2) ∨ (r = 0 ∧ (mn.toInt < 0 ∨ 2 < mn.toInt)))) := by
  refine ti_eI yp_X9_isPower hJ ti_LT_nd (Nat.le_of_ble_eq_true rfl) ?_
  intro p e s m args below meth c Q H0 C hQ hw ls hl
  have hx := C.1
  have hb := C.2.1
  have hl : lv_has ls 2 [(0, .ref (A 0 0)), (1, .int mn)] := hl
  refine lv_iload_n hx hb dX9_isPower_0 rfl (lv_at hl 1 rfl) ?_
  refine sb_if_lt (tgt := 13) hx hb rfl dX9_isPower_1 (by decide) (fun c_1_0 => ?_) (fun c_1_0 => ?_)
  · refine lv_iconst (v := 0) hx hb dX9_isPower_13 (by decide) ?_
    exact hQ _ _ _ _ _ _ hw rfl (⟨rfl, Or.inr ⟨rfl, by omega⟩⟩) dX9_isPower_14
  · refine lv_iload_n hx hb dX9_isPower_4 rfl (lv_at hl 1 rfl) ?_
    refine lv_iconst (v := 3) hx hb dX9_isPower_5 (by decide) ?_
    refine sb_icmp_ge (tgt := 13) hx hb rfl (by decide : (3 : Int32).toInt = 3) dX9_isPower_6 (by decide) (fun c_6_1 => ?_) (fun c_6_1 => ?_)
    · refine lv_iconst (v := 0) hx hb dX9_isPower_13 (by decide) ?_
      exact hQ _ _ _ _ _ _ hw rfl (⟨rfl, Or.inr ⟨rfl, by omega⟩⟩) dX9_isPower_14
    · refine lv_iconst (v := 1) hx hb dX9_isPower_9 (by decide) ?_
      refine lv_goto (tgt := 14) hx hb dX9_isPower_10 (by decide) ?_
      exact hQ _ _ _ _ _ _ hw rfl (⟨rfl, Or.inl ⟨rfl, by omega, by omega⟩⟩) dX9_isPower_14
set_option maxHeartbeats 4000000 in
set_option maxRecDepth 100000 in
theorem z_X9_isToCome (l : Launch) (D : va_G) (A : Nat → Nat → Nat) (cy : Nat → ClassId) (hJ : ti_inj ti_LT A) (M : ti_M) (hI : cI Tc M)  (t : Nat) (ht : t = 3 ∨ t = 4) (tx rg lp : Nat → Int) (ug : Nat → Nat → Int) (cu : Int) (hk : kC t tx rg ug cu lp M) (mn : Int32) : ti_Ki l yX9_isToCome cX9_isToCome 2 (some .boolean) 1 ti_LT D A cy M [.ref (A 0 0), .int mn] (fun r M2 => M2 = M ∧ ((r = 1 ∧ 0 ≤ mn.toInt ∧ mn.toInt < tx 4 ∧ rg (128 + mn.toInt.toNat) = 0) ∨ (r = 0 ∧ ¬ (0 ≤ mn.toInt ∧ mn.toInt < tx 4 ∧ rg (128 + mn.toInt.toNat) = 0)))) := by
  refine ti_eI yp_X9_isToCome hJ ti_LT_nd (Nat.le_of_ble_eq_true rfl) ?_
  intro p e s m args below meth c Q H0 C hQ hw ls hl
  have hx := C.1
  have hb := C.2.1
  have hl : lv_has ls 2 [(0, .ref (A 0 0)), (1, .int mn)] := hl
  obtain ⟨htx, hT1, hT, hs, hr, hp0⟩ := id hk
  have l4 : 0 ≤ tx 4 ∧ tx 4 ≤ 8 := by rw [htx.1 4 (by decide) (by decide)]; exact cI_rd (k := 4) hI (ob_t ht).1 rfl
  have h4 : tx 4 = (tI M t 4).toInt := htx.1 4 (by decide) (by decide)
  refine lv_aload_n hx hb dX9_isToCome_0 rfl (lv_at hl 0 rfl) ?_
  refine lv_iload_n hx hb dX9_isToCome_1 rfl (lv_at hl 1 rfl) ?_
  refine ti_callVi (ci := 9) (av := [.int mn]) C hw (x_X9_isMan l D A cy hJ M hI t ht (hT1) mn) ⟨ml_X9_104, ym_X9_isMan, yv_X9_isMan, yi_X9_isMan, yc_X9_isMan⟩ yd_X9_isMan ob_0 (by decide) rfl rfl hl.1 (Nat.le_of_ble_eq_true rfl) ⟨by decide, by decide⟩ ⟨Nat.zero_le _, Nat.zero_le _⟩ dX9_isToCome_2 (fun r_1 M_2 H locs hp_2 hw => ?_)
  obtain ⟨hm, hz⟩ := hp_2
  have hw := hw.to hm
  rcases hz with ⟨rfl, d0_3, d1_3⟩ | ⟨rfl, e_3⟩
  · refine sb_if_eq (tgt := 24) hx hb (by decide : (1 : Int32).toInt = 1) dX9_isToCome_5 (by decide) (fun h => absurd h (by decide)) (fun c_5_3 => ?_)
    refine lv_aload_n hx hb dX9_isToCome_8 rfl (lv_at hl 0 rfl) ?_
    refine ti_get (ci := 9) (k := 3) (N := 10) (T := TX9) (v := .ref (A 27 0)) C hw iw_9 rfl ob_0 (by decide) (by decide) fl_X9_29 rfl rfl dX9_isToCome_9 ?_
    refine ti_get (ci := 3) (k := 8) (N := 17) (T := TX3) (v := .ref (A 27 9)) C hw iw_3 rfl ob_27 (by decide) (by decide) fl_X9_139 rfl rfl dX9_isToCome_12 ?_
    refine lv_iload_n hx hb dX9_isToCome_15 rfl (lv_at hl 1 rfl) ?_
    refine ti_iald (ci := 3) (k := 8) (n := 8) C hw ob_27 (by decide) (fun _ _ => rfl) (vp_in_iff.mpr (by omega)) dX9_isToCome_16 ?_
    refine lv_topi (fun x_6 ex_6 => ?_)
    have L_7 : rg (128 + mn.toInt.toNat) = x_6.toInt := qC_y (k := 8) hs rfl (by omega) (by omega) (by decide) (by decide) ex_6
    refine sb_if_ne (tgt := 24) hx hb rfl dX9_isToCome_17 (by decide) (fun c_17_7 => ?_) (fun c_17_7 => ?_)
    · refine lv_iconst (v := 0) hx hb dX9_isToCome_24 (by decide) ?_
      exact hQ _ _ _ _ _ _ hw rfl (⟨rfl, Or.inr ⟨rfl, by omega⟩⟩) dX9_isToCome_25
    · refine lv_iconst (v := 1) hx hb dX9_isToCome_20 (by decide) ?_
      refine lv_goto (tgt := 25) hx hb dX9_isToCome_21 (by decide) ?_
      exact hQ _ _ _ _ _ _ hw rfl (⟨rfl, Or.inl ⟨rfl, by omega, by omega, by omega⟩⟩) dX9_isToCome_25
  · refine sb_if_eq (tgt := 24) hx hb (by decide : (0 : Int32).toInt = 0) dX9_isToCome_5 (by decide) (fun c_5_4 => ?_) (fun h => absurd h (by decide))
    refine lv_iconst (v := 0) hx hb dX9_isToCome_24 (by decide) ?_
    exact hQ _ _ _ _ _ _ hw rfl (⟨rfl, Or.inr ⟨rfl, by omega⟩⟩) dX9_isToCome_25
set_option maxHeartbeats 4000000 in
set_option maxRecDepth 100000 in
theorem z_X9_isInQueue (l : Launch) (D : va_G) (A : Nat → Nat → Nat) (cy : Nat → ClassId) (hJ : ti_inj ti_LT A) (M : ti_M) (hI : cI Tc M)  (t : Nat) (ht : t = 3 ∨ t = 4) (tx rg lp : Nat → Int) (ug : Nat → Nat → Int) (cu : Int) (hk : kC t tx rg ug cu lp M) (mn : Int32) : ti_Ki l yX9_isInQueue cX9_isInQueue 2 (some .boolean) 1 ti_LT D A cy M [.ref (A 0 0), .int mn] (fun r M2 => M2 = M ∧ ((r = 1 ∧ 0 ≤ mn.toInt ∧ mn.toInt < tx 4 ∧ rg (128 + mn.toInt.toNat) = 1) ∨ (r = 0 ∧ ¬ (0 ≤ mn.toInt ∧ mn.toInt < tx 4 ∧ rg (128 + mn.toInt.toNat) = 1)))) := by
  refine ti_eI yp_X9_isInQueue hJ ti_LT_nd (Nat.le_of_ble_eq_true rfl) ?_
  intro p e s m args below meth c Q H0 C hQ hw ls hl
  have hx := C.1
  have hb := C.2.1
  have hl : lv_has ls 2 [(0, .ref (A 0 0)), (1, .int mn)] := hl
  obtain ⟨htx, hT1, hT, hs, hr, hp0⟩ := id hk
  have l4 : 0 ≤ tx 4 ∧ tx 4 ≤ 8 := by rw [htx.1 4 (by decide) (by decide)]; exact cI_rd (k := 4) hI (ob_t ht).1 rfl
  have h4 : tx 4 = (tI M t 4).toInt := htx.1 4 (by decide) (by decide)
  refine lv_aload_n hx hb dX9_isInQueue_0 rfl (lv_at hl 0 rfl) ?_
  refine lv_iload_n hx hb dX9_isInQueue_1 rfl (lv_at hl 1 rfl) ?_
  refine ti_callVi (ci := 9) (av := [.int mn]) C hw (x_X9_isMan l D A cy hJ M hI t ht (hT1) mn) ⟨ml_X9_104, ym_X9_isMan, yv_X9_isMan, yi_X9_isMan, yc_X9_isMan⟩ yd_X9_isMan ob_0 (by decide) rfl rfl hl.1 (Nat.le_of_ble_eq_true rfl) ⟨by decide, by decide⟩ ⟨Nat.zero_le _, Nat.zero_le _⟩ dX9_isInQueue_2 (fun r_1 M_2 H locs hp_2 hw => ?_)
  obtain ⟨hm, hz⟩ := hp_2
  have hw := hw.to hm
  rcases hz with ⟨rfl, d0_3, d1_3⟩ | ⟨rfl, e_3⟩
  · refine sb_if_eq (tgt := 25) hx hb (by decide : (1 : Int32).toInt = 1) dX9_isInQueue_5 (by decide) (fun h => absurd h (by decide)) (fun c_5_3 => ?_)
    refine lv_aload_n hx hb dX9_isInQueue_8 rfl (lv_at hl 0 rfl) ?_
    refine ti_get (ci := 9) (k := 3) (N := 10) (T := TX9) (v := .ref (A 27 0)) C hw iw_9 rfl ob_0 (by decide) (by decide) fl_X9_29 rfl rfl dX9_isInQueue_9 ?_
    refine ti_get (ci := 3) (k := 8) (N := 17) (T := TX3) (v := .ref (A 27 9)) C hw iw_3 rfl ob_27 (by decide) (by decide) fl_X9_139 rfl rfl dX9_isInQueue_12 ?_
    refine lv_iload_n hx hb dX9_isInQueue_15 rfl (lv_at hl 1 rfl) ?_
    refine ti_iald (ci := 3) (k := 8) (n := 8) C hw ob_27 (by decide) (fun _ _ => rfl) (vp_in_iff.mpr (by omega)) dX9_isInQueue_16 ?_
    refine lv_topi (fun x_6 ex_6 => ?_)
    have L_7 : rg (128 + mn.toInt.toNat) = x_6.toInt := qC_y (k := 8) hs rfl (by omega) (by omega) (by decide) (by decide) ex_6
    refine lv_iconst (v := 1) hx hb dX9_isInQueue_17 (by decide) ?_
    refine sb_icmp_ne (tgt := 25) hx hb rfl (by decide : (1 : Int32).toInt = 1) dX9_isInQueue_18 (by decide) (fun c_18_7 => ?_) (fun c_18_7 => ?_)
    · refine lv_iconst (v := 0) hx hb dX9_isInQueue_25 (by decide) ?_
      exact hQ _ _ _ _ _ _ hw rfl (⟨rfl, Or.inr ⟨rfl, by omega⟩⟩) dX9_isInQueue_26
    · refine lv_iconst (v := 1) hx hb dX9_isInQueue_21 (by decide) ?_
      refine lv_goto (tgt := 26) hx hb dX9_isInQueue_22 (by decide) ?_
      exact hQ _ _ _ _ _ _ hw rfl (⟨rfl, Or.inl ⟨rfl, by omega, by omega, by omega⟩⟩) dX9_isInQueue_26
  · refine sb_if_eq (tgt := 25) hx hb (by decide : (0 : Int32).toInt = 0) dX9_isInQueue_5 (by decide) (fun c_5_4 => ?_) (fun h => absurd h (by decide))
    refine lv_iconst (v := 0) hx hb dX9_isInQueue_25 (by decide) ?_
    exact hQ _ _ _ _ _ _ hw rfl (⟨rfl, Or.inr ⟨rfl, by omega⟩⟩) dX9_isInQueue_26
set_option maxHeartbeats 4000000 in
set_option maxRecDepth 100000 in
theorem z_X9_join (l : Launch) (D : va_G) (A : Nat → Nat → Nat) (cy : Nat → ClassId) (hJ : ti_inj ti_LT A) (M : ti_M) (hI : cI Tc M) (hF : cF Tc M) (t : Nat) (ht : t = 3 ∨ t = 4) (tx rg lp : Nat → Int) (ug : Nat → Nat → Int) (cu : Int) (hk : kC t tx rg ug cu lp M) (za : Int32) : ti_Ki l yX9_join cX9_join 2 (some .int) 3 ti_LT D A cy M [.ref (A 0 0), .int za] (fun r M2 => (¬ (0 ≤ za.toInt ∧ za.toInt < tx 4 ∧ rg (128 + za.toInt.toNat) = 0) ∧ r.toInt = -1 ∧ M2 = M) ∨ ((0 ≤ za.toInt ∧ za.toInt < tx 4 ∧ rg (128 + za.toInt.toNat) = 0) ∧ r.toInt = bq_po (bq_ap rg za.toInt) za.toInt 0 ∧ cF Tc M2 ∧ kG M2 M ∧ kC t tx (bq_ap rg za.toInt) (bq_rb ug cu rg) (bq_rc cu) lp M2)) := by
  refine ti_eI yp_X9_join hJ ti_LT_nd (Nat.le_of_ble_eq_true rfl) ?_
  intro p e s m args below meth c Q H0 C hQ hw ls hl
  have hx := C.1
  have hb := C.2.1
  have hl : lv_has ls 2 [(0, .ref (A 0 0)), (1, .int za)] := hl
  obtain ⟨htx, hT1, hT, hs, hr, hp0⟩ := id hk
  have l4 : 0 ≤ tx 4 ∧ tx 4 ≤ 8 := by rw [htx.1 4 (by decide) (by decide)]; exact cI_rd (k := 4) hI (ob_t ht).1 rfl
  have h4 : tx 4 = (tI M t 4).toInt := htx.1 4 (by decide) (by decide)
  refine lv_aload_n hx hb dX9_join_0 rfl (lv_at hl 0 rfl) ?_
  refine lv_iload_n hx hb dX9_join_1 rfl (lv_at hl 1 rfl) ?_
  refine ti_callVi (ci := 9) (av := [.int za]) C hw (z_X9_isToCome l D A cy hJ M hI t ht tx rg lp ug cu hk za) ⟨ml_X9_195, ym_X9_isToCome, yv_X9_isToCome, yi_X9_isToCome, yc_X9_isToCome⟩ yd_X9_isToCome ob_0 (by decide) rfl rfl hl.1 (Nat.le_of_ble_eq_true rfl) ⟨by decide, by decide⟩ ⟨Nat.zero_le _, Nat.zero_le _⟩ dX9_join_2 (fun r_1 M_2 H locs hp_2 hw => ?_)
  obtain ⟨hm, hz⟩ := hp_2
  have hw := hw.to hm
  rcases hz with ⟨rfl, d0_3, d1_3, d2_3⟩ | ⟨rfl, e_3⟩
  · refine sb_if_ne (tgt := 10) hx hb (by decide : (1 : Int32).toInt = 1) dX9_join_5 (by decide) (fun c_5_3 => ?_) (fun h => absurd h (by decide))
    refine lv_aload_n hx hb dX9_join_10 rfl (lv_at hl 0 rfl) ?_
    refine ti_get (ci := 9) (k := 5) (N := 10) (T := TX9) (v := .ref (A 28 0)) C hw iw_9 rfl ob_0 (by decide) (by decide) fl_X9_40 rfl rfl dX9_join_11 ?_
    refine lv_aload_n hx hb dX9_join_14 rfl (lv_at hl 0 rfl) ?_
    refine ti_get (ci := 9) (k := 3) (N := 10) (T := TX9) (v := .ref (A 27 0)) C hw iw_9 rfl ob_0 (by decide) (by decide) fl_X9_29 rfl rfl dX9_join_15 ?_
    refine ti_callVv (ci := 5) (av := [.ref (A 27 0)]) C hw (z_X5_remember l D A cy hJ M hI hF t ht tx rg lp ug cu hk) ⟨ml_X9_198, ym_X5_remember, yv_X5_remember, yi_X5_remember, yc_X5_remember⟩ yd_X5_remember ob_28 (by decide) rfl rfl hl.1 (Nat.le_of_ble_eq_true rfl) ⟨by decide, by decide⟩ ⟨Nat.zero_le _, Nat.zero_le _⟩ dX9_join_18 (fun M_7 H locs hp_7 hw => ?_)
    obtain ⟨cf_8, kg_9, kc_10⟩ := hp_7
    obtain ⟨tx10, ta10, tb10, hs10, -, -⟩ := id kc_10
    refine lv_aload_n hx hb dX9_join_21 rfl (lv_at hl 0 rfl) ?_
    refine ti_get (ci := 9) (k := 3) (N := 10) (T := TX9) (v := .ref (A 27 0)) C hw iw_9 rfl ob_0 (by decide) (by decide) fl_X9_29 rfl rfl dX9_join_22 ?_
    refine lv_iload_n hx hb dX9_join_25 rfl (lv_at hl 1 rfl) ?_
    refine ti_callVv (ci := 3) (av := [.int za]) C hw (z_X3_append l D A cy hJ M_7 cf_8.1 27 ob_27 za (by omega) (by omega) rg hs10) ⟨ml_X9_202, ym_X3_append, yv_X3_append, yi_X3_append, yc_X3_append⟩ yd_X3_append ob_27 (by decide) rfl rfl hl.1 (Nat.le_of_ble_eq_true rfl) ⟨by decide, by decide⟩ ⟨Nat.zero_le _, Nat.zero_le _⟩ dX9_join_26 (fun M_12 H locs hp_12 hw => ?_)
    obtain ⟨iM_12, q_13, q_14, hs_15⟩ := hp_12
    obtain ⟨g_16, eg_16⟩ : ∃ z : Nat → Int, z = bq_ap rg za.toInt := ⟨_, rfl⟩
    rw [← eg_16] at hs_15
    refine lv_aload_n hx hb dX9_join_29 rfl (lv_at hl 0 rfl) ?_
    refine ti_get (ci := 9) (k := 3) (N := 10) (T := TX9) (v := .ref (A 27 0)) C hw iw_9 rfl ob_0 (by decide) (by decide) fl_X9_29 rfl rfl dX9_join_30 ?_
    refine lv_iload_n hx hb dX9_join_33 rfl (lv_at hl 1 rfl) ?_
    refine ti_callVi (ci := 3) (av := [.int za]) C hw (z_X3_placeOf l D A cy hJ M_12 iM_12 27 ob_27 za g_16 hs_15) ⟨ml_X9_136, ym_X3_placeOf, yv_X3_placeOf, yi_X3_placeOf, yc_X3_placeOf⟩ yd_X3_placeOf ob_27 (by decide) rfl rfl hl.1 (Nat.le_of_ble_eq_true rfl) ⟨by decide, by decide⟩ ⟨Nat.zero_le _, Nat.zero_le _⟩ dX9_join_34 (fun r_17 M_18 H locs hp_18 hw => ?_)
    obtain ⟨hm, b0r_17, b1r_17, pr_17⟩ := hp_18
    have hw := hw.to hm
    exact hQ _ _ _ _ _ _ hw rfl (Or.inr ⟨by omega, by rw [pr_17, eg_16], cF_fr cf_8 iM_12 (rs_of (q_13)) (fX_eo q_14), kG.trans (kG_eo q_14 (q_13)) kg_9, kC_eo ht kc_10 q_14 (q_13) (by rw [← eg_16]; exact hs_15)⟩) dX9_join_37
  · refine sb_if_ne (tgt := 10) hx hb (by decide : (0 : Int32).toInt = 0) dX9_join_5 (by decide) (fun h => absurd h (by decide)) (fun c_5_4 => ?_)
    refine lv_iconst (v := (-1)) hx hb dX9_join_8 (by decide) ?_
    exact hQ _ _ _ _ _ _ hw rfl (Or.inl ⟨by first | omega | (intro hz; omega), by first | omega | decide, rfl⟩) dX9_join_9
set_option maxHeartbeats 4000000 in
set_option maxRecDepth 100000 in
theorem z_X9_out (l : Launch) (D : va_G) (A : Nat → Nat → Nat) (cy : Nat → ClassId) (hJ : ti_inj ti_LT A) (M : ti_M) (hI : cI Tc M) (hF : cF Tc M) (t : Nat) (ht : t = 3 ∨ t = 4) (tx rg lp : Nat → Int) (ug : Nat → Nat → Int) (cu : Int) (hk : kC t tx rg ug cu lp M) (za : Int32) : ti_Ki l yX9_out cX9_out 2 (some .boolean) 3 ti_LT D A cy M [.ref (A 0 0), .int za] (fun r M2 => (¬ (0 ≤ za.toInt ∧ za.toInt < tx 4 ∧ rg (128 + za.toInt.toNat) = 1) ∧ r.toInt = 0 ∧ M2 = M) ∨ ((0 ≤ za.toInt ∧ za.toInt < tx 4 ∧ rg (128 + za.toInt.toNat) = 1) ∧ r.toInt = 1 ∧ cF Tc M2 ∧ kG M2 M ∧ kC t tx (bq_rm rg (bq_po rg za.toInt 0) 3) (bq_rb ug cu rg) (bq_rc cu) lp M2)) := by
  refine ti_eI yp_X9_out hJ ti_LT_nd (Nat.le_of_ble_eq_true rfl) ?_
  intro p e s m args below meth c Q H0 C hQ hw ls hl
  have hx := C.1
  have hb := C.2.1
  have hl : lv_has ls 2 [(0, .ref (A 0 0)), (1, .int za)] := hl
  obtain ⟨htx, hT1, hT, hs, hr, hp0⟩ := id hk
  have l4 : 0 ≤ tx 4 ∧ tx 4 ≤ 8 := by rw [htx.1 4 (by decide) (by decide)]; exact cI_rd (k := 4) hI (ob_t ht).1 rfl
  have h4 : tx 4 = (tI M t 4).toInt := htx.1 4 (by decide) (by decide)
  refine lv_aload_n hx hb dX9_out_0 rfl (lv_at hl 0 rfl) ?_
  refine lv_iload_n hx hb dX9_out_1 rfl (lv_at hl 1 rfl) ?_
  refine ti_callVi (ci := 9) (av := [.int za]) C hw (z_X9_isInQueue l D A cy hJ M hI t ht tx rg lp ug cu hk za) ⟨ml_X9_205, ym_X9_isInQueue, yv_X9_isInQueue, yi_X9_isInQueue, yc_X9_isInQueue⟩ yd_X9_isInQueue ob_0 (by decide) rfl rfl hl.1 (Nat.le_of_ble_eq_true rfl) ⟨by decide, by decide⟩ ⟨Nat.zero_le _, Nat.zero_le _⟩ dX9_out_2 (fun r_1 M_2 H locs hp_2 hw => ?_)
  obtain ⟨hm, hz⟩ := hp_2
  have hw := hw.to hm
  rcases hz with ⟨rfl, d0_3, d1_3, d2_3⟩ | ⟨rfl, e_3⟩
  · refine sb_if_ne (tgt := 10) hx hb (by decide : (1 : Int32).toInt = 1) dX9_out_5 (by decide) (fun c_5_3 => ?_) (fun h => absurd h (by decide))
    refine lv_aload_n hx hb dX9_out_10 rfl (lv_at hl 0 rfl) ?_
    refine ti_get (ci := 9) (k := 5) (N := 10) (T := TX9) (v := .ref (A 28 0)) C hw iw_9 rfl ob_0 (by decide) (by decide) fl_X9_40 rfl rfl dX9_out_11 ?_
    refine lv_aload_n hx hb dX9_out_14 rfl (lv_at hl 0 rfl) ?_
    refine ti_get (ci := 9) (k := 3) (N := 10) (T := TX9) (v := .ref (A 27 0)) C hw iw_9 rfl ob_0 (by decide) (by decide) fl_X9_29 rfl rfl dX9_out_15 ?_
    refine ti_callVv (ci := 5) (av := [.ref (A 27 0)]) C hw (z_X5_remember l D A cy hJ M hI hF t ht tx rg lp ug cu hk) ⟨ml_X9_198, ym_X5_remember, yv_X5_remember, yi_X5_remember, yc_X5_remember⟩ yd_X5_remember ob_28 (by decide) rfl rfl hl.1 (Nat.le_of_ble_eq_true rfl) ⟨by decide, by decide⟩ ⟨Nat.zero_le _, Nat.zero_le _⟩ dX9_out_18 (fun M_7 H locs hp_7 hw => ?_)
    obtain ⟨cf_8, kg_9, kc_10⟩ := hp_7
    obtain ⟨tx10, ta10, tb10, hs10, -, -⟩ := id kc_10
    refine lv_aload_n hx hb dX9_out_21 rfl (lv_at hl 0 rfl) ?_
    refine ti_get (ci := 9) (k := 3) (N := 10) (T := TX9) (v := .ref (A 27 0)) C hw iw_9 rfl ob_0 (by decide) (by decide) fl_X9_29 rfl rfl dX9_out_22 ?_
    refine lv_aload_n hx hb dX9_out_25 rfl (lv_at hl 0 rfl) ?_
    refine ti_get (ci := 9) (k := 3) (N := 10) (T := TX9) (v := .ref (A 27 0)) C hw iw_9 rfl ob_0 (by decide) (by decide) fl_X9_29 rfl rfl dX9_out_26 ?_
    refine lv_iload_n hx hb dX9_out_29 rfl (lv_at hl 1 rfl) ?_
    refine ti_callVi (ci := 3) (av := [.int za]) C hw (z_X3_placeOf l D A cy hJ M_7 cf_8.1 27 ob_27 za rg hs10) ⟨ml_X9_136, ym_X3_placeOf, yv_X3_placeOf, yi_X3_placeOf, yc_X3_placeOf⟩ yd_X3_placeOf ob_27 (by decide) rfl rfl hl.1 (Nat.le_of_ble_eq_true rfl) ⟨by decide, by decide⟩ ⟨Nat.zero_le _, Nat.zero_le _⟩ dX9_out_30 (fun r_11 M_12 H locs hp_12 hw => ?_)
    obtain ⟨hm, b0r_11, b1r_11, pr_11⟩ := hp_12
    have hw := hw.to hm
    refine lv_iconst (v := 3) hx hb dX9_out_33 (by decide) ?_
    refine ti_callVv (ci := 3) (av := [.int r_11, .int 3]) C hw (z_X3_remove l D A cy hJ M_7 cf_8.1 27 ob_27 r_11 3 rg hs10) ⟨ml_X9_208, ym_X3_remove, yv_X3_remove, yi_X3_remove, yc_X3_remove⟩ yd_X3_remove ob_27 (by decide) rfl rfl hl.1 (Nat.le_of_ble_eq_true rfl) ⟨by decide, by decide⟩ ⟨Nat.zero_le _, Nat.zero_le _⟩ dX9_out_34 (fun M_14 H locs hp_14 hw => ?_)
    obtain ⟨iM_14, q_15, q_16, hs_17⟩ := hp_14
    try simp only [show (3 : Int32).toInt = 3 by decide] at hs_17
    obtain ⟨g_18, eg_18⟩ : ∃ z : Nat → Int, z = bq_rm rg r_11.toInt 3 := ⟨_, rfl⟩
    rw [← eg_18] at hs_17
    refine lv_iconst (v := 1) hx hb dX9_out_37 (by decide) ?_
    exact hQ _ _ _ _ _ _ hw rfl (Or.inr ⟨by omega, by first | omega | decide, cF_fr cf_8 iM_14 (rs_of (q_15)) (fX_eo q_16), kG.trans (kG_eo q_16 (q_15)) kg_9, kC_eo ht kc_10 q_16 (q_15) (by rw [← pr_11, ← eg_18]; exact hs_17)⟩) dX9_out_38
  · refine sb_if_ne (tgt := 10) hx hb (by decide : (0 : Int32).toInt = 0) dX9_out_5 (by decide) (fun h => absurd h (by decide)) (fun c_5_4 => ?_)
    refine lv_iconst (v := 0) hx hb dX9_out_8 (by decide) ?_
    exact hQ _ _ _ _ _ _ hw rfl (Or.inl ⟨by first | omega | (intro hz; omega), by first | omega | decide, rfl⟩) dX9_out_9
set_option maxHeartbeats 4000000 in
set_option maxRecDepth 100000 in
theorem z_X9_swap (l : Launch) (D : va_G) (A : Nat → Nat → Nat) (cy : Nat → ClassId) (hJ : ti_inj ti_LT A) (M : ti_M) (hI : cI Tc M) (hF : cF Tc M) (t : Nat) (ht : t = 3 ∨ t = 4) (tx rg lp : Nat → Int) (ug : Nat → Nat → Int) (cu : Int) (hk : kC t tx rg ug cu lp M) (z1 : Int32) (z2 : Int32) (z3 : Int32) : ti_Ki l yX9_swap cX9_swap 4 (some .boolean) 3 ti_LT D A cy M [.ref (A 0 0), .int z1, .int z2, .int z3] (fun r M2 => (¬ ((0 ≤ z1.toInt ∧ z1.toInt < tx 4 ∧ rg (128 + z1.toInt.toNat) = 1) ∧ (0 ≤ z2.toInt ∧ z2.toInt < tx 4 ∧ rg (128 + z2.toInt.toNat) = 1) ∧ z1.toInt ≠ z2.toInt ∧ 0 ≤ z3.toInt ∧ z3.toInt ≤ 99 ∧ z3.toInt ≤ rg (192 + z1.toInt.toNat)) ∧ r.toInt = 0 ∧ M2 = M) ∨ (((0 ≤ z1.toInt ∧ z1.toInt < tx 4 ∧ rg (128 + z1.toInt.toNat) = 1) ∧ (0 ≤ z2.toInt ∧ z2.toInt < tx 4 ∧ rg (128 + z2.toInt.toNat) = 1) ∧ z1.toInt ≠ z2.toInt ∧ 0 ≤ z3.toInt ∧ z3.toInt ≤ 99 ∧ z3.toInt ≤ rg (192 + z1.toInt.toNat)) ∧ r.toInt = 1 ∧ cF Tc M2 ∧ kG M2 M ∧ kC t tx (bq_sw rg z1.toInt z2.toInt z3.toInt) (bq_rb ug cu rg) (bq_rc cu) lp M2)) := by
  refine ti_eI yp_X9_swap hJ ti_LT_nd (Nat.le_of_ble_eq_true rfl) ?_
  intro p e s m args below meth c Q H0 C hQ hw ls hl
  have hx := C.1
  have hb := C.2.1
  have hl : lv_has ls 4 [(0, .ref (A 0 0)), (1, .int z1), (2, .int z2), (3, .int z3)] := hl
  obtain ⟨htx, hT1, hT, hs, hr, hp0⟩ := id hk
  have l4 : 0 ≤ tx 4 ∧ tx 4 ≤ 8 := by rw [htx.1 4 (by decide) (by decide)]; exact cI_rd (k := 4) hI (ob_t ht).1 rfl
  have h4 : tx 4 = (tI M t 4).toInt := htx.1 4 (by decide) (by decide)
  refine lv_aload_n hx hb dX9_swap_0 rfl (lv_at hl 0 rfl) ?_
  refine lv_iload_n hx hb dX9_swap_1 rfl (lv_at hl 1 rfl) ?_
  refine ti_callVi (ci := 9) (av := [.int z1]) C hw (z_X9_isInQueue l D A cy hJ M hI t ht tx rg lp ug cu hk z1) ⟨ml_X9_205, ym_X9_isInQueue, yv_X9_isInQueue, yi_X9_isInQueue, yc_X9_isInQueue⟩ yd_X9_isInQueue ob_0 (by decide) rfl rfl hl.1 (Nat.le_of_ble_eq_true rfl) ⟨by decide, by decide⟩ ⟨Nat.zero_le _, Nat.zero_le _⟩ dX9_swap_2 (fun r_1 M_2 H locs hp_2 hw => ?_)
  obtain ⟨hm, hz⟩ := hp_2
  have hw := hw.to hm
  rcases hz with ⟨rfl, d0_3, d1_3, d2_3⟩ | ⟨rfl, e_3⟩
  · refine sb_if_eq (tgt := 21) hx hb (by decide : (1 : Int32).toInt = 1) dX9_swap_5 (by decide) (fun h => absurd h (by decide)) (fun c_5_3 => ?_)
    refine lv_aload_n hx hb dX9_swap_8 rfl (lv_at hl 0 rfl) ?_
    refine lv_iload_n hx hb dX9_swap_9 rfl (lv_at hl 2 rfl) ?_
    refine ti_callVi (ci := 9) (av := [.int z2]) C hw (z_X9_isInQueue l D A cy hJ M hI t ht tx rg lp ug cu hk z2) ⟨ml_X9_205, ym_X9_isInQueue, yv_X9_isInQueue, yi_X9_isInQueue, yc_X9_isInQueue⟩ yd_X9_isInQueue ob_0 (by decide) rfl rfl hl.1 (Nat.le_of_ble_eq_true rfl) ⟨by decide, by decide⟩ ⟨Nat.zero_le _, Nat.zero_le _⟩ dX9_swap_10 (fun r_6 M_7 H locs hp_7 hw => ?_)
    obtain ⟨hm, hz⟩ := hp_7
    have hw := hw.to hm
    rcases hz with ⟨rfl, d0_8, d1_8, d2_8⟩ | ⟨rfl, e_8⟩
    · refine sb_if_eq (tgt := 21) hx hb (by decide : (1 : Int32).toInt = 1) dX9_swap_13 (by decide) (fun h => absurd h (by decide)) (fun c_13_8 => ?_)
      refine lv_iload_n hx hb dX9_swap_16 rfl (lv_at hl 1 rfl) ?_
      refine lv_iload_n hx hb dX9_swap_17 rfl (lv_at hl 2 rfl) ?_
      refine sb_icmp_ne (tgt := 23) hx hb rfl rfl dX9_swap_18 (by decide) (fun c_18_10 => ?_) (fun c_18_10 => ?_)
      · refine lv_iload_n hx hb dX9_swap_23 rfl (lv_at hl 3 rfl) ?_
        refine sb_if_lt (tgt := 46) hx hb rfl dX9_swap_24 (by decide) (fun c_24_11 => ?_) (fun c_24_11 => ?_)
        · refine lv_iconst (v := 0) hx hb dX9_swap_46 (by decide) ?_
          exact hQ _ _ _ _ _ _ hw rfl (Or.inl ⟨by first | omega | (intro hz; omega), by first | omega | decide, rfl⟩) dX9_swap_47
        · refine lv_iload_n hx hb dX9_swap_27 rfl (lv_at hl 3 rfl) ?_
          refine lv_bipush (v := 99) hx hb dX9_swap_28 (by decide) ?_
          refine sb_icmp_gt (tgt := 46) hx hb rfl (by decide : (99 : Int32).toInt = 99) dX9_swap_30 (by decide) (fun c_30_12 => ?_) (fun c_30_12 => ?_)
          · refine lv_iconst (v := 0) hx hb dX9_swap_46 (by decide) ?_
            exact hQ _ _ _ _ _ _ hw rfl (Or.inl ⟨by first | omega | (intro hz; omega), by first | omega | decide, rfl⟩) dX9_swap_47
          · refine lv_iload_n hx hb dX9_swap_33 rfl (lv_at hl 3 rfl) ?_
            refine lv_aload_n hx hb dX9_swap_34 rfl (lv_at hl 0 rfl) ?_
            refine ti_get (ci := 9) (k := 3) (N := 10) (T := TX9) (v := .ref (A 27 0)) C hw iw_9 rfl ob_0 (by decide) (by decide) fl_X9_29 rfl rfl dX9_swap_35 ?_
            refine ti_get (ci := 3) (k := 12) (N := 17) (T := TX3) (v := .ref (A 27 13)) C hw iw_3 rfl ob_27 (by decide) (by decide) fl_X9_133 rfl rfl dX9_swap_38 ?_
            refine lv_iload_n hx hb dX9_swap_41 rfl (lv_at hl 1 rfl) ?_
            refine ti_iald (ci := 3) (k := 12) (n := 8) C hw ob_27 (by decide) (fun _ _ => rfl) (vp_in_iff.mpr (by omega)) dX9_swap_42 ?_
            refine lv_topi (fun x_14 ex_14 => ?_)
            have L_15 : rg (192 + z1.toInt.toNat) = x_14.toInt := qC_y (k := 12) hs rfl (by omega) (by omega) (by decide) (by decide) ex_14
            refine sb_icmp_le (tgt := 48) hx hb rfl rfl dX9_swap_43 (by decide) (fun c_43_15 => ?_) (fun c_43_15 => ?_)
            · refine lv_aload_n hx hb dX9_swap_48 rfl (lv_at hl 0 rfl) ?_
              refine ti_get (ci := 9) (k := 5) (N := 10) (T := TX9) (v := .ref (A 28 0)) C hw iw_9 rfl ob_0 (by decide) (by decide) fl_X9_40 rfl rfl dX9_swap_49 ?_
              refine lv_aload_n hx hb dX9_swap_52 rfl (lv_at hl 0 rfl) ?_
              refine ti_get (ci := 9) (k := 3) (N := 10) (T := TX9) (v := .ref (A 27 0)) C hw iw_9 rfl ob_0 (by decide) (by decide) fl_X9_29 rfl rfl dX9_swap_53 ?_
              refine ti_callVv (ci := 5) (av := [.ref (A 27 0)]) C hw (z_X5_remember l D A cy hJ M hI hF t ht tx rg lp ug cu hk) ⟨ml_X9_198, ym_X5_remember, yv_X5_remember, yi_X5_remember, yc_X5_remember⟩ yd_X5_remember ob_28 (by decide) rfl rfl hl.1 (Nat.le_of_ble_eq_true rfl) ⟨by decide, by decide⟩ ⟨Nat.zero_le _, Nat.zero_le _⟩ dX9_swap_56 (fun M_18 H locs hp_18 hw => ?_)
              obtain ⟨cf_19, kg_20, kc_21⟩ := hp_18
              obtain ⟨tx21, ta21, tb21, hs21, -, -⟩ := id kc_21
              refine lv_aload_n hx hb dX9_swap_59 rfl (lv_at hl 0 rfl) ?_
              refine ti_get (ci := 9) (k := 3) (N := 10) (T := TX9) (v := .ref (A 27 0)) C hw iw_9 rfl ob_0 (by decide) (by decide) fl_X9_29 rfl rfl dX9_swap_60 ?_
              refine lv_iload_n hx hb dX9_swap_63 rfl (lv_at hl 1 rfl) ?_
              refine lv_iload_n hx hb dX9_swap_64 rfl (lv_at hl 2 rfl) ?_
              refine ti_callVv (ci := 3) (av := [.int z1, .int z2]) C hw (z_X3_exchange l D A cy hJ M_18 cf_19.1 27 ob_27 z1 z2 (by omega) (by omega) (by omega) (by omega) rg hs21) ⟨ml_X9_212, ym_X3_exchange, yv_X3_exchange, yi_X3_exchange, yc_X3_exchange⟩ yd_X3_exchange ob_27 (by decide) rfl rfl hl.1 (Nat.le_of_ble_eq_true rfl) ⟨by decide, by decide⟩ ⟨Nat.zero_le _, Nat.zero_le _⟩ dX9_swap_65 (fun M_23 H locs hp_23 hw => ?_)
              obtain ⟨iM_23, q_24, q_25, hs_26⟩ := hp_23
              obtain ⟨g_27, eg_27⟩ : ∃ z : Nat → Int, z = bq_ex rg z1.toInt z2.toInt := ⟨_, rfl⟩
              rw [← eg_27] at hs_26
              refine lv_aload_n hx hb dX9_swap_68 rfl (lv_at hl 0 rfl) ?_
              refine ti_get (ci := 9) (k := 3) (N := 10) (T := TX9) (v := .ref (A 27 0)) C hw iw_9 rfl ob_0 (by decide) (by decide) fl_X9_29 rfl rfl dX9_swap_69 ?_
              refine ti_get (ci := 3) (k := 12) (N := 17) (T := TX3) (v := .ref (A 27 13)) C hw iw_3 rfl ob_27 (by decide) (by decide) fl_X9_133 rfl rfl dX9_swap_72 ?_
              refine lv_iload_n hx hb dX9_swap_75 rfl (lv_at hl 1 rfl) ?_
              refine lv_dup2_11 hx hb dX9_swap_76 rfl rfl ?_
              refine ti_iald (ci := 3) (k := 12) (n := 8) C hw ob_27 (by decide) (fun _ _ => rfl) (vp_in_iff.mpr (by omega)) dX9_swap_77 ?_
              refine lv_topi (fun x_28 ex_28 => ?_)
              have L_29 : g_27 (192 + z1.toInt.toNat) = x_28.toInt := qC_y (k := 12) hs_26 rfl (by omega) (by omega) (by decide) (by decide) ex_28
              refine lv_iload_n hx hb dX9_swap_78 rfl (lv_at hl 3 rfl) ?_
              refine lv_isub hx hb dX9_swap_79 ?_
              refine lv_topi (fun x_30 ex_30 => ?_)
              have tx_30 : x_30.toInt = bw (x_28.toInt - z3.toInt) := bw_sub ex_30 rfl rfl
              refine ti_iast (ci := 3) (k := 12) (n := 8) C hw ob_27 (by decide) (fun _ _ => rfl) (vp_in_iff.mpr (by omega)) dX9_swap_80 (fun H locs hw => ?_)
              obtain ⟨M_31, hM_31⟩ : ∃ z : ti_M, z = uY M_23 27 12 (upd (tY M_23 27 12) (z1 : Int32).toNatClampNeg x_30) := ⟨_, rfl⟩
              have hw := hw.to hM_31.symm
              have iM_31 : cI Tc M_31 := cI_up iM_23 hM_31 ob_27.1 trivial
              have hs_32 : qC 27 (pp_su g_27 (192 + z1.toInt.toNat) x_30.toInt) M_31 := qC_Y (k := 12) (j := z1.toInt.toNat) (i := z1) hs_26 (by omega) rfl hM_31 (by decide) (by omega)
              obtain ⟨g_33, eg_33⟩ : ∃ z : Nat → Int, z = pp_su g_27 (192 + z1.toInt.toNat) x_30.toInt := ⟨_, rfl⟩
              rw [← eg_33] at hs_32
              refine lv_aload_n hx hb dX9_swap_81 rfl (lv_at hl 0 rfl) ?_
              refine ti_get (ci := 9) (k := 3) (N := 10) (T := TX9) (v := .ref (A 27 0)) C hw iw_9 rfl ob_0 (by decide) (by decide) fl_X9_29 rfl rfl dX9_swap_82 ?_
              refine ti_get (ci := 3) (k := 12) (N := 17) (T := TX3) (v := .ref (A 27 13)) C hw iw_3 rfl ob_27 (by decide) (by decide) fl_X9_133 rfl rfl dX9_swap_85 ?_
              refine lv_iload_n hx hb dX9_swap_88 rfl (lv_at hl 2 rfl) ?_
              refine lv_dup2_11 hx hb dX9_swap_89 rfl rfl ?_
              refine ti_iald (ci := 3) (k := 12) (n := 8) C hw ob_27 (by decide) (fun _ _ => rfl) (vp_in_iff.mpr (by omega)) dX9_swap_90 ?_
              refine lv_topi (fun x_34 ex_34 => ?_)
              have L_35 : g_33 (192 + z2.toInt.toNat) = x_34.toInt := qC_y (k := 12) hs_32 rfl (by omega) (by omega) (by decide) (by decide) ex_34
              refine lv_iload_n hx hb dX9_swap_91 rfl (lv_at hl 3 rfl) ?_
              refine lv_iadd hx hb dX9_swap_92 ?_
              refine lv_topi (fun x_36 ex_36 => ?_)
              have tx_36 : x_36.toInt = bw (x_34.toInt + z3.toInt) := bw_add ex_36 rfl rfl
              refine ti_iast (ci := 3) (k := 12) (n := 8) C hw ob_27 (by decide) (fun _ _ => rfl) (vp_in_iff.mpr (by omega)) dX9_swap_93 (fun H locs hw => ?_)
              obtain ⟨M_37, hM_37⟩ : ∃ z : ti_M, z = uY M_31 27 12 (upd (tY M_31 27 12) (z2 : Int32).toNatClampNeg x_36) := ⟨_, rfl⟩
              have hw := hw.to hM_37.symm
              have iM_37 : cI Tc M_37 := cI_up iM_31 hM_37 ob_27.1 trivial
              have hs_38 : qC 27 (pp_su g_33 (192 + z2.toInt.toNat) x_36.toInt) M_37 := qC_Y (k := 12) (j := z2.toInt.toNat) (i := z2) hs_32 (by omega) rfl hM_37 (by decide) (by omega)
              obtain ⟨g_39, eg_39⟩ : ∃ z : Nat → Int, z = pp_su g_33 (192 + z2.toInt.toNat) x_36.toInt := ⟨_, rfl⟩
              rw [← eg_39] at hs_38
              refine lv_iconst (v := 1) hx hb dX9_swap_94 (by decide) ?_
              have E_40 : bq_sw rg z1.toInt z2.toInt z3.toInt = g_39 := by unfold bq_sw bq_s1w; rw [← eg_27, L_29, ← tx_30, ← eg_33, L_35, ← tx_36, ← eg_39]
              exact hQ _ _ _ _ _ _ hw rfl (Or.inr ⟨by omega, by first | omega | decide, cF_fr cf_19 iM_37 (rs_of ((rf_Y hM_37).trans ((rf_Y hM_31).trans q_24))) (fX_eo (eo.trans (eo_Y hM_37) (eo.trans (eo_Y hM_31) q_25))), kG.trans (kG_eo (eo.trans (eo_Y hM_37) (eo.trans (eo_Y hM_31) q_25)) ((rf_Y hM_37).trans ((rf_Y hM_31).trans q_24))) kg_20, kC_eo ht kc_21 (eo.trans (eo_Y hM_37) (eo.trans (eo_Y hM_31) q_25)) ((rf_Y hM_37).trans ((rf_Y hM_31).trans q_24)) (by rw [E_40]; exact hs_38)⟩) dX9_swap_95
            · refine lv_iconst (v := 0) hx hb dX9_swap_46 (by decide) ?_
              exact hQ _ _ _ _ _ _ hw rfl (Or.inl ⟨by first | omega | (intro hz; omega), by first | omega | decide, rfl⟩) dX9_swap_47
      · refine lv_iconst (v := 0) hx hb dX9_swap_21 (by decide) ?_
        exact hQ _ _ _ _ _ _ hw rfl (Or.inl ⟨by first | omega | (intro hz; omega), by first | omega | decide, rfl⟩) dX9_swap_22
    · refine sb_if_eq (tgt := 21) hx hb (by decide : (0 : Int32).toInt = 0) dX9_swap_13 (by decide) (fun c_13_9 => ?_) (fun h => absurd h (by decide))
      refine lv_iconst (v := 0) hx hb dX9_swap_21 (by decide) ?_
      exact hQ _ _ _ _ _ _ hw rfl (Or.inl ⟨by first | omega | (intro hz; omega), by first | omega | decide, rfl⟩) dX9_swap_22
  · refine sb_if_eq (tgt := 21) hx hb (by decide : (0 : Int32).toInt = 0) dX9_swap_5 (by decide) (fun c_5_4 => ?_) (fun h => absurd h (by decide))
    refine lv_iconst (v := 0) hx hb dX9_swap_21 (by decide) ?_
    exact hQ _ _ _ _ _ _ hw rfl (Or.inl ⟨by first | omega | (intro hz; omega), by first | omega | decide, rfl⟩) dX9_swap_22
set_option maxHeartbeats 4000000 in
set_option maxRecDepth 100000 in
theorem z_X9_kneel (l : Launch) (D : va_G) (A : Nat → Nat → Nat) (cy : Nat → ClassId) (hJ : ti_inj ti_LT A) (M : ti_M) (hI : cI Tc M) (hF : cF Tc M) (t : Nat) (ht : t = 3 ∨ t = 4) (tx rg lp : Nat → Int) (ug : Nat → Nat → Int) (cu : Int) (hk : kC t tx rg ug cu lp M) (z1 : Int32) (z2 : Int32) : ti_Ki l yX9_kneel cX9_kneel 3 (some .boolean) 3 ti_LT D A cy M [.ref (A 0 0), .int z1, .int z2] (fun r M2 => (¬ ((0 ≤ z1.toInt ∧ z1.toInt < tx 4 ∧ rg (128 + z1.toInt.toNat) = 1) ∧ 1 ≤ z2.toInt ∧ z2.toInt ≤ 20 ∧ rg (240 + z1.toInt.toNat) ≠ z2.toInt) ∧ r.toInt = 0 ∧ M2 = M) ∨ (((0 ≤ z1.toInt ∧ z1.toInt < tx 4 ∧ rg (128 + z1.toInt.toNat) = 1) ∧ 1 ≤ z2.toInt ∧ z2.toInt ≤ 20 ∧ rg (240 + z1.toInt.toNat) ≠ z2.toInt) ∧ r.toInt = 1 ∧ cF Tc M2 ∧ kG M2 M ∧ kC t tx (pp_su rg (240 + z1.toInt.toNat) z2.toInt) (bq_rb ug cu rg) (bq_rc cu) lp M2)) := by
  refine ti_eI yp_X9_kneel hJ ti_LT_nd (Nat.le_of_ble_eq_true rfl) ?_
  intro p e s m args below meth c Q H0 C hQ hw ls hl
  have hx := C.1
  have hb := C.2.1
  have hl : lv_has ls 3 [(0, .ref (A 0 0)), (1, .int z1), (2, .int z2)] := hl
  obtain ⟨htx, hT1, hT, hs, hr, hp0⟩ := id hk
  have l4 : 0 ≤ tx 4 ∧ tx 4 ≤ 8 := by rw [htx.1 4 (by decide) (by decide)]; exact cI_rd (k := 4) hI (ob_t ht).1 rfl
  have h4 : tx 4 = (tI M t 4).toInt := htx.1 4 (by decide) (by decide)
  refine lv_aload_n hx hb dX9_kneel_0 rfl (lv_at hl 0 rfl) ?_
  refine lv_iload_n hx hb dX9_kneel_1 rfl (lv_at hl 1 rfl) ?_
  refine ti_callVi (ci := 9) (av := [.int z1]) C hw (z_X9_isInQueue l D A cy hJ M hI t ht tx rg lp ug cu hk z1) ⟨ml_X9_205, ym_X9_isInQueue, yv_X9_isInQueue, yi_X9_isInQueue, yc_X9_isInQueue⟩ yd_X9_isInQueue ob_0 (by decide) rfl rfl hl.1 (Nat.le_of_ble_eq_true rfl) ⟨by decide, by decide⟩ ⟨Nat.zero_le _, Nat.zero_le _⟩ dX9_kneel_2 (fun r_1 M_2 H locs hp_2 hw => ?_)
  obtain ⟨hm, hz⟩ := hp_2
  have hw := hw.to hm
  rcases hz with ⟨rfl, d0_3, d1_3, d2_3⟩ | ⟨rfl, e_3⟩
  · refine sb_if_eq (tgt := 19) hx hb (by decide : (1 : Int32).toInt = 1) dX9_kneel_5 (by decide) (fun h => absurd h (by decide)) (fun c_5_3 => ?_)
    refine lv_iload_n hx hb dX9_kneel_8 rfl (lv_at hl 2 rfl) ?_
    refine lv_iconst (v := 1) hx hb dX9_kneel_9 (by decide) ?_
    refine sb_icmp_lt (tgt := 19) hx hb rfl (by decide : (1 : Int32).toInt = 1) dX9_kneel_10 (by decide) (fun c_10_5 => ?_) (fun c_10_5 => ?_)
    · refine lv_iconst (v := 0) hx hb dX9_kneel_19 (by decide) ?_
      exact hQ _ _ _ _ _ _ hw rfl (Or.inl ⟨by first | omega | (intro hz; omega), by first | omega | decide, rfl⟩) dX9_kneel_20
    · refine lv_iload_n hx hb dX9_kneel_13 rfl (lv_at hl 2 rfl) ?_
      refine lv_bipush (v := 20) hx hb dX9_kneel_14 (by decide) ?_
      refine sb_icmp_le (tgt := 21) hx hb rfl (by decide : (20 : Int32).toInt = 20) dX9_kneel_16 (by decide) (fun c_16_6 => ?_) (fun c_16_6 => ?_)
      · refine lv_aload_n hx hb dX9_kneel_21 rfl (lv_at hl 0 rfl) ?_
        refine ti_get (ci := 9) (k := 3) (N := 10) (T := TX9) (v := .ref (A 27 0)) C hw iw_9 rfl ob_0 (by decide) (by decide) fl_X9_29 rfl rfl dX9_kneel_22 ?_
        refine ti_get (ci := 3) (k := 15) (N := 17) (T := TX3) (v := .ref (A 27 16)) C hw iw_3 rfl ob_27 (by decide) (by decide) fl_X9_145 rfl rfl dX9_kneel_25 ?_
        refine lv_iload_n hx hb dX9_kneel_28 rfl (lv_at hl 1 rfl) ?_
        refine ti_iald (ci := 3) (k := 15) (n := 8) C hw ob_27 (by decide) (fun _ _ => rfl) (vp_in_iff.mpr (by omega)) dX9_kneel_29 ?_
        refine lv_topi (fun x_8 ex_8 => ?_)
        have L_9 : rg (240 + z1.toInt.toNat) = x_8.toInt := qC_y (k := 15) hs rfl (by omega) (by omega) (by decide) (by decide) ex_8
        refine lv_iload_n hx hb dX9_kneel_30 rfl (lv_at hl 2 rfl) ?_
        refine sb_icmp_ne (tgt := 36) hx hb rfl rfl dX9_kneel_31 (by decide) (fun c_31_9 => ?_) (fun c_31_9 => ?_)
        · refine lv_aload_n hx hb dX9_kneel_36 rfl (lv_at hl 0 rfl) ?_
          refine ti_get (ci := 9) (k := 5) (N := 10) (T := TX9) (v := .ref (A 28 0)) C hw iw_9 rfl ob_0 (by decide) (by decide) fl_X9_40 rfl rfl dX9_kneel_37 ?_
          refine lv_aload_n hx hb dX9_kneel_40 rfl (lv_at hl 0 rfl) ?_
          refine ti_get (ci := 9) (k := 3) (N := 10) (T := TX9) (v := .ref (A 27 0)) C hw iw_9 rfl ob_0 (by decide) (by decide) fl_X9_29 rfl rfl dX9_kneel_41 ?_
          refine ti_callVv (ci := 5) (av := [.ref (A 27 0)]) C hw (z_X5_remember l D A cy hJ M hI hF t ht tx rg lp ug cu hk) ⟨ml_X9_198, ym_X5_remember, yv_X5_remember, yi_X5_remember, yc_X5_remember⟩ yd_X5_remember ob_28 (by decide) rfl rfl hl.1 (Nat.le_of_ble_eq_true rfl) ⟨by decide, by decide⟩ ⟨Nat.zero_le _, Nat.zero_le _⟩ dX9_kneel_44 (fun M_12 H locs hp_12 hw => ?_)
          obtain ⟨cf_13, kg_14, kc_15⟩ := hp_12
          obtain ⟨tx15, ta15, tb15, hs15, -, -⟩ := id kc_15
          refine lv_aload_n hx hb dX9_kneel_47 rfl (lv_at hl 0 rfl) ?_
          refine ti_get (ci := 9) (k := 3) (N := 10) (T := TX9) (v := .ref (A 27 0)) C hw iw_9 rfl ob_0 (by decide) (by decide) fl_X9_29 rfl rfl dX9_kneel_48 ?_
          refine ti_get (ci := 3) (k := 15) (N := 17) (T := TX3) (v := .ref (A 27 16)) C hw iw_3 rfl ob_27 (by decide) (by decide) fl_X9_145 rfl rfl dX9_kneel_51 ?_
          refine lv_iload_n hx hb dX9_kneel_54 rfl (lv_at hl 1 rfl) ?_
          refine lv_iload_n hx hb dX9_kneel_55 rfl (lv_at hl 2 rfl) ?_
          refine ti_iast (ci := 3) (k := 15) (n := 8) C hw ob_27 (by decide) (fun _ _ => rfl) (vp_in_iff.mpr (by omega)) dX9_kneel_56 (fun H locs hw => ?_)
          obtain ⟨M_16, hM_16⟩ : ∃ z : ti_M, z = uY M_12 27 15 (upd (tY M_12 27 15) (z1 : Int32).toNatClampNeg z2) := ⟨_, rfl⟩
          have hw := hw.to hM_16.symm
          have iM_16 : cI Tc M_16 := cI_up cf_13.1 hM_16 ob_27.1 trivial
          have hs_17 : qC 27 (pp_su rg (240 + z1.toInt.toNat) z2.toInt) M_16 := qC_Y (k := 15) (j := z1.toInt.toNat) (i := z1) hs15 (by omega) rfl hM_16 (by decide) (by omega)
          obtain ⟨g_18, eg_18⟩ : ∃ z : Nat → Int, z = pp_su rg (240 + z1.toInt.toNat) z2.toInt := ⟨_, rfl⟩
          rw [← eg_18] at hs_17
          refine lv_iconst (v := 1) hx hb dX9_kneel_57 (by decide) ?_
          have E_19 : (pp_su rg (240 + z1.toInt.toNat) z2.toInt) = g_18 := by
            
            (repeat (first | rw [if_pos (by omega)] | rw [if_neg (by omega)]))
            all_goals subst eg_18
            all_goals ((repeat' (first | rfl | assumption | refine su_cg ?_ ?_ ?_)) <;> first | omega | (exact congrArg bw (by omega)))
          exact hQ _ _ _ _ _ _ hw rfl (Or.inr ⟨by omega, by first | omega | decide, cF_fr cf_13 iM_16 (rs_of (rf_Y hM_16)) (fX_eo (eo_Y hM_16)), kG.trans (kG_eo (eo_Y hM_16) (rf_Y hM_16)) kg_14, kC_eo ht kc_15 (eo_Y hM_16) (rf_Y hM_16) (by rw [E_19]; exact hs_17)⟩) dX9_kneel_58
        · refine lv_iconst (v := 0) hx hb dX9_kneel_34 (by decide) ?_
          exact hQ _ _ _ _ _ _ hw rfl (Or.inl ⟨by first | omega | (intro hz; omega), by first | omega | decide, rfl⟩) dX9_kneel_35
      · refine lv_iconst (v := 0) hx hb dX9_kneel_19 (by decide) ?_
        exact hQ _ _ _ _ _ _ hw rfl (Or.inl ⟨by first | omega | (intro hz; omega), by first | omega | decide, rfl⟩) dX9_kneel_20
  · refine sb_if_eq (tgt := 19) hx hb (by decide : (0 : Int32).toInt = 0) dX9_kneel_5 (by decide) (fun c_5_4 => ?_) (fun h => absurd h (by decide))
    refine lv_iconst (v := 0) hx hb dX9_kneel_19 (by decide) ?_
    exact hQ _ _ _ _ _ _ hw rfl (Or.inl ⟨by first | omega | (intro hz; omega), by first | omega | decide, rfl⟩) dX9_kneel_20
set_option maxHeartbeats 4000000 in
set_option maxRecDepth 100000 in
theorem z_X9_cough (l : Launch) (D : va_G) (A : Nat → Nat → Nat) (cy : Nat → ClassId) (hJ : ti_inj ti_LT A) (M : ti_M) (hI : cI Tc M) (hF : cF Tc M) (t : Nat) (ht : t = 3 ∨ t = 4) (tx rg lp : Nat → Int) (ug : Nat → Nat → Int) (cu : Int) (hk : kC t tx rg ug cu lp M) (za : Int32) : ti_Ki l yX9_cough cX9_cough 2 (some .boolean) 3 ti_LT D A cy M [.ref (A 0 0), .int za] (fun r M2 => (¬ ((0 ≤ za.toInt ∧ za.toInt < tx 4 ∧ rg (128 + za.toInt.toNat) = 1) ∧ rg (256 + za.toInt.toNat) = 0) ∧ r.toInt = 0 ∧ M2 = M) ∨ (((0 ≤ za.toInt ∧ za.toInt < tx 4 ∧ rg (128 + za.toInt.toNat) = 1) ∧ rg (256 + za.toInt.toNat) = 0) ∧ r.toInt = 1 ∧ cF Tc M2 ∧ kG M2 M ∧ kC t tx (pp_su rg (256 + za.toInt.toNat) 1) (bq_rb ug cu rg) (bq_rc cu) lp M2)) := by
  refine ti_eI yp_X9_cough hJ ti_LT_nd (Nat.le_of_ble_eq_true rfl) ?_
  intro p e s m args below meth c Q H0 C hQ hw ls hl
  have hx := C.1
  have hb := C.2.1
  have hl : lv_has ls 2 [(0, .ref (A 0 0)), (1, .int za)] := hl
  obtain ⟨htx, hT1, hT, hs, hr, hp0⟩ := id hk
  have l4 : 0 ≤ tx 4 ∧ tx 4 ≤ 8 := by rw [htx.1 4 (by decide) (by decide)]; exact cI_rd (k := 4) hI (ob_t ht).1 rfl
  have h4 : tx 4 = (tI M t 4).toInt := htx.1 4 (by decide) (by decide)
  refine lv_aload_n hx hb dX9_cough_0 rfl (lv_at hl 0 rfl) ?_
  refine lv_iload_n hx hb dX9_cough_1 rfl (lv_at hl 1 rfl) ?_
  refine ti_callVi (ci := 9) (av := [.int za]) C hw (z_X9_isInQueue l D A cy hJ M hI t ht tx rg lp ug cu hk za) ⟨ml_X9_205, ym_X9_isInQueue, yv_X9_isInQueue, yi_X9_isInQueue, yc_X9_isInQueue⟩ yd_X9_isInQueue ob_0 (by decide) rfl rfl hl.1 (Nat.le_of_ble_eq_true rfl) ⟨by decide, by decide⟩ ⟨Nat.zero_le _, Nat.zero_le _⟩ dX9_cough_2 (fun r_1 M_2 H locs hp_2 hw => ?_)
  obtain ⟨hm, hz⟩ := hp_2
  have hw := hw.to hm
  rcases hz with ⟨rfl, d0_3, d1_3, d2_3⟩ | ⟨rfl, e_3⟩
  · refine sb_if_eq (tgt := 20) hx hb (by decide : (1 : Int32).toInt = 1) dX9_cough_5 (by decide) (fun h => absurd h (by decide)) (fun c_5_3 => ?_)
    refine lv_aload_n hx hb dX9_cough_8 rfl (lv_at hl 0 rfl) ?_
    refine ti_get (ci := 9) (k := 3) (N := 10) (T := TX9) (v := .ref (A 27 0)) C hw iw_9 rfl ob_0 (by decide) (by decide) fl_X9_29 rfl rfl dX9_cough_9 ?_
    refine ti_get (ci := 3) (k := 16) (N := 17) (T := TX3) (v := .ref (A 27 17)) C hw iw_3 rfl ob_27 (by decide) (by decide) fl_X9_148 rfl rfl dX9_cough_12 ?_
    refine lv_iload_n hx hb dX9_cough_15 rfl (lv_at hl 1 rfl) ?_
    refine ti_iald (ci := 3) (k := 16) (n := 8) C hw ob_27 (by decide) (fun _ _ => rfl) (vp_in_iff.mpr (by omega)) dX9_cough_16 ?_
    refine lv_topi (fun x_6 ex_6 => ?_)
    have L_7 : rg (256 + za.toInt.toNat) = x_6.toInt := qC_y (k := 16) hs rfl (by omega) (by omega) (by decide) (by decide) ex_6
    refine sb_if_eq (tgt := 22) hx hb rfl dX9_cough_17 (by decide) (fun c_17_7 => ?_) (fun c_17_7 => ?_)
    · refine lv_aload_n hx hb dX9_cough_22 rfl (lv_at hl 0 rfl) ?_
      refine ti_get (ci := 9) (k := 5) (N := 10) (T := TX9) (v := .ref (A 28 0)) C hw iw_9 rfl ob_0 (by decide) (by decide) fl_X9_40 rfl rfl dX9_cough_23 ?_
      refine lv_aload_n hx hb dX9_cough_26 rfl (lv_at hl 0 rfl) ?_
      refine ti_get (ci := 9) (k := 3) (N := 10) (T := TX9) (v := .ref (A 27 0)) C hw iw_9 rfl ob_0 (by decide) (by decide) fl_X9_29 rfl rfl dX9_cough_27 ?_
      refine ti_callVv (ci := 5) (av := [.ref (A 27 0)]) C hw (z_X5_remember l D A cy hJ M hI hF t ht tx rg lp ug cu hk) ⟨ml_X9_198, ym_X5_remember, yv_X5_remember, yi_X5_remember, yc_X5_remember⟩ yd_X5_remember ob_28 (by decide) rfl rfl hl.1 (Nat.le_of_ble_eq_true rfl) ⟨by decide, by decide⟩ ⟨Nat.zero_le _, Nat.zero_le _⟩ dX9_cough_30 (fun M_10 H locs hp_10 hw => ?_)
      obtain ⟨cf_11, kg_12, kc_13⟩ := hp_10
      obtain ⟨tx13, ta13, tb13, hs13, -, -⟩ := id kc_13
      refine lv_aload_n hx hb dX9_cough_33 rfl (lv_at hl 0 rfl) ?_
      refine ti_get (ci := 9) (k := 3) (N := 10) (T := TX9) (v := .ref (A 27 0)) C hw iw_9 rfl ob_0 (by decide) (by decide) fl_X9_29 rfl rfl dX9_cough_34 ?_
      refine ti_get (ci := 3) (k := 16) (N := 17) (T := TX3) (v := .ref (A 27 17)) C hw iw_3 rfl ob_27 (by decide) (by decide) fl_X9_148 rfl rfl dX9_cough_37 ?_
      refine lv_iload_n hx hb dX9_cough_40 rfl (lv_at hl 1 rfl) ?_
      refine lv_iconst (v := 1) hx hb dX9_cough_41 (by decide) ?_
      refine ti_iast (ci := 3) (k := 16) (n := 8) C hw ob_27 (by decide) (fun _ _ => rfl) (vp_in_iff.mpr (by omega)) dX9_cough_42 (fun H locs hw => ?_)
      obtain ⟨M_14, hM_14⟩ : ∃ z : ti_M, z = uY M_10 27 16 (upd (tY M_10 27 16) (za : Int32).toNatClampNeg 1) := ⟨_, rfl⟩
      have hw := hw.to hM_14.symm
      have iM_14 : cI Tc M_14 := cI_up cf_11.1 hM_14 ob_27.1 trivial
      have hs_15 : qC 27 (pp_su rg (256 + za.toInt.toNat) 1) M_14 := qC_Y (k := 16) (j := za.toInt.toNat) (i := za) hs13 (by omega) (by decide : (1 : Int32).toInt = 1) hM_14 (by decide) (by omega)
      obtain ⟨g_16, eg_16⟩ : ∃ z : Nat → Int, z = pp_su rg (256 + za.toInt.toNat) 1 := ⟨_, rfl⟩
      rw [← eg_16] at hs_15
      refine lv_iconst (v := 1) hx hb dX9_cough_43 (by decide) ?_
      have E_17 : (pp_su rg (256 + za.toInt.toNat) 1) = g_16 := by
        
        (repeat (first | rw [if_pos (by omega)] | rw [if_neg (by omega)]))
        all_goals subst eg_16
        all_goals ((repeat' (first | rfl | assumption | refine su_cg ?_ ?_ ?_)) <;> first | omega | (exact congrArg bw (by omega)))
      exact hQ _ _ _ _ _ _ hw rfl (Or.inr ⟨by omega, by first | omega | decide, cF_fr cf_11 iM_14 (rs_of (rf_Y hM_14)) (fX_eo (eo_Y hM_14)), kG.trans (kG_eo (eo_Y hM_14) (rf_Y hM_14)) kg_12, kC_eo ht kc_13 (eo_Y hM_14) (rf_Y hM_14) (by rw [E_17]; exact hs_15)⟩) dX9_cough_44
    · refine lv_iconst (v := 0) hx hb dX9_cough_20 (by decide) ?_
      exact hQ _ _ _ _ _ _ hw rfl (Or.inl ⟨by first | omega | (intro hz; omega), by first | omega | decide, rfl⟩) dX9_cough_21
  · refine sb_if_eq (tgt := 20) hx hb (by decide : (0 : Int32).toInt = 0) dX9_cough_5 (by decide) (fun c_5_4 => ?_) (fun h => absurd h (by decide))
    refine lv_iconst (v := 0) hx hb dX9_cough_20 (by decide) ?_
    exact hQ _ _ _ _ _ _ hw rfl (Or.inl ⟨by first | omega | (intro hz; omega), by first | omega | decide, rfl⟩) dX9_cough_21
set_option maxHeartbeats 4000000 in
set_option maxRecDepth 100000 in
theorem z_X9_move (l : Launch) (D : va_G) (A : Nat → Nat → Nat) (cy : Nat → ClassId) (hJ : ti_inj ti_LT A) (M : ti_M) (hI : cI Tc M) (hF : cF Tc M) (t : Nat) (ht : t = 3 ∨ t = 4) (tx rg lp : Nat → Int) (ug : Nat → Nat → Int) (cu : Int) (hk : kC t tx rg ug cu lp M) (z1 : Int32) (z2 : Int32) : ti_Ki l yX9_move cX9_move 3 (some .boolean) 3 ti_LT D A cy M [.ref (A 0 0), .int z1, .int z2] (fun r M2 => (¬ (0 ≤ z1.toInt ∧ z1.toInt ≤ 2 ∧ 0 ≤ z2.toInt ∧ z2.toInt ≤ 7 ∧ rg (112 + z1.toInt.toNat) ≠ z2.toInt) ∧ r.toInt = 0 ∧ M2 = M) ∨ ((0 ≤ z1.toInt ∧ z1.toInt ≤ 2 ∧ 0 ≤ z2.toInt ∧ z2.toInt ≤ 7 ∧ rg (112 + z1.toInt.toNat) ≠ z2.toInt) ∧ r.toInt = 1 ∧ cF Tc M2 ∧ kG M2 M ∧ kC t tx (pp_su rg (112 + z1.toInt.toNat) z2.toInt) (bq_rb ug cu rg) (bq_rc cu) lp M2)) := by
  refine ti_eI yp_X9_move hJ ti_LT_nd (Nat.le_of_ble_eq_true rfl) ?_
  intro p e s m args below meth c Q H0 C hQ hw ls hl
  have hx := C.1
  have hb := C.2.1
  have hl : lv_has ls 3 [(0, .ref (A 0 0)), (1, .int z1), (2, .int z2)] := hl
  obtain ⟨htx, hT1, hT, hs, hr, hp0⟩ := id hk
  have l4 : 0 ≤ tx 4 ∧ tx 4 ≤ 8 := by rw [htx.1 4 (by decide) (by decide)]; exact cI_rd (k := 4) hI (ob_t ht).1 rfl
  have h4 : tx 4 = (tI M t 4).toInt := htx.1 4 (by decide) (by decide)
  refine lv_aload_n hx hb dX9_move_0 rfl (lv_at hl 0 rfl) ?_
  refine lv_iload_n hx hb dX9_move_1 rfl (lv_at hl 1 rfl) ?_
  refine ti_callVi (ci := 9) (av := [.int z1]) C hw (z_X9_isPower l D A cy hJ M hI z1) ⟨ml_X9_165, ym_X9_isPower, yv_X9_isPower, yi_X9_isPower, yc_X9_isPower⟩ yd_X9_isPower ob_0 (by decide) rfl rfl hl.1 (Nat.le_of_ble_eq_true rfl) ⟨by decide, by decide⟩ ⟨Nat.zero_le _, Nat.zero_le _⟩ dX9_move_2 (fun r_1 M_2 H locs hp_2 hw => ?_)
  obtain ⟨hm, hz⟩ := hp_2
  have hw := hw.to hm
  rcases hz with ⟨rfl, d0_3, d1_3⟩ | ⟨rfl, e_3⟩
  · refine sb_if_eq (tgt := 29) hx hb (by decide : (1 : Int32).toInt = 1) dX9_move_5 (by decide) (fun h => absurd h (by decide)) (fun c_5_3 => ?_)
    refine lv_aload_n hx hb dX9_move_8 rfl (lv_at hl 0 rfl) ?_
    refine lv_iload_n hx hb dX9_move_9 rfl (lv_at hl 2 rfl) ?_
    refine ti_callVi (ci := 9) (av := [.int z2]) C hw (x_X9_isPlace l D A cy hJ M hI z2) ⟨ml_X9_159, ym_X9_isPlace, yv_X9_isPlace, yi_X9_isPlace, yc_X9_isPlace⟩ yd_X9_isPlace ob_0 (by decide) rfl rfl hl.1 (Nat.le_of_ble_eq_true rfl) ⟨by decide, by decide⟩ ⟨Nat.zero_le _, Nat.zero_le _⟩ dX9_move_10 (fun r_6 M_7 H locs hp_7 hw => ?_)
    obtain ⟨hm, hz⟩ := hp_7
    have hw := hw.to hm
    rcases hz with ⟨rfl, d0_8, d1_8⟩ | ⟨rfl, e_8⟩
    · refine sb_if_eq (tgt := 29) hx hb (by decide : (1 : Int32).toInt = 1) dX9_move_13 (by decide) (fun h => absurd h (by decide)) (fun c_13_8 => ?_)
      refine lv_aload_n hx hb dX9_move_16 rfl (lv_at hl 0 rfl) ?_
      refine ti_get (ci := 9) (k := 3) (N := 10) (T := TX9) (v := .ref (A 27 0)) C hw iw_9 rfl ob_0 (by decide) (by decide) fl_X9_29 rfl rfl dX9_move_17 ?_
      refine ti_get (ci := 3) (k := 7) (N := 17) (T := TX3) (v := .ref (A 27 8)) C hw iw_3 rfl ob_27 (by decide) (by decide) fl_X9_168 rfl rfl dX9_move_20 ?_
      refine lv_iload_n hx hb dX9_move_23 rfl (lv_at hl 1 rfl) ?_
      refine ti_iald (ci := 3) (k := 7) (n := 3) C hw ob_27 (by decide) (fun _ _ => rfl) (vp_in_iff.mpr (by omega)) dX9_move_24 ?_
      refine lv_topi (fun x_11 ex_11 => ?_)
      have L_12 : rg (112 + z1.toInt.toNat) = x_11.toInt := qC_y (k := 7) hs rfl (by omega) (by omega) (by decide) (by decide) ex_11
      refine lv_iload_n hx hb dX9_move_25 rfl (lv_at hl 2 rfl) ?_
      refine sb_icmp_ne (tgt := 31) hx hb rfl rfl dX9_move_26 (by decide) (fun c_26_12 => ?_) (fun c_26_12 => ?_)
      · refine lv_aload_n hx hb dX9_move_31 rfl (lv_at hl 0 rfl) ?_
        refine ti_get (ci := 9) (k := 5) (N := 10) (T := TX9) (v := .ref (A 28 0)) C hw iw_9 rfl ob_0 (by decide) (by decide) fl_X9_40 rfl rfl dX9_move_32 ?_
        refine lv_aload_n hx hb dX9_move_35 rfl (lv_at hl 0 rfl) ?_
        refine ti_get (ci := 9) (k := 3) (N := 10) (T := TX9) (v := .ref (A 27 0)) C hw iw_9 rfl ob_0 (by decide) (by decide) fl_X9_29 rfl rfl dX9_move_36 ?_
        refine ti_callVv (ci := 5) (av := [.ref (A 27 0)]) C hw (z_X5_remember l D A cy hJ M hI hF t ht tx rg lp ug cu hk) ⟨ml_X9_198, ym_X5_remember, yv_X5_remember, yi_X5_remember, yc_X5_remember⟩ yd_X5_remember ob_28 (by decide) rfl rfl hl.1 (Nat.le_of_ble_eq_true rfl) ⟨by decide, by decide⟩ ⟨Nat.zero_le _, Nat.zero_le _⟩ dX9_move_39 (fun M_15 H locs hp_15 hw => ?_)
        obtain ⟨cf_16, kg_17, kc_18⟩ := hp_15
        obtain ⟨tx18, ta18, tb18, hs18, -, -⟩ := id kc_18
        refine lv_aload_n hx hb dX9_move_42 rfl (lv_at hl 0 rfl) ?_
        refine ti_get (ci := 9) (k := 3) (N := 10) (T := TX9) (v := .ref (A 27 0)) C hw iw_9 rfl ob_0 (by decide) (by decide) fl_X9_29 rfl rfl dX9_move_43 ?_
        refine ti_get (ci := 3) (k := 7) (N := 17) (T := TX3) (v := .ref (A 27 8)) C hw iw_3 rfl ob_27 (by decide) (by decide) fl_X9_168 rfl rfl dX9_move_46 ?_
        refine lv_iload_n hx hb dX9_move_49 rfl (lv_at hl 1 rfl) ?_
        refine lv_iload_n hx hb dX9_move_50 rfl (lv_at hl 2 rfl) ?_
        refine ti_iast (ci := 3) (k := 7) (n := 3) C hw ob_27 (by decide) (fun _ _ => rfl) (vp_in_iff.mpr (by omega)) dX9_move_51 (fun H locs hw => ?_)
        obtain ⟨M_19, hM_19⟩ : ∃ z : ti_M, z = uY M_15 27 7 (upd (tY M_15 27 7) (z1 : Int32).toNatClampNeg z2) := ⟨_, rfl⟩
        have hw := hw.to hM_19.symm
        have iM_19 : cI Tc M_19 := cI_up cf_16.1 hM_19 ob_27.1 trivial
        have hs_20 : qC 27 (pp_su rg (112 + z1.toInt.toNat) z2.toInt) M_19 := qC_Y (k := 7) (j := z1.toInt.toNat) (i := z1) hs18 (by omega) rfl hM_19 (by decide) (by omega)
        obtain ⟨g_21, eg_21⟩ : ∃ z : Nat → Int, z = pp_su rg (112 + z1.toInt.toNat) z2.toInt := ⟨_, rfl⟩
        rw [← eg_21] at hs_20
        refine lv_iconst (v := 1) hx hb dX9_move_52 (by decide) ?_
        have E_22 : (pp_su rg (112 + z1.toInt.toNat) z2.toInt) = g_21 := by
          
          (repeat (first | rw [if_pos (by omega)] | rw [if_neg (by omega)]))
          all_goals subst eg_21
          all_goals ((repeat' (first | rfl | assumption | refine su_cg ?_ ?_ ?_)) <;> first | omega | (exact congrArg bw (by omega)))
        exact hQ _ _ _ _ _ _ hw rfl (Or.inr ⟨by omega, by first | omega | decide, cF_fr cf_16 iM_19 (rs_of (rf_Y hM_19)) (fX_eo (eo_Y hM_19)), kG.trans (kG_eo (eo_Y hM_19) (rf_Y hM_19)) kg_17, kC_eo ht kc_18 (eo_Y hM_19) (rf_Y hM_19) (by rw [E_22]; exact hs_20)⟩) dX9_move_53
      · refine lv_iconst (v := 0) hx hb dX9_move_29 (by decide) ?_
        exact hQ _ _ _ _ _ _ hw rfl (Or.inl ⟨by first | omega | (intro hz; omega), by first | omega | decide, rfl⟩) dX9_move_30
    · refine sb_if_eq (tgt := 29) hx hb (by decide : (0 : Int32).toInt = 0) dX9_move_13 (by decide) (fun c_13_9 => ?_) (fun h => absurd h (by decide))
      refine lv_iconst (v := 0) hx hb dX9_move_29 (by decide) ?_
      exact hQ _ _ _ _ _ _ hw rfl (Or.inl ⟨by first | omega | (intro hz; omega), by first | omega | decide, rfl⟩) dX9_move_30
  · refine sb_if_eq (tgt := 29) hx hb (by decide : (0 : Int32).toInt = 0) dX9_move_5 (by decide) (fun c_5_4 => ?_) (fun h => absurd h (by decide))
    refine lv_iconst (v := 0) hx hb dX9_move_29 (by decide) ?_
    exact hQ _ _ _ _ _ _ hw rfl (Or.inl ⟨by first | omega | (intro hz; omega), by first | omega | decide, rfl⟩) dX9_move_30
set_option maxHeartbeats 4000000 in
set_option maxRecDepth 100000 in
theorem z_X9_undo (l : Launch) (D : va_G) (A : Nat → Nat → Nat) (cy : Nat → ClassId) (hJ : ti_inj ti_LT A) (M : ti_M) (hI : cI Tc M) (hF : cF Tc M) (t : Nat) (ht : t = 3 ∨ t = 4) (tx rg lp : Nat → Int) (ug : Nat → Nat → Int) (cu : Int) (hk : kC t tx rg ug cu lp M) : ti_Ki l yX9_undo cX9_undo 1 (some .int) 3 ti_LT D A cy M [.ref (A 0 0)] (fun r M2 => (cu = 0 ∧ r.toInt = -1 ∧ M2 = M) ∨ (0 < cu ∧ r.toInt = cu - 1 ∧ cF Tc M2 ∧ kG M2 M ∧ kC t tx (ug (cu - 1).toNat) ug (cu - 1) lp M2)) := by
  refine ti_eI yp_X9_undo hJ ti_LT_nd (Nat.le_of_ble_eq_true rfl) ?_
  intro p e s m args below meth c Q H0 C hQ hw ls hl
  have hx := C.1
  have hb := C.2.1
  have hl : lv_has ls 1 [(0, .ref (A 0 0))] := hl
  obtain ⟨htx, hT1, hT, hs, hr, hp0⟩ := id hk
  have l4 : 0 ≤ tx 4 ∧ tx 4 ≤ 8 := by rw [htx.1 4 (by decide) (by decide)]; exact cI_rd (k := 4) hI (ob_t ht).1 rfl
  have h4 : tx 4 = (tI M t 4).toInt := htx.1 4 (by decide) (by decide)
  refine lv_aload_n hx hb dX9_undo_0 rfl (lv_at hl 0 rfl) ?_
  refine ti_get (ci := 9) (k := 5) (N := 10) (T := TX9) (v := .ref (A 28 0)) C hw iw_9 rfl ob_0 (by decide) (by decide) fl_X9_40 rfl rfl dX9_undo_1 ?_
  refine lv_aload_n hx hb dX9_undo_4 rfl (lv_at hl 0 rfl) ?_
  refine ti_get (ci := 9) (k := 3) (N := 10) (T := TX9) (v := .ref (A 27 0)) C hw iw_9 rfl ob_0 (by decide) (by decide) fl_X9_29 rfl rfl dX9_undo_5 ?_
  refine ti_callVi (ci := 5) (av := [.ref (A 27 0)]) C hw (z_X5_takeBack l D A cy hJ M hI hF t ht tx rg lp ug cu hk) ⟨ml_X9_293, ym_X5_takeBack, yv_X5_takeBack, yi_X5_takeBack, yc_X5_takeBack⟩ yd_X5_takeBack ob_28 (by decide) rfl rfl hl.1 (Nat.le_of_ble_eq_true rfl) ⟨by decide, by decide⟩ ⟨Nat.zero_le _, Nat.zero_le _⟩ dX9_undo_8 (fun r_1 M_2 H locs hp_2 hw => ?_)
  rcases hp_2 with ⟨z0_3, rfl, hm⟩ | ⟨z0_3, rfl, z1_3, z2_3, z3_3⟩
  · have hw := hw.to hm
    refine sb_if_eq (tgt := 24) hx hb (by decide : (0 : Int32).toInt = 0) dX9_undo_11 (by decide) (fun c_11_3 => ?_) (fun h => absurd h (by decide))
    refine lv_iconst (v := (-1)) hx hb dX9_undo_24 (by decide) ?_
    exact hQ _ _ _ _ _ _ hw rfl (Or.inl ⟨by omega, by decide, rfl⟩) dX9_undo_25
  · obtain ⟨tx3, ta3, tb3, hs3, ⟨hc3, -⟩, -⟩ := id z3_3
    refine sb_if_eq (tgt := 24) hx hb (by decide : (1 : Int32).toInt = 1) dX9_undo_11 (by decide) (fun h => absurd h (by decide)) (fun c_11_4 => ?_)
    refine lv_aload_n hx hb dX9_undo_14 rfl (lv_at hl 0 rfl) ?_
    refine ti_get (ci := 9) (k := 5) (N := 10) (T := TX9) (v := .ref (A 28 0)) C hw iw_9 rfl ob_0 (by decide) (by decide) fl_X9_40 rfl rfl dX9_undo_15 ?_
    refine ti_get (ci := 5) (k := 2) (N := 3) (T := TX5) C hw iw_5 rfl ob_28 (by decide) (by decide) fl_X9_297 rfl rfl dX9_undo_18 ?_
    refine lv_topi (fun x_6 ex_6 => ?_)
    have bx_6 : 0 ≤ x_6.toInt ∧ x_6.toInt ≤ 20 := cI_rd z1_3.1 ob_28.1 ex_6
    have ux_6 : (tI M_2 28 2).toInt = x_6.toInt := by rw [ex_6]
    have hn9 : x_6.toInt = cu - 1 := by rw [← hc3, ← ux_6]
    refine lv_goto (tgt := 25) hx hb dX9_undo_21 (by decide) ?_
    exact hQ _ _ _ _ _ _ hw rfl (Or.inr ⟨by omega, by omega, z1_3, z2_3, z3_3⟩) dX9_undo_25

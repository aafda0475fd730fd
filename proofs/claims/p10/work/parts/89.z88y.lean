variable {Tc : gC} {Tm : gM}
variable {Tc : gC} {Tm : gM}
/-! what keeps the relation -/
theorem tC_hi {t : Nat} {tx : Nat → Int} {M N : ti_M} (ht : t = 3 ∨ t = 4) (h : tC t tx M) (e : ∀ o k : Nat, 3 ≤ o → o < 27 → tI N o k = tI M o k ∧ tY N o k = tY M o k) : tC t tx N := by
  refine ⟨fun k h1 h2 => ?_, fun i hi => ?_, fun i k hi h1 h2 => ?_, fun j hj => ⟨?_, fun n hn => ?_⟩⟩
  · rw [(e t k (by omega) (by omega)).1]; exact h.1 k h1 h2
  · rw [(e t 1 (by omega) (by omega)).2]; exact h.2.1 i hi
  · have a := pp_men (t := t) (i := i)
    have b := pp_men20 (t := t) hi
    rw [(e _ k (by omega) (by omega)).1]; exact h.2.2.1 i k hi h1 h2
  · have a := lwb_b (t := t) hj
    rw [(e _ 3 (by omega) (by omega)).1]; exact (h.2.2.2 j hj).1
  · have a := lwb_b (t := t) hj
    rw [(e _ 0 (by omega) (by omega)).2]; exact (h.2.2.2 j hj).2 n hn
theorem lB_tr {t : Nat} {tx s p si : Nat → Int} {u : Nat → Nat → Int} {c : Int} {N1 N2 M1 M2 : ti_M} (h : lB t tx s p si u c M1 M2) (hC : tC t tx M1 → tC t tx N1) (hT : ∀ o k : Nat, (o = 0 ∧ k = 1) ∨ (k = 0 ∧ 27 ≤ o ∧ o ≤ 49) → tT N1 o k = tT M1 o k) (hO : ∀ o k : Nat, o = 0 ∨ (27 ≤ o ∧ o ≤ 49) → tI N1 o k = tI M1 o k ∧ tY N1 o k = tY M1 o k) (hR : tR tx M2 → tR tx N2) (hY : ∀ k i : Nat, 34 ≤ k → k ≤ 50 → ¬ bk 1 k i → tY N2 60 k i = tY M2 60 k i) (h51 : tI N2 60 51 = tI M2 60 51) (h52 : tI N2 60 52 = tI M2 60 52) (h53 : tI M2 60 53 = -1 → tI N2 60 53 = -1) : lB t tx s p si u c N1 N2 := by
  obtain ⟨ht, ⟨a1, a2, a3, a4, a5, a6⟩, ⟨b1, b2, b3, ⟨b4, b5⟩, b6, b7⟩, hW, hw, hU, hi⟩ := h
  have h4 : (tx 4).toNat ≤ 8 := by have := hW.1; omega
  have n1 : ∀ q k i : Nat, q ≠ 1 → bk q k i → ¬ bk 1 k i := fun q k i hq b b2 => hq (bk_1 b b2)
  have qr : ∀ (q : Nat) (g : Nat → Int), q ≠ 1 → qR (tx 4).toNat q g M2 → qR (tx 4).toNat q g N2 := fun q g hq x => qR_rows x (fun k i b => hY k i b.1 (by have := b.2.1; omega) (n1 q k i hq b)) h4
  have qv : ∀ (q : Nat) (g : Nat → Int), q ≠ 1 → qV (tx 4).toNat q g M2 → qV (tx 4).toNat q g N2 := fun q g hq x => qV_rows x (fun k i b => hY k i b.1 (by have := b.2.1; omega) (n1 q k i hq b)) h4
  have y50 : ∀ i : Nat, tY N2 60 50 i = tY M2 60 50 i := fun i => hY 50 i (by decide) (by decide) (fun b => by have := b.2.1; omega)
  refine ⟨ht, ⟨hC a1, (hT 0 1 (by decide)).trans a2, (hT 27 0 (by decide)).trans a3, qC_same a4 (fun k => hO 27 k (by decide)), rg5_to a5 (fun o k x y => hO o k (by omega)) (fun o x y => hT o 0 (by omega)), pC_to a6 (hO 0 4 (by decide)).2⟩, ⟨hR b1, qr 0 _ (by decide) b2, qv 0 _ (by decide) b3, ⟨by rw [h52]; exact b4, fun i x => ⟨qr _ _ (by omega) (b5 i x).1, qv _ _ (by omega) (b5 i x).2⟩⟩, fun m k x y z => by rw [y50]; exact b6 m k x y z, h53 b7⟩, hW, hw, hU, ?_⟩
  rcases hi with ⟨x, y⟩ | ⟨x, y, ⟨x1, x2⟩, ⟨x3, x4, x5⟩, x6⟩
  · exact Or.inl ⟨by rw [(hO 0 7 (by decide)).1]; exact x, by rw [h51]; exact y⟩
  · exact Or.inr ⟨by rw [(hO 0 7 (by decide)).1]; exact x, by rw [h51]; exact y, ⟨qC_same x1 (fun k => hO 49 k (by decide)), (hT 49 0 (by decide)).trans x2⟩, ⟨qr 2 _ (by decide) x3, qv 2 _ (by decide) x4, fun m k a b d => by rw [y50]; exact x5 m k a b d⟩, x6⟩
theorem lE_obs {N1 N2 M1 M2 : ti_M} (h : lE M1 M2) (a : fS N1 M1) (b : rT N1 M1) (f : fT 1 N2 M2) (d : tI M2 60 53 = -1 → tI N2 60 53 = -1) (e : lw N2 M2) : lE N1 N2 := by
  obtain ⟨t, tx, s, p, si, u, c, hb⟩ := h
  have ht := hb.1
  exact ⟨t, tx, s, p, si, u, c, lB_tr hb (fun x => tC_lo ht x (fun o k h1 h2 => a o k (by omega))) (fun o k x => b o k (by omega)) (fun o k x => a o k (by omega)) (fun x => tR_lw x e) (fun k i h1 h2 h3 => f.2 k i h1 h2 h3) f.1.2.1 f.1.2.2 d⟩
theorem lE_eo {q : Nat} {N1 N2 M1 M2 : ti_M} (h : lE M1 M2) (E : eo q N1 M1) (hq : q = 2 ∨ q = 50) (T : N1.2.2.2 = M1.2.2.2) (y : qy N2 M2) (e : lw N2 M2) : lE N1 N2 := by
  obtain ⟨t, tx, s, p, si, u, c, hb⟩ := h
  have ht := hb.1
  exact ⟨t, tx, s, p, si, u, c, lB_tr hb (fun x => tC_hi ht x (fun o k h1 h2 => ⟨E.1 o k (by omega), E.2 o k (by omega)⟩)) (fun o k _ => tT_fr T) (fun o k x => ⟨E.1 o k (by omega), E.2 o k (by omega)⟩) (fun x => tR_lw x e) (fun k i h1 h2 _ => cg (y.1 k (by omega) (by omega)) i) y.2.1 y.2.2.1 (fun x => y.2.2.2.trans x)⟩
theorem lE_0 {N2 M1 M2 : ti_M} {v : Int32} (h : lE M1 M2) (e : N2 = uI M2 60 0 v) : lE M1 N2 := by
  obtain ⟨t, tx, s, p, si, u, c, hb⟩ := h
  exact ⟨t, tx, s, p, si, u, c, lB_tr hb (fun x => x) (fun _ _ _ => rfl) (fun _ _ _ => ⟨rfl, rfl⟩) (fun x => tR_lw x (fun _ _ _ => tY_uIE e)) (fun k i _ _ _ => cg (tY_uIE e) i) (tI_nE e (nk (by decide))) (tI_nE e (nk (by decide))) (fun x => (tI_nE e (nk (by decide))).trans x)⟩
theorem lE_fl {N1 N2 M1 M2 : ti_M} (h : lE M1 M2) (hI : mI Tm M2) (x : lx N2 M2) (g : gU N2 M2) (a : ∀ (t0 : Nat) (tx0 : Nat → Int), tT M1 0 1 = some t0 → tC t0 tx0 M1 → tC t0 tx0 N1) (b : ∀ o k : Nat, (o = 0 ∨ 26 < o) → tI N1 o k = tI M1 o k ∧ tY N1 o k = tY M1 o k) (r : rR N1 M1) : lE N1 N2 := by
  obtain ⟨t, tx, s, p, si, u, c, hb⟩ := h
  have e1 := hb.2.1.2.1
  exact ⟨t, tx, s, p, si, u, c, lB_tr hb (fun y => a t tx e1 y) (fun o k y => r o k (by omega)) (fun o k y => b o k (by omega)) (fun y => tR_lx y hI x g) (fun k i h1 h2 _ => cg (x.1 k (by omega)) i) (x.2.2.2.2 51 (by decide)) (x.2.2.2.2 52 (by decide)) (fun y => (x.2.2.2.2 53 (by decide)).trans y)⟩
/-- a text begins all anew -/
theorem lE_new {t : Nat} {tx J : Nat → Int} {N1 N2 : ti_M} (ht : t = 3 ∨ t = 4) (hC : tC t tx N1) (t1 : tT N1 0 1 = some t) (t2 : tT N1 27 0 = some t) (hq : qC 27 (bq_s0 tx J) N1) (h28 : tI N1 28 2 = 0) (h07 : tI N1 0 7 = 0) (hW : tW tx) (hR : tR tx N2) (hqR : qR (tx 4).toNat 0 (bq_s0 tx J) N2) (hqV : qV (tx 4).toNat 0 (bq_s0 tx J) N2) (h51 : tI N2 60 51 = 0) (h52 : tI N2 60 52 = 0) (h53 : tI N2 60 53 = -1) : lE N1 N2 := by
  have z : (0 : Int32).toInt = 0 := by decide
  refine ⟨t, tx, bq_s0 tx J, fun i => (tY N1 0 4 i).toInt, fun _ => 0, fun _ _ => 0, 0, ht, ⟨hC, t1, t2, hq, ⟨by rw [h28]; exact z, fun i hi => by omega⟩, fun i _ => rfl⟩, ⟨hR, hqR, hqV, ⟨by rw [h52]; exact z, fun i hi => by omega⟩, fun m k h1 _ _ => by rw [s0_2] at h1; omega, h53⟩, hW, ⟨wF_s0 hW, s0_1⟩, ⟨by decide, fun i hi => by omega⟩, Or.inl ⟨by rw [h07]; exact z, by rw [h51]; exact z⟩⟩
theorem tl_kG {N M : ti_M} (g : kG N M) : tl N M := ⟨fun o k _ h => (g.1 o k (by omega)).1, g.2.1, g.2.2.1⟩
theorem tl_kK {N M : ti_M} (g : kK N M) : tl N M := ⟨fun o k h1 h2 => g.1 o k (by omega) (by omega), g.2.2.1, g.2.2.2⟩

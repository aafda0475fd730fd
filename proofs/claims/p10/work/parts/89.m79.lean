variable {Tc : gC} {Tm : gM}
/-! the reference between calls: the steps back, the image, the log -/
theorem bk_1 {q q2 k i : Nat} (h : bk q k i) (h2 : bk q2 k i) : q = q2 := by
  obtain ⟨a, b, c⟩ := h
  obtain ⟨-, -, c2⟩ := h2
  by_cases x : k ≤ 38
  · rw [if_pos x] at c c2; omega
  · rw [if_neg x] at c c2
    by_cases y : k ≤ 48
    · rw [if_pos y] at c c2; omega
    · rw [if_neg y] at c c2; omega
/-- all but the steps back stays -/
def eB (N M : ti_M) : Prop := (∀ k : Nat, k ≠ 33 → k ≠ 52 → tI N 60 k = tI M 60 k) ∧ ∀ k i : Nat, (∀ q : Nat, 3 ≤ q → ¬ bk q k i) → tY N 60 k i = tY M 60 k i
theorem eB.refl {M : ti_M} : eB M M := ⟨fun _ _ _ => rfl, fun _ _ _ => rfl⟩
theorem eB.trans {K N M : ti_M} (x : eB K N) (y : eB N M) : eB K M := ⟨fun k a b => (x.1 k a b).trans (y.1 k a b), fun k i h => (x.2 k i h).trans (y.2 k i h)⟩
theorem eB_eR {t : Nat} {N M : ti_M} (h : eR t N M) (ht : 3 ≤ t) : eB N M := ⟨fun k a _ => h.1 k a, fun k i q => h.2 k i (q t ht)⟩
theorem eB_52 {v : Int32} {N M : ti_M} (e : N = uI M 60 52 v) : eB N M := ⟨fun k _ b => tI_nE e (nk b), fun _ i _ => cg (tY_uIE e) i⟩
theorem eB_lw {N M : ti_M} (e : eB N M) : lw N M := fun k h1 h2 => funext fun i => e.2 k i (fun q _ b => by have := b.1; omega)
def rgR (n : Nat) (u : Nat → Nat → Int) (c : Int) (M : ti_M) : Prop := (tI M 60 52).toInt = c ∧ ∀ i : Nat, (i : Int) < c → qR n (3 + i) (u i) M ∧ qV n (3 + i) (u i) M
/-- the log: three to a minute; h of them told -/
def hR (p : Nat → Int) (h : Int) (M : ti_M) : Prop := ∀ m k : Nat, (m : Int) < h → m < 120 → k < 3 → (tY M 60 50 (3 * m + k)).toInt = p (120 * k + m)
/-- the image's log -/
def hI3 (p : Nat → Int) (h : Int) (M : ti_M) : Prop := ∀ m k : Nat, (m : Int) < h → m < 120 → k < 3 → (tY M 60 50 (360 + (3 * m + k))).toInt = p (120 * k + m)
def kR (tx s : Nat → Int) (u : Nat → Nat → Int) (c : Int) (p : Nat → Int) (M : ti_M) : Prop := tR tx M ∧ qR (tx 4).toNat 0 s M ∧ qV (tx 4).toNat 0 s M ∧ rgR (tx 4).toNat u c M ∧ hR p (s 2) M ∧ tI M 60 53 = -1
/-- the image, its log stay -/
def iR (N M : ti_M) : Prop := tI N 60 51 = tI M 60 51 ∧ (∀ k i : Nat, bk 2 k i → tY N 60 k i = tY M 60 k i) ∧ ∀ i : Nat, 360 ≤ i → tY N 60 50 i = tY M 60 50 i
theorem iR.refl {M : ti_M} : iR M M := ⟨rfl, fun _ _ _ => rfl, fun _ _ => rfl⟩
theorem iR.trans {K N M : ti_M} (x : iR K N) (y : iR N M) : iR K M := ⟨x.1.trans y.1, fun k i b => (x.2.1 k i b).trans (y.2.1 k i b), fun i h => (x.2.2 i h).trans (y.2.2 i h)⟩
section
variable {n q t a : Nat} {tx s s2 si p p2 : Nat → Int} {u w : Nat → Nat → Int} {c c2 k k2 : Int} {K N X M : ti_M} {v : Int32}
theorem eB_qR (h : qR n q s M) (e : eB N M) (hq : q < 3) (hn : n ≤ 8) : qR n q s N := qR_rows h (fun k i b => e.2 k i (fun q2 h2 b2 => by have := bk_1 b b2; omega)) hn
theorem eB_qV (h : qV n q s M) (e : eB N M) (hq : q < 3) (hn : n ≤ 8) : qV n q s N := qV_rows h (fun k i b => e.2 k i (fun q2 h2 b2 => by have := bk_1 b b2; omega)) hn
theorem qR_ne (h : qR n q s M) (e : eR t N M) (hq : q ≠ t) (hn : n ≤ 8) : qR n q s N := qR_rows h (fun k i b => e.2 k i (fun b2 => hq (bk_1 b b2))) hn
theorem qV_ne (h : qV n q s M) (e : eR t N M) (hq : q ≠ t) (hn : n ≤ 8) : qV n q s N := qV_rows h (fun k i b => e.2 k i (fun b2 => hq (bk_1 b b2))) hn
theorem qV_I {j : Nat} (h : qV n q s M) (e : N = uI M 60 j v) : qV n q s N := by subst e; exact h
theorem iR_eR (E : eR 0 N M) : iR N M := ⟨E.1 51 (by decide), fun k i b => E.2 k i (fun b2 => absurd (bk_1 b b2) (by decide)), fun i _ => E.2 50 i (fun b => by have := b.2.1; omega)⟩
theorem iR_52 (e : N = uI M 60 52 v) : iR N M := ⟨tI_nE e (nk (by decide)), fun _ i _ => cg (tY_uIE e) i, fun i _ => cg (tY_uIE e) i⟩
theorem rgR_eR (h : rgR n u c M) (E : eR q N M) (hq : q < 3) (hn : n ≤ 8) : rgR n u c N := ⟨by rw [E.1 52 (by decide)]; exact h.1, fun i hi => ⟨qR_ne (h.2 i hi).1 E (by omega) hn, qV_ne (h.2 i hi).2 E (by omega) hn⟩⟩
theorem kR_eR (h4 : 0 ≤ tx 4 ∧ tx 4 ≤ 8) (h : kR tx s u c p M) (E : eR 0 N M) (hq : qR (tx 4).toNat 0 s2 N) (hv : qV (tx 4).toNat 0 s2 N) (h2 : s2 2 = s 2) : kR tx s2 u c p N := by
  obtain ⟨a1, a2, a3, a4, a6, a7⟩ := h
  exact ⟨tR_lw a1 (eR_lw E), hq, hv, rgR_eR a4 E (by decide) (by omega), fun m k h1 h2' h3 => by rw [h2] at h1; rw [E.2 50 _ (fun b => by have := b.2.1; omega)]; exact a6 m k h1 h2' h3, (E.1 53 (by decide)).trans a7⟩
theorem iR_0 (e : N = uI M 60 0 v) : iR N M := ⟨tI_nE e (nk (by decide)), fun _ i _ => cg (tY_uIE e) i, fun i _ => cg (tY_uIE e) i⟩
theorem kR_0 (h : kR tx s u c p M) (e : N = uI M 60 0 v) : kR tx s u c p N := by
  obtain ⟨a1, a2, a3, ⟨a4, a5⟩, a6, a7⟩ := h
  exact ⟨tR_lw a1 (fun _ _ _ => tY_uIE e), qR_I a2 e, qV_I a3 e, ⟨by rw [tI_nE e (nk (by decide))]; exact a4, fun i hi => ⟨qR_I (a5 i hi).1 e, qV_I (a5 i hi).2 e⟩⟩, fun m k h1 h2 h3 => by rw [cg (tY_uIE e) _]; exact a6 m k h1 h2 h3, (tI_nE e (nk (by decide))).trans a7⟩
theorem hi9_0 {n : Nat} (h : ¬ (tI M 60 51).toInt = 0 → qR n 2 si M ∧ qV n 2 si M ∧ hI3 p (si 2) M) (e : N = uI M 60 0 v) : ¬ (tI N 60 51).toInt = 0 → qR n 2 si N ∧ qV n 2 si N ∧ hI3 p (si 2) N := fun q => by
  rw [tI_nE e (nk (by decide))] at q
  obtain ⟨a, b, d⟩ := h q
  exact ⟨qR_I a e, qV_I b e, fun m k h1 h2 h3 => by rw [cg (tY_uIE e) _]; exact d m k h1 h2 h3⟩
/-- the ring while its eldest goes: entries below k - 1 have moved -/
def rbk (n : Nat) (k : Int) (u : Nat → Nat → Int) (M : ti_M) : Prop := ∀ i : Nat, i < 20 → qR n (3 + i) (if (i : Int) + 1 < k then u (i + 1) else u i) M ∧ qV n (3 + i) (if (i : Int) + 1 < k then u (i + 1) else u i) M
theorem rbk_0 (hk : k = 1) (h : rgR n u c M) (hc : c = 20) : rbk n k u M := fun i hi => by rw [if_neg (by omega)]; exact h.2 i (by omega)
theorem rbk_s (h : rbk n k u M) (E : eR t N M) (x : cx t a N M) (ht : (t : Int) = 3 + k - 1) (ha : (a : Int) = 3 + k) (h1 : 1 ≤ k) (h2 : k < 20) (e : k2 = k + 1) (hn : n ≤ 8) : rbk n k2 u N := by
  intro i hi
  by_cases r : (i : Int) + 1 = k
  · rw [if_pos (by omega), show 3 + i = t by omega]
    have y := h (i + 1) (by omega)
    rw [if_neg (by omega), show 3 + (i + 1) = a by omega] at y
    exact ⟨cx_qR hn x y.1, cx_qV hn x y.2⟩
  · have y := h i hi
    rw [show (if (i : Int) + 1 < k2 then u (i + 1) else u i) = (if (i : Int) + 1 < k then u (i + 1) else u i) by
      by_cases z : (i : Int) + 1 < k
      · rw [if_pos z, if_pos (by omega)]
      · rw [if_neg z, if_neg (by omega)]]
    exact ⟨qR_ne y.1 E (by omega) hn, qV_ne y.2 E (by omega) hn⟩
theorem rbk_e (h : rbk n k u M) (hk : k = 20) (e : N = uI M 60 52 v) : ∀ i : Nat, (i : Int) < 19 → qR n (3 + i) (u (i + 1)) N ∧ qV n (3 + i) (u (i + 1)) N := fun i hi => by
  have y := h i (by omega)
  rw [if_pos (by omega)] at y
  exact ⟨qR_I y.1 e, qV_I y.2 e⟩
/-- a state remembered -/
theorem kR_rem (h4 : 0 ≤ tx 4 ∧ tx 4 ≤ 8) (h : kR tx s u c p M) (B : eB X M) (hw : ∀ i : Nat, (i : Int) < c2 → qR (tx 4).toNat (3 + i) (w i) X ∧ qV (tx 4).toNat (3 + i) (w i) X) (E : eR t K X) (x : cx t 0 K X) (eN : N = uI K 60 52 v) (ht : (t : Int) = 3 + c2) (h0 : 0 ≤ c2) (hv : v.toInt = c2 + 1) (hc : (c < 20 ∧ c2 = c ∧ ∀ i : Nat, (i : Int) < c → w i = u i) ∨ (c = 20 ∧ c2 = 19 ∧ ∀ i : Nat, i < 19 → w i = u (i + 1))) : kR tx s (bq_rb u c s) (bq_rc c) p N ∧ iR N M := by
  obtain ⟨a1, a2, a3, ⟨a4, a5⟩, a6, a7⟩ := h
  have hn : (tx 4).toNat ≤ 8 := by omega
  have BN : eB N M := ((eB_52 eN).trans (eB_eR E (by omega))).trans B
  have qt : qR (tx 4).toNat t s N := qR_I (cx_qR hn x (eB_qR a2 B (by decide) hn)) eN
  have vt : qV (tx 4).toNat t s N := qV_I (cx_qV hn x (eB_qV a3 B (by decide) hn)) eN
  refine ⟨⟨tR_lw a1 (eB_lw BN), eB_qR a2 BN (by decide) hn, eB_qV a3 BN (by decide) hn, ⟨?_, fun i hi => ?_⟩, fun m k h1 h2 h3 => by rw [BN.2 50 _ (fun q _ b => by have := b.2.1; omega)]; exact a6 m k h1 h2 h3, (BN.1 53 (by decide) (by decide)).trans a7⟩, BN.1 51 (by decide) (by decide), fun k i b => BN.2 k i (fun q h3 b2 => by have := bk_1 b b2; omega), fun i _ => BN.2 50 i (fun q _ b => by have := b.2.1; omega)⟩
  · rw [tI_uE eN]
    unfold bq_rc
    rcases hc with ⟨b0, b1, b2⟩ | ⟨b0, b1, b2⟩ <;> split <;> omega
  · by_cases r : (i : Int) = c2
    · have e : bq_rb u c s i = s := by
        unfold bq_rb
        rcases hc with ⟨b0, b1, b2⟩ | ⟨b0, b1, b2⟩
        · rw [if_pos b0, if_pos (by omega)]
        · rw [if_neg (by omega), if_pos (by omega)]
      rw [e, show 3 + i = t by omega]; exact ⟨qt, vt⟩
    · have hi2 : (i : Int) < c2 := by
        unfold bq_rc at hi
        rcases hc with ⟨b0, b1, b2⟩ | ⟨b0, b1, b2⟩ <;> split at hi <;> omega
      have e : bq_rb u c s i = w i := by
        unfold bq_rb
        rcases hc with ⟨b0, b1, b2⟩ | ⟨b0, b1, b2⟩
        · rw [if_pos b0, if_neg (by omega)]; exact (b2 i (by omega)).symm
        · rw [if_neg (by omega), if_neg (by omega)]; exact (b2 i (by omega)).symm
      rw [e]
      have y := hw i hi2
      exact ⟨qR_I (qR_ne y.1 E (by omega) hn) eN, qV_I (qV_ne y.2 E (by omega) hn) eN⟩
/-- one step back -/
theorem kR_tb (h4 : 0 ≤ tx 4 ∧ tx 4 ≤ 8) (h : kR tx s u c p M) (e33 : eR 0 K M) (eX : X = uI K 60 52 v) (E : eR 0 N X) (x : cx 0 t N X) (hc : 0 < c) (hv : v.toInt = c - 1) (ht : (t : Int) = 3 + (c - 1)) (h2 : u (c - 1).toNat 2 = s 2) : kR tx (u (c - 1).toNat) u (c - 1) p N ∧ iR N M := by
  obtain ⟨a1, a2, a3, a4, a6, a7⟩ := h
  have hn : (tx 4).toNat ≤ 8 := by omega
  have a4 := rgR_eR a4 e33 (by decide) hn
  have y := a4.2 (c - 1).toNat (by omega)
  rw [show 3 + (c - 1).toNat = t by omega] at y
  have lX : lw X K := fun _ _ _ => tY_uIE eX
  refine ⟨⟨tR_lw (tR_lw (tR_lw a1 (eR_lw e33)) lX) (eR_lw E), cx_qR hn x (qR_I y.1 eX), cx_qV hn x (qV_I y.2 eX), ⟨by rw [E.1 52 (by decide), tI_uE eX, hv], fun i hi => ?_⟩, fun m k h1 h2' h3 => ?_, (E.1 53 (by decide)).trans ((tI_nE eX (nk (by decide))).trans ((e33.1 53 (by decide)).trans a7))⟩, (iR_eR E).trans ((iR_52 eX).trans (iR_eR e33))⟩
  · have z := a4.2 i (by omega)
    exact ⟨qR_ne (qR_I z.1 eX) E (by omega) hn, qV_ne (qV_I z.2 eX) E (by omega) hn⟩
  · rw [h2] at h1
    rw [E.2 50 _ (fun b => by have := b.2.1; omega), cg (tY_uIE eX) _, e33.2 50 _ (fun b => by have := b.2.1; omega)]
    exact a6 m k h1 h2' h3
theorem po_is {m : Int} {p : Nat} (h : ∀ j : Nat, j < p → s (96 + j) ≠ m) (hp : p < (s 3).toNat) (e : s (96 + p) = m) : bq_po s m 0 = p := by
  have key : ∀ i : Nat, i ≤ p → bq_po s m (p - i) = p := by
    intro i
    induction i with
    | zero => intro _; exact po_at hp e
    | succ i ih =>
      intro hi
      rw [po_go (by omega) (h (p - (i + 1)) (by omega)), show p - (i + 1) + 1 = p - i by omega]
      exact ih (by omega)
  have := key p (Nat.le_refl _)
  rwa [Nat.sub_self] at this
end
section
variable {n q p m : Nat} {s : Nat → Int} {M N : ti_M} {z v : Int32} {x : Int}
theorem qR_39 (h : qR n q s M) (hz : z.toInt = ((8 * q + p : Nat) : Int)) (hv : v.toInt = x) (e : N = uY M 60 39 (upd (tY M 60 39) z.toNatClampNeg v)) (hp : p < 8) (hn : n ≤ 8) : qR n q (pp_su s (96 + p) x) N := by
  rw [i_cl hz] at e
  obtain ⟨a, b, c, d, f, g⟩ := h
  have o : ∀ k2 : Nat, k2 ≠ 39 → tY N 60 k2 = tY M 60 k2 := fun k2 h2 => tY_nE e (nk h2)
  have gk : ∀ j : Nat, j ≠ 96 + p → pp_su s (96 + p) x j = s j := fun j hj => su_n hj
  refine ⟨by rw [gk 2 (by omega), gk 3 (by omega), gk 4 (by omega), gk 5 (by omega), o 34 (by decide), o 38 (by decide), o 35 (by decide), o 36 (by decide)]; exact a, fun p2 h1 h2 => ?_, fun j hj => by rw [gk (112 + j) (by omega), o 49 (by decide)]; exact c j hj, fun m2 h2 => ?_, fun m2 h2 => ?_, ?_⟩
  · rw [gk 3 (by omega)] at h2
    by_cases r : p2 = p
    · subst r; rw [su_s, tY_uE e, pk_us, hv]
    · rw [gk (96 + p2) (by omega), tY_uE e, pk_un (by omega)]; exact b p2 h1 h2
  · rw [gk (128 + m2) (by omega), gk (144 + m2) (by omega), gk (160 + m2) (by omega), gk (176 + m2) (by omega), gk (192 + m2) (by omega), gk (240 + m2) (by omega), o 40 (by decide), o 44 (by decide), o 41 (by decide), o 42 (by decide), o 43 (by decide), o 47 (by decide)]; exact d m2 h2
  · rw [gk (128 + m2) (by omega), gk (208 + m2) (by omega), gk (224 + m2) (by omega), o 45 (by decide), o 46 (by decide)]; exact f m2 h2
  · rw [gk 1 (by omega), o 37 (by decide)]
    split at g
    · rename_i w
      rw [if_pos w]
      intro m2 h2
      rw [gk (256 + m2) (by omega)]; exact g m2 h2
    · rename_i w
      rw [if_neg w]; exact g
theorem qR_49 (h : qR n q s M) (hz : z.toInt = ((3 * q + p : Nat) : Int)) (hv : v.toInt = x) (e : N = uY M 60 49 (upd (tY M 60 49) z.toNatClampNeg v)) (hp : p < 3) (hn : n ≤ 8) : qR n q (pp_su s (112 + p) x) N := by
  rw [i_cl hz] at e
  obtain ⟨a, b, c, d, f, g⟩ := h
  have o : ∀ k2 : Nat, k2 ≠ 49 → tY N 60 k2 = tY M 60 k2 := fun k2 h2 => tY_nE e (nk h2)
  have gk : ∀ j : Nat, j ≠ 112 + p → pp_su s (112 + p) x j = s j := fun j hj => su_n hj
  refine ⟨by rw [gk 2 (by omega), gk 3 (by omega), gk 4 (by omega), gk 5 (by omega), o 34 (by decide), o 38 (by decide), o 35 (by decide), o 36 (by decide)]; exact a, fun p2 h1 h2 => ?_, fun j hj => ?_, fun m2 h2 => ?_, fun m2 h2 => ?_, ?_⟩
  · rw [gk 3 (by omega)] at h2
    rw [gk (96 + p2) (by omega), o 39 (by decide)]; exact b p2 h1 h2
  · by_cases r : j = p
    · subst r; rw [su_s, tY_uE e, pk_us, hv]
    · rw [gk (112 + j) (by omega), tY_uE e, pk_un (by omega)]; exact c j hj
  · rw [gk (128 + m2) (by omega), gk (144 + m2) (by omega), gk (160 + m2) (by omega), gk (176 + m2) (by omega), gk (192 + m2) (by omega), gk (240 + m2) (by omega), o 40 (by decide), o 44 (by decide), o 41 (by decide), o 42 (by decide), o 43 (by decide), o 47 (by decide)]; exact d m2 h2
  · rw [gk (128 + m2) (by omega), gk (208 + m2) (by omega), gk (224 + m2) (by omega), o 45 (by decide), o 46 (by decide)]; exact f m2 h2
  · rw [gk 1 (by omega), o 37 (by decide)]
    split at g
    · rename_i w
      rw [if_pos w]
      intro m2 h2
      rw [gk (256 + m2) (by omega)]; exact g m2 h2
    · rename_i w
      rw [if_neg w]; exact g
theorem qR_37o (h : qR n q s M) (h1 : s 1 = 0) (hz : z.toInt = (q : Int)) (e : N = uY M 60 37 (upd (tY M 60 37) z.toNatClampNeg v)) (hb : ∀ j : Nat, j < 8 → pp_bt v j = if j = m then 1 else pp_bt (tY M 60 37 q) j) (hn : n ≤ 8) : qR n q (pp_su s (256 + m) 1) N := by
  rw [i_cl hz] at e
  obtain ⟨a, b, c, d, f, g⟩ := h
  have o : ∀ k2 : Nat, k2 ≠ 37 → tY N 60 k2 = tY M 60 k2 := fun k2 h2 => tY_nE e (nk h2)
  have gk : ∀ j : Nat, j ≠ 256 + m → pp_su s (256 + m) 1 j = s j := fun j hj => su_n hj
  refine ⟨by rw [gk 2 (by omega), gk 3 (by omega), gk 4 (by omega), gk 5 (by omega), o 34 (by decide), o 38 (by decide), o 35 (by decide), o 36 (by decide)]; exact a, fun p2 h1 h2 => ?_, fun j hj => by rw [gk (112 + j) (by omega), o 49 (by decide)]; exact c j hj, fun m2 h2 => ?_, fun m2 h2 => ?_, ?_⟩
  · rw [gk 3 (by omega)] at h2
    rw [gk (96 + p2) (by omega), o 39 (by decide)]; exact b p2 h1 h2
  · rw [gk (128 + m2) (by omega), gk (144 + m2) (by omega), gk (160 + m2) (by omega), gk (176 + m2) (by omega), gk (192 + m2) (by omega), gk (240 + m2) (by omega), o 40 (by decide), o 44 (by decide), o 41 (by decide), o 42 (by decide), o 43 (by decide), o 47 (by decide)]; exact d m2 h2
  · rw [gk (128 + m2) (by omega), gk (208 + m2) (by omega), gk (224 + m2) (by omega), o 45 (by decide), o 46 (by decide)]; exact f m2 h2
  · rw [gk 1 (by omega), if_pos h1]
    rw [if_pos h1] at g
    intro j hj
    rw [tY_uE e, pk_us, hb j hj]
    by_cases r : j = m
    · subst r; rw [su_s, if_pos rfl]
    · rw [gk (256 + j) (by omega), if_neg r]; exact g j hj
end
set_option maxHeartbeats 4000000 in
set_option maxRecDepth 100000 in
theorem z_X10_keepNow (l : Launch) (D : va_G) (A : Nat → Nat → Nat) (cy : Nat → ClassId) (hJ : ti_inj ti_LM A) (M : ti_M) (hI : mI Tm M) (hF : mF Tm M) (tx rg lp : Nat → Int) (ug : Nat → Nat → Int) (cu : Int) (ht4 : 0 ≤ tx 4 ∧ tx 4 ≤ 8) (hk : kR tx rg ug cu lp M) : ti_Kv l yX10_keepNow cX10_keepNow 2 1 ti_LM D A cy M [.ref (A 60 0)] (fun M2 => kR tx rg (bq_rb ug cu rg) (bq_rc cu) lp M2 ∧ iR M2 M ∧ mF Tm M2 ∧ kp M2 M) := by
  refine ti_eV yp_X10_keepNow hJ ti_LM_nd (Nat.le_of_ble_eq_true rfl) ?_
  intro p e s m args below meth c Q H0 C hQ hw ls hl
  have hx := C.1
  have hb := C.2.1
  have hl : lv_has ls 2 [(0, .ref (A 60 0))] := hl
  obtain ⟨htr, hr, hV, hu, hp0, htw⟩ := id hk
  have hu1 := hu.1
  refine lv_aload_n hx hb dX10_keepNow_0 rfl (lv_at hl 0 rfl) ?_
  refine ti_get (ci := 10) (k := 52) (N := 67) (T := TX10) C hw iw_10 rfl ob_60 (by decide) (by decide) fl_X10_317 rfl rfl dX10_keepNow_1 ?_
  refine lv_topi (fun x_1 ex_1 => ?_)
  have bx_1 : 0 ≤ x_1.toInt ∧ x_1.toInt ≤ 20 := mI_rd hI ex_1
  have ux_1 : (tI M 60 52).toInt = x_1.toInt := by rw [ex_1]
  refine lv_bipush (v := 20) hx hb dX10_keepNow_4 (by decide) ?_
  refine sb_icmp_ne (tgt := 45) hx hb rfl (by decide : (20 : Int32).toInt = 20) dX10_keepNow_6 (by decide) (fun c_6_1 => ?_) (fun c_6_1 => ?_)
  · refine lv_aload_n hx hb dX10_keepNow_45 rfl (lv_at hl 0 rfl) ?_
    refine lv_iconst (v := 3) hx hb dX10_keepNow_46 (by decide) ?_
    refine lv_aload_n hx hb dX10_keepNow_47 rfl (lv_at hl 0 rfl) ?_
    refine ti_get (ci := 10) (k := 52) (N := 67) (T := TX10) C hw iw_10 rfl ob_60 (by decide) (by decide) fl_X10_317 rfl rfl dX10_keepNow_48 ?_
    refine ti_top (y := x_1) (ex_1.symm) ?_
    have u_25 : (tI M 60 52).toInt = (x_1 : Int32).toInt := by rw [(ex_1.symm)]
    refine lv_iadd hx hb dX10_keepNow_51 ?_
    refine lv_topi (fun x_26 ex_26 => ?_)
    have tx_26 : x_26.toInt = 3 + x_1.toInt := i_add ex_26 (by decide : (3 : Int32).toInt = 3) rfl (by omega) (by omega)
    refine lv_iconst (v := 0) hx hb dX10_keepNow_52 (by decide) ?_
    refine ti_callVv (ci := 10) (av := [.int x_26, .int 0]) C hw (z_X10_copies l D A cy hJ M hI x_26 0 (by first | omega | decide | (have l0 : (0 : Int32).toInt = 0 := (by decide); have l2 : (2 : Int32).toInt = 2 := (by decide); have l3 : (3 : Int32).toInt = 3 := (by decide); omega)) (by first | omega | decide | (have l0 : (0 : Int32).toInt = 0 := (by decide); have l2 : (2 : Int32).toInt = 2 := (by decide); have l3 : (3 : Int32).toInt = 3 := (by decide); omega)) (by first | omega | decide | (have l0 : (0 : Int32).toInt = 0 := (by decide); have l2 : (2 : Int32).toInt = 2 := (by decide); have l3 : (3 : Int32).toInt = 3 := (by decide); omega)) (by first | omega | decide | (have l0 : (0 : Int32).toInt = 0 := (by decide); have l2 : (2 : Int32).toInt = 2 := (by decide); have l3 : (3 : Int32).toInt = 3 := (by decide); omega)) (by first | omega | decide | (have l0 : (0 : Int32).toInt = 0 := (by decide); have l2 : (2 : Int32).toInt = 2 := (by decide); have l3 : (3 : Int32).toInt = 3 := (by decide); omega)) (by first | omega | decide | (have l0 : (0 : Int32).toInt = 0 := (by decide); have l2 : (2 : Int32).toInt = 2 := (by decide); have l3 : (3 : Int32).toInt = 3 := (by decide); omega))) ⟨ml_X10_404, ym_X10_copies, yv_X10_copies, yi_X10_copies, yc_X10_copies⟩ yd_X10_copies ob_60 (by decide) rfl rfl hl.1 (Nat.le_of_ble_eq_true rfl) ⟨by decide, by decide⟩ ⟨Nat.zero_le _, Nat.zero_le _⟩ dX10_keepNow_53 (fun M_28 H locs hp_28 hw => ?_)
    obtain ⟨erM_28, cxM_28, hqM_28⟩ := hp_28
    rw [show (0 : Int32).toInt.toNat = 0 by decide] at cxM_28
    obtain ⟨iM_28, q_29, q_30⟩ := hqM_28
    have q_30n : cq (x_26).toInt.toNat 0 M_28 M := by rw [show (0 : Int32).toNatClampNeg = 0 from by decide] at q_30; exact q_30
    have kpM_28 : kp M_28 M := kp_cq q_29 q_30n (by show (x_26).toInt.toNat ≠ 0; omega)
    have gsM_28 : gq M 0 := hF.2.2.1
    have mfM_28 : mF Tm M_28 := mF_cq hF iM_28 q_29 q_30n gsM_28
    have gtM_28 : gq M_28 (x_26).toInt.toNat := gq_cq q_30n gsM_28
    refine lv_aload_n hx hb dX10_keepNow_56 rfl (lv_at hl 0 rfl) ?_
    refine lv_dup hx hb dX10_keepNow_57 rfl ?_
    refine ti_get (ci := 10) (k := 52) (N := 67) (T := TX10) C hw iw_10 rfl ob_60 (by decide) (by decide) fl_X10_317 rfl rfl dX10_keepNow_58 ?_
    refine ti_top (y := x_1) ((erM_28.1 52 (by decide)).trans ex_1.symm) ?_
    have u_31 : (tI M_28 60 52).toInt = (x_1 : Int32).toInt := by rw [((erM_28.1 52 (by decide)).trans ex_1.symm)]
    refine lv_iconst (v := 1) hx hb dX10_keepNow_61 (by decide) ?_
    refine lv_iadd hx hb dX10_keepNow_62 ?_
    refine lv_topi (fun x_32 ex_32 => ?_)
    have tx_32 : x_32.toInt = x_1.toInt + 1 := i_add ex_32 rfl (by decide : (1 : Int32).toInt = 1) (by omega) (by omega)
    refine ti_putI (ci := 10) (k := 52) (N := 67) (T := TX10) C hw iw_10 tyX10 tyX10_ok nmX10 rfl ob_60 (by decide) (by decide) fl_X10_317 rfl rfl rfl rfl (fn_10 A _) fs_10_52 dX10_keepNow_63 (fun H locs hw => ?_)
    obtain ⟨M_33, hM_33⟩ : ∃ z : ti_M, z = uI M_28 60 52 x_32 := ⟨_, rfl⟩
    have hw := hw.to hM_33.symm
    have iM_33 : mI Tm M_33 := mI_uI iM_28 hM_33 (by decide) (by decide) (ib_mk (lo := 0) (hi := 20) (by omega) (by omega))
    have vM_33 : (tI M_33 60 52).toInt = (x_32 : Int32).toInt := by rw [tI_uE hM_33]
    have mfM_33 : mF Tm M_33 := mF_52p mfM_28 iM_33 hM_33 (by rw [((erM_28.1 52 (by decide)).trans ex_1.symm)]; omega) (by rw [((erM_28.1 52 (by decide)).trans ex_1.symm)]; omega) (by rw [((erM_28.1 52 (by decide)).trans ex_1.symm), show 3 + x_1.toInt.toNat = (x_26).toInt.toNat by omega]; exact gtM_28)
    have kk_34 := kR_rem (w := ug) (c2 := cu) ht4 hk eB.refl (fun i hi => hu.2 i (by omega)) erM_28 cxM_28 hM_33 (by omega) (by omega) (by omega) (Or.inl ⟨by omega, rfl, fun _ _ => rfl⟩)
    exact hQ _ _ _ _ _ hw (⟨kk_34.1, kk_34.2, mfM_33, (kp.trans (kp_I hM_33 (by decide)) kpM_28)⟩) dX10_keepNow_66
  · refine lv_iconst (v := 1) hx hb dX10_keepNow_9 (by decide) ?_
    refine lv_istore_n (lv' := [(1, .int 1), (0, .ref (A 60 0))]) hx hb dX10_keepNow_10 rfl hl (by decide) rfl (fun ls hl => ?_)
    have hl_11_11 : ∀ (n_12 : Nat) (x_3 : Int32) (M_6 : ti_M) (H : Heap) (locs : List Loc) (ls : Array Slot), (20 - x_3.toInt : Int).toNat < n_12 → (1 ≤ x_3.toInt) → (x_3.toInt ≤ 20) → (mI Tm M_6) → (kp M_6 M) → (mF Tm M_6) → (eB M_6 M) → (tI M_6 60 52 = x_1) → (rbk (tx 4).toNat (x_3.toInt) ug M_6) → ti_H ti_LM D A cy H0 M_6 H locs → lv_has ls 2 [(1, .int x_3), (0, .ref (A 60 0))] → W p l e (ti_rm 1) s m args below meth c H locs 0 0 Q (F0 m 11 ls []) := by
      intro n_12
      induction n_12 with
      | zero => intro x_3 M_6 H locs ls hf_12; exact absurd hf_12 (Nat.not_lt_zero _)
      | succ n_12 ih_12 =>
        intro x_3 M_6 H locs ls hf_12 b_4 b_5 iM_6 f_7 f_8 f_9 f_10 j_11 hw hl
        refine lv_iload_n hx hb dX10_keepNow_11 rfl (lv_at hl 0 rfl) ?_
        refine lv_bipush (v := 20) hx hb dX10_keepNow_12 (by decide) ?_
        refine sb_icmp_ge (tgt := 35) hx hb rfl (by decide : (20 : Int32).toInt = 20) dX10_keepNow_14 (by decide) (fun c_14_12 => ?_) (fun c_14_12 => ?_)
        · refine lv_aload_n hx hb dX10_keepNow_35 rfl (lv_at hl 1 rfl) ?_
          refine lv_dup hx hb dX10_keepNow_36 rfl ?_
          refine ti_get (ci := 10) (k := 52) (N := 67) (T := TX10) C hw iw_10 rfl ob_60 (by decide) (by decide) fl_X10_317 rfl rfl dX10_keepNow_37 ?_
          refine ti_top (y := x_1) (f_10) ?_
          have u_22 : (tI M_6 60 52).toInt = (x_1 : Int32).toInt := by rw [(f_10)]
          refine lv_iconst (v := 1) hx hb dX10_keepNow_40 (by decide) ?_
          refine lv_isub hx hb dX10_keepNow_41 ?_
          refine lv_topi (fun x_23 ex_23 => ?_)
          have tx_23 : x_23.toInt = x_1.toInt - 1 := i_sub ex_23 rfl (by decide : (1 : Int32).toInt = 1) (by omega) (by omega)
          refine ti_putI (ci := 10) (k := 52) (N := 67) (T := TX10) C hw iw_10 tyX10 tyX10_ok nmX10 rfl ob_60 (by decide) (by decide) fl_X10_317 rfl rfl rfl rfl (fn_10 A _) fs_10_52 dX10_keepNow_42 (fun H locs hw => ?_)
          obtain ⟨M_24, hM_24⟩ : ∃ z : ti_M, z = uI M_6 60 52 x_23 := ⟨_, rfl⟩
          have hw := hw.to hM_24.symm
          have iM_24 : mI Tm M_24 := mI_uI iM_6 hM_24 (by decide) (by decide) (ib_mk (lo := 0) (hi := 20) (by omega) (by omega))
          have vM_24 : (tI M_24 60 52).toInt = (x_23 : Int32).toInt := by rw [tI_uE hM_24]
          have mfM_24 : mF Tm M_24 := mF_52 f_8 iM_24 hM_24 (by rw [(f_10)]; omega)
          refine lv_aload_n hx hb dX10_keepNow_45 rfl (lv_at hl 1 rfl) ?_
          refine lv_iconst (v := 3) hx hb dX10_keepNow_46 (by decide) ?_
          refine lv_aload_n hx hb dX10_keepNow_47 rfl (lv_at hl 1 rfl) ?_
          refine ti_get (ci := 10) (k := 52) (N := 67) (T := TX10) C hw iw_10 rfl ob_60 (by decide) (by decide) fl_X10_317 rfl rfl dX10_keepNow_48 ?_
          refine ti_top (y := x_23) (tI_uE hM_24) ?_
          have u_35 : (tI M_24 60 52).toInt = (x_23 : Int32).toInt := by rw [(tI_uE hM_24)]
          refine lv_iadd hx hb dX10_keepNow_51 ?_
          refine lv_topi (fun x_36 ex_36 => ?_)
          have tx_36 : x_36.toInt = 3 + x_23.toInt := i_add ex_36 (by decide : (3 : Int32).toInt = 3) rfl (by omega) (by omega)
          refine lv_iconst (v := 0) hx hb dX10_keepNow_52 (by decide) ?_
          refine ti_callVv (ci := 10) (av := [.int x_36, .int 0]) C hw (z_X10_copies l D A cy hJ M_24 iM_24 x_36 0 (by first | omega | decide | (have l0 : (0 : Int32).toInt = 0 := (by decide); have l2 : (2 : Int32).toInt = 2 := (by decide); have l3 : (3 : Int32).toInt = 3 := (by decide); omega)) (by first | omega | decide | (have l0 : (0 : Int32).toInt = 0 := (by decide); have l2 : (2 : Int32).toInt = 2 := (by decide); have l3 : (3 : Int32).toInt = 3 := (by decide); omega)) (by first | omega | decide | (have l0 : (0 : Int32).toInt = 0 := (by decide); have l2 : (2 : Int32).toInt = 2 := (by decide); have l3 : (3 : Int32).toInt = 3 := (by decide); omega)) (by first | omega | decide | (have l0 : (0 : Int32).toInt = 0 := (by decide); have l2 : (2 : Int32).toInt = 2 := (by decide); have l3 : (3 : Int32).toInt = 3 := (by decide); omega)) (by first | omega | decide | (have l0 : (0 : Int32).toInt = 0 := (by decide); have l2 : (2 : Int32).toInt = 2 := (by decide); have l3 : (3 : Int32).toInt = 3 := (by decide); omega)) (by first | omega | decide | (have l0 : (0 : Int32).toInt = 0 := (by decide); have l2 : (2 : Int32).toInt = 2 := (by decide); have l3 : (3 : Int32).toInt = 3 := (by decide); omega))) ⟨ml_X10_404, ym_X10_copies, yv_X10_copies, yi_X10_copies, yc_X10_copies⟩ yd_X10_copies ob_60 (by decide) rfl rfl hl.1 (Nat.le_of_ble_eq_true rfl) ⟨by decide, by decide⟩ ⟨Nat.zero_le _, Nat.zero_le _⟩ dX10_keepNow_53 (fun M_38 H locs hp_38 hw => ?_)
          obtain ⟨erM_38, cxM_38, hqM_38⟩ := hp_38
          rw [show (0 : Int32).toInt.toNat = 0 by decide] at cxM_38
          obtain ⟨iM_38, q_39, q_40⟩ := hqM_38
          have q_40n : cq (x_36).toInt.toNat 0 M_38 M_24 := by rw [show (0 : Int32).toNatClampNeg = 0 from by decide] at q_40; exact q_40
          have kpM_38 : kp M_38 M_24 := kp_cq q_39 q_40n (by show (x_36).toInt.toNat ≠ 0; omega)
          have gsM_38 : gq M_24 0 := mfM_24.2.2.1
          have mfM_38 : mF Tm M_38 := mF_cq mfM_24 iM_38 q_39 q_40n gsM_38
          have gtM_38 : gq M_38 (x_36).toInt.toNat := gq_cq q_40n gsM_38
          refine lv_aload_n hx hb dX10_keepNow_56 rfl (lv_at hl 1 rfl) ?_
          refine lv_dup hx hb dX10_keepNow_57 rfl ?_
          refine ti_get (ci := 10) (k := 52) (N := 67) (T := TX10) C hw iw_10 rfl ob_60 (by decide) (by decide) fl_X10_317 rfl rfl dX10_keepNow_58 ?_
          refine ti_top (y := x_23) ((erM_38.1 52 (by decide)).trans (tI_uE hM_24)) ?_
          have u_41 : (tI M_38 60 52).toInt = (x_23 : Int32).toInt := by rw [((erM_38.1 52 (by decide)).trans (tI_uE hM_24))]
          refine lv_iconst (v := 1) hx hb dX10_keepNow_61 (by decide) ?_
          refine lv_iadd hx hb dX10_keepNow_62 ?_
          refine lv_topi (fun x_42 ex_42 => ?_)
          have tx_42 : x_42.toInt = x_23.toInt + 1 := i_add ex_42 rfl (by decide : (1 : Int32).toInt = 1) (by omega) (by omega)
          refine ti_putI (ci := 10) (k := 52) (N := 67) (T := TX10) C hw iw_10 tyX10 tyX10_ok nmX10 rfl ob_60 (by decide) (by decide) fl_X10_317 rfl rfl rfl rfl (fn_10 A _) fs_10_52 dX10_keepNow_63 (fun H locs hw => ?_)
          obtain ⟨M_43, hM_43⟩ : ∃ z : ti_M, z = uI M_38 60 52 x_42 := ⟨_, rfl⟩
          have hw := hw.to hM_43.symm
          have iM_43 : mI Tm M_43 := mI_uI iM_38 hM_43 (by decide) (by decide) (ib_mk (lo := 0) (hi := 20) (by omega) (by omega))
          have vM_43 : (tI M_43 60 52).toInt = (x_42 : Int32).toInt := by rw [tI_uE hM_43]
          have mfM_43 : mF Tm M_43 := mF_52p mfM_38 iM_43 hM_43 (by rw [((erM_38.1 52 (by decide)).trans (tI_uE hM_24))]; omega) (by rw [((erM_38.1 52 (by decide)).trans (tI_uE hM_24))]; omega) (by rw [((erM_38.1 52 (by decide)).trans (tI_uE hM_24)), show 3 + x_23.toInt.toNat = (x_36).toInt.toNat by omega]; exact gtM_38)
          have kk_44 := kR_rem (w := fun i => ug (i + 1)) (c2 := 19) ht4 hk (eB.trans (eB_52 hM_24) f_9) (rbk_e j_11 (by omega) hM_24) erM_38 cxM_38 hM_43 (by omega) (by omega) (by omega) (Or.inr ⟨by omega, rfl, fun _ _ => rfl⟩)
          exact hQ _ _ _ _ _ hw (⟨kk_44.1, kk_44.2, mfM_43, (kp.trans (kp_I hM_43 (by decide)) (kp.trans kpM_38 (kp.trans (kp_I hM_24 (by decide)) f_7)))⟩) dX10_keepNow_66
        · refine lv_aload_n hx hb dX10_keepNow_17 rfl (lv_at hl 1 rfl) ?_
          refine lv_iconst (v := 3) hx hb dX10_keepNow_18 (by decide) ?_
          refine lv_iload_n hx hb dX10_keepNow_19 rfl (lv_at hl 0 rfl) ?_
          refine lv_iadd hx hb dX10_keepNow_20 ?_
          refine lv_topi (fun x_14 ex_14 => ?_)
          have tx_14 : x_14.toInt = 3 + x_3.toInt := i_add ex_14 (by decide : (3 : Int32).toInt = 3) rfl (by omega) (by omega)
          refine lv_iconst (v := 1) hx hb dX10_keepNow_21 (by decide) ?_
          refine lv_isub hx hb dX10_keepNow_22 ?_
          refine lv_topi (fun x_15 ex_15 => ?_)
          have tx_15 : x_15.toInt = x_14.toInt - 1 := i_sub ex_15 rfl (by decide : (1 : Int32).toInt = 1) (by omega) (by omega)
          refine lv_iconst (v := 3) hx hb dX10_keepNow_23 (by decide) ?_
          refine lv_iload_n hx hb dX10_keepNow_24 rfl (lv_at hl 0 rfl) ?_
          refine lv_iadd hx hb dX10_keepNow_25 ?_
          refine lv_topi (fun x_16 ex_16 => ?_)
          have tx_16 : x_16.toInt = 3 + x_3.toInt := i_add ex_16 (by decide : (3 : Int32).toInt = 3) rfl (by omega) (by omega)
          refine ti_callVv (ci := 10) (av := [.int x_15, .int x_16]) C hw (z_X10_copies l D A cy hJ M_6 iM_6 x_15 x_16 (by first | omega | decide | (have l0 : (0 : Int32).toInt = 0 := (by decide); have l2 : (2 : Int32).toInt = 2 := (by decide); have l3 : (3 : Int32).toInt = 3 := (by decide); omega)) (by first | omega | decide | (have l0 : (0 : Int32).toInt = 0 := (by decide); have l2 : (2 : Int32).toInt = 2 := (by decide); have l3 : (3 : Int32).toInt = 3 := (by decide); omega)) (by first | omega | decide | (have l0 : (0 : Int32).toInt = 0 := (by decide); have l2 : (2 : Int32).toInt = 2 := (by decide); have l3 : (3 : Int32).toInt = 3 := (by decide); omega)) (by first | omega | decide | (have l0 : (0 : Int32).toInt = 0 := (by decide); have l2 : (2 : Int32).toInt = 2 := (by decide); have l3 : (3 : Int32).toInt = 3 := (by decide); omega)) (by first | omega | decide | (have l0 : (0 : Int32).toInt = 0 := (by decide); have l2 : (2 : Int32).toInt = 2 := (by decide); have l3 : (3 : Int32).toInt = 3 := (by decide); omega)) (by first | omega | decide | (have l0 : (0 : Int32).toInt = 0 := (by decide); have l2 : (2 : Int32).toInt = 2 := (by decide); have l3 : (3 : Int32).toInt = 3 := (by decide); omega))) ⟨ml_X10_404, ym_X10_copies, yv_X10_copies, yi_X10_copies, yc_X10_copies⟩ yd_X10_copies ob_60 (by decide) rfl rfl hl.1 (Nat.le_of_ble_eq_true rfl) ⟨by decide, by decide⟩ ⟨Nat.zero_le _, Nat.zero_le _⟩ dX10_keepNow_26 (fun M_18 H locs hp_18 hw => ?_)
          obtain ⟨erM_18, cxM_18, hqM_18⟩ := hp_18
          obtain ⟨iM_18, q_19, q_20⟩ := hqM_18
          have q_20n : cq (x_15).toInt.toNat (x_16).toInt.toNat M_18 M_6 := by exact q_20
          have kpM_18 : kp M_18 M_6 := kp_cq q_19 q_20n (by show (x_15).toInt.toNat ≠ 0; omega)
          have gsM_18 : gq M_6 (x_16).toInt.toNat := by have g := f_8.2.2.2.2 x_3.toInt.toNat (by rw [(f_10)]; omega); rwa [show 3 + x_3.toInt.toNat = (x_16).toInt.toNat by omega] at g
          have mfM_18 : mF Tm M_18 := mF_cq f_8 iM_18 q_19 q_20n gsM_18
          have gtM_18 : gq M_18 (x_15).toInt.toNat := gq_cq q_20n gsM_18
          obtain ⟨x_21, ex_21⟩ : ∃ z : Int32, z = x_3 + 1 := ⟨_, rfl⟩
          have tx_21 : x_21.toInt = x_3.toInt + 1 := i_add ex_21 rfl (by decide) (by omega) (by omega)
          refine lv_iinc (v := x_21) (lv' := [(1, .int x_21), (0, .ref (A 60 0))]) hx hb dX10_keepNow_29 hl (k := 0) rfl (by rw [ex_21]; rfl) (by decide) rfl (fun ls hl => ?_)
          refine lv_goto (tgt := 11) hx hb dX10_keepNow_32 (by decide) ?_
          exact ih_12 x_21 M_18 _ _ _ (by omega) (by first | omega | decide) (by first | omega | decide) iM_18 (kp.trans kpM_18 f_7) mfM_18 (eB.trans (eB_eR erM_18 (by omega)) f_9) ((erM_18.1 52 (by decide)).trans f_10) (rbk_s j_11 erM_18 cxM_18 (by omega) (by omega) (by omega) (by omega) (by omega) (by omega)) hw (lv_sub hl [0, 1] rfl)
    exact hl_11_11 ((20 - 1 : Int).toNat + 1) 1 M _ _ _ (Nat.lt_succ_self _) (by have lt0 : (1 : Int32).toInt = 1 := (by decide); first | omega | decide) (by have lt0 : (1 : Int32).toInt = 1 := (by decide); first | omega | decide) hI kp.refl hF eB.refl (ex_1.symm) (rbk_0 (by decide) hu (by omega)) hw (lv_sub hl [0, 1] rfl)
set_option maxHeartbeats 4000000 in
set_option maxRecDepth 100000 in
theorem z_X10_isPlace (l : Launch) (D : va_G) (A : Nat → Nat → Nat) (cy : Nat → ClassId) (hJ : ti_inj ti_LM A) (M : ti_M) (hI : mI Tm M)  (a : Int32) : ti_Ki l yX10_isPlace cX10_isPlace 1 (some .boolean) 0 ti_LM D A cy M [.int a] (fun r M2 => M2 = M ∧ ((r = 1 ∧ 0 ≤ a.toInt ∧ a.toInt ≤ 7) ∨ (r = 0 ∧ ¬ (0 ≤ a.toInt ∧ a.toInt ≤ 7)))) := by
  refine ti_eI yp_X10_isPlace hJ ti_LM_nd (Nat.le_of_ble_eq_true rfl) ?_
  intro p e s m args below meth c Q H0 C hQ hw ls hl
  have hx := C.1
  have hb := C.2.1
  have hl : lv_has ls 1 [(0, .int a)] := hl
  refine lv_iload_n hx hb dX10_isPlace_0 rfl (lv_at hl 0 rfl) ?_
  refine sb_if_lt (tgt := 14) hx hb rfl dX10_isPlace_1 (by decide) (fun c_1_0 => ?_) (fun c_1_0 => ?_)
  · refine lv_iconst (v := 0) hx hb dX10_isPlace_14 (by decide) ?_
    exact hQ _ _ _ _ _ _ hw rfl (⟨rfl, Or.inr ⟨rfl, by omega⟩⟩) dX10_isPlace_15
  · refine lv_iload_n hx hb dX10_isPlace_4 rfl (lv_at hl 0 rfl) ?_
    refine lv_bipush (v := 8) hx hb dX10_isPlace_5 (by decide) ?_
    refine sb_icmp_ge (tgt := 14) hx hb rfl (by decide : (8 : Int32).toInt = 8) dX10_isPlace_7 (by decide) (fun c_7_1 => ?_) (fun c_7_1 => ?_)
    · refine lv_iconst (v := 0) hx hb dX10_isPlace_14 (by decide) ?_
      exact hQ _ _ _ _ _ _ hw rfl (⟨rfl, Or.inr ⟨rfl, by omega⟩⟩) dX10_isPlace_15
    · refine lv_iconst (v := 1) hx hb dX10_isPlace_10 (by decide) ?_
      refine lv_goto (tgt := 15) hx hb dX10_isPlace_11 (by decide) ?_
      exact hQ _ _ _ _ _ _ hw rfl (⟨rfl, Or.inl ⟨rfl, by omega, by omega⟩⟩) dX10_isPlace_15
set_option maxHeartbeats 4000000 in
set_option maxRecDepth 100000 in
theorem z_X10_isPower (l : Launch) (D : va_G) (A : Nat → Nat → Nat) (cy : Nat → ClassId) (hJ : ti_inj ti_LM A) (M : ti_M) (hI : mI Tm M)  (a : Int32) : ti_Ki l yX10_isPower cX10_isPower 1 (some .boolean) 0 ti_LM D A cy M [.int a] (fun r M2 => M2 = M ∧ ((r = 1 ∧ 0 ≤ a.toInt ∧ a.toInt ≤ 2) ∨ (r = 0 ∧ ¬ (0 ≤ a.toInt ∧ a.toInt ≤ 2)))) := by
  refine ti_eI yp_X10_isPower hJ ti_LM_nd (Nat.le_of_ble_eq_true rfl) ?_
  intro p e s m args below meth c Q H0 C hQ hw ls hl
  have hx := C.1
  have hb := C.2.1
  have hl : lv_has ls 1 [(0, .int a)] := hl
  refine lv_iload_n hx hb dX10_isPower_0 rfl (lv_at hl 0 rfl) ?_
  refine sb_if_lt (tgt := 13) hx hb rfl dX10_isPower_1 (by decide) (fun c_1_0 => ?_) (fun c_1_0 => ?_)
  · refine lv_iconst (v := 0) hx hb dX10_isPower_13 (by decide) ?_
    exact hQ _ _ _ _ _ _ hw rfl (⟨rfl, Or.inr ⟨rfl, by omega⟩⟩) dX10_isPower_14
  · refine lv_iload_n hx hb dX10_isPower_4 rfl (lv_at hl 0 rfl) ?_
    refine lv_iconst (v := 3) hx hb dX10_isPower_5 (by decide) ?_
    refine sb_icmp_ge (tgt := 13) hx hb rfl (by decide : (3 : Int32).toInt = 3) dX10_isPower_6 (by decide) (fun c_6_1 => ?_) (fun c_6_1 => ?_)
    · refine lv_iconst (v := 0) hx hb dX10_isPower_13 (by decide) ?_
      exact hQ _ _ _ _ _ _ hw rfl (⟨rfl, Or.inr ⟨rfl, by omega⟩⟩) dX10_isPower_14
    · refine lv_iconst (v := 1) hx hb dX10_isPower_9 (by decide) ?_
      refine lv_goto (tgt := 14) hx hb dX10_isPower_10 (by decide) ?_
      exact hQ _ _ _ _ _ _ hw rfl (⟨rfl, Or.inl ⟨rfl, by omega, by omega⟩⟩) dX10_isPower_14
set_option maxHeartbeats 4000000 in
set_option maxRecDepth 100000 in
theorem z_X10_isMan (l : Launch) (D : va_G) (A : Nat → Nat → Nat) (cy : Nat → ClassId) (hJ : ti_inj ti_LM A) (M : ti_M) (hI : mI Tm M)  (a : Int32) (tx : Nat → Int) (htr : tR tx M) : ti_Ki l yX10_isMan cX10_isMan 2 (some .boolean) 0 ti_LM D A cy M [.ref (A 60 0), .int a] (fun r M2 => M2 = M ∧ ((r = 1 ∧ 0 ≤ a.toInt ∧ a.toInt ≤ 7 ∧ a.toInt < (tY M 60 3 0).toInt ∧ a.toInt < tx 4) ∨ (r = 0 ∧ ¬ (0 ≤ a.toInt ∧ a.toInt < tx 4)))) := by
  refine ti_eI yp_X10_isMan hJ ti_LM_nd (Nat.le_of_ble_eq_true rfl) ?_
  intro p e s m args below meth c Q H0 C hQ hw ls hl
  have hx := C.1
  have hb := C.2.1
  have hl : lv_has ls 2 [(0, .ref (A 60 0)), (1, .int a)] := hl
  have t4 : tx 4 = (tY M 60 3 0).toInt := htr.1.1
  refine lv_iload_n hx hb dX10_isMan_0 rfl (lv_at hl 1 rfl) ?_
  refine sb_if_lt (tgt := 18) hx hb rfl dX10_isMan_1 (by decide) (fun c_1_0 => ?_) (fun c_1_0 => ?_)
  · refine lv_iconst (v := 0) hx hb dX10_isMan_18 (by decide) ?_
    exact hQ _ _ _ _ _ _ hw rfl (⟨rfl, Or.inr ⟨rfl, by omega⟩⟩) dX10_isMan_19
  · refine lv_iload_n hx hb dX10_isMan_4 rfl (lv_at hl 1 rfl) ?_
    refine lv_aload_n hx hb dX10_isMan_5 rfl (lv_at hl 0 rfl) ?_
    refine ti_get (ci := 10) (k := 3) (N := 67) (T := TX10) (v := .ref (A 60 4)) C hw iw_10 rfl ob_60 (by decide) (by decide) fl_X10_13 rfl rfl dX10_isMan_6 ?_
    refine lv_iconst (v := 0) hx hb dX10_isMan_9 (by decide) ?_
    refine ti_iald (ci := 10) (k := 3) (n := 22) C hw ob_60 (by decide) (fun _ _ => rfl) (by unfold vp_in; decide) dX10_isMan_10 ?_
    refine lv_topi (fun x_2 ex_2 => ?_)
    have yx_2 : tY M 60 3 0 = x_2 := ((congrArg _ (by decide)).symm.trans ex_2.symm)
    have bx_2 : 0 ≤ x_2.toInt ∧ x_2.toInt ≤ 8 := mI_rn (i := 0) hI yx_2.symm (fun _ h => h)
    have zx_2 : (tY M 60 3 0).toInt = x_2.toInt := by rw [yx_2]
    refine sb_icmp_ge (tgt := 18) hx hb rfl rfl dX10_isMan_11 (by decide) (fun c_11_2 => ?_) (fun c_11_2 => ?_)
    · refine lv_iconst (v := 0) hx hb dX10_isMan_18 (by decide) ?_
      exact hQ _ _ _ _ _ _ hw rfl (⟨rfl, Or.inr ⟨rfl, by omega⟩⟩) dX10_isMan_19
    · refine lv_iconst (v := 1) hx hb dX10_isMan_14 (by decide) ?_
      refine lv_goto (tgt := 19) hx hb dX10_isMan_15 (by decide) ?_
      exact hQ _ _ _ _ _ _ hw rfl (⟨rfl, Or.inl ⟨rfl, by omega, by omega, by rw [(yx_2)]; omega, by omega⟩⟩) dX10_isMan_19
set_option maxHeartbeats 4000000 in
set_option maxRecDepth 100000 in
theorem z_X10_isIn (l : Launch) (D : va_G) (A : Nat → Nat → Nat) (cy : Nat → ClassId) (hJ : ti_inj ti_LM A) (M : ti_M) (hI : mI Tm M)  (a : Int32) (tx rg : Nat → Int) (htr : tR tx M) (ht4 : 0 ≤ tx 4 ∧ tx 4 ≤ 8) (hr : qR (tx 4).toNat 0 rg M) : ti_Ki l yX10_isIn cX10_isIn 2 (some .boolean) 1 ti_LM D A cy M [.ref (A 60 0), .int a] (fun r M2 => M2 = M ∧ ((r = 1 ∧ 0 ≤ a.toInt ∧ a.toInt ≤ 7 ∧ a.toInt < (tY M 60 3 0).toInt ∧ (tY M 60 40 a.toNatClampNeg).toInt = 1 ∧ a.toInt < tx 4 ∧ rg (128 + a.toInt.toNat) = 1) ∨ (r = 0 ∧ ¬ (0 ≤ a.toInt ∧ a.toInt < tx 4 ∧ rg (128 + a.toInt.toNat) = 1)))) := by
  refine ti_eI yp_X10_isIn hJ ti_LM_nd (Nat.le_of_ble_eq_true rfl) ?_
  intro p e s m args below meth c Q H0 C hQ hw ls hl
  have hx := C.1
  have hb := C.2.1
  have hl : lv_has ls 2 [(0, .ref (A 60 0)), (1, .int a)] := hl
  have t4 : tx 4 = (tY M 60 3 0).toInt := htr.1.1
  refine lv_aload_n hx hb dX10_isIn_0 rfl (lv_at hl 0 rfl) ?_
  refine lv_iload_n hx hb dX10_isIn_1 rfl (lv_at hl 1 rfl) ?_
  refine ti_callVi (ci := 10) (av := [.int a]) C hw (z_X10_isMan l D A cy hJ M hI a tx htr) ⟨ml_X10_356, ym_X10_isMan, yv_X10_isMan, yi_X10_isMan, yc_X10_isMan⟩ yd_X10_isMan ob_60 (by decide) rfl rfl hl.1 (Nat.le_of_ble_eq_true rfl) ⟨by decide, by decide⟩ ⟨Nat.zero_le _, Nat.zero_le _⟩ dX10_isIn_2 (fun r_1 M_2 H locs hp_2 hw => ?_)
  obtain ⟨hm, hz⟩ := hp_2
  have hw := hw.to hm
  rcases hz with ⟨rfl, d0_3, d1_3, d2_3, d3_3⟩ | ⟨rfl, e_3⟩
  · refine sb_if_eq (tgt := 22) hx hb (by decide : (1 : Int32).toInt = 1) dX10_isIn_5 (by decide) (fun h => absurd h (by decide)) (fun c_5_3 => ?_)
    refine lv_aload_n hx hb dX10_isIn_8 rfl (lv_at hl 0 rfl) ?_
    refine ti_get (ci := 10) (k := 40) (N := 67) (T := TX10) (v := .ref (A 60 41)) C hw iw_10 rfl ob_60 (by decide) (by decide) fl_X10_87 rfl rfl dX10_isIn_9 ?_
    refine lv_iload_n hx hb dX10_isIn_12 rfl (lv_at hl 1 rfl) ?_
    refine ti_iald (ci := 10) (k := 40) (n := 184) C hw ob_60 (by decide) (fun _ _ => rfl) (vp_in_iff.mpr (by omega)) dX10_isIn_13 ?_
    refine lv_topi (fun x_6 ex_6 => ?_)
    have yx_6 : tY M 60 40 a.toNatClampNeg = x_6 := (ex_6.symm)
    have zx_6 : (tY M 60 40 a.toNatClampNeg).toInt = x_6.toInt := by rw [yx_6]
    have L_7 : rg (128 + a.toInt.toNat) = x_6.toInt := ((hr.2.2.2.1 (a.toInt.toNat) (by omega)).1).trans (rd_k (n := 8 * 0 + a.toInt.toNat) (by omega) (yx_6))
    refine lv_iconst (v := 1) hx hb dX10_isIn_14 (by decide) ?_
    refine sb_icmp_ne (tgt := 22) hx hb rfl (by decide : (1 : Int32).toInt = 1) dX10_isIn_15 (by decide) (fun c_15_7 => ?_) (fun c_15_7 => ?_)
    · refine lv_iconst (v := 0) hx hb dX10_isIn_22 (by decide) ?_
      exact hQ _ _ _ _ _ _ hw rfl (⟨rfl, Or.inr ⟨rfl, by omega⟩⟩) dX10_isIn_23
    · refine lv_iconst (v := 1) hx hb dX10_isIn_18 (by decide) ?_
      refine lv_goto (tgt := 23) hx hb dX10_isIn_19 (by decide) ?_
      exact hQ _ _ _ _ _ _ hw rfl (⟨rfl, Or.inl ⟨rfl, by omega, by omega, by omega, by rw [(yx_6)]; omega, by omega, by omega⟩⟩) dX10_isIn_23
  · refine sb_if_eq (tgt := 22) hx hb (by decide : (0 : Int32).toInt = 0) dX10_isIn_5 (by decide) (fun c_5_4 => ?_) (fun h => absurd h (by decide))
    refine lv_iconst (v := 0) hx hb dX10_isIn_22 (by decide) ?_
    exact hQ _ _ _ _ _ _ hw rfl (⟨rfl, Or.inr ⟨rfl, by omega⟩⟩) dX10_isIn_23
set_option maxHeartbeats 4000000 in
set_option maxRecDepth 100000 in
theorem z_X10_isToCome (l : Launch) (D : va_G) (A : Nat → Nat → Nat) (cy : Nat → ClassId) (hJ : ti_inj ti_LM A) (M : ti_M) (hI : mI Tm M)  (a : Int32) (tx rg : Nat → Int) (htr : tR tx M) (ht4 : 0 ≤ tx 4 ∧ tx 4 ≤ 8) (hr : qR (tx 4).toNat 0 rg M) : ti_Ki l yX10_isToCome cX10_isToCome 2 (some .boolean) 1 ti_LM D A cy M [.ref (A 60 0), .int a] (fun r M2 => M2 = M ∧ ((r = 1 ∧ 0 ≤ a.toInt ∧ a.toInt ≤ 7 ∧ a.toInt < (tY M 60 3 0).toInt ∧ (tY M 60 40 a.toNatClampNeg).toInt = 0 ∧ a.toInt < tx 4 ∧ rg (128 + a.toInt.toNat) = 0) ∨ (r = 0 ∧ ¬ (0 ≤ a.toInt ∧ a.toInt < tx 4 ∧ rg (128 + a.toInt.toNat) = 0)))) := by
  refine ti_eI yp_X10_isToCome hJ ti_LM_nd (Nat.le_of_ble_eq_true rfl) ?_
  intro p e s m args below meth c Q H0 C hQ hw ls hl
  have hx := C.1
  have hb := C.2.1
  have hl : lv_has ls 2 [(0, .ref (A 60 0)), (1, .int a)] := hl
  have t4 : tx 4 = (tY M 60 3 0).toInt := htr.1.1
  refine lv_aload_n hx hb dX10_isToCome_0 rfl (lv_at hl 0 rfl) ?_
  refine lv_iload_n hx hb dX10_isToCome_1 rfl (lv_at hl 1 rfl) ?_
  refine ti_callVi (ci := 10) (av := [.int a]) C hw (z_X10_isMan l D A cy hJ M hI a tx htr) ⟨ml_X10_356, ym_X10_isMan, yv_X10_isMan, yi_X10_isMan, yc_X10_isMan⟩ yd_X10_isMan ob_60 (by decide) rfl rfl hl.1 (Nat.le_of_ble_eq_true rfl) ⟨by decide, by decide⟩ ⟨Nat.zero_le _, Nat.zero_le _⟩ dX10_isToCome_2 (fun r_1 M_2 H locs hp_2 hw => ?_)
  obtain ⟨hm, hz⟩ := hp_2
  have hw := hw.to hm
  rcases hz with ⟨rfl, d0_3, d1_3, d2_3, d3_3⟩ | ⟨rfl, e_3⟩
  · refine sb_if_eq (tgt := 21) hx hb (by decide : (1 : Int32).toInt = 1) dX10_isToCome_5 (by decide) (fun h => absurd h (by decide)) (fun c_5_3 => ?_)
    refine lv_aload_n hx hb dX10_isToCome_8 rfl (lv_at hl 0 rfl) ?_
    refine ti_get (ci := 10) (k := 40) (N := 67) (T := TX10) (v := .ref (A 60 41)) C hw iw_10 rfl ob_60 (by decide) (by decide) fl_X10_87 rfl rfl dX10_isToCome_9 ?_
    refine lv_iload_n hx hb dX10_isToCome_12 rfl (lv_at hl 1 rfl) ?_
    refine ti_iald (ci := 10) (k := 40) (n := 184) C hw ob_60 (by decide) (fun _ _ => rfl) (vp_in_iff.mpr (by omega)) dX10_isToCome_13 ?_
    refine lv_topi (fun x_6 ex_6 => ?_)
    have yx_6 : tY M 60 40 a.toNatClampNeg = x_6 := (ex_6.symm)
    have zx_6 : (tY M 60 40 a.toNatClampNeg).toInt = x_6.toInt := by rw [yx_6]
    have L_7 : rg (128 + a.toInt.toNat) = x_6.toInt := ((hr.2.2.2.1 (a.toInt.toNat) (by omega)).1).trans (rd_k (n := 8 * 0 + a.toInt.toNat) (by omega) (yx_6))
    refine sb_if_ne (tgt := 21) hx hb rfl dX10_isToCome_14 (by decide) (fun c_14_7 => ?_) (fun c_14_7 => ?_)
    · refine lv_iconst (v := 0) hx hb dX10_isToCome_21 (by decide) ?_
      exact hQ _ _ _ _ _ _ hw rfl (⟨rfl, Or.inr ⟨rfl, by omega⟩⟩) dX10_isToCome_22
    · refine lv_iconst (v := 1) hx hb dX10_isToCome_17 (by decide) ?_
      refine lv_goto (tgt := 22) hx hb dX10_isToCome_18 (by decide) ?_
      exact hQ _ _ _ _ _ _ hw rfl (⟨rfl, Or.inl ⟨rfl, by omega, by omega, by omega, by rw [(yx_6)]; omega, by omega, by omega⟩⟩) dX10_isToCome_22
  · refine sb_if_eq (tgt := 21) hx hb (by decide : (0 : Int32).toInt = 0) dX10_isToCome_5 (by decide) (fun c_5_4 => ?_) (fun h => absurd h (by decide))
    refine lv_iconst (v := 0) hx hb dX10_isToCome_21 (by decide) ?_
    exact hQ _ _ _ _ _ _ hw rfl (⟨rfl, Or.inr ⟨rfl, by omega⟩⟩) dX10_isToCome_22
set_option maxHeartbeats 4000000 in
set_option maxRecDepth 100000 in
theorem z_X10_placeOf_0 (l : Launch) (D : va_G) (A : Nat → Nat → Nat) (cy : Nat → ClassId) (hJ : ti_inj ti_LM A) (M : ti_M) (hI : mI Tm M)  (a : Int32) (tx rg : Nat → Int) (htr : tR tx M) (ht4 : 0 ≤ tx 4 ∧ tx 4 ≤ 8) (hr : qR (tx 4).toNat 0 rg M) : ti_Ki l yX10_placeOf cX10_placeOf 4 (some .int) 0 ti_LM D A cy M [.ref (A 60 0), .int 0, .int a] (fun r M2 => r.toInt = bq_po rg a.toInt 0 ∧ M2 = M ∧ ((r = -1 ∧ ∀ j : Nat, (j : Int) < (tY M 60 38 0).toInt → (tY M 60 39 (0 + j)).toInt ≠ a.toInt) ∨ (0 ≤ r.toInt ∧ r.toInt < (tY M 60 38 0).toInt ∧ r.toInt ≤ 7 ∧ (tY M 60 39 (0 + r.toInt.toNat)).toInt = a.toInt))) := by
  refine ti_eI yp_X10_placeOf hJ ti_LM_nd (Nat.le_of_ble_eq_true rfl) ?_
  intro p e s m args below meth c Q H0 C hQ hw ls hl
  have hx := C.1
  have hb := C.2.1
  have hl : lv_has ls 4 [(0, .ref (A 60 0)), (1, .int 0), (2, .int a)] := hl
  have w83 : 0 ≤ rg 3 ∧ rg 3 ≤ 8 := by rw [hr.1.2.1]; exact hI.2.1 38 _
  refine lv_iconst (v := 0) hx hb dX10_placeOf_0 (by decide) ?_
  refine lv_istore_n (lv' := [(3, .int 0), (0, .ref (A 60 0)), (1, .int 0), (2, .int a)]) hx hb dX10_placeOf_1 rfl hl (by decide) rfl (fun ls hl => ?_)
  have hl_2_5 : ∀ (n_6 : Nat) (x_1 : Int32) (H : Heap) (locs : List Loc) (ls : Array Slot), (8 - x_1.toInt : Int).toNat < n_6 → (0 ≤ x_1.toInt) → (x_1.toInt ≤ 8) → (∀ j : Nat, (j : Int) < x_1.toInt → (tY M 60 39 (0 + j)).toInt ≠ a.toInt) → (bq_po rg a.toInt 0 = bq_po rg a.toInt (x_1.toInt).toNat) → ti_H ti_LM D A cy H0 M H locs → lv_has ls 4 [(3, .int x_1), (0, .ref (A 60 0)), (1, .int 0), (2, .int a)] → W p l e (ti_rm 0) s m args below meth c H locs 0 0 Q (F0 m 2 ls []) := by
    intro n_6
    induction n_6 with
    | zero => intro x_1 H locs ls hf_6; exact absurd hf_6 (Nat.not_lt_zero _)
    | succ n_6 ih_6 =>
      intro x_1 H locs ls hf_6 b_2 b_3 j_4 j_5 hw hl
      refine lv_iload_n hx hb dX10_placeOf_2 rfl (lv_at hl 0 rfl) ?_
      refine lv_aload_n hx hb dX10_placeOf_3 rfl (lv_at hl 1 rfl) ?_
      refine ti_get (ci := 10) (k := 38) (N := 67) (T := TX10) (v := .ref (A 60 39)) C hw iw_10 rfl ob_60 (by decide) (by decide) fl_X10_81 rfl rfl dX10_placeOf_4 ?_
      refine lv_iload_n hx hb dX10_placeOf_7 rfl (lv_at hl 2 rfl) ?_
      refine ti_iald (ci := 10) (k := 38) (n := 23) C hw ob_60 (by decide) (fun _ _ => rfl) (by unfold vp_in; decide) dX10_placeOf_8 ?_
      refine lv_topi (fun x_7 ex_7 => ?_)
      have yx_7 : tY M 60 38 0 = x_7 := ((congrArg _ (by decide)).symm.trans ex_7.symm)
      have bx_7 : 0 ≤ x_7.toInt ∧ x_7.toInt ≤ 8 := mI_ry (k := 38) (i := 0) hI yx_7.symm
      have zx_7 : (tY M 60 38 0).toInt = x_7.toInt := by rw [yx_7]
      have L_8 : rg 3 = x_7.toInt := (hr.1.2.1).trans (congrArg Int32.toInt (yx_7))
      refine sb_icmp_ge (tgt := 35) hx hb rfl rfl dX10_placeOf_9 (by decide) (fun c_9_8 => ?_) (fun c_9_8 => ?_)
      · refine lv_iconst (v := (-1)) hx hb dX10_placeOf_35 (by decide) ?_
        exact hQ _ _ _ _ _ _ hw rfl (⟨(by rw [j_5, po_end (s := rg) (m := a.toInt) (p := x_1.toInt.toNat) (by omega)]; decide), rfl, Or.inl ⟨rfl, fun j hj => j_4 j (by rw [(yx_7)] at hj; omega)⟩⟩) dX10_placeOf_36
      · refine lv_aload_n hx hb dX10_placeOf_12 rfl (lv_at hl 1 rfl) ?_
        refine ti_get (ci := 10) (k := 39) (N := 67) (T := TX10) (v := .ref (A 60 40)) C hw iw_10 rfl ob_60 (by decide) (by decide) fl_X10_84 rfl rfl dX10_placeOf_13 ?_
        refine lv_bipush (v := 8) hx hb dX10_placeOf_16 (by decide) ?_
        refine lv_iload_n hx hb dX10_placeOf_18 rfl (lv_at hl 2 rfl) ?_
        refine lv_imul hx hb dX10_placeOf_19 ?_
        refine ti_top (y := 0) (by decide) ?_
        refine lv_iload_n hx hb dX10_placeOf_20 rfl (lv_at hl 0 rfl) ?_
        refine lv_iadd hx hb dX10_placeOf_21 ?_
        refine lv_topi (fun x_10 ex_10 => ?_)
        have tx_10 : x_10.toInt = 0 + x_1.toInt := i_add ex_10 (by decide : (0 : Int32).toInt = 0) rfl (by omega) (by omega)
        refine ti_iald (ci := 10) (k := 39) (n := 184) C hw ob_60 (by decide) (fun _ _ => rfl) (vp_in_iff.mpr (by omega)) dX10_placeOf_22 ?_
        refine lv_topi (fun x_11 ex_11 => ?_)
        have yx_11 : tY M 60 39 x_10.toNatClampNeg = x_11 := (ex_11.symm)
        have bx_11 : 0 ≤ x_11.toInt ∧ x_11.toInt ≤ 7 := mI_ry (k := 39) (i := x_10.toNatClampNeg) hI yx_11.symm
        have L_12 : rg (96 + x_1.toInt.toNat) = x_11.toInt := (hr.2.1 (x_1.toInt.toNat) (by omega) (by omega)).trans (rd_k (n := 8 * 0 + x_1.toInt.toNat) (by omega) (yx_11))
        have n9 : x_10.toNatClampNeg = 0 + x_1.toInt.toNat := by show (x_10).toInt.toNat = _; omega
        have k9 : (tY M 60 39 (0 + x_1.toInt.toNat)).toInt = x_11.toInt := by rw [← n9, (yx_11)]
        refine lv_iload_n hx hb dX10_placeOf_23 rfl (lv_at hl 3 rfl) ?_
        refine sb_icmp_ne (tgt := 29) hx hb rfl rfl dX10_placeOf_24 (by decide) (fun c_24_12 => ?_) (fun c_24_12 => ?_)
        · obtain ⟨x_14, ex_14⟩ : ∃ z : Int32, z = x_1 + 1 := ⟨_, rfl⟩
          have tx_14 : x_14.toInt = x_1.toInt + 1 := i_add ex_14 rfl (by decide) (by omega) (by omega)
          refine lv_iinc (v := x_14) (lv' := [(3, .int x_14), (0, .ref (A 60 0)), (1, .int 0), (2, .int a)]) hx hb dX10_placeOf_29 hl (k := 0) rfl (by rw [ex_14]; rfl) (by decide) rfl (fun ls hl => ?_)
          refine lv_goto (tgt := 2) hx hb dX10_placeOf_32 (by decide) ?_
          exact ih_6 x_14 _ _ _ (by omega) (by first | omega | decide) (by first | omega | decide) (fun j hj => (show (j : Int) < x_1.toInt ∨ j = (x_1.toInt.toNat) by omega).elim (fun h => j_4 j h) (fun h => by subst h; intro h; omega)) (by rw [show x_14.toInt.toNat = x_1.toInt.toNat + 1 by omega, ← po_go (s := rg) (m := a.toInt) (p := x_1.toInt.toNat) (by omega) (by omega)]; exact j_5) hw (lv_sub hl [0, 1, 2, 3] rfl)
        · refine lv_iload_n hx hb dX10_placeOf_27 rfl (lv_at hl 0 rfl) ?_
          exact hQ _ _ _ _ _ _ hw rfl (⟨(by rw [j_5, po_at (s := rg) (m := a.toInt) (p := x_1.toInt.toNat) (by omega) (by omega)]; omega), rfl, Or.inr ⟨by omega, by rw [(yx_7)]; omega, by omega, by rw [k9]; omega⟩⟩) dX10_placeOf_28
  exact hl_2_5 ((8 - 0 : Int).toNat + 1) 0 _ _ _ (Nat.lt_succ_self _) (by have lt0 : (0 : Int32).toInt = 0 := (by decide); first | omega | decide) (by have lt0 : (0 : Int32).toInt = 0 := (by decide); first | omega | decide) (fun j hj => absurd hj (by have h0 : (0 : Int32).toInt = 0 := (by decide); omega)) rfl hw (lv_sub hl [0, 1, 2, 3] rfl)
set_option maxHeartbeats 4000000 in
set_option maxRecDepth 100000 in
theorem z_X10_join (l : Launch) (D : va_G) (A : Nat → Nat → Nat) (cy : Nat → ClassId) (hJ : ti_inj ti_LM A) (M : ti_M) (hI : mI Tm M) (hF : mF Tm M) (z1 : Int32) (tx rg lp : Nat → Int) (ug : Nat → Nat → Int) (cu : Int) (ht4 : 0 ≤ tx 4 ∧ tx 4 ≤ 8) (htW : tW tx) (hwf : wF tx rg) (h1r : rg 1 = 0) (hk : kR tx rg ug cu lp M) : ti_Ki l yX10_join cX10_join 2 (some .int) 2 ti_LM D A cy M [.ref (A 60 0), .int z1] (fun r M2 => ((¬ (0 ≤ z1.toInt ∧ z1.toInt < tx 4 ∧ rg (128 + z1.toInt.toNat) = 0) ∧ r.toInt = -1 ∧ kR tx rg ug cu lp M2) ∨ ((0 ≤ z1.toInt ∧ z1.toInt < tx 4 ∧ rg (128 + z1.toInt.toNat) = 0) ∧ r.toInt = rg 3 ∧ kR tx (bq_ap rg z1.toInt) (bq_rb ug cu rg) (bq_rc cu) lp M2)) ∧ iR M2 M ∧ mF Tm M2 ∧ tI M2 60 2 = tI M 60 2 ∧ lw M2 M) := by
  refine ti_eI yp_X10_join hJ ti_LM_nd (Nat.le_of_ble_eq_true rfl) ?_
  intro p e s m args below meth c Q H0 C hQ hw ls hl
  have hx := C.1
  have hb := C.2.1
  have hl : lv_has ls 2 [(0, .ref (A 60 0)), (1, .int z1)] := hl
  obtain ⟨htr, hr, hV, hu, hp0, htw⟩ := id hk
  have t4 : tx 4 = (tY M 60 3 0).toInt := htr.1.1
  have w83 := wF_8 hwf
  have q3r : rg 3 = (tY M 60 38 0).toInt := hr.1.2.1
  refine lv_aload_n hx hb dX10_join_0 rfl (lv_at hl 0 rfl) ?_
  refine lv_iconst (v := 0) hx hb dX10_join_1 (by decide) ?_
  refine ti_putI (ci := 10) (k := 0) (N := 67) (T := TX10) C hw iw_10 tyX10 tyX10_ok nmX10 rfl ob_60 (by decide) (by decide) fl_X10_154 rfl rfl rfl rfl (fn_10 A _) fs_10_0 dX10_join_2 (fun H locs hw => ?_)
  obtain ⟨M, h0⟩ : ∃ z : ti_M, z = uI M 60 0 0 := ⟨_, rfl⟩
  have hw := hw.to h0.symm
  have hI : mI Tm M := mI_uI hI h0 (by decide) (by decide) trivial
  have hF : mF Tm M := mF_qw hF hI (qw_I h0 (by decide))
  have ir0 := iR_0 h0
  have e2r := tI_nE (k2 := 2) (o2 := 60) h0 (nk (by decide))
  have e51r := tI_nE (k2 := 51) (o2 := 60) h0 (nk (by decide))
  have lwr : lw M _ := fun _ _ _ => tY_uIE h0
  have hk := kR_0 hk h0
  obtain ⟨htr, hr, hV, hu, hp0, htw⟩ := id hk
  have t4 : tx 4 = (tY M 60 3 0).toInt := htr.1.1
  have w83 := wF_8 hwf
  have q3r : rg 3 = (tY M 60 38 0).toInt := hr.1.2.1
  refine lv_aload_n hx hb dX10_join_5 rfl (lv_at hl 0 rfl) ?_
  refine lv_iload_n hx hb dX10_join_6 rfl (lv_at hl 1 rfl) ?_
  refine ti_callVi (ci := 10) (av := [.int z1]) C hw (z_X10_isToCome l D A cy hJ M hI z1 tx rg htr ht4 hr) ⟨ml_X10_433, ym_X10_isToCome, yv_X10_isToCome, yi_X10_isToCome, yc_X10_isToCome⟩ yd_X10_isToCome ob_60 (by decide) rfl rfl hl.1 (Nat.le_of_ble_eq_true rfl) ⟨by decide, by decide⟩ ⟨Nat.zero_le _, Nat.zero_le _⟩ dX10_join_7 (fun r_1 M_2 H locs hp_2 hw => ?_)
  obtain ⟨hm, hz⟩ := hp_2
  have hw := hw.to hm
  rcases hz with ⟨rfl, d0_3, d1_3, d2_3, d3_3, d4_3, d5_3⟩ | ⟨rfl, e_3⟩
  · refine sb_if_ne (tgt := 15) hx hb (by decide : (1 : Int32).toInt = 1) dX10_join_10 (by decide) (fun c_10_3 => ?_) (fun h => absurd h (by decide))
    refine lv_aload_n hx hb dX10_join_15 rfl (lv_at hl 0 rfl) ?_
    refine ti_callVv (ci := 10) (av := []) C hw (z_X10_keepNow l D A cy hJ M hI hF tx rg lp ug cu ht4 hk) ⟨ml_X10_436, ym_X10_keepNow, yv_X10_keepNow, yi_X10_keepNow, yc_X10_keepNow⟩ yd_X10_keepNow ob_60 (by decide) rfl rfl hl.1 (Nat.le_of_ble_eq_true rfl) ⟨by decide, by decide⟩ ⟨Nat.zero_le _, Nat.zero_le _⟩ dX10_join_16 (fun M H locs hp_7 hw => ?_)
    have ir0 := (hp_7).2.1.trans ((iR_eR eR.refl).trans ir0)
    have e2r := (hp_7).2.2.2.2.1.trans (rfl.trans e2r)
    have lwr := lw_t (hp_7).2.2.2.1 (lw_t (fun _ _ _ => rfl) lwr)
    obtain ⟨hk, -, hF, -⟩ := hp_7
    have hI := hF.1
    obtain ⟨htr, hr, hV, hu, hp0, htw⟩ := id hk
    have t4 : tx 4 = (tY M 60 3 0).toInt := htr.1.1
    have w83 := wF_8 hwf
    have q3r : rg 3 = (tY M 60 38 0).toInt := hr.1.2.1
    refine lv_aload_n hx hb dX10_join_19 rfl (lv_at hl 0 rfl) ?_
    refine lv_iconst (v := 0) hx hb dX10_join_20 (by decide) ?_
    refine lv_iload_n hx hb dX10_join_21 rfl (lv_at hl 1 rfl) ?_
    refine lv_aload_n hx hb dX10_join_22 rfl (lv_at hl 0 rfl) ?_
    refine ti_get (ci := 10) (k := 34) (N := 67) (T := TX10) (v := .ref (A 60 35)) C hw iw_10 rfl ob_60 (by decide) (by decide) fl_X10_69 rfl rfl dX10_join_23 ?_
    refine lv_iconst (v := 0) hx hb dX10_join_26 (by decide) ?_
    refine ti_iald (ci := 10) (k := 34) (n := 23) C hw ob_60 (by decide) (fun _ _ => rfl) (by unfold vp_in; decide) dX10_join_27 ?_
    refine lv_topi (fun x_8 ex_8 => ?_)
    have yx_8 : tY M 60 34 0 = x_8 := ((congrArg _ (by decide)).symm.trans ex_8.symm)
    have bx_8 : 0 ≤ x_8.toInt ∧ x_8.toInt ≤ 120 := mI_ry (k := 34) (i := 0) hI yx_8.symm (by decide)
    have zx_8 : (tY M 60 34 0).toInt = x_8.toInt := by rw [yx_8]
    have L_9 : rg 2 = x_8.toInt := (hr.1.1).trans (congrArg Int32.toInt (yx_8))
    have S3 := wF_s3 htW hwf (m := z1.toInt.toNat) (by omega) d5_3
    refine ti_callVv (ci := 10) (av := [.int 0, .int z1, .int x_8]) C hw (z_X10_joins_0 l D A cy hJ M hI hF.2.2.1.1 z1 x_8 (by first | omega | decide | (have l0 : (0 : Int32).toInt = 0 := (by decide); have l2 : (2 : Int32).toInt = 2 := (by decide); have l3 : (3 : Int32).toInt = 3 := (by decide); omega)) (by first | omega | decide | (have l0 : (0 : Int32).toInt = 0 := (by decide); have l2 : (2 : Int32).toInt = 2 := (by decide); have l3 : (3 : Int32).toInt = 3 := (by decide); omega)) (fun i hi => by rw [show i = 8 * 0 + z1.toInt.toNat by omega]; have z0 := (hr.2.2.2.1 z1.toInt.toNat (by omega)).1; omega) tx rg htr ht4 hr hV (by omega) d5_3 (by omega) (by omega)) ⟨ml_X10_359, ym_X10_joins, yv_X10_joins, yi_X10_joins, yc_X10_joins⟩ yd_X10_joins ob_60 (by decide) rfl rfl hl.1 (Nat.le_of_ble_eq_true rfl) ⟨by decide, by decide⟩ ⟨Nat.zero_le _, Nat.zero_le _⟩ dX10_join_28 (fun M_11 H locs hp_11 hw => ?_)
    obtain ⟨erM_11, hrM_11, qvM_11, hqM_11⟩ := hp_11
    obtain ⟨iM_11, q_12, q_13, q_14, q_15⟩ := hqM_11
    obtain ⟨g_16, eg_16⟩ : ∃ z : Nat → Int, z = bq_ap rg z1.toInt := ⟨_, rfl⟩
    rw [← eg_16] at hrM_11
    rw [← eg_16] at qvM_11
    have mfM_11 : mF Tm M_11 := mF_rq (q := 0) hF iM_11 q_12 (fun _ => q_13) (by decide)
    refine lv_aload_n hx hb dX10_join_31 rfl (lv_at hl 0 rfl) ?_
    refine ti_get (ci := 10) (k := 38) (N := 67) (T := TX10) (v := .ref (A 60 39)) C hw iw_10 rfl ob_60 (by decide) (by decide) fl_X10_81 rfl rfl dX10_join_32 ?_
    refine lv_iconst (v := 0) hx hb dX10_join_35 (by decide) ?_
    refine ti_iald (ci := 10) (k := 38) (n := 23) C hw ob_60 (by decide) (fun _ _ => rfl) (by unfold vp_in; decide) dX10_join_36 ?_
    refine lv_topi (fun x_17 ex_17 => ?_)
    have yx_17 : tY M_11 60 38 0 = x_17 := ((congrArg _ (by decide)).symm.trans ex_17.symm)
    have bx_17 : 0 ≤ x_17.toInt ∧ x_17.toInt ≤ 8 := mI_ry (k := 38) (i := 0) iM_11 yx_17.symm
    have zx_17 : (tY M_11 60 38 0).toInt = x_17.toInt := by rw [yx_17]
    have L_18 : g_16 3 = x_17.toInt := (hrM_11.1.2.1).trans (congrArg Int32.toInt (yx_17))
    refine lv_iconst (v := 1) hx hb dX10_join_37 (by decide) ?_
    refine lv_isub hx hb dX10_join_38 ?_
    refine lv_topi (fun x_19 ex_19 => ?_)
    have tx_19 : x_19.toInt = x_17.toInt - 1 := i_sub ex_19 rfl (by decide : (1 : Int32).toInt = 1) (by omega) (by omega)
    exact hQ _ _ _ _ _ _ hw rfl (⟨Or.inr ⟨by omega, (by have g3 : g_16 3 = rg 3 + 1 := (by rw [eg_16]; unfold bq_ap; rw [if_pos (by omega), su_n (by omega), su_n (by omega), su_s]); omega), kR_eR ht4 hk erM_11 (by rw [← eg_16]; exact hrM_11) (by rw [← eg_16]; exact qvM_11) (ap_k (by decide))⟩, (iR_eR erM_11).trans ir0, mfM_11, ((erM_11.1 2 (by decide))).trans e2r, lw_t q_12.1 lwr⟩) dX10_join_39
  · refine sb_if_ne (tgt := 15) hx hb (by decide : (0 : Int32).toInt = 0) dX10_join_10 (by decide) (fun h => absurd h (by decide)) (fun c_10_4 => ?_)
    refine lv_iconst (v := (-1)) hx hb dX10_join_13 (by decide) ?_
    exact hQ _ _ _ _ _ _ hw rfl (⟨Or.inl ⟨by omega, by first | omega | decide, hk⟩, (iR_eR eR.refl).trans ir0, hF, (rfl).trans e2r, lw_t (fun _ _ _ => rfl) lwr⟩) dX10_join_14
set_option maxHeartbeats 4000000 in
set_option maxRecDepth 100000 in
theorem z_X10_out (l : Launch) (D : va_G) (A : Nat → Nat → Nat) (cy : Nat → ClassId) (hJ : ti_inj ti_LM A) (M : ti_M) (hI : mI Tm M) (hF : mF Tm M) (z1 : Int32) (tx rg lp : Nat → Int) (ug : Nat → Nat → Int) (cu : Int) (ht4 : 0 ≤ tx 4 ∧ tx 4 ≤ 8) (htW : tW tx) (hwf : wF tx rg) (h1r : rg 1 = 0) (hk : kR tx rg ug cu lp M) : ti_Ki l yX10_out cX10_out 2 (some .boolean) 2 ti_LM D A cy M [.ref (A 60 0), .int z1] (fun r M2 => ((¬ (0 ≤ z1.toInt ∧ z1.toInt < tx 4 ∧ rg (128 + z1.toInt.toNat) = 1) ∧ r.toInt = 0 ∧ kR tx rg ug cu lp M2) ∨ ((0 ≤ z1.toInt ∧ z1.toInt < tx 4 ∧ rg (128 + z1.toInt.toNat) = 1) ∧ r.toInt = 1 ∧ kR tx (bq_rm rg (bq_po rg z1.toInt 0) 3) (bq_rb ug cu rg) (bq_rc cu) lp M2)) ∧ iR M2 M ∧ mF Tm M2 ∧ tI M2 60 2 = tI M 60 2 ∧ lw M2 M) := by
  refine ti_eI yp_X10_out hJ ti_LM_nd (Nat.le_of_ble_eq_true rfl) ?_
  intro p e s m args below meth c Q H0 C hQ hw ls hl
  have hx := C.1
  have hb := C.2.1
  have hl : lv_has ls 2 [(0, .ref (A 60 0)), (1, .int z1)] := hl
  obtain ⟨htr, hr, hV, hu, hp0, htw⟩ := id hk
  have t4 : tx 4 = (tY M 60 3 0).toInt := htr.1.1
  have w83 := wF_8 hwf
  have q3r : rg 3 = (tY M 60 38 0).toInt := hr.1.2.1
  refine lv_aload_n hx hb dX10_out_0 rfl (lv_at hl 0 rfl) ?_
  refine lv_iconst (v := 0) hx hb dX10_out_1 (by decide) ?_
  refine ti_putI (ci := 10) (k := 0) (N := 67) (T := TX10) C hw iw_10 tyX10 tyX10_ok nmX10 rfl ob_60 (by decide) (by decide) fl_X10_154 rfl rfl rfl rfl (fn_10 A _) fs_10_0 dX10_out_2 (fun H locs hw => ?_)
  obtain ⟨M, h0⟩ : ∃ z : ti_M, z = uI M 60 0 0 := ⟨_, rfl⟩
  have hw := hw.to h0.symm
  have hI : mI Tm M := mI_uI hI h0 (by decide) (by decide) trivial
  have hF : mF Tm M := mF_qw hF hI (qw_I h0 (by decide))
  have ir0 := iR_0 h0
  have e2r := tI_nE (k2 := 2) (o2 := 60) h0 (nk (by decide))
  have e51r := tI_nE (k2 := 51) (o2 := 60) h0 (nk (by decide))
  have lwr : lw M _ := fun _ _ _ => tY_uIE h0
  have hk := kR_0 hk h0
  obtain ⟨htr, hr, hV, hu, hp0, htw⟩ := id hk
  have t4 : tx 4 = (tY M 60 3 0).toInt := htr.1.1
  have w83 := wF_8 hwf
  have q3r : rg 3 = (tY M 60 38 0).toInt := hr.1.2.1
  refine lv_aload_n hx hb dX10_out_5 rfl (lv_at hl 0 rfl) ?_
  refine lv_iload_n hx hb dX10_out_6 rfl (lv_at hl 1 rfl) ?_
  refine ti_callVi (ci := 10) (av := [.int z1]) C hw (z_X10_isIn l D A cy hJ M hI z1 tx rg htr ht4 hr) ⟨ml_X10_423, ym_X10_isIn, yv_X10_isIn, yi_X10_isIn, yc_X10_isIn⟩ yd_X10_isIn ob_60 (by decide) rfl rfl hl.1 (Nat.le_of_ble_eq_true rfl) ⟨by decide, by decide⟩ ⟨Nat.zero_le _, Nat.zero_le _⟩ dX10_out_7 (fun r_1 M_2 H locs hp_2 hw => ?_)
  obtain ⟨hm, hz⟩ := hp_2
  have hw := hw.to hm
  rcases hz with ⟨rfl, d0_3, d1_3, d2_3, d3_3, d4_3, d5_3⟩ | ⟨rfl, e_3⟩
  · refine sb_if_ne (tgt := 15) hx hb (by decide : (1 : Int32).toInt = 1) dX10_out_10 (by decide) (fun c_10_3 => ?_) (fun h => absurd h (by decide))
    refine lv_aload_n hx hb dX10_out_15 rfl (lv_at hl 0 rfl) ?_
    refine ti_callVv (ci := 10) (av := []) C hw (z_X10_keepNow l D A cy hJ M hI hF tx rg lp ug cu ht4 hk) ⟨ml_X10_436, ym_X10_keepNow, yv_X10_keepNow, yi_X10_keepNow, yc_X10_keepNow⟩ yd_X10_keepNow ob_60 (by decide) rfl rfl hl.1 (Nat.le_of_ble_eq_true rfl) ⟨by decide, by decide⟩ ⟨Nat.zero_le _, Nat.zero_le _⟩ dX10_out_16 (fun M H locs hp_7 hw => ?_)
    have ir0 := (hp_7).2.1.trans ((iR_eR eR.refl).trans ir0)
    have e2r := (hp_7).2.2.2.2.1.trans (rfl.trans e2r)
    have lwr := lw_t (hp_7).2.2.2.1 (lw_t (fun _ _ _ => rfl) lwr)
    obtain ⟨hk, -, hF, -⟩ := hp_7
    have hI := hF.1
    obtain ⟨htr, hr, hV, hu, hp0, htw⟩ := id hk
    have t4 : tx 4 = (tY M 60 3 0).toInt := htr.1.1
    have w83 := wF_8 hwf
    have q3r : rg 3 = (tY M 60 38 0).toInt := hr.1.2.1
    refine lv_aload_n hx hb dX10_out_19 rfl (lv_at hl 0 rfl) ?_
    refine lv_iconst (v := 0) hx hb dX10_out_20 (by decide) ?_
    refine lv_aload_n hx hb dX10_out_21 rfl (lv_at hl 0 rfl) ?_
    refine lv_iconst (v := 0) hx hb dX10_out_22 (by decide) ?_
    refine lv_iload_n hx hb dX10_out_23 rfl (lv_at hl 1 rfl) ?_
    refine ti_callVi (ci := 10) (av := [.int 0, .int z1]) C hw (z_X10_placeOf_0 l D A cy hJ M hI z1 tx rg htr ht4 hr) ⟨ml_X10_411, ym_X10_placeOf, yv_X10_placeOf, yi_X10_placeOf, yc_X10_placeOf⟩ yd_X10_placeOf ob_60 (by decide) rfl rfl hl.1 (Nat.le_of_ble_eq_true rfl) ⟨by decide, by decide⟩ ⟨Nat.zero_le _, Nat.zero_le _⟩ dX10_out_24 (fun r_8 M_9 H locs hp_9 hw => ?_)
    obtain ⟨pqr_8, hqr_8⟩ := hp_9
    obtain ⟨hm, hz⟩ := hqr_8
    have hw := hw.to hm
    rcases hz with ⟨rfl, z1_10⟩ | ⟨z1_10, z2_10, z3_10, z4_10⟩
    · obtain ⟨p9, k1, k2⟩ := hwf.2.2.2.2.1 z1.toInt.toNat (by omega) (by omega); have k3 := hr.2.1 p9 (by omega) k1; exact absurd (k3.symm.trans (k2.trans (show ((z1.toInt.toNat : Nat) : Int) = z1.toInt by omega))) (z1_10 p9 (by rw [← hr.1.2.1]; exact k1))
    · refine lv_iconst (v := 3) hx hb dX10_out_27 (by decide) ?_
      refine lv_aload_n hx hb dX10_out_28 rfl (lv_at hl 0 rfl) ?_
      refine ti_get (ci := 10) (k := 34) (N := 67) (T := TX10) (v := .ref (A 60 35)) C hw iw_10 rfl ob_60 (by decide) (by decide) fl_X10_69 rfl rfl dX10_out_29 ?_
      refine lv_iconst (v := 0) hx hb dX10_out_32 (by decide) ?_
      refine ti_iald (ci := 10) (k := 34) (n := 23) C hw ob_60 (by decide) (fun _ _ => rfl) (by unfold vp_in; decide) dX10_out_33 ?_
      refine lv_topi (fun x_11 ex_11 => ?_)
      have yx_11 : tY M 60 34 0 = x_11 := ((congrArg _ (by decide)).symm.trans ex_11.symm)
      have bx_11 : 0 ≤ x_11.toInt ∧ x_11.toInt ≤ 120 := mI_ry (k := 34) (i := 0) hI yx_11.symm (by decide)
      have zx_11 : (tY M 60 34 0).toInt = x_11.toInt := by rw [yx_11]
      have L_12 : rg 2 = x_11.toInt := (hr.1.1).trans (congrArg Int32.toInt (yx_11))
      refine ti_callVv (ci := 10) (av := [.int 0, .int r_8, .int 3, .int x_11]) C hw (z_X10_leaves_0 l D A cy hJ M hI hF.2.2.1.1 r_8 3 x_11 (by first | omega | decide | (have l0 : (0 : Int32).toInt = 0 := (by decide); have l2 : (2 : Int32).toInt = 2 := (by decide); have l3 : (3 : Int32).toInt = 3 := (by decide); omega)) (by first | omega | decide | (have l0 : (0 : Int32).toInt = 0 := (by decide); have l2 : (2 : Int32).toInt = 2 := (by decide); have l3 : (3 : Int32).toInt = 3 := (by decide); omega)) (by first | omega | decide | (have l0 : (0 : Int32).toInt = 0 := (by decide); have l2 : (2 : Int32).toInt = 2 := (by decide); have l3 : (3 : Int32).toInt = 3 := (by decide); omega)) tx rg htr ht4 hr hV hwf (by omega)) ⟨ml_X10_377, ym_X10_leaves, yv_X10_leaves, yi_X10_leaves, yc_X10_leaves⟩ yd_X10_leaves ob_60 (by decide) rfl rfl hl.1 (Nat.le_of_ble_eq_true rfl) ⟨by decide, by decide⟩ ⟨Nat.zero_le _, Nat.zero_le _⟩ dX10_out_34 (fun M_14 H locs hp_14 hw => ?_)
      obtain ⟨erM_14, hrM_14, qvM_14, hqM_14⟩ := hp_14
      obtain ⟨iM_14, q_15, q_16, q_17, p0r_13⟩ := hqM_14
      simp only [show (3 : Int32).toInt = 3 by decide] at hrM_14 qvM_14
      obtain ⟨g_18, eg_18⟩ : ∃ z : Nat → Int, z = bq_rm rg r_8.toInt 3 := ⟨_, rfl⟩
      rw [← eg_18] at hrM_14
      rw [← eg_18] at qvM_14
      have wrg_18 := wF_rm htW hwf (p := r_8.toInt.toNat) (by omega) (ns := 3) (by decide)
      rw [show ((r_8.toInt.toNat : Nat) : Int) = r_8.toInt by omega, ← eg_18] at wrg_18
      have wpg_18 := wrg_18.1
      have wng_18 := wrg_18.2.1
      have mfM_14 : mF Tm M_14 := mF_rq (q := 0) hF iM_14 q_15 (fun _ => q_16) (by decide)
      refine lv_iconst (v := 1) hx hb dX10_out_37 (by decide) ?_
      exact hQ _ _ _ _ _ _ hw rfl (⟨Or.inr ⟨by omega, by first | omega | decide, kR_eR ht4 hk erM_14 (by rw [← pqr_8, ← eg_18]; exact hrM_14) (by rw [← pqr_8, ← eg_18]; exact qvM_14) (rm_k (by decide))⟩, (iR_eR erM_14).trans ir0, mfM_14, ((erM_14.1 2 (by decide))).trans e2r, lw_t q_15.1 lwr⟩) dX10_out_38
  · refine sb_if_ne (tgt := 15) hx hb (by decide : (0 : Int32).toInt = 0) dX10_out_10 (by decide) (fun h => absurd h (by decide)) (fun c_10_4 => ?_)
    refine lv_iconst (v := 0) hx hb dX10_out_13 (by decide) ?_
    exact hQ _ _ _ _ _ _ hw rfl (⟨Or.inl ⟨by omega, by first | omega | decide, hk⟩, (iR_eR eR.refl).trans ir0, hF, (rfl).trans e2r, lw_t (fun _ _ _ => rfl) lwr⟩) dX10_out_14
set_option maxHeartbeats 4000000 in
set_option maxRecDepth 100000 in
theorem z_X10_swap (l : Launch) (D : va_G) (A : Nat → Nat → Nat) (cy : Nat → ClassId) (hJ : ti_inj ti_LM A) (M : ti_M) (hI : mI Tm M) (hF : mF Tm M) (z1 : Int32) (z2 : Int32) (z3 : Int32) (tx rg lp : Nat → Int) (ug : Nat → Nat → Int) (cu : Int) (ht4 : 0 ≤ tx 4 ∧ tx 4 ≤ 8) (htW : tW tx) (hwf : wF tx rg) (h1r : rg 1 = 0) (hk : kR tx rg ug cu lp M) : ti_Ki l yX10_swap cX10_swap 6 (some .boolean) 2 ti_LM D A cy M [.ref (A 60 0), .int z1, .int z2, .int z3] (fun r M2 => ((¬ ((0 ≤ z1.toInt ∧ z1.toInt < tx 4 ∧ rg (128 + z1.toInt.toNat) = 1) ∧ (0 ≤ z2.toInt ∧ z2.toInt < tx 4 ∧ rg (128 + z2.toInt.toNat) = 1) ∧ z1.toInt ≠ z2.toInt ∧ 0 ≤ z3.toInt ∧ z3.toInt ≤ 99 ∧ z3.toInt ≤ rg (192 + z1.toInt.toNat)) ∧ r.toInt = 0 ∧ kR tx rg ug cu lp M2) ∨ (((0 ≤ z1.toInt ∧ z1.toInt < tx 4 ∧ rg (128 + z1.toInt.toNat) = 1) ∧ (0 ≤ z2.toInt ∧ z2.toInt < tx 4 ∧ rg (128 + z2.toInt.toNat) = 1) ∧ z1.toInt ≠ z2.toInt ∧ 0 ≤ z3.toInt ∧ z3.toInt ≤ 99 ∧ z3.toInt ≤ rg (192 + z1.toInt.toNat)) ∧ r.toInt = 1 ∧ kR tx (bq_sw rg z1.toInt z2.toInt z3.toInt) (bq_rb ug cu rg) (bq_rc cu) lp M2)) ∧ iR M2 M ∧ mF Tm M2 ∧ tI M2 60 2 = tI M 60 2 ∧ lw M2 M) := by
  refine ti_eI yp_X10_swap hJ ti_LM_nd (Nat.le_of_ble_eq_true rfl) ?_
  intro p e s m args below meth c Q H0 C hQ hw ls hl
  have hx := C.1
  have hb := C.2.1
  have hl : lv_has ls 6 [(0, .ref (A 60 0)), (1, .int z1), (2, .int z2), (3, .int z3)] := hl
  obtain ⟨htr, hr, hV, hu, hp0, htw⟩ := id hk
  have t4 : tx 4 = (tY M 60 3 0).toInt := htr.1.1
  have w83 := wF_8 hwf
  have q3r : rg 3 = (tY M 60 38 0).toInt := hr.1.2.1
  refine lv_aload_n hx hb dX10_swap_0 rfl (lv_at hl 0 rfl) ?_
  refine lv_iconst (v := 0) hx hb dX10_swap_1 (by decide) ?_
  refine ti_putI (ci := 10) (k := 0) (N := 67) (T := TX10) C hw iw_10 tyX10 tyX10_ok nmX10 rfl ob_60 (by decide) (by decide) fl_X10_154 rfl rfl rfl rfl (fn_10 A _) fs_10_0 dX10_swap_2 (fun H locs hw => ?_)
  obtain ⟨M, h0⟩ : ∃ z : ti_M, z = uI M 60 0 0 := ⟨_, rfl⟩
  have hw := hw.to h0.symm
  have hI : mI Tm M := mI_uI hI h0 (by decide) (by decide) trivial
  have hF : mF Tm M := mF_qw hF hI (qw_I h0 (by decide))
  have ir0 := iR_0 h0
  have e2r := tI_nE (k2 := 2) (o2 := 60) h0 (nk (by decide))
  have e51r := tI_nE (k2 := 51) (o2 := 60) h0 (nk (by decide))
  have lwr : lw M _ := fun _ _ _ => tY_uIE h0
  have hk := kR_0 hk h0
  obtain ⟨htr, hr, hV, hu, hp0, htw⟩ := id hk
  have t4 : tx 4 = (tY M 60 3 0).toInt := htr.1.1
  have w83 := wF_8 hwf
  have q3r : rg 3 = (tY M 60 38 0).toInt := hr.1.2.1
  refine lv_aload_n hx hb dX10_swap_5 rfl (lv_at hl 0 rfl) ?_
  refine lv_iload_n hx hb dX10_swap_6 rfl (lv_at hl 1 rfl) ?_
  refine ti_callVi (ci := 10) (av := [.int z1]) C hw (z_X10_isIn l D A cy hJ M hI z1 tx rg htr ht4 hr) ⟨ml_X10_423, ym_X10_isIn, yv_X10_isIn, yi_X10_isIn, yc_X10_isIn⟩ yd_X10_isIn ob_60 (by decide) rfl rfl hl.1 (Nat.le_of_ble_eq_true rfl) ⟨by decide, by decide⟩ ⟨Nat.zero_le _, Nat.zero_le _⟩ dX10_swap_7 (fun r_1 M_2 H locs hp_2 hw => ?_)
  obtain ⟨hm, hz⟩ := hp_2
  have hw := hw.to hm
  rcases hz with ⟨rfl, d0_3, d1_3, d2_3, d3_3, d4_3, d5_3⟩ | ⟨rfl, e_3⟩
  · refine sb_if_eq (tgt := 46) hx hb (by decide : (1 : Int32).toInt = 1) dX10_swap_10 (by decide) (fun h => absurd h (by decide)) (fun c_10_3 => ?_)
    refine lv_aload_n hx hb dX10_swap_13 rfl (lv_at hl 0 rfl) ?_
    refine lv_iload_n hx hb dX10_swap_14 rfl (lv_at hl 2 rfl) ?_
    refine ti_callVi (ci := 10) (av := [.int z2]) C hw (z_X10_isIn l D A cy hJ M hI z2 tx rg htr ht4 hr) ⟨ml_X10_423, ym_X10_isIn, yv_X10_isIn, yi_X10_isIn, yc_X10_isIn⟩ yd_X10_isIn ob_60 (by decide) rfl rfl hl.1 (Nat.le_of_ble_eq_true rfl) ⟨by decide, by decide⟩ ⟨Nat.zero_le _, Nat.zero_le _⟩ dX10_swap_15 (fun r_6 M_7 H locs hp_7 hw => ?_)
    obtain ⟨hm, hz⟩ := hp_7
    have hw := hw.to hm
    rcases hz with ⟨rfl, d0_8, d1_8, d2_8, d3_8, d4_8, d5_8⟩ | ⟨rfl, e_8⟩
    · refine sb_if_eq (tgt := 46) hx hb (by decide : (1 : Int32).toInt = 1) dX10_swap_18 (by decide) (fun h => absurd h (by decide)) (fun c_18_8 => ?_)
      refine lv_iload_n hx hb dX10_swap_21 rfl (lv_at hl 1 rfl) ?_
      refine lv_iload_n hx hb dX10_swap_22 rfl (lv_at hl 2 rfl) ?_
      refine sb_icmp_eq (tgt := 46) hx hb rfl rfl dX10_swap_23 (by decide) (fun c_23_10 => ?_) (fun c_23_10 => ?_)
      · refine lv_iconst (v := 0) hx hb dX10_swap_46 (by decide) ?_
        exact hQ _ _ _ _ _ _ hw rfl (⟨Or.inl ⟨by omega, by first | omega | decide, hk⟩, (iR_eR eR.refl).trans ir0, hF, (rfl).trans e2r, lw_t (fun _ _ _ => rfl) lwr⟩) dX10_swap_47
      · refine lv_iload_n hx hb dX10_swap_26 rfl (lv_at hl 3 rfl) ?_
        refine sb_if_lt (tgt := 46) hx hb rfl dX10_swap_27 (by decide) (fun c_27_11 => ?_) (fun c_27_11 => ?_)
        · refine lv_iconst (v := 0) hx hb dX10_swap_46 (by decide) ?_
          exact hQ _ _ _ _ _ _ hw rfl (⟨Or.inl ⟨by omega, by first | omega | decide, hk⟩, (iR_eR eR.refl).trans ir0, hF, (rfl).trans e2r, lw_t (fun _ _ _ => rfl) lwr⟩) dX10_swap_47
        · refine lv_iload_n hx hb dX10_swap_30 rfl (lv_at hl 3 rfl) ?_
          refine lv_bipush (v := 99) hx hb dX10_swap_31 (by decide) ?_
          refine sb_icmp_gt (tgt := 46) hx hb rfl (by decide : (99 : Int32).toInt = 99) dX10_swap_33 (by decide) (fun c_33_12 => ?_) (fun c_33_12 => ?_)
          · refine lv_iconst (v := 0) hx hb dX10_swap_46 (by decide) ?_
            exact hQ _ _ _ _ _ _ hw rfl (⟨Or.inl ⟨by omega, by first | omega | decide, hk⟩, (iR_eR eR.refl).trans ir0, hF, (rfl).trans e2r, lw_t (fun _ _ _ => rfl) lwr⟩) dX10_swap_47
          · refine lv_aload_n hx hb dX10_swap_36 rfl (lv_at hl 0 rfl) ?_
            refine ti_get (ci := 10) (k := 43) (N := 67) (T := TX10) (v := .ref (A 60 44)) C hw iw_10 rfl ob_60 (by decide) (by decide) fl_X10_96 rfl rfl dX10_swap_37 ?_
            refine lv_iload_n hx hb dX10_swap_40 rfl (lv_at hl 1 rfl) ?_
            refine ti_iald (ci := 10) (k := 43) (n := 184) C hw ob_60 (by decide) (fun _ _ => rfl) (vp_in_iff.mpr (by omega)) dX10_swap_41 ?_
            refine lv_topi (fun x_14 ex_14 => ?_)
            have yx_14 : tY M 60 43 z1.toNatClampNeg = x_14 := (ex_14.symm)
            have L_15 : rg (192 + z1.toInt.toNat) = x_14.toInt := ((hr.2.2.2.1 (z1.toInt.toNat) (by omega)).2.2.2.2.1).trans (rd_k (n := 8 * 0 + z1.toInt.toNat) (by omega) (yx_14))
            refine lv_iload_n hx hb dX10_swap_42 rfl (lv_at hl 3 rfl) ?_
            refine sb_icmp_ge (tgt := 48) hx hb rfl rfl dX10_swap_43 (by decide) (fun c_43_15 => ?_) (fun c_43_15 => ?_)
            · refine lv_aload_n hx hb dX10_swap_48 rfl (lv_at hl 0 rfl) ?_
              refine ti_callVv (ci := 10) (av := []) C hw (z_X10_keepNow l D A cy hJ M hI hF tx rg lp ug cu ht4 hk) ⟨ml_X10_436, ym_X10_keepNow, yv_X10_keepNow, yi_X10_keepNow, yc_X10_keepNow⟩ yd_X10_keepNow ob_60 (by decide) rfl rfl hl.1 (Nat.le_of_ble_eq_true rfl) ⟨by decide, by decide⟩ ⟨Nat.zero_le _, Nat.zero_le _⟩ dX10_swap_49 (fun M H locs hp_18 hw => ?_)
              have ir0 := (hp_18).2.1.trans ((iR_eR eR.refl).trans ir0)
              have e2r := (hp_18).2.2.2.2.1.trans (rfl.trans e2r)
              have lwr := lw_t (hp_18).2.2.2.1 (lw_t (fun _ _ _ => rfl) lwr)
              obtain ⟨hk, -, hF, -⟩ := hp_18
              have hI := hF.1
              obtain ⟨htr, hr, hV, hu, hp0, htw⟩ := id hk
              have t4 : tx 4 = (tY M 60 3 0).toInt := htr.1.1
              have w83 := wF_8 hwf
              have q3r : rg 3 = (tY M 60 38 0).toInt := hr.1.2.1
              refine lv_aload_n hx hb dX10_swap_52 rfl (lv_at hl 0 rfl) ?_
              refine lv_iconst (v := 0) hx hb dX10_swap_53 (by decide) ?_
              refine lv_iload_n hx hb dX10_swap_54 rfl (lv_at hl 1 rfl) ?_
              refine ti_callVi (ci := 10) (av := [.int 0, .int z1]) C hw (z_X10_placeOf_0 l D A cy hJ M hI z1 tx rg htr ht4 hr) ⟨ml_X10_411, ym_X10_placeOf, yv_X10_placeOf, yi_X10_placeOf, yc_X10_placeOf⟩ yd_X10_placeOf ob_60 (by decide) rfl rfl hl.1 (Nat.le_of_ble_eq_true rfl) ⟨by decide, by decide⟩ ⟨Nat.zero_le _, Nat.zero_le _⟩ dX10_swap_55 (fun r_19 M_20 H locs hp_20 hw => ?_)
              obtain ⟨pqr_19, hqr_19⟩ := hp_20
              obtain ⟨hm, hz⟩ := hqr_19
              have hw := hw.to hm
              rcases hz with ⟨rfl, z1_21⟩ | ⟨z1_21, z2_21, z3_21, z4_21⟩
              · obtain ⟨p9, k1, k2⟩ := hwf.2.2.2.2.1 z1.toInt.toNat (by omega) (by omega); have k3 := hr.2.1 p9 (by omega) k1; exact absurd (k3.symm.trans (k2.trans (show ((z1.toInt.toNat : Nat) : Int) = z1.toInt by omega))) (z1_21 p9 (by rw [← hr.1.2.1]; exact k1))
              · refine lv_istore (lv' := [(4, .int r_19), (0, .ref (A 60 0)), (1, .int z1), (2, .int z2), (3, .int z3)]) hx hb dX10_swap_58 hl (by decide) rfl (fun ls hl => ?_)
                refine lv_aload_n hx hb dX10_swap_60 rfl (lv_at hl 1 rfl) ?_
                refine lv_iconst (v := 0) hx hb dX10_swap_61 (by decide) ?_
                refine lv_iload_n hx hb dX10_swap_62 rfl (lv_at hl 3 rfl) ?_
                refine ti_callVi (ci := 10) (av := [.int 0, .int z2]) C hw (z_X10_placeOf_0 l D A cy hJ M hI z2 tx rg htr ht4 hr) ⟨ml_X10_411, ym_X10_placeOf, yv_X10_placeOf, yi_X10_placeOf, yc_X10_placeOf⟩ yd_X10_placeOf ob_60 (by decide) rfl rfl hl.1 (Nat.le_of_ble_eq_true rfl) ⟨by decide, by decide⟩ ⟨Nat.zero_le _, Nat.zero_le _⟩ dX10_swap_63 (fun r_22 M_23 H locs hp_23 hw => ?_)
                obtain ⟨pqr_22, hqr_22⟩ := hp_23
                obtain ⟨hm, hz⟩ := hqr_22
                have hw := hw.to hm
                rcases hz with ⟨rfl, z1_24⟩ | ⟨z1_24, z2_24, z3_24, z4_24⟩
                · obtain ⟨p9, k1, k2⟩ := hwf.2.2.2.2.1 z2.toInt.toNat (by omega) (by omega); have k3 := hr.2.1 p9 (by omega) k1; exact absurd (k3.symm.trans (k2.trans (show ((z2.toInt.toNat : Nat) : Int) = z2.toInt by omega))) (z1_24 p9 (by rw [← hr.1.2.1]; exact k1))
                · refine lv_istore (lv' := [(5, .int r_22), (4, .int r_19), (0, .ref (A 60 0)), (1, .int z1), (2, .int z2), (3, .int z3)]) hx hb dX10_swap_66 hl (by decide) rfl (fun ls hl => ?_)
                  refine lv_aload_n hx hb dX10_swap_68 rfl (lv_at hl 2 rfl) ?_
                  refine ti_get (ci := 10) (k := 39) (N := 67) (T := TX10) (v := .ref (A 60 40)) C hw iw_10 rfl ob_60 (by decide) (by decide) fl_X10_84 rfl rfl dX10_swap_69 ?_
                  refine lv_iload hx hb dX10_swap_72 (lv_at hl 1 rfl) ?_
                  refine lv_iload_n hx hb dX10_swap_74 rfl (lv_at hl 4 rfl) ?_
                  refine ti_iast (ci := 10) (k := 39) (n := 184) C hw ob_60 (by decide) (fun _ _ => rfl) (vp_in_iff.mpr (by omega)) dX10_swap_75 (fun H locs hw => ?_)
                  obtain ⟨M_25, hM_25⟩ : ∃ z : ti_M, z = uY M 60 39 (upd (tY M 60 39) (r_19 : Int32).toNatClampNeg z2) := ⟨_, rfl⟩
                  have hw := hw.to hM_25.symm
                  have iM_25 : mI Tm M_25 := mI_up (i := r_19.toNatClampNeg) hI hM_25 (ib_mk (lo := 0) (hi := 7) (by omega) (by omega))
                  have hs_27 : qR (tx 4).toNat 0 (pp_su rg (96 + r_19.toInt.toNat) z2.toInt) M_25 := qR_39 (p := r_19.toInt.toNat) (z := r_19) hr (by omega) rfl hM_25 (by omega) (by omega)
                  obtain ⟨g_28, eg_28⟩ : ∃ z : Nat → Int, z = pp_su rg (96 + r_19.toInt.toNat) z2.toInt := ⟨_, rfl⟩
                  rw [← eg_28] at hs_27
                  refine lv_aload_n hx hb dX10_swap_76 rfl (lv_at hl 2 rfl) ?_
                  refine ti_get (ci := 10) (k := 39) (N := 67) (T := TX10) (v := .ref (A 60 40)) C hw iw_10 rfl ob_60 (by decide) (by decide) fl_X10_84 rfl rfl dX10_swap_77 ?_
                  refine lv_iload hx hb dX10_swap_80 (lv_at hl 0 rfl) ?_
                  refine lv_iload_n hx hb dX10_swap_82 rfl (lv_at hl 3 rfl) ?_
                  refine ti_iast (ci := 10) (k := 39) (n := 184) C hw ob_60 (by decide) (fun _ _ => rfl) (vp_in_iff.mpr (by omega)) dX10_swap_83 (fun H locs hw => ?_)
                  obtain ⟨M_29, hM_29⟩ : ∃ z : ti_M, z = uY M_25 60 39 (upd (tY M_25 60 39) (r_22 : Int32).toNatClampNeg z1) := ⟨_, rfl⟩
                  have hw := hw.to hM_29.symm
                  have iM_29 : mI Tm M_29 := mI_up (i := r_22.toNatClampNeg) iM_25 hM_29 (ib_mk (lo := 0) (hi := 7) (by omega) (by omega))
                  have hs_31 : qR (tx 4).toNat 0 (pp_su g_28 (96 + r_22.toInt.toNat) z1.toInt) M_29 := qR_39 (p := r_22.toInt.toNat) (z := r_22) hs_27 (by omega) rfl hM_29 (by omega) (by omega)
                  obtain ⟨g_32, eg_32⟩ : ∃ z : Nat → Int, z = pp_su g_28 (96 + r_22.toInt.toNat) z1.toInt := ⟨_, rfl⟩
                  rw [← eg_32] at hs_31
                  have swM_29 := q_swap (x := z1) (y := z2) hF iM_29 hM_25 hM_29 (by show r_19.toInt.toNat < 8; omega) (by show r_22.toInt.toNat < 8; omega) (by rw [show (r_19).toNatClampNeg = 0 + r_19.toInt.toNat by (show r_19.toInt.toNat = _; omega)]; exact z4_21) (by rw [show (r_22).toNatClampNeg = 0 + r_22.toInt.toNat by (show r_22.toInt.toNat = _; omega)]; exact z4_24) (by omega) (by show ((r_19.toInt.toNat : Nat) : Int) < _; omega) (by show ((r_22.toInt.toNat : Nat) : Int) < _; omega)
                  refine lv_aload_n hx hb dX10_swap_84 rfl (lv_at hl 2 rfl) ?_
                  refine ti_get (ci := 10) (k := 43) (N := 67) (T := TX10) (v := .ref (A 60 44)) C hw iw_10 rfl ob_60 (by decide) (by decide) fl_X10_96 rfl rfl dX10_swap_85 ?_
                  refine lv_iload_n hx hb dX10_swap_88 rfl (lv_at hl 3 rfl) ?_
                  refine lv_dup2_11 hx hb dX10_swap_89 rfl rfl ?_
                  refine ti_iald (ci := 10) (k := 43) (n := 184) C hw ob_60 (by decide) (fun _ _ => rfl) (vp_in_iff.mpr (by omega)) dX10_swap_90 ?_
                  refine lv_topi (fun x_33 ex_33 => ?_)
                  have yx_33 : tY M_29 60 43 z1.toNatClampNeg = x_33 := (ex_33.symm)
                  have wx_33 : tY M 60 43 z1.toNatClampNeg = x_33 := (((cg (tY_nE hM_29 (nk (by decide))) z1.toNatClampNeg).trans (cg (tY_nE hM_25 (nk (by decide))) z1.toNatClampNeg))).symm.trans yx_33
                  have L_34 : g_32 (192 + z1.toInt.toNat) = x_33.toInt := ((hs_31.2.2.2.1 (z1.toInt.toNat) (by omega)).2.2.2.2.1).trans (rd_k (n := 8 * 0 + z1.toInt.toNat) (by omega) ((cg (tY_nE hM_29 (nk (by decide))) z1.toNatClampNeg).trans ((cg (tY_nE hM_25 (nk (by decide))) z1.toNatClampNeg).trans wx_33)))
                  have L_35 : g_28 (192 + z1.toInt.toNat) = x_33.toInt := (show g_32 (192 + z1.toInt.toNat) = g_28 (192 + z1.toInt.toNat) by rw [eg_32, su_n (by omega)]).symm.trans L_34
                  have L_36 : rg (192 + z1.toInt.toNat) = x_33.toInt := (show g_28 (192 + z1.toInt.toNat) = rg (192 + z1.toInt.toNat) by rw [eg_28, su_n (by omega)]).symm.trans L_35
                  refine lv_iload_n hx hb dX10_swap_91 rfl (lv_at hl 5 rfl) ?_
                  refine lv_isub hx hb dX10_swap_92 ?_
                  refine lv_topi (fun x_37 ex_37 => ?_)
                  have tx_37 : x_37.toInt = bw (x_33.toInt - z3.toInt) := bw_sub ex_37 rfl rfl
                  refine ti_iast (ci := 10) (k := 43) (n := 184) C hw ob_60 (by decide) (fun _ _ => rfl) (vp_in_iff.mpr (by omega)) dX10_swap_93 (fun H locs hw => ?_)
                  obtain ⟨M_38, hM_38⟩ : ∃ z : ti_M, z = uY M_29 60 43 (upd (tY M_29 60 43) (z1 : Int32).toNatClampNeg x_37) := ⟨_, rfl⟩
                  have hw := hw.to hM_38.symm
                  have iM_38 : mI Tm M_38 := mI_up (i := z1.toNatClampNeg) iM_29 hM_38 trivial
                  have hs_39 : qR (tx 4).toNat 0 (pp_su g_32 (192 + z1.toInt.toNat) x_37.toInt) M_38 := qR_43 (m := z1.toInt.toNat) (z := z1) hs_31 (by omega) rfl hM_38 (by omega) (by omega)
                  obtain ⟨g_40, eg_40⟩ : ∃ z : Nat → Int, z = pp_su g_32 (192 + z1.toInt.toNat) x_37.toInt := ⟨_, rfl⟩
                  rw [← eg_40] at hs_39
                  refine lv_aload_n hx hb dX10_swap_94 rfl (lv_at hl 2 rfl) ?_
                  refine ti_get (ci := 10) (k := 43) (N := 67) (T := TX10) (v := .ref (A 60 44)) C hw iw_10 rfl ob_60 (by decide) (by decide) fl_X10_96 rfl rfl dX10_swap_95 ?_
                  refine lv_iload_n hx hb dX10_swap_98 rfl (lv_at hl 4 rfl) ?_
                  refine lv_dup2_11 hx hb dX10_swap_99 rfl rfl ?_
                  refine ti_iald (ci := 10) (k := 43) (n := 184) C hw ob_60 (by decide) (fun _ _ => rfl) (vp_in_iff.mpr (by omega)) dX10_swap_100 ?_
                  refine lv_topi (fun x_42 ex_42 => ?_)
                  have yx_42 : tY M_38 60 43 z2.toNatClampNeg = x_42 := (ex_42.symm)
                  have L_43 : g_40 (192 + z2.toInt.toNat) = x_42.toInt := ((hs_39.2.2.2.1 (z2.toInt.toNat) (by omega)).2.2.2.2.1).trans (rd_k (n := 8 * 0 + z2.toInt.toNat) (by omega) (yx_42))
                  refine lv_iload_n hx hb dX10_swap_101 rfl (lv_at hl 5 rfl) ?_
                  refine lv_iadd hx hb dX10_swap_102 ?_
                  refine lv_topi (fun x_44 ex_44 => ?_)
                  have tx_44 : x_44.toInt = bw (x_42.toInt + z3.toInt) := bw_add ex_44 rfl rfl
                  refine ti_iast (ci := 10) (k := 43) (n := 184) C hw ob_60 (by decide) (fun _ _ => rfl) (vp_in_iff.mpr (by omega)) dX10_swap_103 (fun H locs hw => ?_)
                  obtain ⟨M_45, hM_45⟩ : ∃ z : ti_M, z = uY M_38 60 43 (upd (tY M_38 60 43) (z2 : Int32).toNatClampNeg x_44) := ⟨_, rfl⟩
                  have hw := hw.to hM_45.symm
                  have iM_45 : mI Tm M_45 := mI_up (i := z2.toNatClampNeg) iM_38 hM_45 trivial
                  have hs_46 : qR (tx 4).toNat 0 (pp_su g_40 (192 + z2.toInt.toNat) x_44.toInt) M_45 := qR_43 (m := z2.toInt.toNat) (z := z2) hs_39 (by omega) rfl hM_45 (by omega) (by omega)
                  obtain ⟨g_47, eg_47⟩ : ∃ z : Nat → Int, z = pp_su g_40 (192 + z2.toInt.toNat) x_44.toInt := ⟨_, rfl⟩
                  rw [← eg_47] at hs_46
                  refine lv_iconst (v := 1) hx hb dX10_swap_104 (by decide) ?_
                  have EX : bq_ex rg z1.toInt z2.toInt = g_32 := by unfold bq_ex; rw [if_pos ⟨by omega, by omega⟩, ← pqr_19, ← pqr_22, ← eg_28, ← eg_32]
                  have E_49 : bq_sw rg z1.toInt z2.toInt z3.toInt = g_47 := by unfold bq_sw bq_s1w; rw [EX, L_34, ← tx_37, ← eg_40, L_43, ← tx_44, ← eg_47]
                  exact hQ _ _ _ _ _ _ hw rfl (⟨Or.inr ⟨by omega, by first | omega | decide, kR_eR ht4 hk (eR.trans (eR_Y hM_45 (bk_m (z := z2) (by omega) (by decide))) (eR.trans (eR_Y hM_38 (bk_m (z := z1) (by omega) (by decide))) (eR.trans (eR_Y hM_29 (bk_m (z := r_22) (by omega) (by decide))) (eR_Y hM_25 (bk_m (z := r_19) (by omega) (by decide)))))) (by rw [E_49]; exact hs_46) (qV_same hV (((tY_nE hM_45 (nk (by decide))).trans ((tY_nE hM_38 (nk (by decide))).trans ((tY_nE hM_29 (nk (by decide))).trans (tY_nE hM_25 (nk (by decide))))))) (by omega) (fun m hm => by rw [E_49]; rw [eg_47, su_n (by omega)]; rw [eg_40, su_n (by omega)]; rw [eg_32, su_n (by omega)]; rw [eg_28, su_n (by omega)]) (fun m hm => by rw [E_49]; rw [eg_47, su_n (by omega)]; rw [eg_40, su_n (by omega)]; rw [eg_32, su_n (by omega)]; rw [eg_28, su_n (by omega)])) (by rw [E_49]; rw [eg_47, su_n (by omega)]; rw [eg_40, su_n (by omega)]; rw [eg_32, su_n (by omega)]; rw [eg_28, su_n (by omega)])⟩, (iR_eR (eR.trans (eR_Y hM_45 (bk_m (z := z2) (by omega) (by decide))) (eR.trans (eR_Y hM_38 (bk_m (z := z1) (by omega) (by decide))) (eR.trans (eR_Y hM_29 (bk_m (z := r_22) (by omega) (by decide))) (eR_Y hM_25 (bk_m (z := r_19) (by omega) (by decide))))))).trans ir0, (mF_qw swM_29.1 iM_45 (qw.trans (qw_Y hM_45 (by decide)) (qw_Y hM_38 (by decide)))), (((tI_uYE hM_45).trans ((tI_uYE hM_38).trans ((tI_uYE hM_29).trans (tI_uYE hM_25))))).trans e2r, lw_t (lw_t (fun k a b => tY_nE hM_45 (nk (by omega))) (lw_t (fun k a b => tY_nE hM_38 (nk (by omega))) (lw_t (fun k a b => tY_nE hM_29 (nk (by omega))) (fun k a b => tY_nE hM_25 (nk (by omega)))))) lwr⟩) dX10_swap_105
            · refine lv_iconst (v := 0) hx hb dX10_swap_46 (by decide) ?_
              exact hQ _ _ _ _ _ _ hw rfl (⟨Or.inl ⟨by omega, by first | omega | decide, hk⟩, (iR_eR eR.refl).trans ir0, hF, (rfl).trans e2r, lw_t (fun _ _ _ => rfl) lwr⟩) dX10_swap_47
    · refine sb_if_eq (tgt := 46) hx hb (by decide : (0 : Int32).toInt = 0) dX10_swap_18 (by decide) (fun c_18_9 => ?_) (fun h => absurd h (by decide))
      refine lv_iconst (v := 0) hx hb dX10_swap_46 (by decide) ?_
      exact hQ _ _ _ _ _ _ hw rfl (⟨Or.inl ⟨by omega, by first | omega | decide, hk⟩, (iR_eR eR.refl).trans ir0, hF, (rfl).trans e2r, lw_t (fun _ _ _ => rfl) lwr⟩) dX10_swap_47
  · refine sb_if_eq (tgt := 46) hx hb (by decide : (0 : Int32).toInt = 0) dX10_swap_10 (by decide) (fun c_10_4 => ?_) (fun h => absurd h (by decide))
    refine lv_iconst (v := 0) hx hb dX10_swap_46 (by decide) ?_
    exact hQ _ _ _ _ _ _ hw rfl (⟨Or.inl ⟨by omega, by first | omega | decide, hk⟩, (iR_eR eR.refl).trans ir0, hF, (rfl).trans e2r, lw_t (fun _ _ _ => rfl) lwr⟩) dX10_swap_47
set_option maxHeartbeats 4000000 in
set_option maxRecDepth 100000 in
theorem z_X10_kneel (l : Launch) (D : va_G) (A : Nat → Nat → Nat) (cy : Nat → ClassId) (hJ : ti_inj ti_LM A) (M : ti_M) (hI : mI Tm M) (hF : mF Tm M) (z1 : Int32) (z2 : Int32) (tx rg lp : Nat → Int) (ug : Nat → Nat → Int) (cu : Int) (ht4 : 0 ≤ tx 4 ∧ tx 4 ≤ 8) (htW : tW tx) (hwf : wF tx rg) (h1r : rg 1 = 0) (hk : kR tx rg ug cu lp M) : ti_Ki l yX10_kneel cX10_kneel 3 (some .boolean) 2 ti_LM D A cy M [.ref (A 60 0), .int z1, .int z2] (fun r M2 => ((¬ ((0 ≤ z1.toInt ∧ z1.toInt < tx 4 ∧ rg (128 + z1.toInt.toNat) = 1) ∧ 1 ≤ z2.toInt ∧ z2.toInt ≤ 20 ∧ rg (240 + z1.toInt.toNat) ≠ z2.toInt) ∧ r.toInt = 0 ∧ kR tx rg ug cu lp M2) ∨ (((0 ≤ z1.toInt ∧ z1.toInt < tx 4 ∧ rg (128 + z1.toInt.toNat) = 1) ∧ 1 ≤ z2.toInt ∧ z2.toInt ≤ 20 ∧ rg (240 + z1.toInt.toNat) ≠ z2.toInt) ∧ r.toInt = 1 ∧ kR tx (pp_su rg (240 + z1.toInt.toNat) z2.toInt) (bq_rb ug cu rg) (bq_rc cu) lp M2)) ∧ iR M2 M ∧ mF Tm M2 ∧ tI M2 60 2 = tI M 60 2 ∧ lw M2 M) := by
  refine ti_eI yp_X10_kneel hJ ti_LM_nd (Nat.le_of_ble_eq_true rfl) ?_
  intro p e s m args below meth c Q H0 C hQ hw ls hl
  have hx := C.1
  have hb := C.2.1
  have hl : lv_has ls 3 [(0, .ref (A 60 0)), (1, .int z1), (2, .int z2)] := hl
  obtain ⟨htr, hr, hV, hu, hp0, htw⟩ := id hk
  have t4 : tx 4 = (tY M 60 3 0).toInt := htr.1.1
  have w83 := wF_8 hwf
  have q3r : rg 3 = (tY M 60 38 0).toInt := hr.1.2.1
  refine lv_aload_n hx hb dX10_kneel_0 rfl (lv_at hl 0 rfl) ?_
  refine lv_iconst (v := 0) hx hb dX10_kneel_1 (by decide) ?_
  refine ti_putI (ci := 10) (k := 0) (N := 67) (T := TX10) C hw iw_10 tyX10 tyX10_ok nmX10 rfl ob_60 (by decide) (by decide) fl_X10_154 rfl rfl rfl rfl (fn_10 A _) fs_10_0 dX10_kneel_2 (fun H locs hw => ?_)
  obtain ⟨M, h0⟩ : ∃ z : ti_M, z = uI M 60 0 0 := ⟨_, rfl⟩
  have hw := hw.to h0.symm
  have hI : mI Tm M := mI_uI hI h0 (by decide) (by decide) trivial
  have hF : mF Tm M := mF_qw hF hI (qw_I h0 (by decide))
  have ir0 := iR_0 h0
  have e2r := tI_nE (k2 := 2) (o2 := 60) h0 (nk (by decide))
  have e51r := tI_nE (k2 := 51) (o2 := 60) h0 (nk (by decide))
  have lwr : lw M _ := fun _ _ _ => tY_uIE h0
  have hk := kR_0 hk h0
  obtain ⟨htr, hr, hV, hu, hp0, htw⟩ := id hk
  have t4 : tx 4 = (tY M 60 3 0).toInt := htr.1.1
  have w83 := wF_8 hwf
  have q3r : rg 3 = (tY M 60 38 0).toInt := hr.1.2.1
  refine lv_aload_n hx hb dX10_kneel_5 rfl (lv_at hl 0 rfl) ?_
  refine lv_iload_n hx hb dX10_kneel_6 rfl (lv_at hl 1 rfl) ?_
  refine ti_callVi (ci := 10) (av := [.int z1]) C hw (z_X10_isIn l D A cy hJ M hI z1 tx rg htr ht4 hr) ⟨ml_X10_423, ym_X10_isIn, yv_X10_isIn, yi_X10_isIn, yc_X10_isIn⟩ yd_X10_isIn ob_60 (by decide) rfl rfl hl.1 (Nat.le_of_ble_eq_true rfl) ⟨by decide, by decide⟩ ⟨Nat.zero_le _, Nat.zero_le _⟩ dX10_kneel_7 (fun r_1 M_2 H locs hp_2 hw => ?_)
  obtain ⟨hm, hz⟩ := hp_2
  have hw := hw.to hm
  rcases hz with ⟨rfl, d0_3, d1_3, d2_3, d3_3, d4_3, d5_3⟩ | ⟨rfl, e_3⟩
  · refine sb_if_eq (tgt := 34) hx hb (by decide : (1 : Int32).toInt = 1) dX10_kneel_10 (by decide) (fun h => absurd h (by decide)) (fun c_10_3 => ?_)
    refine lv_iload_n hx hb dX10_kneel_13 rfl (lv_at hl 2 rfl) ?_
    refine lv_iconst (v := 1) hx hb dX10_kneel_14 (by decide) ?_
    refine sb_icmp_lt (tgt := 34) hx hb rfl (by decide : (1 : Int32).toInt = 1) dX10_kneel_15 (by decide) (fun c_15_5 => ?_) (fun c_15_5 => ?_)
    · refine lv_iconst (v := 0) hx hb dX10_kneel_34 (by decide) ?_
      exact hQ _ _ _ _ _ _ hw rfl (⟨Or.inl ⟨by omega, by first | omega | decide, hk⟩, (iR_eR eR.refl).trans ir0, hF, (rfl).trans e2r, lw_t (fun _ _ _ => rfl) lwr⟩) dX10_kneel_35
    · refine lv_iload_n hx hb dX10_kneel_18 rfl (lv_at hl 2 rfl) ?_
      refine lv_bipush (v := 20) hx hb dX10_kneel_19 (by decide) ?_
      refine sb_icmp_gt (tgt := 34) hx hb rfl (by decide : (20 : Int32).toInt = 20) dX10_kneel_21 (by decide) (fun c_21_6 => ?_) (fun c_21_6 => ?_)
      · refine lv_iconst (v := 0) hx hb dX10_kneel_34 (by decide) ?_
        exact hQ _ _ _ _ _ _ hw rfl (⟨Or.inl ⟨by omega, by first | omega | decide, hk⟩, (iR_eR eR.refl).trans ir0, hF, (rfl).trans e2r, lw_t (fun _ _ _ => rfl) lwr⟩) dX10_kneel_35
      · refine lv_aload_n hx hb dX10_kneel_24 rfl (lv_at hl 0 rfl) ?_
        refine ti_get (ci := 10) (k := 47) (N := 67) (T := TX10) (v := .ref (A 60 48)) C hw iw_10 rfl ob_60 (by decide) (by decide) fl_X10_108 rfl rfl dX10_kneel_25 ?_
        refine lv_iload_n hx hb dX10_kneel_28 rfl (lv_at hl 1 rfl) ?_
        refine ti_iald (ci := 10) (k := 47) (n := 184) C hw ob_60 (by decide) (fun _ _ => rfl) (vp_in_iff.mpr (by omega)) dX10_kneel_29 ?_
        refine lv_topi (fun x_8 ex_8 => ?_)
        have yx_8 : tY M 60 47 z1.toNatClampNeg = x_8 := (ex_8.symm)
        have L_9 : rg (240 + z1.toInt.toNat) = x_8.toInt := ((hr.2.2.2.1 (z1.toInt.toNat) (by omega)).2.2.2.2.2).trans (rd_k (n := 8 * 0 + z1.toInt.toNat) (by omega) (yx_8))
        refine lv_iload_n hx hb dX10_kneel_30 rfl (lv_at hl 2 rfl) ?_
        refine sb_icmp_ne (tgt := 36) hx hb rfl rfl dX10_kneel_31 (by decide) (fun c_31_9 => ?_) (fun c_31_9 => ?_)
        · refine lv_aload_n hx hb dX10_kneel_36 rfl (lv_at hl 0 rfl) ?_
          refine ti_callVv (ci := 10) (av := []) C hw (z_X10_keepNow l D A cy hJ M hI hF tx rg lp ug cu ht4 hk) ⟨ml_X10_436, ym_X10_keepNow, yv_X10_keepNow, yi_X10_keepNow, yc_X10_keepNow⟩ yd_X10_keepNow ob_60 (by decide) rfl rfl hl.1 (Nat.le_of_ble_eq_true rfl) ⟨by decide, by decide⟩ ⟨Nat.zero_le _, Nat.zero_le _⟩ dX10_kneel_37 (fun M H locs hp_12 hw => ?_)
          have ir0 := (hp_12).2.1.trans ((iR_eR eR.refl).trans ir0)
          have e2r := (hp_12).2.2.2.2.1.trans (rfl.trans e2r)
          have lwr := lw_t (hp_12).2.2.2.1 (lw_t (fun _ _ _ => rfl) lwr)
          obtain ⟨hk, -, hF, -⟩ := hp_12
          have hI := hF.1
          obtain ⟨htr, hr, hV, hu, hp0, htw⟩ := id hk
          have t4 : tx 4 = (tY M 60 3 0).toInt := htr.1.1
          have w83 := wF_8 hwf
          have q3r : rg 3 = (tY M 60 38 0).toInt := hr.1.2.1
          refine lv_aload_n hx hb dX10_kneel_40 rfl (lv_at hl 0 rfl) ?_
          refine ti_get (ci := 10) (k := 47) (N := 67) (T := TX10) (v := .ref (A 60 48)) C hw iw_10 rfl ob_60 (by decide) (by decide) fl_X10_108 rfl rfl dX10_kneel_41 ?_
          refine lv_iload_n hx hb dX10_kneel_44 rfl (lv_at hl 1 rfl) ?_
          refine lv_iload_n hx hb dX10_kneel_45 rfl (lv_at hl 2 rfl) ?_
          refine ti_iast (ci := 10) (k := 47) (n := 184) C hw ob_60 (by decide) (fun _ _ => rfl) (vp_in_iff.mpr (by omega)) dX10_kneel_46 (fun H locs hw => ?_)
          obtain ⟨M_13, hM_13⟩ : ∃ z : ti_M, z = uY M 60 47 (upd (tY M 60 47) (z1 : Int32).toNatClampNeg z2) := ⟨_, rfl⟩
          have hw := hw.to hM_13.symm
          have iM_13 : mI Tm M_13 := mI_up (i := z1.toNatClampNeg) hI hM_13 trivial
          have hs_14 : qR (tx 4).toNat 0 (pp_su rg (240 + z1.toInt.toNat) z2.toInt) M_13 := qR_47 (m := z1.toInt.toNat) (z := z1) hr (by omega) rfl hM_13 (by omega) (by omega)
          obtain ⟨g_15, eg_15⟩ : ∃ z : Nat → Int, z = pp_su rg (240 + z1.toInt.toNat) z2.toInt := ⟨_, rfl⟩
          rw [← eg_15] at hs_14
          refine lv_iconst (v := 1) hx hb dX10_kneel_47 (by decide) ?_
          exact hQ _ _ _ _ _ _ hw rfl (⟨Or.inr ⟨by omega, by first | omega | decide, kR_eR ht4 hk (eR_Y hM_13 (bk_m (z := z1) (by omega) (by decide))) (by rw [← eg_15]; exact hs_14) (qV_same hV ((tY_nE hM_13 (nk (by decide)))) (by omega) (fun m hm => by rw [su_n (by omega)]) (fun m hm => by rw [su_n (by omega)])) (by rw [su_n (by omega)])⟩, (iR_eR (eR_Y hM_13 (bk_m (z := z1) (by omega) (by decide)))).trans ir0, (mF_qw hF iM_13 (qw_Y hM_13 (by decide))), ((tI_uYE hM_13)).trans e2r, lw_t (fun k a b => tY_nE hM_13 (nk (by omega))) lwr⟩) dX10_kneel_48
        · refine lv_iconst (v := 0) hx hb dX10_kneel_34 (by decide) ?_
          exact hQ _ _ _ _ _ _ hw rfl (⟨Or.inl ⟨by omega, by first | omega | decide, hk⟩, (iR_eR eR.refl).trans ir0, hF, (rfl).trans e2r, lw_t (fun _ _ _ => rfl) lwr⟩) dX10_kneel_35
  · refine sb_if_eq (tgt := 34) hx hb (by decide : (0 : Int32).toInt = 0) dX10_kneel_10 (by decide) (fun c_10_4 => ?_) (fun h => absurd h (by decide))
    refine lv_iconst (v := 0) hx hb dX10_kneel_34 (by decide) ?_
    exact hQ _ _ _ _ _ _ hw rfl (⟨Or.inl ⟨by omega, by first | omega | decide, hk⟩, (iR_eR eR.refl).trans ir0, hF, (rfl).trans e2r, lw_t (fun _ _ _ => rfl) lwr⟩) dX10_kneel_35
set_option maxHeartbeats 4000000 in
set_option maxRecDepth 100000 in
theorem z_X10_cough (l : Launch) (D : va_G) (A : Nat → Nat → Nat) (cy : Nat → ClassId) (hJ : ti_inj ti_LM A) (M : ti_M) (hI : mI Tm M) (hF : mF Tm M) (z1 : Int32) (tx rg lp : Nat → Int) (ug : Nat → Nat → Int) (cu : Int) (ht4 : 0 ≤ tx 4 ∧ tx 4 ≤ 8) (htW : tW tx) (hwf : wF tx rg) (h1r : rg 1 = 0) (hk : kR tx rg ug cu lp M) : ti_Ki l yX10_cough cX10_cough 2 (some .boolean) 2 ti_LM D A cy M [.ref (A 60 0), .int z1] (fun r M2 => ((¬ ((0 ≤ z1.toInt ∧ z1.toInt < tx 4 ∧ rg (128 + z1.toInt.toNat) = 1) ∧ rg (256 + z1.toInt.toNat) = 0) ∧ r.toInt = 0 ∧ kR tx rg ug cu lp M2) ∨ (((0 ≤ z1.toInt ∧ z1.toInt < tx 4 ∧ rg (128 + z1.toInt.toNat) = 1) ∧ rg (256 + z1.toInt.toNat) = 0) ∧ r.toInt = 1 ∧ kR tx (pp_su rg (256 + z1.toInt.toNat) 1) (bq_rb ug cu rg) (bq_rc cu) lp M2)) ∧ iR M2 M ∧ mF Tm M2 ∧ tI M2 60 2 = tI M 60 2 ∧ lw M2 M) := by
  refine ti_eI yp_X10_cough hJ ti_LM_nd (Nat.le_of_ble_eq_true rfl) ?_
  intro p e s m args below meth c Q H0 C hQ hw ls hl
  have hx := C.1
  have hb := C.2.1
  have hl : lv_has ls 2 [(0, .ref (A 60 0)), (1, .int z1)] := hl
  obtain ⟨htr, hr, hV, hu, hp0, htw⟩ := id hk
  have t4 : tx 4 = (tY M 60 3 0).toInt := htr.1.1
  have w83 := wF_8 hwf
  have q3r : rg 3 = (tY M 60 38 0).toInt := hr.1.2.1
  have G0 : ∀ m : Nat, m < 8 → rg (256 + m) = pp_bt (tY M 60 37 0) m := by have g := hr.2.2.2.2.2; rwa [if_pos h1r] at g
  refine lv_aload_n hx hb dX10_cough_0 rfl (lv_at hl 0 rfl) ?_
  refine lv_iconst (v := 0) hx hb dX10_cough_1 (by decide) ?_
  refine ti_putI (ci := 10) (k := 0) (N := 67) (T := TX10) C hw iw_10 tyX10 tyX10_ok nmX10 rfl ob_60 (by decide) (by decide) fl_X10_154 rfl rfl rfl rfl (fn_10 A _) fs_10_0 dX10_cough_2 (fun H locs hw => ?_)
  obtain ⟨M, h0⟩ : ∃ z : ti_M, z = uI M 60 0 0 := ⟨_, rfl⟩
  have hw := hw.to h0.symm
  have hI : mI Tm M := mI_uI hI h0 (by decide) (by decide) trivial
  have hF : mF Tm M := mF_qw hF hI (qw_I h0 (by decide))
  have ir0 := iR_0 h0
  have e2r := tI_nE (k2 := 2) (o2 := 60) h0 (nk (by decide))
  have e51r := tI_nE (k2 := 51) (o2 := 60) h0 (nk (by decide))
  have lwr : lw M _ := fun _ _ _ => tY_uIE h0
  have hk := kR_0 hk h0
  obtain ⟨htr, hr, hV, hu, hp0, htw⟩ := id hk
  have t4 : tx 4 = (tY M 60 3 0).toInt := htr.1.1
  have w83 := wF_8 hwf
  have q3r : rg 3 = (tY M 60 38 0).toInt := hr.1.2.1
  have G0 : ∀ m : Nat, m < 8 → rg (256 + m) = pp_bt (tY M 60 37 0) m := by have g := hr.2.2.2.2.2; rwa [if_pos h1r] at g
  refine lv_aload_n hx hb dX10_cough_5 rfl (lv_at hl 0 rfl) ?_
  refine lv_iload_n hx hb dX10_cough_6 rfl (lv_at hl 1 rfl) ?_
  refine ti_callVi (ci := 10) (av := [.int z1]) C hw (z_X10_isIn l D A cy hJ M hI z1 tx rg htr ht4 hr) ⟨ml_X10_423, ym_X10_isIn, yv_X10_isIn, yi_X10_isIn, yc_X10_isIn⟩ yd_X10_isIn ob_60 (by decide) rfl rfl hl.1 (Nat.le_of_ble_eq_true rfl) ⟨by decide, by decide⟩ ⟨Nat.zero_le _, Nat.zero_le _⟩ dX10_cough_7 (fun r_1 M_2 H locs hp_2 hw => ?_)
  obtain ⟨hm, hz⟩ := hp_2
  have hw := hw.to hm
  rcases hz with ⟨rfl, d0_3, d1_3, d2_3, d3_3, d4_3, d5_3⟩ | ⟨rfl, e_3⟩
  · refine sb_if_eq (tgt := 27) hx hb (by decide : (1 : Int32).toInt = 1) dX10_cough_10 (by decide) (fun h => absurd h (by decide)) (fun c_10_3 => ?_)
    refine lv_aload_n hx hb dX10_cough_13 rfl (lv_at hl 0 rfl) ?_
    refine ti_get (ci := 10) (k := 37) (N := 67) (T := TX10) (v := .ref (A 60 38)) C hw iw_10 rfl ob_60 (by decide) (by decide) fl_X10_78 rfl rfl dX10_cough_14 ?_
    refine lv_iconst (v := 0) hx hb dX10_cough_17 (by decide) ?_
    refine ti_iald (ci := 10) (k := 37) (n := 23) C hw ob_60 (by decide) (fun _ _ => rfl) (by unfold vp_in; decide) dX10_cough_18 ?_
    refine lv_topi (fun x_6 ex_6 => ?_)
    have yx_6 : tY M 60 37 0 = x_6 := ((congrArg _ (by decide)).symm.trans ex_6.symm)
    refine lv_iload_n hx hb dX10_cough_19 rfl (lv_at hl 1 rfl) ?_
    refine lv_ishr hx hb dX10_cough_20 ?_
    refine lv_topi (fun x_7 ex_7 => ?_)
    refine lv_iconst (v := 1) hx hb dX10_cough_21 (by decide) ?_
    refine lv_iand hx hb dX10_cough_22 ?_
    refine lv_topi (fun x_8 ex_8 => ?_)
    have bx_8 := i_and 1 ex_8 (by decide) (by decide)
    have BT : x_8.toInt = pp_bt (tY M 60 37 0) z1.toInt.toNat := by rw [(yx_6)]; exact bt_shr (k := z1.toInt) ex_7 rfl (by omega) (by omega) ex_8
    have BB := bt_01 (tY M 60 37 0) z1.toInt.toNat
    have BG := G0 z1.toInt.toNat (by omega)
    refine lv_iconst (v := 1) hx hb dX10_cough_23 (by decide) ?_
    refine sb_icmp_ne (tgt := 29) hx hb rfl (by decide : (1 : Int32).toInt = 1) dX10_cough_24 (by decide) (fun c_24_8 => ?_) (fun c_24_8 => ?_)
    · refine lv_aload_n hx hb dX10_cough_29 rfl (lv_at hl 0 rfl) ?_
      refine ti_callVv (ci := 10) (av := []) C hw (z_X10_keepNow l D A cy hJ M hI hF tx rg lp ug cu ht4 hk) ⟨ml_X10_436, ym_X10_keepNow, yv_X10_keepNow, yi_X10_keepNow, yc_X10_keepNow⟩ yd_X10_keepNow ob_60 (by decide) rfl rfl hl.1 (Nat.le_of_ble_eq_true rfl) ⟨by decide, by decide⟩ ⟨Nat.zero_le _, Nat.zero_le _⟩ dX10_cough_30 (fun M H locs hp_11 hw => ?_)
      have ir0 := (hp_11).2.1.trans ((iR_eR eR.refl).trans ir0)
      have e2r := (hp_11).2.2.2.2.1.trans (rfl.trans e2r)
      have lwr := lw_t (hp_11).2.2.2.1 (lw_t (fun _ _ _ => rfl) lwr)
      obtain ⟨hk, -, hF, -⟩ := hp_11
      have hI := hF.1
      obtain ⟨htr, hr, hV, hu, hp0, htw⟩ := id hk
      have t4 : tx 4 = (tY M 60 3 0).toInt := htr.1.1
      have w83 := wF_8 hwf
      have q3r : rg 3 = (tY M 60 38 0).toInt := hr.1.2.1
      refine lv_aload_n hx hb dX10_cough_33 rfl (lv_at hl 0 rfl) ?_
      refine ti_get (ci := 10) (k := 37) (N := 67) (T := TX10) (v := .ref (A 60 38)) C hw iw_10 rfl ob_60 (by decide) (by decide) fl_X10_78 rfl rfl dX10_cough_34 ?_
      refine lv_iconst (v := 0) hx hb dX10_cough_37 (by decide) ?_
      refine lv_dup2_11 hx hb dX10_cough_38 rfl rfl ?_
      refine ti_iald (ci := 10) (k := 37) (n := 23) C hw ob_60 (by decide) (fun _ _ => rfl) (by unfold vp_in; decide) dX10_cough_39 ?_
      refine lv_topi (fun x_12 ex_12 => ?_)
      have yx_12 : tY M 60 37 0 = x_12 := ((congrArg _ (by decide)).symm.trans ex_12.symm)
      refine lv_iconst (v := 1) hx hb dX10_cough_40 (by decide) ?_
      refine lv_iload_n hx hb dX10_cough_41 rfl (lv_at hl 1 rfl) ?_
      refine lv_ishl hx hb dX10_cough_42 ?_
      refine lv_topi (fun x_13 ex_13 => ?_)
      refine lv_ior hx hb dX10_cough_43 ?_
      refine lv_topi (fun x_14 ex_14 => ?_)
      refine ti_iast (ci := 10) (k := 37) (n := 23) C hw ob_60 (by decide) (fun _ _ => rfl) (by unfold vp_in; decide) dX10_cough_44 (fun H locs hw => ?_)
      obtain ⟨M_15, hM_15⟩ : ∃ z : ti_M, z = uY M 60 37 (upd (tY M 60 37) (0 : Int32).toNatClampNeg x_14) := ⟨_, rfl⟩
      have hw := hw.to hM_15.symm
      have iM_15 : mI Tm M_15 := mI_up (i := 0) hI hM_15 trivial
      have hs_18 : qR (tx 4).toNat 0 (pp_su rg (256 + z1.toInt.toNat) 1) M_15 := qR_37o (m := z1.toInt.toNat) hr h1r (by decide) hM_15 (fun j hj => by rw [(yx_12)]; exact bt_or (k := z1.toInt) ex_13 rfl (by omega) (by omega) ex_14 j (by omega)) (by omega)
      obtain ⟨g_19, eg_19⟩ : ∃ z : Nat → Int, z = pp_su rg (256 + z1.toInt.toNat) 1 := ⟨_, rfl⟩
      rw [← eg_19] at hs_18
      refine lv_iconst (v := 1) hx hb dX10_cough_45 (by decide) ?_
      exact hQ _ _ _ _ _ _ hw rfl (⟨Or.inr ⟨by omega, by first | omega | decide, kR_eR ht4 hk (eR_Y hM_15 (bk_q (z := 0) (by decide) (by decide))) (by rw [← eg_19]; exact hs_18) (qV_same hV ((tY_nE hM_15 (nk (by decide)))) (by omega) (fun m hm => by rw [su_n (by omega)]) (fun m hm => by rw [su_n (by omega)])) (by rw [su_n (by omega)])⟩, (iR_eR (eR_Y hM_15 (bk_q (z := 0) (by decide) (by decide)))).trans ir0, (mF_qw hF iM_15 (qw_Y hM_15 (by decide))), ((tI_uYE hM_15)).trans e2r, lw_t (fun k a b => tY_nE hM_15 (nk (by omega))) lwr⟩) dX10_cough_46
    · refine lv_iconst (v := 0) hx hb dX10_cough_27 (by decide) ?_
      exact hQ _ _ _ _ _ _ hw rfl (⟨Or.inl ⟨by omega, by first | omega | decide, hk⟩, (iR_eR eR.refl).trans ir0, hF, (rfl).trans e2r, lw_t (fun _ _ _ => rfl) lwr⟩) dX10_cough_28
  · refine sb_if_eq (tgt := 27) hx hb (by decide : (0 : Int32).toInt = 0) dX10_cough_10 (by decide) (fun c_10_4 => ?_) (fun h => absurd h (by decide))
    refine lv_iconst (v := 0) hx hb dX10_cough_27 (by decide) ?_
    exact hQ _ _ _ _ _ _ hw rfl (⟨Or.inl ⟨by omega, by first | omega | decide, hk⟩, (iR_eR eR.refl).trans ir0, hF, (rfl).trans e2r, lw_t (fun _ _ _ => rfl) lwr⟩) dX10_cough_28
set_option maxHeartbeats 4000000 in
set_option maxRecDepth 100000 in
theorem z_X10_move (l : Launch) (D : va_G) (A : Nat → Nat → Nat) (cy : Nat → ClassId) (hJ : ti_inj ti_LM A) (M : ti_M) (hI : mI Tm M) (hF : mF Tm M) (z1 : Int32) (z2 : Int32) (tx rg lp : Nat → Int) (ug : Nat → Nat → Int) (cu : Int) (ht4 : 0 ≤ tx 4 ∧ tx 4 ≤ 8) (htW : tW tx) (hwf : wF tx rg) (h1r : rg 1 = 0) (hk : kR tx rg ug cu lp M) : ti_Ki l yX10_move cX10_move 3 (some .boolean) 2 ti_LM D A cy M [.ref (A 60 0), .int z1, .int z2] (fun r M2 => ((¬ (0 ≤ z1.toInt ∧ z1.toInt ≤ 2 ∧ 0 ≤ z2.toInt ∧ z2.toInt ≤ 7 ∧ rg (112 + z1.toInt.toNat) ≠ z2.toInt) ∧ r.toInt = 0 ∧ kR tx rg ug cu lp M2) ∨ ((0 ≤ z1.toInt ∧ z1.toInt ≤ 2 ∧ 0 ≤ z2.toInt ∧ z2.toInt ≤ 7 ∧ rg (112 + z1.toInt.toNat) ≠ z2.toInt) ∧ r.toInt = 1 ∧ kR tx (pp_su rg (112 + z1.toInt.toNat) z2.toInt) (bq_rb ug cu rg) (bq_rc cu) lp M2)) ∧ iR M2 M ∧ mF Tm M2 ∧ tI M2 60 2 = tI M 60 2 ∧ lw M2 M) := by
  refine ti_eI yp_X10_move hJ ti_LM_nd (Nat.le_of_ble_eq_true rfl) ?_
  intro p e s m args below meth c Q H0 C hQ hw ls hl
  have hx := C.1
  have hb := C.2.1
  have hl : lv_has ls 3 [(0, .ref (A 60 0)), (1, .int z1), (2, .int z2)] := hl
  obtain ⟨htr, hr, hV, hu, hp0, htw⟩ := id hk
  have t4 : tx 4 = (tY M 60 3 0).toInt := htr.1.1
  have w83 := wF_8 hwf
  have q3r : rg 3 = (tY M 60 38 0).toInt := hr.1.2.1
  refine lv_aload_n hx hb dX10_move_0 rfl (lv_at hl 0 rfl) ?_
  refine lv_iconst (v := 0) hx hb dX10_move_1 (by decide) ?_
  refine ti_putI (ci := 10) (k := 0) (N := 67) (T := TX10) C hw iw_10 tyX10 tyX10_ok nmX10 rfl ob_60 (by decide) (by decide) fl_X10_154 rfl rfl rfl rfl (fn_10 A _) fs_10_0 dX10_move_2 (fun H locs hw => ?_)
  obtain ⟨M, h0⟩ : ∃ z : ti_M, z = uI M 60 0 0 := ⟨_, rfl⟩
  have hw := hw.to h0.symm
  have hI : mI Tm M := mI_uI hI h0 (by decide) (by decide) trivial
  have hF : mF Tm M := mF_qw hF hI (qw_I h0 (by decide))
  have ir0 := iR_0 h0
  have e2r := tI_nE (k2 := 2) (o2 := 60) h0 (nk (by decide))
  have e51r := tI_nE (k2 := 51) (o2 := 60) h0 (nk (by decide))
  have lwr : lw M _ := fun _ _ _ => tY_uIE h0
  have hk := kR_0 hk h0
  obtain ⟨htr, hr, hV, hu, hp0, htw⟩ := id hk
  have t4 : tx 4 = (tY M 60 3 0).toInt := htr.1.1
  have w83 := wF_8 hwf
  have q3r : rg 3 = (tY M 60 38 0).toInt := hr.1.2.1
  refine lv_iload_n hx hb dX10_move_5 rfl (lv_at hl 1 rfl) ?_
  refine ti_callSi (av := [.int z1]) C hw (z_X10_isPower l D A cy hJ M hI z1) ⟨ml_X10_420, ys_X10_isPower, yi_X10_isPower, yc_X10_isPower⟩ yd_X10_isPower rfl hl.1 (Nat.le_of_ble_eq_true rfl) ⟨by decide, by decide⟩ ⟨Nat.zero_le _, Nat.zero_le _⟩ dX10_move_6 (fun r_1 M_2 H locs hp_2 hw => ?_)
  obtain ⟨hm, hz⟩ := hp_2
  have hw := hw.to hm
  rcases hz with ⟨rfl, d0_3, d1_3⟩ | ⟨rfl, e_3⟩
  · refine sb_if_eq (tgt := 29) hx hb (by decide : (1 : Int32).toInt = 1) dX10_move_9 (by decide) (fun h => absurd h (by decide)) (fun c_9_3 => ?_)
    refine lv_iload_n hx hb dX10_move_12 rfl (lv_at hl 2 rfl) ?_
    refine ti_callSi (av := [.int z2]) C hw (z_X10_isPlace l D A cy hJ M hI z2) ⟨ml_X10_414, ys_X10_isPlace, yi_X10_isPlace, yc_X10_isPlace⟩ yd_X10_isPlace rfl hl.1 (Nat.le_of_ble_eq_true rfl) ⟨by decide, by decide⟩ ⟨Nat.zero_le _, Nat.zero_le _⟩ dX10_move_13 (fun r_6 M_7 H locs hp_7 hw => ?_)
    obtain ⟨hm, hz⟩ := hp_7
    have hw := hw.to hm
    rcases hz with ⟨rfl, d0_8, d1_8⟩ | ⟨rfl, e_8⟩
    · refine sb_if_eq (tgt := 29) hx hb (by decide : (1 : Int32).toInt = 1) dX10_move_16 (by decide) (fun h => absurd h (by decide)) (fun c_16_8 => ?_)
      refine lv_aload_n hx hb dX10_move_19 rfl (lv_at hl 0 rfl) ?_
      refine ti_get (ci := 10) (k := 49) (N := 67) (T := TX10) (v := .ref (A 60 50)) C hw iw_10 rfl ob_60 (by decide) (by decide) fl_X10_114 rfl rfl dX10_move_20 ?_
      refine lv_iload_n hx hb dX10_move_23 rfl (lv_at hl 1 rfl) ?_
      refine ti_iald (ci := 10) (k := 49) (n := 69) C hw ob_60 (by decide) (fun _ _ => rfl) (vp_in_iff.mpr (by omega)) dX10_move_24 ?_
      refine lv_topi (fun x_11 ex_11 => ?_)
      have yx_11 : tY M 60 49 z1.toNatClampNeg = x_11 := (ex_11.symm)
      have bx_11 : 0 ≤ x_11.toInt ∧ x_11.toInt ≤ 7 := mI_ry (k := 49) (i := z1.toNatClampNeg) hI yx_11.symm
      have L_12 : rg (112 + z1.toInt.toNat) = x_11.toInt := (hr.2.2.1 (z1.toInt.toNat) (by omega)).trans (rd_k (n := 3 * 0 + z1.toInt.toNat) (by omega) (yx_11))
      refine lv_iload_n hx hb dX10_move_25 rfl (lv_at hl 2 rfl) ?_
      refine sb_icmp_ne (tgt := 31) hx hb rfl rfl dX10_move_26 (by decide) (fun c_26_12 => ?_) (fun c_26_12 => ?_)
      · refine lv_aload_n hx hb dX10_move_31 rfl (lv_at hl 0 rfl) ?_
        refine ti_callVv (ci := 10) (av := []) C hw (z_X10_keepNow l D A cy hJ M hI hF tx rg lp ug cu ht4 hk) ⟨ml_X10_436, ym_X10_keepNow, yv_X10_keepNow, yi_X10_keepNow, yc_X10_keepNow⟩ yd_X10_keepNow ob_60 (by decide) rfl rfl hl.1 (Nat.le_of_ble_eq_true rfl) ⟨by decide, by decide⟩ ⟨Nat.zero_le _, Nat.zero_le _⟩ dX10_move_32 (fun M H locs hp_15 hw => ?_)
        have ir0 := (hp_15).2.1.trans ((iR_eR eR.refl).trans ir0)
        have e2r := (hp_15).2.2.2.2.1.trans (rfl.trans e2r)
        have lwr := lw_t (hp_15).2.2.2.1 (lw_t (fun _ _ _ => rfl) lwr)
        obtain ⟨hk, -, hF, -⟩ := hp_15
        have hI := hF.1
        obtain ⟨htr, hr, hV, hu, hp0, htw⟩ := id hk
        have t4 : tx 4 = (tY M 60 3 0).toInt := htr.1.1
        have w83 := wF_8 hwf
        have q3r : rg 3 = (tY M 60 38 0).toInt := hr.1.2.1
        refine lv_aload_n hx hb dX10_move_35 rfl (lv_at hl 0 rfl) ?_
        refine ti_get (ci := 10) (k := 49) (N := 67) (T := TX10) (v := .ref (A 60 50)) C hw iw_10 rfl ob_60 (by decide) (by decide) fl_X10_114 rfl rfl dX10_move_36 ?_
        refine lv_iload_n hx hb dX10_move_39 rfl (lv_at hl 1 rfl) ?_
        refine lv_iload_n hx hb dX10_move_40 rfl (lv_at hl 2 rfl) ?_
        refine ti_iast (ci := 10) (k := 49) (n := 69) C hw ob_60 (by decide) (fun _ _ => rfl) (vp_in_iff.mpr (by omega)) dX10_move_41 (fun H locs hw => ?_)
        obtain ⟨M_16, hM_16⟩ : ∃ z : ti_M, z = uY M 60 49 (upd (tY M 60 49) (z1 : Int32).toNatClampNeg z2) := ⟨_, rfl⟩
        have hw := hw.to hM_16.symm
        have iM_16 : mI Tm M_16 := mI_up (i := z1.toNatClampNeg) hI hM_16 (ib_mk (lo := 0) (hi := 7) (by omega) (by omega))
        have hs_18 : qR (tx 4).toNat 0 (pp_su rg (112 + z1.toInt.toNat) z2.toInt) M_16 := qR_49 (p := z1.toInt.toNat) (z := z1) hr (by omega) rfl hM_16 (by omega) (by omega)
        obtain ⟨g_19, eg_19⟩ : ∃ z : Nat → Int, z = pp_su rg (112 + z1.toInt.toNat) z2.toInt := ⟨_, rfl⟩
        rw [← eg_19] at hs_18
        refine lv_iconst (v := 1) hx hb dX10_move_42 (by decide) ?_
        exact hQ _ _ _ _ _ _ hw rfl (⟨Or.inr ⟨by omega, by first | omega | decide, kR_eR ht4 hk (eR_Y hM_16 (bk_p (z := z1) (by omega))) (by rw [← eg_19]; exact hs_18) (qV_same hV ((tY_nE hM_16 (nk (by decide)))) (by omega) (fun m hm => by rw [su_n (by omega)]) (fun m hm => by rw [su_n (by omega)])) (by rw [su_n (by omega)])⟩, (iR_eR (eR_Y hM_16 (bk_p (z := z1) (by omega)))).trans ir0, (mF_qw hF iM_16 (qw_Y hM_16 (by decide))), ((tI_uYE hM_16)).trans e2r, lw_t (fun k a b => tY_nE hM_16 (nk (by omega))) lwr⟩) dX10_move_43
      · refine lv_iconst (v := 0) hx hb dX10_move_29 (by decide) ?_
        exact hQ _ _ _ _ _ _ hw rfl (⟨Or.inl ⟨by omega, by first | omega | decide, hk⟩, (iR_eR eR.refl).trans ir0, hF, (rfl).trans e2r, lw_t (fun _ _ _ => rfl) lwr⟩) dX10_move_30
    · refine sb_if_eq (tgt := 29) hx hb (by decide : (0 : Int32).toInt = 0) dX10_move_16 (by decide) (fun c_16_9 => ?_) (fun h => absurd h (by decide))
      refine lv_iconst (v := 0) hx hb dX10_move_29 (by decide) ?_
      exact hQ _ _ _ _ _ _ hw rfl (⟨Or.inl ⟨by omega, by first | omega | decide, hk⟩, (iR_eR eR.refl).trans ir0, hF, (rfl).trans e2r, lw_t (fun _ _ _ => rfl) lwr⟩) dX10_move_30
  · refine sb_if_eq (tgt := 29) hx hb (by decide : (0 : Int32).toInt = 0) dX10_move_9 (by decide) (fun c_9_4 => ?_) (fun h => absurd h (by decide))
    refine lv_iconst (v := 0) hx hb dX10_move_29 (by decide) ?_
    exact hQ _ _ _ _ _ _ hw rfl (⟨Or.inl ⟨by omega, by first | omega | decide, hk⟩, (iR_eR eR.refl).trans ir0, hF, (rfl).trans e2r, lw_t (fun _ _ _ => rfl) lwr⟩) dX10_move_30

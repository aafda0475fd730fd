section
variable {Tc : gC} {Tm : gM}
variable {Tc : gC} {Tm : gM}
/-- the image -/
def lI (t : Nat) (tx s p si : Nat → Int) (M1 M2 : ti_M) : Prop := ((tI M1 0 7).toInt = 0 ∧ (tI M2 60 51).toInt = 0) ∨ (¬ (tI M1 0 7).toInt = 0 ∧ ¬ (tI M2 60 51).toInt = 0 ∧ (qC 49 si M1 ∧ tT M1 49 0 = some t) ∧ (qR (tx 4).toNat 2 si M2 ∧ qV (tx 4).toNat 2 si M2 ∧ hI3 p (si 2) M2) ∧ wF tx si ∧ si 1 = 0 ∧ si 2 ≤ s 2)
/-- the steps' registers -/
def lU (tx s : Nat → Int) (u : Nat → Nat → Int) (c : Int) : Prop := (0 ≤ c ∧ c ≤ 20) ∧ ∀ i : Nat, (i : Int) < c → wF tx (u i) ∧ u i 1 = 0 ∧ u i 2 = s 2
def lB (t : Nat) (tx s p si : Nat → Int) (u : Nat → Nat → Int) (c : Int) (M1 M2 : ti_M) : Prop := (t = 3 ∨ t = 4) ∧ kC t tx s u c p M1 ∧ kR tx s u c p M2 ∧ tW tx ∧ (wF tx s ∧ s 1 = 0) ∧ lU tx s u c ∧ lI t tx s p si M1 M2
def lE (M1 M2 : ti_M) : Prop := ∃ (t : Nat) (tx s p si : Nat → Int) (u : Nat → Nat → Int) (c : Int), lB t tx s p si u c M1 M2
section
variable {t : Nat} {tx s s2 p p2 si : Nat → Int} {u : Nat → Nat → Int} {c : Int} {N1 N2 M1 M2 : ti_M} {z a b : Int}
theorem lI_st (h : lI t tx s p si M1 M2) (g : kG N1 M1) (i : iR N2 M2) (h4 : tx 4 ≤ 8) (h2 : s 2 ≤ s2 2) : lI t tx s2 p si N1 N2 := by
  have e7 : tI N1 0 7 = tI M1 0 7 := (g.1 0 7 (by decide)).1
  rcases h with ⟨a, b⟩ | ⟨a, b, ⟨c1, c2⟩, ⟨d1, d2, d3⟩, w, w1, w2⟩
  · exact Or.inl ⟨by rw [e7]; exact a, by rw [i.1]; exact b⟩
  · refine Or.inr ⟨by rw [e7]; exact a, by rw [i.1]; exact b, ⟨qC_same c1 (fun k => ⟨(g.1 49 k (by decide)).1, (g.1 49 k (by decide)).2 (fun q => absurd q.1 (by decide))⟩), g.2.2.2.trans c2⟩, ⟨qR_rows d1 (fun k j h => i.2.1 k j h) (by omega), qV_rows d2 (fun k j h => i.2.1 k j h) (by omega), fun m k h1 h2 h3 => ?_⟩, w, w1, by omega⟩
    rw [i.2.2 _ (by omega)]; exact d3 m k h1 h2 h3
theorem lU_rb (h : lU tx s u c) (w : wF tx s) (w1 : s 1 = 0) (h2 : s2 2 = s 2) : lU tx s2 (bq_rb u c s) (bq_rc c) := by
  obtain ⟨⟨c0, c20⟩, h⟩ := h
  refine ⟨by unfold bq_rc; split <;> omega, fun i hi => ?_⟩
  unfold bq_rc at hi
  by_cases q : c < 20
  · rw [if_pos q] at hi
    rw [show bq_rb u c s i = (if (i : Int) = c then s else u i) from if_pos q]
    by_cases r : (i : Int) = c
    · rw [if_pos r]; exact ⟨w, w1, h2.symm⟩
    · rw [if_neg r]; have x := h i (by omega); exact ⟨x.1, x.2.1, by omega⟩
  · rw [if_neg q] at hi
    rw [show bq_rb u c s i = (if i = 19 then s else u (i + 1)) from if_neg q]
    by_cases r : i = 19
    · rw [if_pos r]; exact ⟨w, w1, h2.symm⟩
    · rw [if_neg r]; have x := h (i + 1) (by omega); exact ⟨x.1, x.2.1, by omega⟩
theorem lB_st (h : lB t tx s p si u c M1 M2) (g : kG N1 M1) (i : iR N2 M2) (x : kC t tx s2 (bq_rb u c s) (bq_rc c) p N1) (y : kR tx s2 (bq_rb u c s) (bq_rc c) p N2) (w : wF tx s2) (w1 : s2 1 = 0) (w2 : s2 2 = s 2) : lB t tx s2 p si (bq_rb u c s) (bq_rc c) N1 N2 := by
  obtain ⟨ht, -, -, hW, ⟨hw, h1⟩, hU, hi⟩ := h
  exact ⟨ht, x, y, hW, ⟨w, w1⟩, lU_rb hU hw h1 w2, lI_st hi g i hW.1.2 (by omega)⟩
theorem lB_no (h : lB t tx s p si u c M1 M2) (i : iR N2 M2) (y : kR tx s u c p N2) : lB t tx s p si u c M1 N2 := by
  obtain ⟨ht, hc, -, hW, hw, hU, hi⟩ := h
  exact ⟨ht, hc, y, hW, hw, hU, lI_st hi kG.refl i hW.1.2 (Int.le_refl _)⟩
theorem po_le : ∀ (f : Nat) (p : Nat), f = (s 3).toNat - p → bq_po s z p = -1 ∨ ∃ q : Nat, bq_po s z p = q ∧ p ≤ q ∧ q < (s 3).toNat ∧ s (96 + q) = z := by
  intro f
  induction f with
  | zero => intro p h; exact Or.inl (po_end (by omega))
  | succ f ih =>
    intro p h
    by_cases e : s (96 + p) = z
    · exact Or.inr ⟨p, po_at (by omega) e, Nat.le_refl _, by omega, e⟩
    · rw [po_go (by omega) e]
      rcases ih (p + 1) (by omega) with x | ⟨q, x1, x2, x3, x4⟩
      · exact Or.inl x
      · exact Or.inr ⟨q, x1, by omega, x3, x4⟩
theorem po_no : ∀ (f : Nat) (p : Nat), f = (s 3).toNat - p → bq_po s z p = -1 → ∀ q : Nat, p ≤ q → q < (s 3).toNat → s (96 + q) ≠ z := by
  intro f
  induction f with
  | zero => intro p h _ q h1 h2; omega
  | succ f ih =>
    intro p h e q h1 h2 h3
    by_cases r : s (96 + p) = z
    · rw [po_at (by omega) r] at e; omega
    · by_cases r2 : q = p
      · subst r2; exact r h3
      · exact ih (p + 1) (by omega) (by rw [← po_go (by omega) r]; exact e) q (by omega) h2 h3
/-- who stands has a place -/
theorem po_in (w : wF tx s) (h0 : 0 ≤ z) (h1 : z < tx 4) (hs : s (128 + z.toNat) = 1) : ∃ q : Nat, bq_po s z 0 = q ∧ (q : Int) < s 3 ∧ s (96 + q) = z := by
  have w8 := wF_8 w
  obtain ⟨q, q1, q2⟩ := w.2.2.2.2.1 z.toNat (by omega) hs
  rcases po_le (s := s) (z := z) _ 0 rfl with x | ⟨r, x1, -, x3, x4⟩
  · exact absurd (by rw [q2]; omega) (po_no (s := s) (z := z) _ 0 rfl x q (Nat.zero_le _) (by omega))
  · exact ⟨r, x1, by omega, x4⟩
theorem wF_out (hW : tW tx) (w : wF tx s) (h0 : 0 ≤ z) (h1 : z < tx 4) (hs : s (128 + z.toNat) = 1) : wF tx (bq_rm s (bq_po s z 0) 3) := by
  obtain ⟨q, q1, q2, -⟩ := po_in w h0 h1 hs
  rw [q1]
  exact (wF_rm hW w q2 (by omega)).1
theorem wF_k (hW : tW tx) (w : wF tx s) {k : Nat} {v : Int} (hk : (240 ≤ k ∧ k < 248 ∧ 0 ≤ v) ∨ (256 ≤ k ∧ k < 264 ∧ 0 ≤ v ∧ v ≤ 1) ∨ (112 ≤ k ∧ k < 115 ∧ 0 ≤ v ∧ v ≤ 7)) : wF tx (pp_su s k v) := by
  have D := w.2.2.2.2.2
  refine wF_of hW w (su_n (by omega)) (by rw [su_n (by omega)]; exact w.2.1.1) (by rw [su_n (by omega)]; exact w.2.1.2) (fun p hp => su_n (by omega)) (fun m hm => su_n (by omega)) ⟨fun m hm => ?_, fun m hm hl => ?_, fun j hj => ?_⟩
  · have x := D.1 m hm
    rw [su_n (j := 128 + m) (by omega)]
    by_cases r : 240 + m = k
    · rw [r, su_s, su_n (by omega)]; exact ⟨x.1, by omega, x.2.2.1, x.2.2.2.1, x.2.2.2.2⟩
    · by_cases r2 : 256 + m = k
      · rw [r2, su_s, su_n r]; exact ⟨x.1, x.2.1, by omega, by omega, x.2.2.2.2⟩
      · rw [su_n r, su_n r2]; exact x
  · rw [su_n (by omega)]; exact D.2.1 m hm hl
  · by_cases r : 112 + j = k
    · rw [r, su_s]; omega
    · rw [su_n r]; exact D.2.2 j hj
/-- two swap their places -/
theorem wF_ex (hW : tW tx) (w : wF tx s) (a0 : 0 ≤ a) (a1 : a < tx 4) (as : s (128 + a.toNat) = 1) (b0 : 0 ≤ b) (b1 : b < tx 4) (bs : s (128 + b.toNat) = 1) : wF tx (bq_ex s a b) := by
  have w8 := wF_8 w
  obtain ⟨i, i1, i2, i3⟩ := po_in w a0 a1 as
  obtain ⟨j, j1, j2, j3⟩ := po_in w b0 b1 bs
  have e : bq_ex s a b = pp_su (pp_su s (96 + i) b) (96 + j) a := by
    unfold bq_ex
    rw [i1, j1, if_pos (by omega)]; rfl
  rw [e]
  obtain ⟨⟨c1, c2⟩, h45, A, B, C, D⟩ := w
  have g : ∀ k : Nat, (k < 96 ∨ 104 ≤ k) → pp_su (pp_su s (96 + i) b) (96 + j) a k = s k := fun k h => by rw [su_n (by omega), su_n (by omega)]
  have gp : ∀ p : Nat, p < 8 → pp_su (pp_su s (96 + i) b) (96 + j) a (96 + p) = if p = j then a else if p = i then b else s (96 + p) := fun p h => by
    by_cases r : p = j
    · subst r; rw [su_s, if_pos rfl]
    · rw [su_n (by omega), if_neg r]
      by_cases r2 : p = i
      · subst r2; rw [su_s, if_pos rfl]
      · rw [su_n (by omega), if_neg r2]
  have g3 := g 3 (by decide)
  have inj : i = j ↔ a = b := ⟨fun h => by subst h; rw [← i3, ← j3], fun h => B i j i2 j2 (by rw [i3, j3, h])⟩
  refine ⟨⟨by rw [g3]; exact c1, by rw [g3, bc0_eq (fun m hm => g _ (by omega))]; exact c2⟩, by rw [g 4 (by decide), g 5 (by decide)]; exact h45, fun p hp => ?_, fun p r hp hr e2 => ?_, fun m hm e2 => ?_, fun m hm => ?_, fun m hm hl => ?_, fun k hk => ?_⟩
  · rw [g3] at hp
    rw [gp p (by omega)]
    split
    · rw [g _ (by omega)]; exact ⟨a0, a1, as⟩
    · split
      · rw [g _ (by omega)]; exact ⟨b0, b1, bs⟩
      · have x := A p hp
        rw [g _ (by omega)]; exact x
  · rw [g3] at hp hr
    rw [gp p (by omega), gp r (by omega)] at e2
    have xp := B p i hp i2
    have yp := B p j hp j2
    have xr := B r i hr i2
    have yr := B r j hr j2
    have z := B p r hp hr
    rw [i3] at xp xr
    rw [j3] at yp yr
    split at e2 <;> split at e2 <;> (try split at e2) <;> (try split at e2) <;> omega
  · rw [g _ (by omega)] at e2
    obtain ⟨p, p1, p2⟩ := C m hm e2
    by_cases r : p = i
    · subst r
      refine ⟨j, by rw [g3]; exact j2, ?_⟩
      rw [gp j (by omega), if_pos rfl]; omega
    · by_cases r2 : p = j
      · subst r2
        refine ⟨i, by rw [g3]; exact i2, ?_⟩
        rw [gp i (by omega), if_neg (by omega), if_pos rfl]; omega
      · refine ⟨p, by rw [g3]; exact p1, ?_⟩
        rw [gp p (by omega), if_neg r2, if_neg r]; exact p2
  · rw [g _ (by omega), g _ (by omega), g _ (by omega)]; exact D.1 m hm
  · rw [g _ (by omega)]; exact D.2.1 m hm hl
  · rw [g _ (by omega)]; exact D.2.2 k hk
theorem ex_lo {k : Nat} (h : k < 96) : bq_ex s a b k = s k := by
  unfold bq_ex
  split
  · rw [su_n (by omega), su_n (by omega)]
  · rfl
theorem wF_sw {k : Int} (hW : tW tx) (w : wF tx s) (a0 : 0 ≤ a) (a1 : a < tx 4) (as : s (128 + a.toNat) = 1) (b0 : 0 ≤ b) (b1 : b < tx 4) (bs : s (128 + b.toNat) = 1) : wF tx (bq_sw s a b k) := by
  have h4 := hW.1
  unfold bq_sw bq_s1w
  exact wF_su hW (wF_su hW (wF_ex hW w a0 a1 as b0 b1 bs) (by omega)) (by omega)
theorem sw_lo {k : Int} {j : Nat} (h : j < 96) : bq_sw s a b k j = s j := by
  unfold bq_sw bq_s1w
  rw [su_n (by omega), su_n (by omega)]; exact ex_lo h
/-- who joins stands last -/
theorem po_ap (w : wF tx s) (hW : tW tx) (h0 : 0 ≤ z) (h1 : z < tx 4) (hs : s (128 + z.toNat) = 0) : bq_po (bq_ap s z) z 0 = s 3 := by
  have w8 := wF_8 w
  have h4 := hW.1
  have h38 := wF_s3 hW w (m := z.toNat) (by omega) hs
  have e3 : bq_ap s z 3 = s 3 + 1 := by unfold bq_ap; rw [if_pos h38, su_n (by omega), su_n (by omega), su_s]
  have ep : ∀ p : Nat, p < 8 → bq_ap s z (96 + p) = if p = (s 3).toNat then z else s (96 + p) := fun p hp => by
    unfold bq_ap
    rw [if_pos h38, su_n (by omega), su_n (by omega), su_n (by omega)]
    by_cases r : p = (s 3).toNat
    · rw [if_pos r, r, su_s]
    · rw [if_neg r, su_n (by omega)]
  have k := po_is (s := bq_ap s z) (m := z) (p := (s 3).toNat) (fun j hj e => ?_) (by rw [e3]; omega) (by rw [ep _ (by omega), if_pos rfl])
  · rw [k]; omega
  · rw [ep j (by omega), if_neg (by omega)] at e
    have x := w.2.2.1 j (by omega)
    rw [e] at x
    omega
theorem wF_pl (hW : tW tx) : ∀ (n : Nat) (s : Nat → Int), wF tx s → s 1 = 0 → 0 ≤ s 2 → s 2 + n ≤ 1000 → wF tx (bq_pl tx n s) ∧ bq_pl tx n s 1 = 0 ∧ bq_pl tx n s 2 = s 2 + n := by
  intro n
  induction n with
  | zero => intro s w h1 h2 _; exact ⟨w, h1, by show s 2 = _; omega⟩
  | succ n ih =>
    intro s w h1 h0 h2
    have e2 : bq_ps tx s 2 = s 2 + 1 := by rw [ps_2, bw_id (by omega) (by omega)]
    have x := ih (bq_ps tx s) (wF_ps hW w) (by rw [ps_1]; exact h1) (by omega) (by omega)
    exact ⟨x.1, x.2.1, by show bq_pl tx n (bq_ps tx s) 2 = _; rw [x.2.2]; omega⟩
/-- what is gone by stays in the log -/
theorem gh_lo : ∀ (n : Nat) (s p : Nat → Int), 0 ≤ s 2 → s 2 + n ≤ 1000 → ∀ (m k : Nat), (m : Int) < s 2 → m < 120 → s 2 + n ≤ 120 → k < 3 → bq_gh tx n s p (120 * k + m) = p (120 * k + m) := by
  intro n
  induction n with
  | zero => intro s p _ _ m k _ _ _ _; rfl
  | succ n ih =>
    intro s p h0 hn m k h1 h2 h3 h4
    have e2 : bq_ps tx s 2 = s 2 + 1 := by rw [ps_2, bw_id (by omega) (by omega)]
    show bq_gh tx n (bq_ps tx s) (bq_hp (bq_ps tx s) (s 2).toNat p) (120 * k + m) = _
    rw [ih _ _ (by omega) (by omega) m k (by omega) h2 (by omega) h4]
    unfold bq_hp
    rw [su_n (by omega), su_n (by omega), su_n (by omega)]
theorem lI_go {n : Nat} (h : lI t tx s p si M1 M2) (g : kG N1 M1) (i : iR N2 M2) (h4 : tx 4 ≤ 8) (h0 : 0 ≤ s 2) (hn : s 2 + n ≤ 120) (h2 : s 2 ≤ s2 2) : lI t tx s2 (bq_gh tx n s p) si N1 N2 := by
  have x := lI_st (s2 := s2) h g i h4 h2
  rcases h with ⟨a, b⟩ | ⟨a, b, c, d, w, w1, w2⟩
  · rcases x with x | ⟨y, -⟩
    · exact Or.inl x
    · exact absurd (by rw [(g.1 0 7 (by decide)).1]; exact a) y
  · rcases x with ⟨x, -⟩ | ⟨x1, x2, x3, ⟨x4, x5, x6⟩, x7⟩
    · exact absurd (by rw [← (g.1 0 7 (by decide)).1]; exact x) a
    · exact Or.inr ⟨x1, x2, x3, ⟨x4, x5, fun m k q1 q2 q3 => by rw [gh_lo n s p h0 (by omega) m k (by omega) q2 hn q3]; exact x6 m k q1 q2 q3⟩, x7⟩
theorem lB_go {n : Nat} {c2 : Int} (h : lB t tx s p si u c M1 M2) (g : kG N1 M1) (i : iR N2 M2) (h0 : 0 ≤ s 2) (hn : s 2 + n ≤ 120) (hc : c2 = if 0 < (n : Int) then 0 else c) (x : kC t tx (bq_pl tx n s) u c2 (bq_gh tx n s p) N1) (y : kR tx (bq_pl tx n s) u c2 (bq_gh tx n s p) N2) : lB t tx (bq_pl tx n s) (bq_gh tx n s p) si u c2 N1 N2 := by
  obtain ⟨ht, -, -, hW, ⟨hw, h1⟩, hU, hi⟩ := h
  obtain ⟨w, w1, w2⟩ := wF_pl hW n s hw h1 h0 (by omega)
  refine ⟨ht, x, y, hW, ⟨w, w1⟩, ⟨?_, fun j hj => ?_⟩, lI_go hi g i hW.1.2 h0 hn (by omega)⟩
  · have := hU.1; rw [hc]; split <;> omega
  · rw [hc] at hj
    split at hj
    · omega
    · have q := hU.2 j hj; exact ⟨q.1, q.2.1, by omega⟩
/-- steps back, the image taken -/
theorem lB_un (h : lB t tx s p si u c M1 M2) (g : kG N1 M1) (i : iR N2 M2) (hc : 0 < c) (x : kC t tx (u (c - 1).toNat) u (c - 1) p N1) (y : kR tx (u (c - 1).toNat) u (c - 1) p N2) : lB t tx (u (c - 1).toNat) p si u (c - 1) N1 N2 := by
  obtain ⟨ht, -, -, hW, -, hU, hi⟩ := h
  obtain ⟨w, w1, w2⟩ := hU.2 (c - 1).toNat (by omega)
  refine ⟨ht, x, y, hW, ⟨w, w1⟩, ⟨by have := hU.1; omega, fun j hj => ?_⟩, lI_st hi g i hW.1.2 (by omega)⟩
  have q := hU.2 j (by omega); exact ⟨q.1, q.2.1, by omega⟩
theorem lB_kp (h : lB t tx s p si u c M1 M2) (i1 : tI N1 0 7 = 1) (q : qC 49 s N1) (qt : tT N1 49 0 = some t) (x : kC t tx s u c p N1) (y : kR tx s u c p N2) (i2 : tI N2 60 51 = 1) (r : qR (tx 4).toNat 2 s N2 ∧ qV (tx 4).toNat 2 s N2 ∧ hI3 p (s 2) N2) : lB t tx s p s u c N1 N2 := by
  obtain ⟨ht, -, -, hW, hw, hU, -⟩ := h
  exact ⟨ht, x, y, hW, hw, hU, Or.inr ⟨by rw [i1]; decide, by rw [i2]; decide, ⟨q, qt⟩, r, hw.1, hw.2, Int.le_refl _⟩⟩
theorem lB_bk (h : lB t tx s p si u c M1 M2) (g : kG N1 M1) (i : iR N2 M2) (hi0 : ¬ (tI M1 0 7).toInt = 0) (x : kC t tx si u 0 p N1) (y : kR tx si u 0 p N2) : lB t tx si p si u 0 N1 N2 := by
  obtain ⟨ht, -, -, hW, -, -, hi⟩ := h
  rcases hi with ⟨a, -⟩ | hi
  · exact absurd a hi0
  · obtain ⟨-, -, -, -, w, w1, w2⟩ := id hi
    have z := lI_st (s2 := s) (Or.inr hi) g i hW.1.2 (Int.le_refl _)
    refine ⟨ht, x, y, hW, ⟨w, w1⟩, ⟨by decide, fun j hj => by omega⟩, ?_⟩
    rcases z with z | ⟨z1, z2, z3, z4, z5, z6, -⟩
    · exact Or.inl z
    · exact Or.inr ⟨z1, z2, z3, z4, z5, z6, Int.le_refl _⟩
end
end
section
variable {Tc : gC} {Tm : gM}
variable {Tc : gC} {Tm : gM}
theorem tC_hi {t : Nat} {tx : Nat → Int} {M N : ti_M} (ht : t = 3 ∨ t = 4) (h : tC t tx M) (e : ∀ o k : Nat, 3 ≤ o → o < 27 → tI N o k = tI M o k ∧ tY N o k = tY M o k) : tC t tx N := by
  refine ⟨fun k h1 h2 => ?_, fun i hi => ?_, fun i k hi h1 h2 => ?_, fun j hj => ⟨?_, fun n hn => ?_⟩⟩
  · rw [(e t k (by omega) (by omega)).1]; exact h.1 k h1 h2
  · rw [(e t 1 (by omega) (by omega)).2]; exact h.2.1 i hi
  · have a := pp_men (t := t) (i := i)
    have b := pp_men20 (t := t) hi
    rw [(e _ k (by omega) (by omega)).1]; exact h.2.2.1 i k hi h1 h2
  · have a := lwb_b (t := t) hj
    rw [(e _ 3 (by omega) (by omega)).1]; exact (h.2.2.2 j hj).1
  · have a := lwb_b (t := t) hj
    rw [(e _ 0 (by omega) (by omega)).2]; exact (h.2.2.2 j hj).2 n hn
theorem lB_tr {t : Nat} {tx s p si : Nat → Int} {u : Nat → Nat → Int} {c : Int} {N1 N2 M1 M2 : ti_M} (h : lB t tx s p si u c M1 M2) (hC : tC t tx M1 → tC t tx N1) (hT : ∀ o k : Nat, (o = 0 ∧ k = 1) ∨ (k = 0 ∧ 27 ≤ o ∧ o ≤ 49) → tT N1 o k = tT M1 o k) (hO : ∀ o k : Nat, o = 0 ∨ (27 ≤ o ∧ o ≤ 49) → tI N1 o k = tI M1 o k ∧ tY N1 o k = tY M1 o k) (hR : tR tx M2 → tR tx N2) (hY : ∀ k i : Nat, 34 ≤ k → k ≤ 50 → ¬ bk 1 k i → tY N2 60 k i = tY M2 60 k i) (h51 : tI N2 60 51 = tI M2 60 51) (h52 : tI N2 60 52 = tI M2 60 52) (h53 : tI M2 60 53 = -1 → tI N2 60 53 = -1) : lB t tx s p si u c N1 N2 := by
  obtain ⟨ht, ⟨a1, a2, a3, a4, a5, a6⟩, ⟨b1, b2, b3, ⟨b4, b5⟩, b6, b7⟩, hW, hw, hU, hi⟩ := h
  have h4 : (tx 4).toNat ≤ 8 := by have := hW.1; omega
  have n1 : ∀ q k i : Nat, q ≠ 1 → bk q k i → ¬ bk 1 k i := fun q k i hq b b2 => hq (bk_1 b b2)
  have qr : ∀ (q : Nat) (g : Nat → Int), q ≠ 1 → qR (tx 4).toNat q g M2 → qR (tx 4).toNat q g N2 := fun q g hq x => qR_rows x (fun k i b => hY k i b.1 (by have := b.2.1; omega) (n1 q k i hq b)) h4
  have qv : ∀ (q : Nat) (g : Nat → Int), q ≠ 1 → qV (tx 4).toNat q g M2 → qV (tx 4).toNat q g N2 := fun q g hq x => qV_rows x (fun k i b => hY k i b.1 (by have := b.2.1; omega) (n1 q k i hq b)) h4
  have y50 : ∀ i : Nat, tY N2 60 50 i = tY M2 60 50 i := fun i => hY 50 i (by decide) (by decide) (fun b => by have := b.2.1; omega)
  refine ⟨ht, ⟨hC a1, (hT 0 1 (by decide)).trans a2, (hT 27 0 (by decide)).trans a3, qC_same a4 (fun k => hO 27 k (by decide)), rg5_to a5 (fun o k x y => hO o k (by omega)) (fun o x y => hT o 0 (by omega)), pC_to a6 (hO 0 4 (by decide)).2⟩, ⟨hR b1, qr 0 _ (by decide) b2, qv 0 _ (by decide) b3, ⟨by rw [h52]; exact b4, fun i x => ⟨qr _ _ (by omega) (b5 i x).1, qv _ _ (by omega) (b5 i x).2⟩⟩, fun m k x y z => by rw [y50]; exact b6 m k x y z, h53 b7⟩, hW, hw, hU, ?_⟩
  rcases hi with ⟨x, y⟩ | ⟨x, y, ⟨x1, x2⟩, ⟨x3, x4, x5⟩, x6⟩
  · exact Or.inl ⟨by rw [(hO 0 7 (by decide)).1]; exact x, by rw [h51]; exact y⟩
  · exact Or.inr ⟨by rw [(hO 0 7 (by decide)).1]; exact x, by rw [h51]; exact y, ⟨qC_same x1 (fun k => hO 49 k (by decide)), (hT 49 0 (by decide)).trans x2⟩, ⟨qr 2 _ (by decide) x3, qv 2 _ (by decide) x4, fun m k a b d => by rw [y50]; exact x5 m k a b d⟩, x6⟩
theorem lE_obs {N1 N2 M1 M2 : ti_M} (h : lE M1 M2) (a : fS N1 M1) (b : rT N1 M1) (f : fT 1 N2 M2) (d : tI M2 60 53 = -1 → tI N2 60 53 = -1) (e : lw N2 M2) : lE N1 N2 := by
  obtain ⟨t, tx, s, p, si, u, c, hb⟩ := h
  have ht := hb.1
  exact ⟨t, tx, s, p, si, u, c, lB_tr hb (fun x => tC_lo ht x (fun o k h1 h2 => a o k (by omega))) (fun o k x => b o k (by omega)) (fun o k x => a o k (by omega)) (fun x => tR_lw x e) (fun k i h1 h2 h3 => f.2 k i h1 h2 h3) f.1.2.1 f.1.2.2 d⟩
theorem lE_eo {q : Nat} {N1 N2 M1 M2 : ti_M} (h : lE M1 M2) (E : eo q N1 M1) (hq : q = 2 ∨ q = 50) (T : N1.2.2.2 = M1.2.2.2) (y : qy N2 M2) (e : lw N2 M2) : lE N1 N2 := by
  obtain ⟨t, tx, s, p, si, u, c, hb⟩ := h
  have ht := hb.1
  exact ⟨t, tx, s, p, si, u, c, lB_tr hb (fun x => tC_hi ht x (fun o k h1 h2 => ⟨E.1 o k (by omega), E.2 o k (by omega)⟩)) (fun o k _ => tT_fr T) (fun o k x => ⟨E.1 o k (by omega), E.2 o k (by omega)⟩) (fun x => tR_lw x e) (fun k i h1 h2 _ => cg (y.1 k (by omega) (by omega)) i) y.2.1 y.2.2.1 (fun x => y.2.2.2.trans x)⟩
theorem lE_0 {N2 M1 M2 : ti_M} {v : Int32} (h : lE M1 M2) (e : N2 = uI M2 60 0 v) : lE M1 N2 := by
  obtain ⟨t, tx, s, p, si, u, c, hb⟩ := h
  exact ⟨t, tx, s, p, si, u, c, lB_tr hb (fun x => x) (fun _ _ _ => rfl) (fun _ _ _ => ⟨rfl, rfl⟩) (fun x => tR_lw x (fun _ _ _ => tY_uIE e)) (fun k i _ _ _ => cg (tY_uIE e) i) (tI_nE e (nk (by decide))) (tI_nE e (nk (by decide))) (fun x => (tI_nE e (nk (by decide))).trans x)⟩
theorem lE_fl {N1 N2 M1 M2 : ti_M} (h : lE M1 M2) (hI : mI Tm M2) (x : lx N2 M2) (g : gU N2 M2) (a : ∀ (t0 : Nat) (tx0 : Nat → Int), tT M1 0 1 = some t0 → tC t0 tx0 M1 → tC t0 tx0 N1) (b : ∀ o k : Nat, (o = 0 ∨ 26 < o) → tI N1 o k = tI M1 o k ∧ tY N1 o k = tY M1 o k) (r : rR N1 M1) : lE N1 N2 := by
  obtain ⟨t, tx, s, p, si, u, c, hb⟩ := h
  have e1 := hb.2.1.2.1
  exact ⟨t, tx, s, p, si, u, c, lB_tr hb (fun y => a t tx e1 y) (fun o k y => r o k (by omega)) (fun o k y => b o k (by omega)) (fun y => tR_lx y hI x g) (fun k i h1 h2 _ => cg (x.1 k (by omega)) i) (x.2.2.2.2 51 (by decide)) (x.2.2.2.2 52 (by decide)) (fun y => (x.2.2.2.2 53 (by decide)).trans y)⟩
/-- a text begins all anew -/
theorem lE_new {t : Nat} {tx J : Nat → Int} {N1 N2 : ti_M} (ht : t = 3 ∨ t = 4) (hC : tC t tx N1) (t1 : tT N1 0 1 = some t) (t2 : tT N1 27 0 = some t) (hq : qC 27 (bq_s0 tx J) N1) (h28 : tI N1 28 2 = 0) (h07 : tI N1 0 7 = 0) (hW : tW tx) (hR : tR tx N2) (hqR : qR (tx 4).toNat 0 (bq_s0 tx J) N2) (hqV : qV (tx 4).toNat 0 (bq_s0 tx J) N2) (h51 : tI N2 60 51 = 0) (h52 : tI N2 60 52 = 0) (h53 : tI N2 60 53 = -1) : lE N1 N2 := by
  have z : (0 : Int32).toInt = 0 := by decide
  refine ⟨t, tx, bq_s0 tx J, fun i => (tY N1 0 4 i).toInt, fun _ => 0, fun _ _ => 0, 0, ht, ⟨hC, t1, t2, hq, ⟨by rw [h28]; exact z, fun i hi => by omega⟩, fun i _ => rfl⟩, ⟨hR, hqR, hqV, ⟨by rw [h52]; exact z, fun i hi => by omega⟩, fun m k h1 _ _ => by rw [s0_2] at h1; omega, h53⟩, hW, ⟨wF_s0 hW, s0_1⟩, ⟨by decide, fun i hi => by omega⟩, Or.inl ⟨by rw [h07]; exact z, by rw [h51]; exact z⟩⟩
theorem tl_kG {N M : ti_M} (g : kG N M) : tl N M := ⟨fun o k _ h => (g.1 o k (by omega)).1, g.2.1, g.2.2.1⟩
theorem tl_kK {N M : ti_M} (g : kK N M) : tl N M := ⟨fun o k h1 h2 => g.1 o k (by omega) (by omega), g.2.2.1, g.2.2.2⟩
end

variable {Tc : gC} {Tm : gM}
variable {Tc : gC} {Tm : gM}
/-! what lasts of a queue's registers -/
def bz1 (s : Nat → Int) (m : Nat) : Int := if s (128 + m) = 0 then 1 else 0
/-- how many of eight are to come -/
def bc0 (s : Nat → Int) : Int := bz1 s 0 + bz1 s 1 + bz1 s 2 + bz1 s 3 + bz1 s 4 + bz1 s 5 + bz1 s 6 + bz1 s 7
/-- bounds of what is told -/
def tW (tx : Nat → Int) : Prop := (0 ≤ tx 4 ∧ tx 4 ≤ 8) ∧ (0 ≤ tx 6 ∧ tx 6 ≤ 999) ∧ 1 ≤ tx 7 ∧ 1 ≤ tx 8 ∧ (1 ≤ tx 9 ∧ tx 9 ≤ 7) ∧ 0 ≤ tx 10 ∧ 0 ≤ tx 11 ∧ (∀ m : Nat, m < 8 → (m : Int) < tx 4 → 1 ≤ tx (100 + 16 * m + 4) ∧ tx (100 + 16 * m + 4) ≤ 30) ∧ (∀ k : Nat, k < 3 → 0 ≤ tx (32 + k) ∧ tx (32 + k) ≤ 7) ∧ ∀ m : Nat, m < 8 → (m : Int) < tx 4 → -1 ≤ tx (100 + 16 * m + 9) ∧ tx (100 + 16 * m + 9) ≤ 7
def wA (tx s : Nat → Int) : Prop := ∀ p : Nat, (p : Int) < s 3 → 0 ≤ s (96 + p) ∧ s (96 + p) < tx 4 ∧ s (128 + (s (96 + p)).toNat) = 1
def wB (s : Nat → Int) : Prop := ∀ p r : Nat, (p : Int) < s 3 → (r : Int) < s 3 → s (96 + p) = s (96 + r) → p = r
def wC (tx s : Nat → Int) : Prop := ∀ m : Nat, (m : Int) < tx 4 → s (128 + m) = 1 → ∃ p : Nat, (p : Int) < s 3 ∧ s (96 + p) = m
def wD (tx s : Nat → Int) : Prop := (∀ m : Nat, m < 8 → (0 ≤ s (128 + m) ∧ s (128 + m) ≤ 3) ∧ 0 ≤ s (240 + m) ∧ 0 ≤ s (256 + m) ∧ s (256 + m) ≤ 1 ∧ (tx 4 ≤ (m : Int) → s (128 + m) = 0)) ∧ (∀ m : Nat, m < 8 → (m : Int) < tx 4 → 0 ≤ s (176 + m) ∧ s (176 + m) ≤ tx (100 + 16 * m + 4)) ∧ ∀ k : Nat, k < 3 → 0 ≤ s (112 + k) ∧ s (112 + k) ≤ 7
def wF (tx s : Nat → Int) : Prop := (0 ≤ s 3 ∧ s 3 + bc0 s ≤ 8) ∧ ((0 ≤ s 4 ∧ s 4 ≤ 999) ∧ 0 ≤ s 5) ∧ wA tx s ∧ wB s ∧ wC tx s ∧ wD tx s
section
variable {tx s g : Nat → Int}
theorem bz1_b (m : Nat) : 0 ≤ bz1 s m ∧ bz1 s m ≤ 1 := by unfold bz1; split <;> omega
theorem bc0_b : 0 ≤ bc0 s := by
  have h := fun m => bz1_b (s := s) m
  have h0 := h 0; have h1 := h 1; have h2 := h 2; have h3 := h 3; have h4 := h 4; have h5 := h 5; have h6 := h 6; have h7 := h 7
  unfold bc0; omega
theorem wF_8 (h : wF tx s) : 0 ≤ s 3 ∧ s 3 ≤ 8 := by have := bc0_b (s := s); have := h.1; omega
theorem bc0_eq (h : ∀ m : Nat, m < 8 → g (128 + m) = s (128 + m)) : bc0 g = bc0 s := by
  unfold bc0 bz1
  rw [h 0 (by omega), h 1 (by omega), h 2 (by omega), h 3 (by omega), h 4 (by omega), h 5 (by omega), h 6 (by omega), h 7 (by omega)]
theorem bc0_go {m : Nat} (hm : m < 8) (h0 : s (128 + m) = 0) (hg : g (128 + m) ≠ 0) (h : ∀ j : Nat, j < 8 → j ≠ m → g (128 + j) = s (128 + j)) : bc0 g + 1 = bc0 s := by
  have e : ∀ j : Nat, j < 8 → j ≠ m → bz1 g j = bz1 s j := fun j h1 h2 => by unfold bz1; rw [h j h1 h2]
  have e1 : bz1 g m = 0 := by unfold bz1; rw [if_neg hg]
  have e2 : bz1 s m = 1 := by unfold bz1; rw [if_pos h0]
  unfold bc0
  rcases (show m = 0 ∨ m = 1 ∨ m = 2 ∨ m = 3 ∨ m = 4 ∨ m = 5 ∨ m = 6 ∨ m = 7 by omega) with rfl | rfl | rfl | rfl | rfl | rfl | rfl | rfl
  · rw [e1, e2, e 1 (by omega) (by omega), e 2 (by omega) (by omega), e 3 (by omega) (by omega), e 4 (by omega) (by omega), e 5 (by omega) (by omega), e 6 (by omega) (by omega), e 7 (by omega) (by omega)]; omega
  · rw [e1, e2, e 0 (by omega) (by omega), e 2 (by omega) (by omega), e 3 (by omega) (by omega), e 4 (by omega) (by omega), e 5 (by omega) (by omega), e 6 (by omega) (by omega), e 7 (by omega) (by omega)]; omega
  · rw [e1, e2, e 0 (by omega) (by omega), e 1 (by omega) (by omega), e 3 (by omega) (by omega), e 4 (by omega) (by omega), e 5 (by omega) (by omega), e 6 (by omega) (by omega), e 7 (by omega) (by omega)]; omega
  · rw [e1, e2, e 0 (by omega) (by omega), e 1 (by omega) (by omega), e 2 (by omega) (by omega), e 4 (by omega) (by omega), e 5 (by omega) (by omega), e 6 (by omega) (by omega), e 7 (by omega) (by omega)]; omega
  · rw [e1, e2, e 0 (by omega) (by omega), e 1 (by omega) (by omega), e 2 (by omega) (by omega), e 3 (by omega) (by omega), e 5 (by omega) (by omega), e 6 (by omega) (by omega), e 7 (by omega) (by omega)]; omega
  · rw [e1, e2, e 0 (by omega) (by omega), e 1 (by omega) (by omega), e 2 (by omega) (by omega), e 3 (by omega) (by omega), e 4 (by omega) (by omega), e 6 (by omega) (by omega), e 7 (by omega) (by omega)]; omega
  · rw [e1, e2, e 0 (by omega) (by omega), e 1 (by omega) (by omega), e 2 (by omega) (by omega), e 3 (by omega) (by omega), e 4 (by omega) (by omega), e 5 (by omega) (by omega), e 7 (by omega) (by omega)]; omega
  · rw [e1, e2, e 0 (by omega) (by omega), e 1 (by omega) (by omega), e 2 (by omega) (by omega), e 3 (by omega) (by omega), e 4 (by omega) (by omega), e 5 (by omega) (by omega), e 6 (by omega) (by omega)]; omega
/-- what doesn't touch who stands where -/
theorem wF_of (ht : tW tx) (h : wF tx s) (h3 : g 3 = s 3) (h4 : 0 ≤ g 4 ∧ g 4 ≤ 999) (h5 : 0 ≤ g 5) (hp : ∀ p : Nat, p < 8 → g (96 + p) = s (96 + p)) (hs : ∀ m : Nat, m < 8 → g (128 + m) = s (128 + m)) (hD : wD tx g) : wF tx g := by
  have h8 := wF_8 h
  obtain ⟨⟨a1, a2⟩, -, A, B, C, -⟩ := h
  refine ⟨⟨by omega, by rw [h3, bc0_eq hs]; exact a2⟩, ⟨h4, h5⟩, fun p q => ?_, fun p r q1 q2 e => ?_, fun m q e => ?_, hD⟩
  · rw [h3] at q
    have x := A p q
    rw [hp p (by omega)]
    refine ⟨x.1, x.2.1, ?_⟩
    have c : (s (96 + p)).toNat < 8 := by have := ht.1; omega
    rw [hs _ c]; exact x.2.2
  · rw [h3] at q1 q2
    rw [hp p (by omega), hp r (by omega)] at e
    exact B p r q1 q2 e
  · by_cases c : m < 8
    · rw [hs m c] at e
      obtain ⟨p, p1, p2⟩ := C m q e
      exact ⟨p, by omega, by rw [hp p (by omega)]; exact p2⟩
    · exfalso; have := ht.1; omega
theorem sf_at : ∀ (f i : Nat) (s : Nat → Int) (j : Nat), bq_sf f i s j = if 96 + i ≤ j ∧ j < 96 + i + f then s (j + 1) else s j := by
  intro f
  induction f with
  | zero => intro i s j; rw [if_neg (by omega)]; rfl
  | succ f ih =>
    intro i s j
    rw [bq_sf, ih]
    by_cases c : 96 + (i + 1) ≤ j ∧ j < 96 + (i + 1) + f
    · rw [if_pos c, if_pos (by omega), su_n (by omega)]
    · rw [if_neg c]
      by_cases d : j = 96 + i
      · subst d; rw [su_s, if_pos (by omega)]
      · rw [su_n d, if_neg (by omega)]
theorem wF_ap (ht : tW tx) (h : wF tx s) {m : Int} (h0 : 0 ≤ m) (h1 : m < tx 4) (hs : s (128 + m.toNat) = 0) : wF tx (bq_ap s m) ∧ bc0 (bq_ap s m) < bc0 s := by
  have h8 := wF_8 h
  have ht4 := ht.1
  obtain ⟨⟨a1, a2⟩, ⟨a4, a5⟩, A, B, C, D⟩ := h
  have hm : m.toNat < 8 := by omega
  have e3 : s 3 < 8 := by
    have k := bc0_go (s := s) (g := pp_su s (128 + m.toNat) 1) hm hs (by rw [su_s]; decide) (fun j _ hj => su_n (by omega))
    have := bc0_b (s := pp_su s (128 + m.toNat) 1)
    omega
  obtain ⟨g, eg⟩ : ∃ g, g = bq_ap s m := ⟨_, rfl⟩
  rw [← eg]
  unfold bq_ap at eg
  rw [if_pos e3] at eg
  have g3 : g 3 = s 3 + 1 := by rw [eg, su_n (by omega), su_n (by omega), su_s]
  have gp : ∀ p : Nat, p < 8 → p ≠ (s 3).toNat → g (96 + p) = s (96 + p) := fun p hp hq => by rw [eg, su_n (by omega), su_n (by omega), su_n (by omega), su_n (by omega)]
  have gq : g (96 + (s 3).toNat) = m := by rw [eg, su_n (by omega), su_n (by omega), su_n (by omega), su_s]
  have gm : g (128 + m.toNat) = 1 := by rw [eg, su_n (by omega), su_s]
  have gs : ∀ j : Nat, j < 8 → j ≠ m.toNat → g (128 + j) = s (128 + j) := fun j hj hq => by rw [eg, su_n (by omega), su_n (by omega), su_n (by omega), su_n (by omega)]
  have gk : ∀ k : Nat, k ≠ 3 → k < 96 ∨ (104 ≤ k ∧ k < 128) ∨ (136 ≤ k ∧ k < 208) ∨ 216 ≤ k → g k = s k := fun k hk hq => by rw [eg, su_n (by omega), su_n (by omega), su_n (by omega), su_n (by omega)]
  have gc : bc0 g + 1 = bc0 s := bc0_go hm hs (by rw [gm]; decide) gs
  refine ⟨⟨⟨by omega, by omega⟩, ⟨by rw [gk 4 (by decide) (by decide)]; exact a4, by rw [gk 5 (by decide) (by decide)]; exact a5⟩, fun p q => ?_, fun p r q1 q2 e => ?_, fun j q e => ?_, ⟨fun j hj => ?_, fun j hj hl => ?_, fun k hk => ?_⟩⟩, by omega⟩
  · by_cases c : p = (s 3).toNat
    · subst c; rw [gq]; exact ⟨h0, h1, gm⟩
    · have x := A p (by omega)
      rw [gp p (by omega) c]
      refine ⟨x.1, x.2.1, ?_⟩
      rw [gs _ (by omega) (fun e => by have := x.2.2; rw [e, hs] at this; omega)]
      exact x.2.2
  · have f : ∀ p : Nat, (p : Int) < s 3 → s (96 + p) ≠ m := fun p hp e => by have := (A p hp).2.2; rw [e, hs] at this; omega
    by_cases c : p = (s 3).toNat
    · by_cases d : r = (s 3).toNat
      · omega
      · exfalso; subst c; rw [gq, gp r (by omega) d] at e; exact f r (by omega) e.symm
    · by_cases d : r = (s 3).toNat
      · exfalso; subst d; rw [gq, gp p (by omega) c] at e; exact f p (by omega) e
      · rw [gp p (by omega) c, gp r (by omega) d] at e; exact B p r (by omega) (by omega) e
  · by_cases c : j = m.toNat
    · exact ⟨(s 3).toNat, by omega, by rw [gq]; omega⟩
    · rw [gs j (by omega) c] at e
      obtain ⟨p, p1, p2⟩ := C j q e
      exact ⟨p, by omega, by rw [gp p (by omega) (by omega)]; exact p2⟩
  · have d := D.1 j hj
    rw [gk _ (by omega) (by omega : 240 + j < 96 ∨ _), gk (256 + j) (by omega) (by omega)]
    by_cases c : j = m.toNat
    · subst c; rw [gm]; exact ⟨by decide, d.2.1, d.2.2.1, d.2.2.2.1, fun q => by omega⟩
    · rw [gs j hj c]; exact d
  · rw [gk _ (by omega) (by omega)]; exact D.2.1 j hj hl
  · rw [gk _ (by omega) (by omega)]; exact D.2.2 k hk
theorem ma_at {p : Nat} (h : (p : Int) < s 3) : bq_ma s p = s (96 + p) := by
  unfold bq_ma
  rw [if_pos (by omega), show ((p : Int)).toNat = p by omega]
theorem wF_rm (ht : tW tx) (h : wF tx s) {p : Nat} (hp : (p : Int) < s 3) {ns : Int} (hn : 2 ≤ ns ∧ ns ≤ 3) : wF tx (bq_rm s p ns) ∧ bq_rm s p ns 3 = s 3 - 1 ∧ bc0 (bq_rm s p ns) = bc0 s := by
  have h8 := wF_8 h
  have ht4 := ht.1
  obtain ⟨⟨a1, a2⟩, ⟨a4, a5⟩, A, B, C, D⟩ := h
  have x := A p hp
  obtain ⟨g, eg⟩ : ∃ g, g = bq_rm s p ns := ⟨_, rfl⟩
  rw [← eg]
  unfold bq_rm bq_r2 at eg
  rw [ma_at hp, if_neg (by omega)] at eg
  obtain ⟨m, em⟩ : ∃ m : Nat, m = (s (96 + p)).toNat := ⟨_, rfl⟩
  rw [← em] at eg
  have xm : s (128 + m) = 1 := by rw [em]; exact x.2.2
  have hm : m < 8 := by omega
  have g3 : g 3 = s 3 - 1 := by rw [eg, su_n (by omega), su_n (by omega), su_n (by omega), su_n (by omega), sf_k (by decide), su_s]
  have gp : ∀ r : Nat, r < 8 → g (96 + r) = if p ≤ r ∧ (r : Int) < s 3 - 1 then s (96 + r + 1) else s (96 + r) := fun r hr => by
    rw [eg, su_n (by omega), su_n (by omega), su_n (by omega), su_n (by omega), sf_at]
    by_cases c : p ≤ r ∧ (r : Int) < s 3 - 1
    · rw [if_pos (by omega), if_pos c, su_n (by omega)]
    · rw [if_neg (by omega), if_neg c, su_n (by omega)]
  have gm : g (128 + m) = ns := by rw [eg, su_n (by omega), su_n (by omega), su_n (by omega), su_s]
  have gk : ∀ k : Nat, k ≠ 3 → k < 96 ∨ 104 ≤ k → k ≠ 128 + m → k ≠ 224 + m → k ≠ 240 + m → k ≠ 256 + m → g k = s k := fun k hk hq k1 k2 k3 k4 => by
    rw [eg, su_n k4, su_n k3, su_n k2, su_n k1, sf_at, if_neg (by omega), su_n hk]
  have gs : ∀ j : Nat, j < 8 → j ≠ m → g (128 + j) = s (128 + j) := fun j hj hq => gk _ (by omega) (by omega) (by omega) (by omega) (by omega) (by omega)
  have gc : bc0 g = bc0 s := by
    have e : ∀ j : Nat, j < 8 → bz1 g j = bz1 s j := fun j hj => by
      by_cases c : j = m
      · subst c; unfold bz1; rw [gm, xm, if_neg (by omega), if_neg (by omega)]
      · unfold bz1; rw [gs j hj c]
    unfold bc0
    rw [e 0 (by omega), e 1 (by omega), e 2 (by omega), e 3 (by omega), e 4 (by omega), e 5 (by omega), e 6 (by omega), e 7 (by omega)]
  -- who stands at r now stood at r or behind it
  have w : ∀ r : Nat, (r : Int) < s 3 - 1 → ∃ u : Nat, (u : Int) < s 3 ∧ u ≠ p ∧ g (96 + r) = s (96 + u) ∧ (u = r ∨ u = r + 1) ∧ (u = r ↔ r < p) := fun r hr => by
    rw [gp r (by omega)]
    by_cases c : p ≤ r
    · rw [if_pos ⟨c, hr⟩]; exact ⟨r + 1, by omega, by omega, rfl, by omega, by omega⟩
    · rw [if_neg (by omega)]; exact ⟨r, by omega, by omega, rfl, by omega, by omega⟩
  have ne : ∀ u : Nat, (u : Int) < s 3 → u ≠ p → (s (96 + u)).toNat ≠ m := fun u h1 h2 e => h2 (B u p h1 hp (by have := A u h1; omega))
  refine ⟨⟨⟨by omega, by omega⟩, ⟨by rw [gk 4 (by decide) (by decide) (by omega) (by omega) (by omega) (by omega)]; exact a4, by rw [gk 5 (by decide) (by decide) (by omega) (by omega) (by omega) (by omega)]; exact a5⟩, fun r q => ?_, fun r r2 q1 q2 e => ?_, fun j q e => ?_, ⟨fun j hj => ?_, fun j hj hl => ?_, fun k hk => ?_⟩⟩, g3, gc⟩
  · obtain ⟨u, u1, u2, u3, -, -⟩ := w r (by omega)
    have y := A u u1
    rw [u3]
    exact ⟨y.1, y.2.1, by rw [gs _ (by omega) (ne u u1 u2)]; exact y.2.2⟩
  · obtain ⟨u, u1, u2, u3, u4, u5⟩ := w r (by omega)
    obtain ⟨v, v1, v2, v3, v4, v5⟩ := w r2 (by omega)
    rw [u3, v3] at e
    have := B u v u1 v1 e
    omega
  · by_cases c : j = m
    · subst c; rw [gm] at e; omega
    · rw [gs j (by omega) c] at e
      obtain ⟨u, u1, u2⟩ := C j q e
      have hu : u ≠ p := fun e2 => by subst e2; omega
      by_cases d : u < p
      · exact ⟨u, by omega, by rw [gp u (by omega), if_neg (by omega)]; exact u2⟩
      · exact ⟨u - 1, by omega, by rw [gp (u - 1) (by omega), if_pos (by omega), show 96 + (u - 1) + 1 = 96 + u by omega]; exact u2⟩
  · have d := D.1 j hj
    by_cases c : j = m
    · subst c
      rw [gm, show g (240 + j) = 0 by rw [eg, su_n (by omega), su_s], show g (256 + j) = 0 by rw [eg, su_s]]
      omega
    · rw [gs j hj c, gk (240 + j) (by omega) (by omega) (by omega) (by omega) (by omega) (by omega), gk (256 + j) (by omega) (by omega) (by omega) (by omega) (by omega) (by omega)]
      exact d
  · rw [gk (176 + j) (by omega) (by omega) (by omega) (by omega) (by omega) (by omega)]; exact D.2.1 j hj hl
  · rw [gk (112 + k) (by omega) (by omega) (by omega) (by omega) (by omega) (by omega)]; exact D.2.2 k hk
theorem nf_at : ∀ (f m : Nat) (b : Int), (m + f : Int) ≤ tx 4 → (b = -1 ∨ (0 ≤ b ∧ b < tx 4 ∧ s (128 + b.toNat) = 0)) → (bq_nf tx s f m b = -1 ∨ (0 ≤ bq_nf tx s f m b ∧ bq_nf tx s f m b < tx 4 ∧ s (128 + (bq_nf tx s f m b).toNat) = 0)) := by
  intro f
  induction f with
  | zero => intro m b _ h; exact h
  | succ f ih =>
    intro m b hm h
    rw [bq_nf]
    refine ih (m + 1) _ (by omega) ?_
    split
    · rename_i c
      exact Or.inr ⟨by omega, by omega, c.1⟩
    · exact h
theorem nx_at (ht : tW tx) : bq_nx tx s = -1 ∨ (0 ≤ bq_nx tx s ∧ bq_nx tx s < tx 4 ∧ s (128 + (bq_nx tx s).toNat) = 0) := nf_at _ _ _ (by have := ht.1; omega) (Or.inl rfl)
theorem wF_wl (ht : tW tx) : ∀ (f : Nat) (s : Nat → Int), wF tx s → wF tx (bq_wl tx f s) := by
  intro f
  induction f with
  | zero => intro s h; exact h
  | succ f ih =>
    intro s h
    rw [bq_wl]
    split
    · exact h
    · rename_i c
      rcases nx_at (s := s) ht with q | q
      · exact absurd q c
      · exact ih _ (wF_ap ht h q.1 q.2.1 q.2.2).1
theorem wF_fc (ht : tW tx) (h : wF tx s) : wF tx (bq_fc s) := by
  have e : ∀ j : Nat, j < 256 → bq_fc s j = s j := fun j hj => by unfold bq_fc; rw [if_neg (by omega)]
  have D := h.2.2.2.2.2
  refine wF_of ht h (e 3 (by decide)) (by rw [e 4 (by decide)]; exact h.2.1.1) (by rw [e 5 (by decide)]; exact h.2.1.2) (fun p hp => e _ (by omega)) (fun m hm => e _ (by omega)) ⟨fun m hm => ?_, fun m hm hl => ?_, fun k hk => ?_⟩
  · rw [e _ (by omega), e (240 + m) (by omega), show bq_fc s (256 + m) = 0 by unfold bq_fc; rw [if_pos (by omega)]]
    have := D.1 m hm; omega
  · rw [e _ (by omega)]; exact D.2.1 m hm hl
  · rw [e _ (by omega)]; exact D.2.2 k hk
theorem wF_hc (ht : tW tx) (h : wF tx s) : wF tx (bq_hc tx s) := by
  unfold bq_hc
  split
  · split
    · refine wF_fc ht ?_
      by_cases c : 0 < s 3
      · exact (wF_rm ht h (p := 0) (by omega) (ns := 3) (by decide)).1
      · have e : bq_ma s 0 = -2 := by unfold bq_ma; rw [if_neg (by omega)]
        unfold bq_rm
        rw [e, if_pos (by decide)]; exact h
    · exact wF_fc ht h
  · exact h
theorem pn_b (ht : tW tx) (h : wF tx s) (h3 : 0 < s 3) : 0 ≤ bq_pn tx s ∧ bq_pn tx s ≤ s 4 ∧ bq_pn tx s ≤ tx (100 + 16 * (s 96).toNat + 4) - s (176 + (s 96).toNat) := by
  have x := h.2.2.1 0 (by omega)
  have ht4 := ht.1
  have d := h.2.2.2.2.2.2.1 (s 96).toNat (by have := x.1; have := x.2.1; simp only [Nat.add_zero] at *; omega) (by have := x.1; have := x.2.1; simp only [Nat.add_zero] at *; omega)
  have b := ht.2.2.2.2.2.2.2.1 (s 96).toNat (by have := x.1; have := x.2.1; simp only [Nat.add_zero] at *; omega) (by have := x.1; have := x.2.1; simp only [Nat.add_zero] at *; omega)
  have w := h.2.1.1
  have r := ht.2.2.1
  unfold bq_pn
  rw [bw_id (x := tx (100 + 16 * (s 96).toNat + 4) - s (176 + (s 96).toNat)) (by omega) (by omega)]
  unfold bq_mn
  split <;> split <;> omega
theorem wF_pr (ht : tW tx) (h : wF tx s) : wF tx (bq_pr tx s) := by
  unfold bq_pr
  split
  · exact h
  · rename_i c
    have h3 : 0 < s 3 := by have := h.1; omega
    have n := pn_b ht h h3
    have x := h.2.2.1 0 (by omega)
    simp only [Nat.add_zero] at x
    have ht4 := ht.1
    have hf : (s 96).toNat < 8 := by omega
    have D := h.2.2.2.2.2
    have d := D.2.1 (s 96).toNat hf (by omega)
    have b := ht.2.2.2.2.2.2.2.1 (s 96).toNat hf (by omega)
    have w := h.2.1.1
    rw [bw_id (x := s 4 - bq_pn tx s) (by omega) (by omega), bw_id (x := s (176 + (s 96).toNat) + bq_pn tx s) (by omega) (by omega)]
    obtain ⟨f, ef⟩ : ∃ f, f = (s 96).toNat := ⟨_, rfl⟩
    rw [← ef] at hf d b n ⊢
    have e : ∀ j : Nat, j ≠ 4 → j ≠ 176 + f → pp_su (pp_su s 4 (s 4 - bq_pn tx s)) (176 + f) (s (176 + f) + bq_pn tx s) j = s j := fun j h1 h2 => by rw [su_n h2, su_n h1]
    refine wF_of ht h (e 3 (by decide) (by omega)) (by rw [su_n (by omega), su_s]; omega) (by rw [e 5 (by decide) (by omega)]; exact h.2.1.2) (fun p hp => e _ (by omega) (by omega)) (fun m hm => e _ (by omega) (by omega)) ⟨fun m hm => ?_, fun m hm hl => ?_, fun k hk => ?_⟩
    · rw [e _ (by omega) (by omega), e (240 + m) (by omega) (by omega), e (256 + m) (by omega) (by omega)]; exact D.1 m hm
    · by_cases q : m = f
      · subst q; rw [su_s]; omega
      · rw [e _ (by omega) (by omega)]; exact D.2.1 m hm hl
    · rw [e _ (by omega) (by omega)]; exact D.2.2 k hk
/-- coins and patience don't matter -/
theorem wF_su (ht : tW tx) (h : wF tx s) {k : Nat} {v : Int} (hk : (144 ≤ k ∧ k < 176) ∨ (192 ≤ k ∧ k < 240) ∨ k = 1 ∨ k = 2) : wF tx (pp_su s k v) := by
  have D := h.2.2.2.2.2
  refine wF_of ht h (su_n (by omega)) (by rw [su_n (by omega)]; exact h.2.1.1) (by rw [su_n (by omega)]; exact h.2.1.2) (fun p hp => su_n (by omega)) (fun m hm => su_n (by omega)) ⟨fun m hm => ?_, fun m hm hl => ?_, fun j hj => ?_⟩
  · rw [su_n (by omega), su_n (by omega), su_n (by omega)]; exact D.1 m hm
  · rw [su_n (by omega)]; exact D.2.1 m hm hl
  · rw [su_n (by omega)]; exact D.2.2 j hj
theorem wF_l1 (ht : tW tx) (h : wF tx s) {t : Int} {p : Nat} (h0 : 0 ≤ t) (h1 : t < tx 4) (hp : (p : Int) < s 3) : wF tx (bq_l1 tx s t p) := by
  have ht4 := ht.1
  have x := h.2.2.1 p hp
  unfold bq_l1 bq_py
  split
  · exact h
  · exact wF_su ht (wF_su ht h (by omega)) (by omega)
theorem wF_lf (ht : tW tx) {t : Int} (h0 : 0 ≤ t) (h1 : t < tx 4) : ∀ (f p : Nat) (s : Nat → Int), (p + f : Int) ≤ s 3 → wF tx s → wF tx (bq_lf tx t f p s) := by
  intro f
  induction f with
  | zero => intro p s _ h; exact h
  | succ f ih =>
    intro p s hp h
    rw [bq_lf]
    exact ih (p + 1) _ (by rw [l1_k (by decide)]; omega) (wF_l1 ht h h0 h1 (by omega))
theorem wF_ly (ht : tW tx) (h : wF tx s) : wF tx (bq_ly tx s) := by
  unfold bq_ly
  split
  · exact h
  · rename_i c
    have h8 := wF_8 h
    have k : 0 ≤ s 114 ∧ s 114 < s 3 := by
      by_cases q : 0 ≤ s 114 ∧ s 114 < s 3
      · exact q
      · exact absurd (Or.inl (by unfold bq_ma; rw [if_neg q]; decide)) c
    have x := h.2.2.1 (s 114).toNat (by omega)
    have e : bq_ma s (s 114) = s (96 + (s 114).toNat) := by unfold bq_ma; rw [if_pos k]
    rw [e]
    exact wF_lf ht x.1 x.2.1 _ _ _ (by omega) h
theorem wF_w1 (ht : tW tx) (h : wF tx s) {p : Nat} (hp : (p : Int) < s 3) : wF tx (bq_w1 tx s p) := by
  have ht4 := ht.1
  have x := h.2.2.1 p hp
  unfold bq_w1
  split
  · rename_i c
    obtain ⟨m, em⟩ : ∃ m, m = (s (96 + p)).toNat := ⟨_, rfl⟩
    have hm : m < 8 := by omega
    rw [← em] at c ⊢
    have D := h.2.2.2.2.2
    refine wF_of ht h (su_n (by omega)) (by rw [su_n (by omega)]; exact h.2.1.1) (by rw [su_n (by omega)]; exact h.2.1.2) (fun p hp => su_n (by omega)) (fun j hj => su_n (by omega)) ⟨fun j hj => ?_, fun j hj hl => ?_, fun k hk => ?_⟩
    · rw [su_n (by omega), su_n (j := 256 + j) (by omega)]
      have d := D.1 j hj
      by_cases q : j = m
      · subst q; rw [su_s]; omega
      · rw [su_n (by omega)]; exact d
    · rw [su_n (by omega)]; exact D.2.1 j hj hl
    · rw [su_n (by omega)]; exact D.2.2 k hk
  · split
    · exact wF_su ht h (by omega)
    · exact h
theorem wF_wf (ht : tW tx) : ∀ (f p : Nat) (s : Nat → Int), (p + f : Int) ≤ s 3 → wF tx s → wF tx (bq_wf tx f p s) := by
  intro f
  induction f with
  | zero => intro p s _ h; exact h
  | succ f ih =>
    intro p s hp h
    rw [bq_wf]
    exact ih (p + 1) _ (by rw [w1_k (by decide)]; omega) (wF_w1 ht h (by omega))
theorem wF_wr (ht : tW tx) (h : wF tx s) : wF tx (bq_wr tx s) := wF_wf ht _ _ _ (by have := wF_8 h; omega) h
theorem wF_sv (ht : tW tx) (h : wF tx s) : wF tx (bq_sv tx s) := by
  unfold bq_sv
  split
  · rename_i c; exact (wF_rm ht h (p := 0) (by omega) (by decide)).1
  · exact h
theorem wF_off (ht : tW tx) : ∀ (p : Nat) (s : Nat → Int), ((p : Int) < s 3 ∨ p = 0) → wF tx s → wF tx (bq_of p s) := by
  intro p
  induction p with
  | zero => intro s _ h; exact h
  | succ p ih =>
    intro s hp h
    rw [bq_of]
    unfold bq_o1
    split
    · have r := wF_rm ht h (p := p + 1) (by omega) (ns := 3) (by decide)
      exact ih _ (Or.inl (by rw [r.2.1]; omega)) r.1
    · exact ih _ (Or.inl (by omega)) h
theorem wF_rl (ht : tW tx) (h : wF tx s) : wF tx (bq_rl tx s) := by
  have k := wF_sv ht h
  have k8 := wF_8 k
  unfold bq_rl
  exact wF_off ht _ _ (by omega) k
theorem wF_mt (ht : tW tx) (h : wF tx s) : wF tx (bq_mt tx s) := by
  have hd : 0 ≤ bq_dr (s 5) := by unfold bq_dr; omega
  have k : wF tx (pp_su s 5 (bq_dr (s 5))) := by
    have D := h.2.2.2.2.2
    refine wF_of ht h (su_n (by omega)) (by rw [su_n (by omega)]; exact h.2.1.1) (by rw [su_s]; exact hd) (fun p hp => su_n (by omega)) (fun m hm => su_n (by omega)) ⟨fun m hm => ?_, fun m hm hl => ?_, fun j hj => ?_⟩
    · rw [su_n (by omega), su_n (by omega), su_n (by omega)]; exact D.1 m hm
    · rw [su_n (by omega)]; exact D.2.1 m hm hl
    · rw [su_n (by omega)]; exact D.2.2 j hj
  unfold bq_mt
  split
  · exact h
  · split
    · rename_i c
      have e : s 3 - 1 = (((s 3 - 1).toNat : Nat) : Int) := by omega
      rw [e]
      exact (wF_rm ht k (p := (s 3 - 1).toNat) (by rw [su_n (by decide)]; omega) (by decide)).1
    · exact k
theorem wF_ps (ht : tW tx) (h : wF tx s) : wF tx (bq_ps tx s) := by
  unfold bq_ps bq_m1
  exact wF_su ht (wF_mt ht (wF_rl ht (wF_wr ht (wF_ly ht (wF_pr ht (wF_hc ht (wF_wl ht _ _ h))))))) (by omega)
theorem fl_n {b j : Nat} (h : j < b ∨ b + 8 ≤ j) : bq_fl s b j = s j := by unfold bq_fl; rw [if_neg (by omega)]
theorem fl_s {b j : Nat} (h : b ≤ j ∧ j < b + 8) : bq_fl s b j = 0 := by unfold bq_fl; rw [if_pos h]
theorem wF_s0 (ht : tW tx) : wF tx (bq_s0 tx s) := by
  have e : ∀ j : Nat, j < 128 → bq_s0 tx s j = bq_s1 tx s (tx 4).toNat j := fun j hj => by unfold bq_s0; rw [fl_n (by omega), fl_n (by omega), fl_n (by omega), fl_n (by omega)]
  have e3 : bq_s0 tx s 3 = 0 := by rw [e 3 (by decide)]; rfl
  have e4 : bq_s0 tx s 4 = tx 6 := by rw [e 4 (by decide)]; rfl
  have e5 : bq_s0 tx s 5 = tx 11 := by rw [e 5 (by decide)]; rfl
  have eS : ∀ m : Nat, m < 8 → bq_s0 tx s (128 + m) = 0 := fun m hm => by unfold bq_s0; rw [fl_n (by omega), fl_n (by omega), fl_n (by omega), fl_s (by omega)]
  have b8 : bc0 (bq_s0 tx s) ≤ 8 := by
    have h := fun m => bz1_b (s := bq_s0 tx s) m
    have h0 := h 0; have h1 := h 1; have h2 := h 2; have h3 := h 3; have h4 := h 4; have h5 := h 5; have h6 := h 6; have h7 := h 7
    unfold bc0; omega
  refine ⟨⟨by omega, by omega⟩, ⟨by rw [e4]; exact ht.2.1, by rw [e5]; exact ht.2.2.2.2.2.2.1⟩, fun p q => by omega, fun p r q _ _ => by omega, fun m q h => ?_, ⟨fun m hm => ?_, fun m hm hl => ?_, fun k hk => ?_⟩⟩
  · rw [eS m (by have := ht.1; omega)] at h; omega
  · rw [eS m hm, show bq_s0 tx s (240 + m) = 0 by unfold bq_s0; rw [fl_n (by omega), fl_s (by omega)], show bq_s0 tx s (256 + m) = 0 by unfold bq_s0; rw [fl_s (by omega)]]; omega
  · rw [show bq_s0 tx s (176 + m) = 0 by unfold bq_s0; rw [fl_n (by omega), fl_n (by omega), fl_s (by omega)]]
    have := ht.2.2.2.2.2.2.2.1 m hm hl; omega
  · rw [e _ (by omega), show bq_s1 tx s (tx 4).toNat (112 + k) = tx (32 + k) by unfold bq_s1; rw [if_neg (by omega), if_neg (by omega), if_neg (by omega), if_pos (by omega), show 32 + (112 + k - 112) = 32 + k by omega]]
    exact ht.2.2.2.2.2.2.2.2.1 k hk
/-- so many are to come at least -/
theorem bc0_ge (ht : tW tx) (h : wF tx s) {m : Nat} (h1 : (m : Int) < tx 4) (hs : s (128 + m) = 0) : 8 - tx 4 + 1 ≤ bc0 s := by
  have D := h.2.2.2.2.2.1
  have ht4 := ht.1
  have e : ∀ j : Nat, j < 8 → 0 ≤ bz1 s j ∧ (tx 4 ≤ (j : Int) → bz1 s j = 1) := fun j hj => ⟨(bz1_b j).1, fun q => by unfold bz1; rw [if_pos ((D j hj).2.2.2.2 q)]⟩
  have em : bz1 s m = 1 := by unfold bz1; rw [if_pos hs]
  have e0 := e 0 (by omega); have e1 := e 1 (by omega); have e2 := e 2 (by omega); have e3 := e 3 (by omega)
  have e4 := e 4 (by omega); have e5 := e 5 (by omega); have e6 := e 6 (by omega); have e7 := e 7 (by omega)
  unfold bc0
  generalize tx 4 = n at *
  have hn : n = 0 ∨ n = 1 ∨ n = 2 ∨ n = 3 ∨ n = 4 ∨ n = 5 ∨ n = 6 ∨ n = 7 ∨ n = 8 := by omega
  rcases (show m = 0 ∨ m = 1 ∨ m = 2 ∨ m = 3 ∨ m = 4 ∨ m = 5 ∨ m = 6 ∨ m = 7 by omega) with rfl | rfl | rfl | rfl | rfl | rfl | rfl | rfl <;> rcases hn with rfl | rfl | rfl | rfl | rfl | rfl | rfl | rfl | rfl <;> omega
theorem wF_s3 (ht : tW tx) (h : wF tx s) {m : Nat} (h1 : (m : Int) < tx 4) (hs : s (128 + m) = 0) : s 3 < 8 := by
  have := bc0_ge ht h h1 hs
  have := h.1
  have := ht.1
  omega
theorem bc0_8 : bc0 s ≤ 8 := by
  have h := fun m => bz1_b (s := s) m
  have h0 := h 0; have h1 := h 1; have h2 := h 2; have h3 := h 3; have h4 := h 4; have h5 := h 5; have h6 := h 6; have h7 := h 7
  unfold bc0; omega
end

variable {Tc : gC} {Tm : gM}
/-! the reference: bounds that last, and what of the queues -/
def mBI (k : Nat) (v : Int32) : Prop := match k with
  | 2 => ib 0 700 v
  | 20 => ib 0 700 v
  | 21 => ib 0 700 v
  | 22 => ib 0 700 v
  | 29 => ib 0 8 v
  | 30 => ib 0 64 v
  | 33 => ib 0 64 v
  | 52 => ib 0 20 v
  | 56 => ib 0 4 v
  | 58 => ib 0 24 v
  | 59 => ib (-1) 24 v
  | _ => True
def mBN (i : Nat) (v : Int32) : Prop := match i with
  | 0 => ib 0 8 v
  | 3 => ib 1 30 v
  | 7 => ib 0 64 v
  | 8 => ib 0 7 v
  | 9 => ib 0 7 v
  | 10 => ib 0 7 v
  | 11 => ib 0 8 v
  | 14 => ib 1 30 v
  | 18 => ib 0 64 v
  | 19 => ib 0 7 v
  | 20 => ib 0 7 v
  | 21 => ib 0 7 v
  | _ => True
def mBY (k i : Nat) (v : Int32) : Prop := match k with
  | 1 => ib 0 255 v
  | 3 => mBN i v
  | 14 => ib 0 64 v
  | 15 => ib 0 64 v
  | 34 => i ≠ 1 → ib 0 120 v
  | 38 => ib 0 8 v
  | 39 => ib 0 7 v
  | 49 => ib 0 7 v
  | 60 => ib 0 59 v
  | 61 => ib 0 7 v
  | 63 => ib (-1) 23 v
  | _ => True
def mG (M : ti_M) : gM := (tY M 60 1, tI M 60 27, tI M 60 28, tI M 60 58, tI M 60 59, tY M 60 60, tY M 60 61, tY M 60 62, tY M 60 63)
theorem mG_I {M : ti_M} {k : Nat} {v : Int32} (h : k ≠ 27 ∧ k ≠ 28 ∧ k ≠ 58 ∧ k ≠ 59) : mG (uI M 60 k v) = mG M := by
  unfold mG
  rw [tI_n _ _ _ _ (nk (Ne.symm h.1)), tI_n _ _ _ _ (nk (Ne.symm h.2.1)), tI_n _ _ _ _ (nk (Ne.symm h.2.2.1)), tI_n _ _ _ _ (nk (Ne.symm h.2.2.2))]; rfl
theorem mG_Y {M : ti_M} {k : Nat} {f : Nat → Int32} (h : k ≠ 1 ∧ (k < 60 ∨ 63 < k)) : mG (uY M 60 k f) = mG M := by
  unfold mG
  rw [tY_n _ _ _ _ (nk (Ne.symm h.1)), tY_n _ _ _ _ (nk (by omega)), tY_n _ _ _ _ (nk (by omega)), tY_n _ _ _ _ (nk (by omega)), tY_n _ _ _ _ (nk (by omega))]; rfl
def mI (Tm : gM) (M : ti_M) : Prop := (∀ k, mBI k (tI M 60 k)) ∧ (∀ k i, mBY k i (tY M 60 k i)) ∧ (tI M 60 23 = 0 → (tI M 60 24).toInt ≤ 24) ∧ mG M = Tm
theorem mI_self {M : ti_M} (h : mI Tm M) : mI (mG M) M := ⟨h.1, h.2.1, h.2.2.1, rfl⟩
theorem mI_mk {M N : ti_M} (h : mI Tm M) (e1 : ∀ k, mBI k (tI N 60 k)) (e2 : ∀ k i, mBY k i (tY N 60 k i)) (e3 : tI N 60 23 = tI M 60 23) (e4 : tI N 60 24 = tI M 60 24) : mI (mG N) N := ⟨e1, e2, by rw [e3, e4]; exact h.2.2.1, rfl⟩
/-- the last fault and its place may change -/
theorem mI_lf {M N : ti_M} {k : Nat} {v : Int32} (h : mI Tm M) (e : N = uI M 60 k v) (hk : k = 27 ∨ k = 28) (hb : mBI k v) : mI (mG N) N := by
  refine mI_mk h (fun k2 => ?_) (fun k2 i => by rw [tY_uIE e]; exact h.2.1 k2 i) (tI_nE e (nk (by omega))) (tI_nE e (nk (by omega)))
  by_cases q : k2 = k
  · subst q; rw [tI_uE e]; exact hb
  · rw [tI_nE e (nk q)]; exact h.1 k2
/-- stones may change -/
theorem mI_ls {M N : ti_M} {k : Nat} {v : Int32} (h : mI Tm M) (e : N = uI M 60 k v) (hk : k = 58 ∨ k = 59) (hb : mBI k v) : mI (mG N) N := by
  refine mI_mk h (fun k2 => ?_) (fun k2 i => by rw [tY_uIE e]; exact h.2.1 k2 i) (tI_nE e (nk (by omega))) (tI_nE e (nk (by omega)))
  by_cases q : k2 = k
  · subst q; rw [tI_uE e]; exact hb
  · rw [tI_nE e (nk q)]; exact h.1 k2
theorem mI_ry2 {M N : ti_M} {k i : Nat} {v : Int32} (h : mI Tm M) (e : N = uY M 60 k (upd (tY M 60 k) i v)) (hb : mBY k i v) : mI (mG N) N := by
  refine mI_mk h (fun k2 => by rw [tI_uYE e]; exact h.1 k2) (fun k2 j => ?_) (tI_uYE e) (tI_uYE e)
  by_cases q : k2 = k
  · subst q; rw [tY_uE e]
    by_cases r : j = i
    · subst r; rw [pk_us]; exact hb
    · rw [pk_un r]; exact h.2.1 _ j
  · rw [tY_nE e (nk q)]; exact h.2.1 k2 j
theorem mI_uI {M N : ti_M} {k : Nat} {v : Int32} (h : mI Tm M) (e : N = uI M 60 k v) (h3 : k ≠ 23) (h4 : k ≠ 24) (hb : mBI k v) (h5 : k ≠ 27 ∧ k ≠ 28 ∧ k ≠ 58 ∧ k ≠ 59 := by decide) : mI Tm N := by
  subst e
  refine ⟨fun k2 => ?_, fun k2 i => h.2.1 k2 i, ?_, (mG_I h5).trans h.2.2.2⟩
  · by_cases q : k2 = k
    · subst q; rw [tI_u]; exact hb
    · rw [tI_n _ _ _ _ (nk q)]; exact h.1 k2
  · rw [tI_n _ _ _ _ (nk (Ne.symm h3)), tI_n _ _ _ _ (nk (Ne.symm h4))]; exact h.2.2.1
theorem mI_so {M N : ti_M} {v : Int32} (h : mI Tm M) (e : N = uI M 60 23 v) (hb : v = 0 → (tI M 60 24).toInt ≤ 24) : mI Tm N := by
  subst e
  refine ⟨fun k2 => ?_, fun k2 i => h.2.1 k2 i, ?_, (mG_I (by decide)).trans h.2.2.2⟩
  · by_cases q : k2 = 23
    · subst q; rw [tI_u]; trivial
    · rw [tI_n _ _ _ _ (nk q)]; exact h.1 k2
  · rw [tI_u, tI_n _ _ _ _ (nk (by decide))]; exact hb
theorem mI_va {M N : ti_M} {v : Int32} (h : mI Tm M) (e : N = uI M 60 24 v) (hb : tI M 60 23 = 0 → v.toInt ≤ 24) : mI Tm N := by
  subst e
  refine ⟨fun k2 => ?_, fun k2 i => h.2.1 k2 i, ?_, (mG_I (by decide)).trans h.2.2.2⟩
  · by_cases q : k2 = 24
    · subst q; rw [tI_u]; trivial
    · rw [tI_n _ _ _ _ (nk q)]; exact h.1 k2
  · rw [tI_u, tI_n _ _ _ _ (nk (by decide))]; exact hb
theorem mI_up {M N : ti_M} {k i : Nat} {v : Int32} (h : mI Tm M) (e : N = uY M 60 k (upd (tY M 60 k) i v)) (hb : mBY k i v) (h1 : k ≠ 1 ∧ (k < 60 ∨ 63 < k) := by decide) : mI Tm N := by
  subst e
  refine ⟨fun k2 => h.1 k2, fun k2 j => ?_, h.2.2.1, (mG_Y h1).trans h.2.2.2⟩
  by_cases q : k2 = k
  · subst q; rw [tY_u]
    by_cases r : j = i
    · subst r; rw [pk_us]; exact hb
    · rw [pk_un r]; exact h.2.1 _ j
  · rw [tY_n _ _ _ _ (nk q)]; exact h.2.1 k2 j
theorem mI_uZ {M N : ti_M} {k : Nat} {f : Nat → Int64} (h : mI Tm M) (e : N = uZ M 60 k f) : mI Tm N := by subst e; exact h
theorem mI_rd {M : ti_M} {k : Nat} {x : Int32} (h : mI Tm M) (e : x = tI M 60 k) : mBI k x := by rw [e]; exact h.1 k
theorem mI_ry {M : ti_M} {k i : Nat} {x : Int32} (h : mI Tm M) (e : x = tY M 60 k i) : mBY k i x := by rw [e]; exact h.2.1 k i
theorem mI_rn {M : ti_M} {i : Nat} {x : Int32} {lo hi : Int} (h : mI Tm M) (e : x = tY M 60 3 i) (hd : ∀ v, mBN i v → ib lo hi v) : ib lo hi x := by rw [e]; exact hd _ (h.2.1 3 i)
theorem cg {f g : Nat → Int32} (e : f = g) (i : Nat) : f i = g i := by rw [e]
/-! how many are to come; who stands is in the row -/
def z1 (f : Nat → Int32) (i : Nat) : Nat := if (f i).toInt = 0 then 1 else 0
def zc (f : Nat → Int32) (b : Nat) : Nat := z1 f b + z1 f (b + 1) + z1 f (b + 2) + z1 f (b + 3) + z1 f (b + 4) + z1 f (b + 5) + z1 f (b + 6) + z1 f (b + 7)
def mC (M : ti_M) (q : Nat) : Prop := (tY M 60 38 q).toInt + (zc (tY M 60 40) (8 * q) : Int) ≤ 8
def mP (M : ti_M) (q : Nat) : Prop := ∀ m : Nat, m < 8 → (m : Int) < (tY M 60 3 0).toInt → (tY M 60 40 (8 * q + m)).toInt = 1 → ∃ p : Nat, (p : Int) < (tY M 60 38 q).toInt ∧ (tY M 60 39 (8 * q + p)).toInt = m
theorem z1_le (f : Nat → Int32) (i j : Nat) (v : Int32) (hv : v.toInt ≠ 0) : z1 (upd f i v) j ≤ z1 f j := by
  by_cases q : j = i
  · subst q; unfold z1; rw [pk_us, if_neg hv]; exact Nat.zero_le _
  · unfold z1; rw [pk_un q]; exact Nat.le_refl _
theorem z1_s (f : Nat → Int32) (i : Nat) (v : Int32) (hv : v.toInt ≠ 0) : z1 (upd f i v) i = 0 := by unfold z1; rw [pk_us, if_neg hv]
theorem z1_n (f : Nat → Int32) (i j : Nat) (v : Int32) (q : j ≠ i) : z1 (upd f i v) j = z1 f j := by unfold z1; rw [pk_un q]
theorem zc_le (f : Nat → Int32) (i b : Nat) (v : Int32) (hv : v.toInt ≠ 0) : zc (upd f i v) b ≤ zc f b := by
  have h := fun j => z1_le f i j v hv
  have h0 := h b; have h1 := h (b + 1); have h2 := h (b + 2); have h3 := h (b + 3); have h4 := h (b + 4); have h5 := h (b + 5); have h6 := h (b + 6); have h7 := h (b + 7)
  unfold zc; omega
theorem zc_out (f : Nat → Int32) (i b : Nat) (v : Int32) (q : i < b ∨ b + 8 ≤ i) : zc (upd f i v) b = zc f b := by
  unfold zc
  rw [z1_n f i b v (by omega), z1_n f i (b + 1) v (by omega), z1_n f i (b + 2) v (by omega), z1_n f i (b + 3) v (by omega), z1_n f i (b + 4) v (by omega), z1_n f i (b + 5) v (by omega), z1_n f i (b + 6) v (by omega), z1_n f i (b + 7) v (by omega)]
theorem zc_one (f : Nat → Int32) (i b : Nat) (v : Int32) (hv : v.toInt ≠ 0) (h0 : (f i).toInt = 0) (q1 : b ≤ i) (q2 : i < b + 8) : zc (upd f i v) b + 1 ≤ zc f b := by
  have h := fun j => z1_le f i j v hv
  have g0 := h b; have g1 := h (b + 1); have g2 := h (b + 2); have g3 := h (b + 3); have g4 := h (b + 4); have g5 := h (b + 5); have g6 := h (b + 6); have g7 := h (b + 7)
  have hs := z1_s f i v hv
  have hi : z1 f i = 1 := by unfold z1; rw [if_pos h0]
  have hj : i = b ∨ i = b + 1 ∨ i = b + 2 ∨ i = b + 3 ∨ i = b + 4 ∨ i = b + 5 ∨ i = b + 6 ∨ i = b + 7 := by omega
  unfold zc
  rcases hj with rfl | rfl | rfl | rfl | rfl | rfl | rfl | rfl <;> omega
theorem zc_pos (f : Nat → Int32) (i b : Nat) (h0 : (f i).toInt = 0) (q1 : b ≤ i) (q2 : i < b + 8) : 1 ≤ zc f b := by
  have hi : z1 f i = 1 := by unfold z1; rw [if_pos h0]
  have hj : i = b ∨ i = b + 1 ∨ i = b + 2 ∨ i = b + 3 ∨ i = b + 4 ∨ i = b + 5 ∨ i = b + 6 ∨ i = b + 7 := by omega
  unfold zc
  rcases hj with rfl | rfl | rfl | rfl | rfl | rfl | rfl | rfl <;> omega
theorem z1_8 (f : Nat → Int32) (i : Nat) : z1 f i ≤ 1 := by unfold z1; split <;> omega
theorem zc_8 (f : Nat → Int32) (b : Nat) : zc f b ≤ 8 := by
  have h := z1_8 f
  have g0 := h b; have g1 := h (b + 1); have g2 := h (b + 2); have g3 := h (b + 3); have g4 := h (b + 4); have g5 := h (b + 5); have g6 := h (b + 6); have g7 := h (b + 7)
  unfold zc; omega
theorem zc_eq {f g : Nat → Int32} {b c : Nat} (h : ∀ j, j < 8 → f (b + j) = g (c + j)) : zc f b = zc g c := by
  have e : ∀ j, j < 8 → z1 f (b + j) = z1 g (c + j) := fun j hj => by unfold z1; rw [h j hj]
  have e0 := e 0 (by omega)
  unfold zc
  rw [e 1 (by omega), e 2 (by omega), e 3 (by omega), e 4 (by omega), e 5 (by omega), e 6 (by omega), e 7 (by omega)]
  simp only [Nat.add_zero] at e0
  rw [e0]
/-! the laws: what is laid goes through -/
def dp (s v : Nat → Int32) (a : Nat) : Nat → Option Nat
  | 0 => some 0
  | n + 1 => (dp s v a n).bind fun d => if (s (a + n)).toInt = 2 then (if (v (a + n)).toInt = 260 then (if 1 ≤ d then some d else none) else if 2 ≤ d then some (d - 1) else none) else if (s (a + n)).toInt = 0 ∨ (0 ≤ (v (a + n)).toInt ∧ (v (a + n)).toInt ≤ 5) then some (d + 1) else none
theorem dp_le {s v : Nat → Int32} {a : Nat} : ∀ (n d : Nat), dp s v a n = some d → d ≤ n := by
  intro n
  induction n with
  | zero => intro d h; simp only [dp, Option.some.injEq] at h; omega
  | succ n ih =>
    intro d h
    simp only [dp] at h
    obtain ⟨d0, h0, h1⟩ := Option.bind_eq_some_iff.mp h
    have := ih d0 h0
    split at h1
    · split at h1
      · split at h1
        · cases h1; omega
        · cases h1
      · split at h1
        · cases h1; omega
        · cases h1
    · split at h1
      · cases h1; omega
      · cases h1
def mL (M : ti_M) : Prop := ∀ j : Nat, j < 3 → ∀ a n : Nat, (tY M 60 14 j).toInt = a → (tY M 60 15 j).toInt = a + n → ∃ d, dp (tY M 60 16) (tY M 60 17) a n = some d
/-! relations between memories -/
def lw (N M : ti_M) : Prop := ∀ k, 3 ≤ k → k ≤ 17 → tY N 60 k = tY M 60 k
def ik (N M : ti_M) : Prop := tI N 60 2 = tI M 60 2 ∧ tI N 60 51 = tI M 60 51 ∧ tI N 60 52 = tI M 60 52
/-- queues' rows stay -/
def qw (N M : ti_M) : Prop := lw N M ∧ ik N M ∧ tY N 60 38 = tY M 60 38 ∧ tY N 60 39 = tY M 60 39 ∧ tY N 60 40 = tY M 60 40
theorem qw.refl {M : ti_M} : qw M M := ⟨fun _ _ _ => rfl, ⟨rfl, rfl, rfl⟩, rfl, rfl, rfl⟩
theorem qw.trans {K N M : ti_M} (a : qw K N) (b : qw N M) : qw K M := ⟨fun k h1 h2 => (a.1 k h1 h2).trans (b.1 k h1 h2), ⟨a.2.1.1.trans b.2.1.1, a.2.1.2.1.trans b.2.1.2.1, a.2.1.2.2.trans b.2.1.2.2⟩, a.2.2.1.trans b.2.2.1, a.2.2.2.1.trans b.2.2.2.1, a.2.2.2.2.trans b.2.2.2.2⟩
theorem qw_I {M N : ti_M} {k : Nat} {v : Int32} (e : N = uI M 60 k v) (h : k ≠ 2 ∧ k ≠ 51 ∧ k ≠ 52) : qw N M :=
  ⟨fun _ _ _ => tY_uIE e, ⟨tI_nE e (nk (Ne.symm h.1)), tI_nE e (nk (Ne.symm h.2.1)), tI_nE e (nk (Ne.symm h.2.2))⟩, tY_uIE e, tY_uIE e, tY_uIE e⟩
theorem qw_Y {M N : ti_M} {k : Nat} {v : Nat → Int32} (e : N = uY M 60 k v) (h : (k < 3 ∨ 17 < k) ∧ k ≠ 38 ∧ k ≠ 39 ∧ k ≠ 40) : qw N M :=
  ⟨fun k2 h1 h2 => tY_nE e (nk (by omega)), ⟨tI_uYE e, tI_uYE e, tI_uYE e⟩, tY_nE e (nk (Ne.symm h.2.1)), tY_nE e (nk (Ne.symm h.2.2.1)), tY_nE e (nk (Ne.symm h.2.2.2))⟩
theorem qw_Z {M N : ti_M} {k : Nat} {v : Nat → Int64} (e : N = uZ M 60 k v) : qw N M := ⟨fun _ _ _ => tY_uZE e, ⟨tI_uZE e, tI_uZE e, tI_uZE e⟩, tY_uZE e, tY_uZE e, tY_uZE e⟩
/-- but of the queue q nothing is worse -/
def rq (q : Nat) (N M : ti_M) : Prop := lw N M ∧ ik N M ∧ (∀ q2, (q2 ≠ q → mC M q2 → mC N q2) ∧ (mP M q2 → mP N q2)) ∧ (q ≠ 0 → tY N 60 38 0 = tY M 60 38 0)
theorem mC_qw {N M : ti_M} {q : Nat} (h : qw N M) (c : mC M q) : mC N q := by unfold mC at *; rw [h.2.2.1, h.2.2.2.2]; exact c
theorem mP_qw {N M : ti_M} {q : Nat} (h : qw N M) (c : mP M q) : mP N q := by unfold mP at *; rw [h.2.2.1, h.2.2.2.1, h.2.2.2.2, h.1 3 (by decide) (by decide)]; exact c
theorem mL_lw {N M : ti_M} (h : lw N M) (c : mL M) : mL N := by unfold mL at *; rw [h 14 (by decide) (by decide), h 15 (by decide) (by decide), h 16 (by decide) (by decide), h 17 (by decide) (by decide)]; exact c
theorem rq_qw {q : Nat} {N M : ti_M} (h : qw N M) : rq q N M := ⟨h.1, h.2.1, fun _ => ⟨fun _ c => mC_qw h c, fun c => mP_qw h c⟩, fun _ => by rw [h.2.2.1]⟩
theorem rq.refl {q : Nat} {M : ti_M} : rq q M M := rq_qw qw.refl
theorem rq.trans {q : Nat} {K N M : ti_M} (a : rq q K N) (b : rq q N M) : rq q K M :=
  ⟨fun k h1 h2 => (a.1 k h1 h2).trans (b.1 k h1 h2), ⟨a.2.1.1.trans b.2.1.1, a.2.1.2.1.trans b.2.1.2.1, a.2.1.2.2.trans b.2.1.2.2⟩, fun q2 => ⟨fun h c => (a.2.2.1 q2).1 h ((b.2.2.1 q2).1 h c), fun c => (a.2.2.1 q2).2 ((b.2.2.1 q2).2 c)⟩, fun h => (a.2.2.2 h).trans (b.2.2.2 h)⟩
theorem lw_t {K N M : ti_M} (x : lw K N) (y : lw N M) : lw K M := fun k a b => (x k a b).trans (y k a b)

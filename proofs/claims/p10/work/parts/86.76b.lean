variable {Tc : gC} {Tm : gM}
variable {Tc : gC} {Tm : gM}
/-! the reference's queues and what is told, beside the registers -/
theorem sc_b {v : Int} : 22 ≤ bq_sc v ∧ bq_sc v ≤ 41 ∧ (bq_sc v = 24 ↔ v = 260) := by
  unfold bq_sc
  repeat' split
  all_goals omega
def qR (n q : Nat) (s : Nat → Int) (M : ti_M) : Prop :=
  (s 2 = (tY M 60 34 q).toInt ∧ s 3 = (tY M 60 38 q).toInt ∧ s 4 = (tY M 60 35 q).toInt ∧ s 5 = (tY M 60 36 q).toInt) ∧
  (∀ p : Nat, p < 8 → (p : Int) < s 3 → s (96 + p) = (tY M 60 39 (8 * q + p)).toInt) ∧
  (∀ k : Nat, k < 3 → s (112 + k) = (tY M 60 49 (3 * q + k)).toInt) ∧
  (∀ m : Nat, m < n → s (128 + m) = (tY M 60 40 (8 * q + m)).toInt ∧ s (144 + m) = (tY M 60 44 (8 * q + m)).toInt ∧ s (160 + m) = (tY M 60 41 (8 * q + m)).toInt ∧ s (176 + m) = (tY M 60 42 (8 * q + m)).toInt ∧ s (192 + m) = (tY M 60 43 (8 * q + m)).toInt ∧ s (240 + m) = (tY M 60 47 (8 * q + m)).toInt) ∧
  (∀ m : Nat, m < n → (s (128 + m) ≠ 0 → s (208 + m) = (tY M 60 45 (8 * q + m)).toInt) ∧ (2 ≤ s (128 + m) → s (224 + m) = (tY M 60 46 (8 * q + m)).toInt)) ∧
  (if s 1 = 0 then ∀ m : Nat, m < 8 → s (256 + m) = pp_bt (tY M 60 37 q) m else tY M 60 37 q = 0)
/-- when one was served -/
def qV (n q : Nat) (s : Nat → Int) (M : ti_M) : Prop := ∀ m : Nat, m < n → (tY M 60 48 (8 * q + m)).toInt = if s (128 + m) = 2 then s (224 + m) else -2
def tR (tx : Nat → Int) (M : ti_M) : Prop :=
  (tx 4 = (tY M 60 3 0).toInt ∧ tx 6 = (tY M 60 3 1).toInt ∧ tx 7 = (tY M 60 3 2).toInt ∧ tx 8 = (tY M 60 3 3).toInt ∧ tx 9 = (tY M 60 3 4).toInt ∧ tx 10 = (tY M 60 3 5).toInt ∧ tx 11 = (tY M 60 3 6).toInt ∧ tx 5 = (tY M 60 3 7).toInt) ∧
  (∀ k : Nat, k < 3 → tx (32 + k) = (tY M 60 3 (8 + k)).toInt) ∧
  (∀ m : Nat, m < 8 → (m : Int) < tx 4 → tx (100 + 16 * m + 1) = (tY M 60 5 m).toInt ∧ tx (100 + 16 * m + 2) = (tY M 60 6 m).toInt ∧ tx (100 + 16 * m + 3) = (tY M 60 7 m).toInt ∧ tx (100 + 16 * m + 4) = (tY M 60 8 m).toInt ∧ tx (100 + 16 * m + 5) = (tY M 60 9 m).toInt ∧ tx (100 + 16 * m + 6) = (tY M 60 10 m).toInt ∧ tx (100 + 16 * m + 7) = (tY M 60 11 m).toInt ∧ tx (100 + 16 * m + 8) = (tY M 60 12 m).toInt ∧ tx (100 + 16 * m + 9) = (tY M 60 13 m).toInt - 1) ∧
  ∀ j : Nat, j < 3 → ∃ a : Nat, (tY M 60 14 j).toInt = a ∧ (tY M 60 15 j).toInt = a + tx (300 + j) ∧ 0 ≤ tx (300 + j) ∧ (0 < tx (300 + j) → dp (tY M 60 16) (tY M 60 17) a (tx (300 + j)).toNat = some 1) ∧ ∀ n : Nat, (n : Int) < tx (300 + j) → tx (400 + 64 * j + n) = bq_kc (tY M 60 16 (a + n)).toInt (tY M 60 17 (a + n)).toInt ∧ ((tY M 60 16 (a + n)).toInt = 0 → 0 ≤ (tY M 60 17 (a + n)).toInt)
theorem tR_lw {tx : Nat → Int} {M N : ti_M} (h : tR tx M) (e : lw N M) : tR tx N := by
  have e3 := e 3 (by decide) (by decide)
  unfold tR
  rw [e3, e 5 (by decide) (by decide), e 6 (by decide) (by decide), e 7 (by decide) (by decide), e 8 (by decide) (by decide), e 9 (by decide) (by decide), e 10 (by decide) (by decide), e 11 (by decide) (by decide), e 12 (by decide) (by decide), e 13 (by decide) (by decide), e 14 (by decide) (by decide), e 15 (by decide) (by decide), e 16 (by decide) (by decide), e 17 (by decide) (by decide)]
  exact h
/-- all rows of queues but those of q stay -/
def bk (q k i : Nat) : Prop := 34 ≤ k ∧ k ≤ 49 ∧ (if k ≤ 38 then i = q else if k ≤ 48 then 8 * q ≤ i ∧ i < 8 * q + 8 else 3 * q ≤ i ∧ i < 3 * q + 3)
def eR (q : Nat) (N M : ti_M) : Prop := (∀ k : Nat, k ≠ 33 → tI N 60 k = tI M 60 k) ∧ ∀ k i : Nat, ¬ bk q k i → tY N 60 k i = tY M 60 k i
theorem eR.refl {q : Nat} {M : ti_M} : eR q M M := ⟨fun _ _ => rfl, fun _ _ _ => rfl⟩
theorem eR.trans {q : Nat} {K N M : ti_M} (x : eR q K N) (y : eR q N M) : eR q K M := ⟨fun k h => (x.1 k h).trans (y.1 k h), fun k i h => (x.2 k i h).trans (y.2 k i h)⟩
theorem eR_I {q : Nat} {N M : ti_M} {v : Int32} (e : N = uI M 60 33 v) : eR q N M := ⟨fun _ h => tI_nE e (nk h), fun _ i _ => cg (tY_uIE e) i⟩
theorem eR_Z {q k : Nat} {N M : ti_M} {f : Nat → Int64} (e : N = uZ M 60 k f) : eR q N M := ⟨fun _ _ => tI_uZE e, fun _ i _ => cg (tY_uZE e) i⟩
theorem eR_Y {q k j : Nat} {N M : ti_M} {v : Int32} (e : N = uY M 60 k (upd (tY M 60 k) j v)) (h : bk q k j) : eR q N M := ⟨fun _ _ => tI_uYE e, fun k2 i hn => by
  by_cases r : k2 = k
  · subst r
    rw [tY_uE e, pk_un (fun r2 => hn (by subst r2; exact h))]
  · exact cg (tY_nE e (nk r)) i⟩
/-! the pile of the reference -/
def rz (st : Nat → Int) (t : Int) (M : ti_M) : Prop := ∀ j : Nat, (j : Int) < t → (tZ M 60 32 j).toInt = st j ∧ -1000000000000 ≤ st j ∧ st j ≤ 1000000000000
def rn6 (fa : Nat → Int) (n : Nat) (M : ti_M) : Prop := ∀ j : Nat, j < n → (tZ M 60 31 j).toInt = fa j ∧ -1000000000000 ≤ fa j ∧ fa j ≤ 1000000000000
section
variable {fa st : Nat → Int} {t t2 z j0 : Int} {n : Nat} {y : Int32} {v x : Int64} {M N : ti_M}
theorem rz_up (h : rz st t M) (e : N = uZ M 60 32 (vp_updL (tZ M 60 32) y.toNatClampNeg v)) (hy : y.toInt = j0) (h0 : 0 ≤ j0) (hv : v.toInt = z) (hz : -1000000000000 ≤ z ∧ z ≤ 1000000000000) (ht : ∀ j : Nat, (j : Int) < t2 → (j : Int) = j0 ∨ (j : Int) < t) : rz (pp_su st j0.toNat z) t2 N := by
  rw [i_cl (n := j0.toNat) (by omega)] at e
  intro j hj
  rw [tZ_uE e]
  unfold vp_updL
  by_cases q : j = j0.toNat
  · subst q
    rw [su_s, if_pos rfl]
    exact ⟨hv, hz⟩
  · rw [su_n q, if_neg q]
    exact h j (by rcases ht j hj with r | r; omega; exact r)
theorem rz_31 {f : Nat → Int64} (h : rz st t M) (e : N = uZ M 60 31 f) : rz st t N := fun j hj => by rw [tZ_nE e (nk (by decide))]; exact h j hj
theorem rz_I {k : Nat} {w : Int32} (h : rz st t M) (e : N = uI M 60 k w) : rz st t N := by subst e; exact h
theorem rz_t (h : rz st t M) (ht : t2 ≤ t) : rz st t2 M := fun j hj => h j (by omega)
theorem rz_1 (h : rz st t M) {i : Int32} (ex : x = tZ M 60 32 i.toNatClampNeg) (h0 : 0 ≤ i.toInt) (h1 : i.toInt < t) : x.toInt = st i.toInt.toNat ∧ -1000000000000 ≤ x.toInt ∧ x.toInt ≤ 1000000000000 := by
  rw [i_cl (n := i.toInt.toNat) (by omega)] at ex
  have q := h i.toInt.toNat (by omega)
  rw [ex, q.1]; exact ⟨rfl, q.2⟩
theorem rn6_I {k : Nat} {w : Int32} (h : rn6 fa n M) (e : N = uI M 60 k w) : rn6 fa n N := by subst e; exact h
theorem rn6_32 {f : Nat → Int64} (h : rn6 fa n M) (e : N = uZ M 60 32 f) : rn6 fa n N := fun j hj => by rw [tZ_nE e (nk (by decide))]; exact h j hj
theorem rn6_1 (h : rn6 fa n M) {i : Int32} (ex : x = tZ M 60 31 i.toNatClampNeg) (h0 : 0 ≤ i.toInt) (h1 : i.toInt < n) : x.toInt = fa i.toInt.toNat ∧ -1000000000000 ≤ x.toInt ∧ x.toInt ≤ 1000000000000 := by
  rw [i_cl (n := i.toInt.toNat) (by omega)] at ex
  have q := h i.toInt.toNat (by omega)
  rw [ex, q.1]; exact ⟨rfl, q.2⟩
theorem rn6_s (h : rn6 fa n M) (e : N = uZ M 60 31 (vp_updL (tZ M 60 31) y.toNatClampNeg v)) (hy : y.toInt = (n : Int)) (hv : v.toInt = fa n) (hb : -1000000000000 ≤ v.toInt ∧ v.toInt ≤ 1000000000000) : rn6 fa (n + 1) N := by
  rw [i_cl hy] at e
  intro j hj
  rw [tZ_uE e]
  unfold vp_updL
  by_cases q : j = n
  · subst q; rw [if_pos rfl, ← hv]; exact ⟨rfl, hb⟩
  · rw [if_neg q]; exact h j (by omega)
end
theorem rn6_0 {fa : Nat → Int} {M : ti_M} : rn6 fa 0 M := fun j hj => absurd hj (Nat.not_lt_zero _)
theorem l_abs {x z : Int64} (e : z = if 0 < x then x else -x) (h1 : -9223372036854775807 ≤ x.toInt) (h2 : x.toInt ≤ 9223372036854775807) : (0 < x.toInt ∧ z.toInt = x.toInt) ∨ (x.toInt ≤ 0 ∧ z.toInt = -x.toInt) := by
  have z0 : (0 : Int64).toInt = 0 := by decide
  by_cases h : 0 < x
  · rw [if_pos h] at e
    have := Int64.lt_iff_toInt_lt.mp h
    exact Or.inl ⟨by omega, by rw [e]⟩
  · rw [if_neg h] at e
    have : ¬ (0 : Int64).toInt < x.toInt := fun q => h (Int64.lt_iff_toInt_lt.mpr q)
    exact Or.inr ⟨by omega, l_neg e rfl h1 h2⟩
/-- whether a product is too much, by a quotient -/
theorem bl_mr {a b n m w : Int} (hn : (a < 0 ∧ n = -a) ∨ (0 < a ∧ n = a)) (hm : m = Int.tdiv 1000000000000 n) (hw : (b < 0 ∧ w = -b) ∨ (0 ≤ b ∧ w = b)) : w ≤ m ↔ (a * b ≤ 1000000000000 ∧ -1000000000000 ≤ a * b) := by
  rw [← bl_mq hn hm]; omega
/-! all ints but how many are worked stay -/
def fI (N M : ti_M) : Prop := ∀ k : Nat, k ≠ 33 → tI N 60 k = tI M 60 k
theorem fI.refl {M : ti_M} : fI M M := fun _ _ => rfl
theorem fI.trans {K N M : ti_M} (x : fI K N) (y : fI N M) : fI K M := fun k h => (x k h).trans (y k h)
theorem fI_I {N M : ti_M} {v : Int32} (e : N = uI M 60 33 v) : fI N M := fun _ h => tI_nE e (nk h)
theorem fI_Z {k : Nat} {N M : ti_M} {f : Nat → Int64} (e : N = uZ M 60 k f) : fI N M := fun _ _ => tI_uZE e
theorem fI_Y {k : Nat} {N M : ti_M} {f : Nat → Int32} (e : N = uY M 60 k f) : fI N M := fun _ _ => tI_uYE e
theorem eR_fI {q : Nat} {N M : ti_M} (h : fI N M) (e : N.2.1 = M.2.1) : eR q N M := ⟨h, fun _ i _ => cg (tY_fr e) i⟩
theorem bk_q {q k : Nat} {z : Int32} (hz : z.toInt = (q : Int)) (h : 34 ≤ k ∧ k ≤ 38) : bk q k z.toNatClampNeg := ⟨h.1, by omega, by rw [if_pos h.2, i_cl hz]⟩
theorem bk_m {q k : Nat} {z : Int32} (hz : 8 * (q : Int) ≤ z.toInt ∧ z.toInt < 8 * (q : Int) + 8) (h : 39 ≤ k ∧ k ≤ 48) : bk q k z.toNatClampNeg := ⟨by omega, by omega, by
  rw [if_neg (by omega), if_pos h.2, i_cl (n := z.toInt.toNat) (by omega)]; omega⟩
theorem bk_p {q : Nat} {z : Int32} (hz : 3 * (q : Int) ≤ z.toInt ∧ z.toInt < 3 * (q : Int) + 3) : bk q 49 z.toNatClampNeg := ⟨by decide, by decide, by
  rw [if_neg (by decide), if_neg (by decide), i_cl (n := z.toInt.toNat) (by omega)]; omega⟩

variable {Tc : gC} {Tm : gM}
variable {Tc : gC} {Tm : gM}
/-! who joins, who leaves: the reference's rows beside the registers -/
theorem bt_clr {c x y w z : Int32} {k : Int} (ey : y = (1 : Int32) <<< (x &&& 31)) (hx : x.toInt = k) (h0 : 0 ≤ k) (h1 : k < 32) (ew : w = y ^^^ (-1)) (ez : z = c &&& w) (j : Nat) (hj : j < 32) : pp_bt z j = if j = k.toNat then 0 else pp_bt c j := by
  have hy := bt_x ey hx h0 h1
  have hz : z.toBitVec = c.toBitVec &&& (BitVec.twoPow 32 k.toNat ^^^ (-1 : Int32).toBitVec) := by rw [ez, Int32.toBitVec_and, ew, Int32.toBitVec_xor, hy]
  have hm : (-1 : Int32).toBitVec = BitVec.allOnes 32 := by decide
  unfold pp_bt
  rw [hz, hm, BitVec.getLsbD_and, BitVec.getLsbD_xor, BitVec.getLsbD_twoPow, BitVec.getLsbD_allOnes]
  by_cases q : j = k.toNat
  · subst q
    rw [if_pos rfl]
    simp [hj]
  · rw [if_neg q]
    have q2 : (k.toNat == j) = false := by simp; omega
    simp [q2, hj, Ne.symm q]
theorem q_joinR {M N : ti_M} {n q m i5 i8 i9 i0 : Nat} {s : Nat → Int} {v w o u : Int32} (h : qR n q s M) (hV : qV n q s M) (hn : n ≤ 8) (h3 : 0 ≤ s 3 ∧ s 3 < 8) (hm : m < n) (h0 : s (128 + m) = 0) (h38 : tY N 60 38 = upd (tY M 60 38) i8 v) (h39 : tY N 60 39 = upd (tY M 60 39) i9 w) (h40 : tY N 60 40 = upd (tY M 60 40) i0 o) (h45 : tY N 60 45 = upd (tY M 60 45) i5 u) (e8 : i8 = q) (hv : v.toInt = s 3 + 1) (e9 : (i9 : Int) = 8 * q + s 3) (hw : w.toInt = m) (e0 : i0 = 8 * q + m) (ho : o.toInt = 1) (e5 : i5 = 8 * q + m) (hu : u.toInt = s 2) (hk : ∀ k : Nat, k ≠ 38 → k ≠ 39 → k ≠ 40 → k ≠ 45 → tY N 60 k = tY M 60 k) : qR n q (bq_ap s m) N ∧ qV n q (bq_ap s m) N := by
  obtain ⟨a, b, c, d, f, g0⟩ := h
  obtain ⟨g, eg⟩ : ∃ g, g = bq_ap s m := ⟨_, rfl⟩
  rw [← eg]
  unfold bq_ap at eg
  rw [if_pos h3.2, show ((m : Int)).toNat = m by omega] at eg
  have g3 : g 3 = s 3 + 1 := by rw [eg, su_n (by omega), su_n (by omega), su_s]
  have gp : ∀ p : Nat, p < 8 → p ≠ (s 3).toNat → g (96 + p) = s (96 + p) := fun p hp hq => by rw [eg, su_n (by omega), su_n (by omega), su_n (by omega), su_n (by omega)]
  have gq : g (96 + (s 3).toNat) = m := by rw [eg, su_n (by omega), su_n (by omega), su_n (by omega), su_s]
  have gm : g (128 + m) = 1 := by rw [eg, su_n (by omega), su_s]
  have gs : ∀ j : Nat, j < 8 → j ≠ m → g (128 + j) = s (128 + j) := fun j hj hq => by rw [eg, su_n (by omega), su_n (by omega), su_n (by omega), su_n (by omega)]
  have gj : g (208 + m) = s 2 := by rw [eg, su_s]
  have gj2 : ∀ j : Nat, j < 8 → j ≠ m → g (208 + j) = s (208 + j) := fun j hj hq => by rw [eg, su_n (by omega), su_n (by omega), su_n (by omega), su_n (by omega)]
  have gk : ∀ k : Nat, k ≠ 3 → k < 96 ∨ (104 ≤ k ∧ k < 128) ∨ (136 ≤ k ∧ k < 208) ∨ 216 ≤ k → g k = s k := fun k hk hq => by rw [eg, su_n (by omega), su_n (by omega), su_n (by omega), su_n (by omega)]
  have o34 := hk 34 (by decide) (by decide) (by decide) (by decide)
  have o35 := hk 35 (by decide) (by decide) (by decide) (by decide)
  have o36 := hk 36 (by decide) (by decide) (by decide) (by decide)
  have o37 := hk 37 (by decide) (by decide) (by decide) (by decide)
  have o48 := hk 48 (by decide) (by decide) (by decide) (by decide)
  refine ⟨⟨⟨by rw [gk 2 (by decide) (by decide), o34]; exact a.1, by rw [g3, h38, e8, pk_us, hv], by rw [gk 4 (by decide) (by decide), o35]; exact a.2.2.1, by rw [gk 5 (by decide) (by decide), o36]; exact a.2.2.2⟩, fun p h1 h2 => ?_, fun j hj => by rw [gk (112 + j) (by omega) (by omega), hk 49 (by decide) (by decide) (by decide) (by decide)]; exact c j hj, fun m2 h2 => ?_, fun m2 h2 => ?_, ?_⟩, fun m2 h2 => ?_⟩
  · rw [g3] at h2
    by_cases r : p = (s 3).toNat
    · subst r; rw [gq, h39, show 8 * q + (s 3).toNat = i9 by omega, pk_us, hw]
    · rw [gp p h1 r, h39, pk_un (by omega)]; exact b p h1 (by omega)
  · have d2 := d m2 h2
    rw [gk (144 + m2) (by omega) (by omega), gk (160 + m2) (by omega) (by omega), gk (176 + m2) (by omega) (by omega), gk (192 + m2) (by omega) (by omega), gk (240 + m2) (by omega) (by omega), hk 44 (by decide) (by decide) (by decide) (by decide), hk 41 (by decide) (by decide) (by decide) (by decide), hk 42 (by decide) (by decide) (by decide) (by decide), hk 43 (by decide) (by decide) (by decide) (by decide), hk 47 (by decide) (by decide) (by decide) (by decide)]
    refine ⟨?_, d2.2⟩
    by_cases r : m2 = m
    · subst r; rw [gm, h40, e0, pk_us, ho]
    · rw [gs m2 (by omega) r, h40, pk_un (by omega)]; exact d2.1
  · have f2 := f m2 h2
    rw [gk (224 + m2) (by omega) (by omega), hk 46 (by decide) (by decide) (by decide) (by decide)]
    by_cases r : m2 = m
    · subst r; rw [gm, gj, h45, e5, pk_us]; exact ⟨fun _ => hu.symm, fun q2 => by omega⟩
    · rw [gs m2 (by omega) r, gj2 m2 (by omega) r, h45, pk_un (by omega)]; exact f2
  · rw [gk 1 (by decide) (by decide), o37]
    split at g0
    · rename_i z
      rw [if_pos z]
      intro m2 h2
      rw [gk (256 + m2) (by omega) (by omega)]; exact g0 m2 h2
    · rename_i z
      rw [if_neg z]; exact g0
  · have v2 := hV m2 h2
    rw [o48, v2, gk (224 + m2) (by omega) (by omega)]
    by_cases r : m2 = m
    · subst r; rw [gm, h0, if_neg (by decide), if_neg (by decide)]
    · rw [gs m2 (by omega) r]
theorem q_leaveR {M N : ti_M} {n q m pl i8 i0 i7 : Nat} {s : Nat → Int} {v ho t c1 zz : Int32} (h : qR n q s M) (hV : qV n q s M) (hn : n ≤ 8) (h3 : s 3 ≤ 8) (hp : (pl : Int) < s 3) (hm : m < n) (em : s (96 + pl) = m) (h1 : s (128 + m) = 1) (hho : 2 ≤ ho.toInt) (h38 : tY N 60 38 = upd (tY M 60 38) i8 v) (h39 : ∀ i : Nat, tY N 60 39 i = if 8 * q + pl ≤ i ∧ (i : Int) < 8 * q + (s 3 - 1) then tY M 60 39 (i + 1) else tY M 60 39 i) (h40 : tY N 60 40 = upd (tY M 60 40) i0 ho) (h46 : tY N 60 46 = upd (tY M 60 46) i0 t) (h47 : tY N 60 47 = upd (tY M 60 47) i0 zz) (h37 : tY N 60 37 = upd (tY M 60 37) i7 c1) (h48 : (ho.toInt = 2 ∧ tY N 60 48 = upd (tY M 60 48) i0 t) ∨ (ho.toInt ≠ 2 ∧ tY N 60 48 = tY M 60 48)) (e8 : i8 = q) (e7 : i7 = q) (hv : v.toInt = s 3 - 1) (e0 : i0 = 8 * q + m) (ht : t.toInt = s 2) (hz : zz.toInt = 0) (hc : ∀ j : Nat, j < 8 → pp_bt c1 j = if j = m then 0 else pp_bt (tY M 60 37 q) j) (hc0 : tY M 60 37 q = 0 → c1 = 0) (hk : ∀ k : Nat, k ≠ 37 → k ≠ 38 → k ≠ 39 → k ≠ 40 → k ≠ 46 → k ≠ 47 → k ≠ 48 → 34 ≤ k → k ≤ 49 → tY N 60 k = tY M 60 k) : qR n q (bq_rm s pl ho.toInt) N ∧ qV n q (bq_rm s pl ho.toInt) N := by
  obtain ⟨a, b, c, d, f, g0⟩ := h
  obtain ⟨g, eg⟩ : ∃ g, g = bq_rm s pl ho.toInt := ⟨_, rfl⟩
  rw [← eg]
  unfold bq_rm bq_r2 at eg
  rw [ma_at hp, em, if_neg (by omega), show ((m : Int)).toNat = m by omega] at eg
  have g3 : g 3 = s 3 - 1 := by rw [eg, su_n (by omega), su_n (by omega), su_n (by omega), su_n (by omega), sf_k (by decide), su_s]
  have gp : ∀ r : Nat, r < 8 → g (96 + r) = if pl ≤ r ∧ (r : Int) < s 3 - 1 then s (96 + r + 1) else s (96 + r) := fun r hr => by
    rw [eg, su_n (by omega), su_n (by omega), su_n (by omega), su_n (by omega), sf_at]
    by_cases z : pl ≤ r ∧ (r : Int) < s 3 - 1
    · rw [if_pos (by omega), if_pos z, su_n (by omega)]
    · rw [if_neg (by omega), if_neg z, su_n (by omega)]
  have gm : g (128 + m) = ho.toInt := by rw [eg, su_n (by omega), su_n (by omega), su_n (by omega), su_s]
  have gl : g (224 + m) = s 2 := by rw [eg, su_n (by omega), su_n (by omega), su_s]
  have gn : g (240 + m) = 0 := by rw [eg, su_n (by omega), su_s]
  have gc : g (256 + m) = 0 := by rw [eg, su_s]
  have gk : ∀ k : Nat, k ≠ 3 → k < 96 ∨ 104 ≤ k → k ≠ 128 + m → k ≠ 224 + m → k ≠ 240 + m → k ≠ 256 + m → g k = s k := fun k hk hq k1 k2 k3 k4 => by
    rw [eg, su_n k4, su_n k3, su_n k2, su_n k1, sf_at, if_neg (by omega), su_n hk]
  have K := fun k h1 h2 h3 h4 h5 h6 h7 => hk k h1 h2 h3 h4 h5 h6 h7
  refine ⟨⟨⟨by rw [gk 2 (by decide) (by decide) (by omega) (by omega) (by omega) (by omega), hk 34 (by decide) (by decide) (by decide) (by decide) (by decide) (by decide) (by decide) (by decide) (by decide)]; exact a.1, by rw [g3, h38, e8, pk_us, hv], by rw [gk 4 (by decide) (by decide) (by omega) (by omega) (by omega) (by omega), hk 35 (by decide) (by decide) (by decide) (by decide) (by decide) (by decide) (by decide) (by decide) (by decide)]; exact a.2.2.1, by rw [gk 5 (by decide) (by decide) (by omega) (by omega) (by omega) (by omega), hk 36 (by decide) (by decide) (by decide) (by decide) (by decide) (by decide) (by decide) (by decide) (by decide)]; exact a.2.2.2⟩, fun p x1 x2 => ?_, fun j hj => by rw [gk (112 + j) (by omega) (by omega) (by omega) (by omega) (by omega) (by omega), hk 49 (by decide) (by decide) (by decide) (by decide) (by decide) (by decide) (by decide) (by decide) (by decide)]; exact c j hj, fun m2 x2 => ?_, fun m2 x2 => ?_, ?_⟩, fun m2 x2 => ?_⟩
  · rw [g3] at x2
    rw [gp p x1, h39]
    by_cases z : pl ≤ p
    · rw [if_pos ⟨z, x2⟩, if_pos (by omega), show 8 * q + p + 1 = 8 * q + (p + 1) by omega]; exact b (p + 1) (by omega) (by omega)
    · rw [if_neg (by omega), if_neg (by omega)]; exact b p x1 (by omega)
  · have d2 := d m2 x2
    rw [gk (144 + m2) (by omega) (by omega) (by omega) (by omega) (by omega) (by omega), gk (160 + m2) (by omega) (by omega) (by omega) (by omega) (by omega) (by omega), gk (176 + m2) (by omega) (by omega) (by omega) (by omega) (by omega) (by omega), gk (192 + m2) (by omega) (by omega) (by omega) (by omega) (by omega) (by omega), hk 44 (by decide) (by decide) (by decide) (by decide) (by decide) (by decide) (by decide) (by decide) (by decide), hk 41 (by decide) (by decide) (by decide) (by decide) (by decide) (by decide) (by decide) (by decide) (by decide), hk 42 (by decide) (by decide) (by decide) (by decide) (by decide) (by decide) (by decide) (by decide) (by decide), hk 43 (by decide) (by decide) (by decide) (by decide) (by decide) (by decide) (by decide) (by decide) (by decide)]
    by_cases r : m2 = m
    · subst r; rw [gm, gn, h40, h47, e0, pk_us, pk_us, hz]; exact ⟨rfl, d2.2.1, d2.2.2.1, d2.2.2.2.1, d2.2.2.2.2.1, rfl⟩
    · rw [gk (128 + m2) (by omega) (by omega) (by omega) (by omega) (by omega) (by omega), gk (240 + m2) (by omega) (by omega) (by omega) (by omega) (by omega) (by omega), h40, h47, pk_un (by omega), pk_un (by omega)]; exact d2
  · have f2 := f m2 x2
    rw [gk (208 + m2) (by omega) (by omega) (by omega) (by omega) (by omega) (by omega), hk 45 (by decide) (by decide) (by decide) (by decide) (by decide) (by decide) (by decide) (by decide) (by decide)]
    by_cases r : m2 = m
    · subst r; rw [gm, gl, h46, e0, pk_us]; exact ⟨fun _ => f2.1 (by omega), fun _ => ht.symm⟩
    · rw [gk (128 + m2) (by omega) (by omega) (by omega) (by omega) (by omega) (by omega), gk (224 + m2) (by omega) (by omega) (by omega) (by omega) (by omega) (by omega), h46, pk_un (by omega)]; exact f2
  · rw [gk 1 (by decide) (by decide) (by omega) (by omega) (by omega) (by omega), h37, e7, pk_us]
    split at g0
    · rename_i z
      rw [if_pos z]
      intro m2 x2
      rw [hc m2 x2]
      by_cases r : m2 = m
      · subst r; rw [if_pos rfl, gc]
      · rw [if_neg r, gk (256 + m2) (by omega) (by omega) (by omega) (by omega) (by omega) (by omega)]; exact g0 m2 x2
    · rename_i z
      rw [if_neg z]; exact hc0 g0
  · have v2 := hV m2 x2
    by_cases r : m2 = m
    · subst r
      rw [h1, if_neg (by decide)] at v2
      rw [gm, gl]
      rcases h48 with ⟨w1, w2⟩ | ⟨w1, w2⟩
      · rw [if_pos w1, w2, e0, pk_us, ht]
      · rw [if_neg w1, w2, v2]
    · rw [gk (128 + m2) (by omega) (by omega) (by omega) (by omega) (by omega) (by omega), gk (224 + m2) (by omega) (by omega) (by omega) (by omega) (by omega) (by omega), ← v2]
      rcases h48 with ⟨w1, w2⟩ | ⟨w1, w2⟩
      · rw [w2, pk_un (by omega)]
      · rw [w2]

variable {Tc : gC} {Tm : gM}
variable {Tc : gC} {Tm : gM}
theorem rd_k {M : ti_M} {k n : Nat} {z v : Int32} (hz : z.toInt = (n : Int)) (pf : tY M 60 k z.toNatClampNeg = v) : (tY M 60 k n).toInt = v.toInt := by rw [i_cl hz] at pf; rw [pf]
theorem eR_lw {q : Nat} {N M : ti_M} (h : eR q N M) : lw N M := fun k h1 h2 => funext fun i => h.2 k i (fun b => by have := b.1; omega)
theorem qR_41 {n q m : Nat} {s : Nat → Int} {M N : ti_M} {z v : Int32} {x : Int} (h : qR n q s M) (hz : z.toInt = ((8 * q + m : Nat) : Int)) (hv : v.toInt = x) (e : N = uY M 60 41 (upd (tY M 60 41) z.toNatClampNeg v)) (hm : m < 8) (hn : n ≤ 8) : qR n q (pp_su s (160 + m) x) N := by
  rw [i_cl hz] at e
  obtain ⟨a, b, c, d, f, g⟩ := h
  have o : ∀ k2 : Nat, k2 ≠ 41 → tY N 60 k2 = tY M 60 k2 := fun k2 h2 => tY_nE e (nk h2)
  have gk : ∀ j : Nat, j ≠ 160 + m → pp_su s (160 + m) x j = s j := fun j hj => su_n hj
  have gs : pp_su s (160 + m) x (160 + m) = x := su_s
  refine ⟨by rw [gk 2 (by omega), gk 3 (by omega), gk 4 (by omega), gk 5 (by omega), o 34 (by decide), o 38 (by decide), o 35 (by decide), o 36 (by decide)]; exact a, fun p h1 h2 => ?_, fun j hj => by rw [gk (112 + j) (by omega), o 49 (by decide)]; exact c j hj, fun m2 h2 => ?_, fun m2 h2 => ?_, ?_⟩
  · rw [gk 3 (by omega)] at h2
    rw [gk (96 + p) (by omega), o 39 (by decide)]; exact b p h1 h2
  · refine ⟨by rw [gk _ (by omega), o 40 (by decide)]; exact (d m2 h2).1, by rw [gk _ (by omega), o 44 (by decide)]; exact (d m2 h2).2.1, by
      by_cases w : m2 = m
      · subst w; rw [gs, tY_uE e, pk_us, hv]
      · rw [gk _ (by omega), tY_uE e, pk_un (by omega)]; exact (d m2 h2).2.2.1, by rw [gk _ (by omega), o 42 (by decide)]; exact (d m2 h2).2.2.2.1, by rw [gk _ (by omega), o 43 (by decide)]; exact (d m2 h2).2.2.2.2.1, by rw [gk _ (by omega), o 47 (by decide)]; exact (d m2 h2).2.2.2.2.2⟩
  · rw [gk (128 + m2) (by omega), gk (208 + m2) (by omega), gk (224 + m2) (by omega), o 45 (by decide), o 46 (by decide)]; exact f m2 h2
  · rw [gk 1 (by omega), o 37 (by decide)]
    split at g
    · rename_i w
      rw [if_pos w]
      intro m2 h2
      rw [gk (256 + m2) (by omega)]; exact g m2 h2
    · rename_i w
      rw [if_neg w]; exact g
theorem qR_42 {n q m : Nat} {s : Nat → Int} {M N : ti_M} {z v : Int32} {x : Int} (h : qR n q s M) (hz : z.toInt = ((8 * q + m : Nat) : Int)) (hv : v.toInt = x) (e : N = uY M 60 42 (upd (tY M 60 42) z.toNatClampNeg v)) (hm : m < 8) (hn : n ≤ 8) : qR n q (pp_su s (176 + m) x) N := by
  rw [i_cl hz] at e
  obtain ⟨a, b, c, d, f, g⟩ := h
  have o : ∀ k2 : Nat, k2 ≠ 42 → tY N 60 k2 = tY M 60 k2 := fun k2 h2 => tY_nE e (nk h2)
  have gk : ∀ j : Nat, j ≠ 176 + m → pp_su s (176 + m) x j = s j := fun j hj => su_n hj
  have gs : pp_su s (176 + m) x (176 + m) = x := su_s
  refine ⟨by rw [gk 2 (by omega), gk 3 (by omega), gk 4 (by omega), gk 5 (by omega), o 34 (by decide), o 38 (by decide), o 35 (by decide), o 36 (by decide)]; exact a, fun p h1 h2 => ?_, fun j hj => by rw [gk (112 + j) (by omega), o 49 (by decide)]; exact c j hj, fun m2 h2 => ?_, fun m2 h2 => ?_, ?_⟩
  · rw [gk 3 (by omega)] at h2
    rw [gk (96 + p) (by omega), o 39 (by decide)]; exact b p h1 h2
  · refine ⟨by rw [gk _ (by omega), o 40 (by decide)]; exact (d m2 h2).1, by rw [gk _ (by omega), o 44 (by decide)]; exact (d m2 h2).2.1, by rw [gk _ (by omega), o 41 (by decide)]; exact (d m2 h2).2.2.1, by
      by_cases w : m2 = m
      · subst w; rw [gs, tY_uE e, pk_us, hv]
      · rw [gk _ (by omega), tY_uE e, pk_un (by omega)]; exact (d m2 h2).2.2.2.1, by rw [gk _ (by omega), o 43 (by decide)]; exact (d m2 h2).2.2.2.2.1, by rw [gk _ (by omega), o 47 (by decide)]; exact (d m2 h2).2.2.2.2.2⟩
  · rw [gk (128 + m2) (by omega), gk (208 + m2) (by omega), gk (224 + m2) (by omega), o 45 (by decide), o 46 (by decide)]; exact f m2 h2
  · rw [gk 1 (by omega), o 37 (by decide)]
    split at g
    · rename_i w
      rw [if_pos w]
      intro m2 h2
      rw [gk (256 + m2) (by omega)]; exact g m2 h2
    · rename_i w
      rw [if_neg w]; exact g
theorem qR_43 {n q m : Nat} {s : Nat → Int} {M N : ti_M} {z v : Int32} {x : Int} (h : qR n q s M) (hz : z.toInt = ((8 * q + m : Nat) : Int)) (hv : v.toInt = x) (e : N = uY M 60 43 (upd (tY M 60 43) z.toNatClampNeg v)) (hm : m < 8) (hn : n ≤ 8) : qR n q (pp_su s (192 + m) x) N := by
  rw [i_cl hz] at e
  obtain ⟨a, b, c, d, f, g⟩ := h
  have o : ∀ k2 : Nat, k2 ≠ 43 → tY N 60 k2 = tY M 60 k2 := fun k2 h2 => tY_nE e (nk h2)
  have gk : ∀ j : Nat, j ≠ 192 + m → pp_su s (192 + m) x j = s j := fun j hj => su_n hj
  have gs : pp_su s (192 + m) x (192 + m) = x := su_s
  refine ⟨by rw [gk 2 (by omega), gk 3 (by omega), gk 4 (by omega), gk 5 (by omega), o 34 (by decide), o 38 (by decide), o 35 (by decide), o 36 (by decide)]; exact a, fun p h1 h2 => ?_, fun j hj => by rw [gk (112 + j) (by omega), o 49 (by decide)]; exact c j hj, fun m2 h2 => ?_, fun m2 h2 => ?_, ?_⟩
  · rw [gk 3 (by omega)] at h2
    rw [gk (96 + p) (by omega), o 39 (by decide)]; exact b p h1 h2
  · refine ⟨by rw [gk _ (by omega), o 40 (by decide)]; exact (d m2 h2).1, by rw [gk _ (by omega), o 44 (by decide)]; exact (d m2 h2).2.1, by rw [gk _ (by omega), o 41 (by decide)]; exact (d m2 h2).2.2.1, by rw [gk _ (by omega), o 42 (by decide)]; exact (d m2 h2).2.2.2.1, by
      by_cases w : m2 = m
      · subst w; rw [gs, tY_uE e, pk_us, hv]
      · rw [gk _ (by omega), tY_uE e, pk_un (by omega)]; exact (d m2 h2).2.2.2.2.1, by rw [gk _ (by omega), o 47 (by decide)]; exact (d m2 h2).2.2.2.2.2⟩
  · rw [gk (128 + m2) (by omega), gk (208 + m2) (by omega), gk (224 + m2) (by omega), o 45 (by decide), o 46 (by decide)]; exact f m2 h2
  · rw [gk 1 (by omega), o 37 (by decide)]
    split at g
    · rename_i w
      rw [if_pos w]
      intro m2 h2
      rw [gk (256 + m2) (by omega)]; exact g m2 h2
    · rename_i w
      rw [if_neg w]; exact g
theorem qR_44 {n q m : Nat} {s : Nat → Int} {M N : ti_M} {z v : Int32} {x : Int} (h : qR n q s M) (hz : z.toInt = ((8 * q + m : Nat) : Int)) (hv : v.toInt = x) (e : N = uY M 60 44 (upd (tY M 60 44) z.toNatClampNeg v)) (hm : m < 8) (hn : n ≤ 8) : qR n q (pp_su s (144 + m) x) N := by
  rw [i_cl hz] at e
  obtain ⟨a, b, c, d, f, g⟩ := h
  have o : ∀ k2 : Nat, k2 ≠ 44 → tY N 60 k2 = tY M 60 k2 := fun k2 h2 => tY_nE e (nk h2)
  have gk : ∀ j : Nat, j ≠ 144 + m → pp_su s (144 + m) x j = s j := fun j hj => su_n hj
  have gs : pp_su s (144 + m) x (144 + m) = x := su_s
  refine ⟨by rw [gk 2 (by omega), gk 3 (by omega), gk 4 (by omega), gk 5 (by omega), o 34 (by decide), o 38 (by decide), o 35 (by decide), o 36 (by decide)]; exact a, fun p h1 h2 => ?_, fun j hj => by rw [gk (112 + j) (by omega), o 49 (by decide)]; exact c j hj, fun m2 h2 => ?_, fun m2 h2 => ?_, ?_⟩
  · rw [gk 3 (by omega)] at h2
    rw [gk (96 + p) (by omega), o 39 (by decide)]; exact b p h1 h2
  · refine ⟨by rw [gk _ (by omega), o 40 (by decide)]; exact (d m2 h2).1, by
      by_cases w : m2 = m
      · subst w; rw [gs, tY_uE e, pk_us, hv]
      · rw [gk _ (by omega), tY_uE e, pk_un (by omega)]; exact (d m2 h2).2.1, by rw [gk _ (by omega), o 41 (by decide)]; exact (d m2 h2).2.2.1, by rw [gk _ (by omega), o 42 (by decide)]; exact (d m2 h2).2.2.2.1, by rw [gk _ (by omega), o 43 (by decide)]; exact (d m2 h2).2.2.2.2.1, by rw [gk _ (by omega), o 47 (by decide)]; exact (d m2 h2).2.2.2.2.2⟩
  · rw [gk (128 + m2) (by omega), gk (208 + m2) (by omega), gk (224 + m2) (by omega), o 45 (by decide), o 46 (by decide)]; exact f m2 h2
  · rw [gk 1 (by omega), o 37 (by decide)]
    split at g
    · rename_i w
      rw [if_pos w]
      intro m2 h2
      rw [gk (256 + m2) (by omega)]; exact g m2 h2
    · rename_i w
      rw [if_neg w]; exact g
theorem qR_47 {n q m : Nat} {s : Nat → Int} {M N : ti_M} {z v : Int32} {x : Int} (h : qR n q s M) (hz : z.toInt = ((8 * q + m : Nat) : Int)) (hv : v.toInt = x) (e : N = uY M 60 47 (upd (tY M 60 47) z.toNatClampNeg v)) (hm : m < 8) (hn : n ≤ 8) : qR n q (pp_su s (240 + m) x) N := by
  rw [i_cl hz] at e
  obtain ⟨a, b, c, d, f, g⟩ := h
  have o : ∀ k2 : Nat, k2 ≠ 47 → tY N 60 k2 = tY M 60 k2 := fun k2 h2 => tY_nE e (nk h2)
  have gk : ∀ j : Nat, j ≠ 240 + m → pp_su s (240 + m) x j = s j := fun j hj => su_n hj
  have gs : pp_su s (240 + m) x (240 + m) = x := su_s
  refine ⟨by rw [gk 2 (by omega), gk 3 (by omega), gk 4 (by omega), gk 5 (by omega), o 34 (by decide), o 38 (by decide), o 35 (by decide), o 36 (by decide)]; exact a, fun p h1 h2 => ?_, fun j hj => by rw [gk (112 + j) (by omega), o 49 (by decide)]; exact c j hj, fun m2 h2 => ?_, fun m2 h2 => ?_, ?_⟩
  · rw [gk 3 (by omega)] at h2
    rw [gk (96 + p) (by omega), o 39 (by decide)]; exact b p h1 h2
  · refine ⟨by rw [gk _ (by omega), o 40 (by decide)]; exact (d m2 h2).1, by rw [gk _ (by omega), o 44 (by decide)]; exact (d m2 h2).2.1, by rw [gk _ (by omega), o 41 (by decide)]; exact (d m2 h2).2.2.1, by rw [gk _ (by omega), o 42 (by decide)]; exact (d m2 h2).2.2.2.1, by rw [gk _ (by omega), o 43 (by decide)]; exact (d m2 h2).2.2.2.2.1, by
      by_cases w : m2 = m
      · subst w; rw [gs, tY_uE e, pk_us, hv]
      · rw [gk _ (by omega), tY_uE e, pk_un (by omega)]; exact (d m2 h2).2.2.2.2.2⟩
  · rw [gk (128 + m2) (by omega), gk (208 + m2) (by omega), gk (224 + m2) (by omega), o 45 (by decide), o 46 (by decide)]; exact f m2 h2
  · rw [gk 1 (by omega), o 37 (by decide)]
    split at g
    · rename_i w
      rw [if_pos w]
      intro m2 h2
      rw [gk (256 + m2) (by omega)]; exact g m2 h2
    · rename_i w
      rw [if_neg w]; exact g
theorem qR_35 {n q : Nat} {s : Nat → Int} {M N : ti_M} {z v : Int32} {x : Int} (h : qR n q s M) (hz : z.toInt = (q : Int)) (hv : v.toInt = x) (e : N = uY M 60 35 (upd (tY M 60 35) z.toNatClampNeg v)) : qR n q (pp_su s 4 x) N := by
  rw [i_cl hz] at e
  obtain ⟨a, b, c, d, f, g⟩ := h
  have o : ∀ k2 : Nat, k2 ≠ 35 → tY N 60 k2 = tY M 60 k2 := fun k2 h2 => tY_nE e (nk h2)
  have gk : ∀ j : Nat, j ≠ 4 → pp_su s 4 x j = s j := fun j hj => su_n hj
  have gs : pp_su s 4 x 4 = (tY N 60 35 q).toInt := by rw [su_s, tY_uE e, pk_us, hv]
  refine ⟨by rw [gs, gk 2 (by decide), gk 3 (by decide), gk 5 (by decide), o 34 (by decide), o 38 (by decide), o 36 (by decide)]; exact ⟨a.1, a.2.1, rfl, a.2.2.2⟩, fun p h1 h2 => ?_, fun j hj => by rw [gk (112 + j) (by omega), o 49 (by decide)]; exact c j hj, fun m2 h2 => ?_, fun m2 h2 => ?_, ?_⟩
  · rw [gk 3 (by decide)] at h2
    rw [gk (96 + p) (by omega), o 39 (by decide)]; exact b p h1 h2
  · rw [gk (128 + m2) (by omega), gk (144 + m2) (by omega), gk (160 + m2) (by omega), gk (176 + m2) (by omega), gk (192 + m2) (by omega), gk (240 + m2) (by omega), o 40 (by decide), o 44 (by decide), o 41 (by decide), o 42 (by decide), o 43 (by decide), o 47 (by decide)]; exact d m2 h2
  · rw [gk (128 + m2) (by omega), gk (208 + m2) (by omega), gk (224 + m2) (by omega), o 45 (by decide), o 46 (by decide)]; exact f m2 h2
  · rw [gk 1 (by decide), o 37 (by decide)]
    split at g
    · rename_i w
      rw [if_pos w]
      intro m2 h2
      rw [gk (256 + m2) (by omega)]; exact g m2 h2
    · rename_i w
      rw [if_neg w]; exact g
theorem qR_36 {n q : Nat} {s : Nat → Int} {M N : ti_M} {z v : Int32} {x : Int} (h : qR n q s M) (hz : z.toInt = (q : Int)) (hv : v.toInt = x) (e : N = uY M 60 36 (upd (tY M 60 36) z.toNatClampNeg v)) : qR n q (pp_su s 5 x) N := by
  rw [i_cl hz] at e
  obtain ⟨a, b, c, d, f, g⟩ := h
  have o : ∀ k2 : Nat, k2 ≠ 36 → tY N 60 k2 = tY M 60 k2 := fun k2 h2 => tY_nE e (nk h2)
  have gk : ∀ j : Nat, j ≠ 5 → pp_su s 5 x j = s j := fun j hj => su_n hj
  have gs : pp_su s 5 x 5 = (tY N 60 36 q).toInt := by rw [su_s, tY_uE e, pk_us, hv]
  refine ⟨by rw [gs, gk 2 (by decide), gk 3 (by decide), gk 4 (by decide), o 34 (by decide), o 38 (by decide), o 35 (by decide)]; exact ⟨a.1, a.2.1, a.2.2.1, rfl⟩, fun p h1 h2 => ?_, fun j hj => by rw [gk (112 + j) (by omega), o 49 (by decide)]; exact c j hj, fun m2 h2 => ?_, fun m2 h2 => ?_, ?_⟩
  · rw [gk 3 (by decide)] at h2
    rw [gk (96 + p) (by omega), o 39 (by decide)]; exact b p h1 h2
  · rw [gk (128 + m2) (by omega), gk (144 + m2) (by omega), gk (160 + m2) (by omega), gk (176 + m2) (by omega), gk (192 + m2) (by omega), gk (240 + m2) (by omega), o 40 (by decide), o 44 (by decide), o 41 (by decide), o 42 (by decide), o 43 (by decide), o 47 (by decide)]; exact d m2 h2
  · rw [gk (128 + m2) (by omega), gk (208 + m2) (by omega), gk (224 + m2) (by omega), o 45 (by decide), o 46 (by decide)]; exact f m2 h2
  · rw [gk 1 (by decide), o 37 (by decide)]
    split at g
    · rename_i w
      rw [if_pos w]
      intro m2 h2
      rw [gk (256 + m2) (by omega)]; exact g m2 h2
    · rename_i w
      rw [if_neg w]; exact g
theorem qR_34 {n q : Nat} {s : Nat → Int} {M N : ti_M} {z v : Int32} {x : Int} (h : qR n q s M) (hz : z.toInt = (q : Int)) (hv : v.toInt = x) (e : N = uY M 60 34 (upd (tY M 60 34) z.toNatClampNeg v)) : qR n q (pp_su s 2 x) N := by
  rw [i_cl hz] at e
  obtain ⟨a, b, c, d, f, g⟩ := h
  have o : ∀ k2 : Nat, k2 ≠ 34 → tY N 60 k2 = tY M 60 k2 := fun k2 h2 => tY_nE e (nk h2)
  have gk : ∀ j : Nat, j ≠ 2 → pp_su s 2 x j = s j := fun j hj => su_n hj
  have gs : pp_su s 2 x 2 = (tY N 60 34 q).toInt := by rw [su_s, tY_uE e, pk_us, hv]
  refine ⟨by rw [gs, gk 3 (by decide), gk 4 (by decide), gk 5 (by decide), o 38 (by decide), o 35 (by decide), o 36 (by decide)]; exact ⟨rfl, a.2⟩, fun p h1 h2 => ?_, fun j hj => by rw [gk (112 + j) (by omega), o 49 (by decide)]; exact c j hj, fun m2 h2 => ?_, fun m2 h2 => ?_, ?_⟩
  · rw [gk 3 (by decide)] at h2
    rw [gk (96 + p) (by omega), o 39 (by decide)]; exact b p h1 h2
  · rw [gk (128 + m2) (by omega), gk (144 + m2) (by omega), gk (160 + m2) (by omega), gk (176 + m2) (by omega), gk (192 + m2) (by omega), gk (240 + m2) (by omega), o 40 (by decide), o 44 (by decide), o 41 (by decide), o 42 (by decide), o 43 (by decide), o 47 (by decide)]; exact d m2 h2
  · rw [gk (128 + m2) (by omega), gk (208 + m2) (by omega), gk (224 + m2) (by omega), o 45 (by decide), o 46 (by decide)]; exact f m2 h2
  · rw [gk 1 (by decide), o 37 (by decide)]
    split at g
    · rename_i w
      rw [if_pos w]
      intro m2 h2
      rw [gk (256 + m2) (by omega)]; exact g m2 h2
    · rename_i w
      rw [if_neg w]; exact g
theorem qR_rows {n q : Nat} {s : Nat → Int} {M N : ti_M} (h : qR n q s M) (o : ∀ k i : Nat, bk q k i → tY N 60 k i = tY M 60 k i) (hn : n ≤ 8) : qR n q s N := by
  obtain ⟨a, b, c, d, f, g⟩ := h
  have q1 : ∀ k : Nat, 34 ≤ k → k ≤ 38 → tY N 60 k q = tY M 60 k q := fun k h1 h2 => o k q ⟨h1, by omega, by rw [if_pos h2]⟩
  have q8 : ∀ k i : Nat, 39 ≤ k → k ≤ 48 → i < 8 → tY N 60 k (8 * q + i) = tY M 60 k (8 * q + i) := fun k i h1 h2 h3 => o k _ ⟨by omega, by omega, by rw [if_neg (by omega), if_pos h2]; omega⟩
  refine ⟨by rw [q1 34 (by decide) (by decide), q1 38 (by decide) (by decide), q1 35 (by decide) (by decide), q1 36 (by decide) (by decide)]; exact a, fun p h1 h2 => by rw [q8 39 p (by decide) (by decide) h1]; exact b p h1 h2, fun j hj => by rw [o 49 (3 * q + j) ⟨by decide, by decide, by rw [if_neg (by decide), if_neg (by decide)]; omega⟩]; exact c j hj, fun m h2 => ?_, fun m h2 => ?_, ?_⟩
  · rw [q8 40 m (by decide) (by decide) (by omega), q8 44 m (by decide) (by decide) (by omega), q8 41 m (by decide) (by decide) (by omega), q8 42 m (by decide) (by decide) (by omega), q8 43 m (by decide) (by decide) (by omega), q8 47 m (by decide) (by decide) (by omega)]; exact d m h2
  · rw [q8 45 m (by decide) (by decide) (by omega), q8 46 m (by decide) (by decide) (by omega)]; exact f m h2
  · rw [q1 37 (by decide) (by decide)]; exact g
theorem qV_rows {n q : Nat} {s : Nat → Int} {M N : ti_M} (h : qV n q s M) (o : ∀ k i : Nat, bk q k i → tY N 60 k i = tY M 60 k i) (hn : n ≤ 8) : qV n q s N := fun m hm => by
  rw [o 48 (8 * q + m) ⟨by decide, by decide, by rw [if_neg (by decide), if_pos (by decide)]; omega⟩]; exact h m hm
theorem qR_of {n q : Nat} {s : Nat → Int} {M N : ti_M} (h : qR n q s M) (e : N.2.1 = M.2.1) : qR n q s N := by
  unfold qR
  rw [tY_fr e, tY_fr e, tY_fr e, tY_fr e, tY_fr e]
  have e2 : ∀ k : Nat, tY N 60 k = tY M 60 k := fun k => tY_fr e
  simp only [e2]
  exact h
theorem qR_I {n q k : Nat} {s : Nat → Int} {M N : ti_M} {v : Int32} (h : qR n q s M) (e : N = uI M 60 k v) : qR n q s N := by subst e; exact h
theorem qR_Z {n q k : Nat} {s : Nat → Int} {M N : ti_M} {f : Nat → Int64} (h : qR n q s M) (e : N = uZ M 60 k f) : qR n q s N := by subst e; exact h

variable {Tc : gC} {Tm : gM}
/-! the reference's text: what it tells -/
theorem cl_v {K : Nat → Int} : qq_cl K 6 = 200 ∧ qq_cl K 7 = 2 ∧ qq_cl K 8 = 10 ∧ qq_cl K 9 = 3 ∧ qq_cl K 10 = 0 ∧ qq_cl K 11 = 0 ∧ qq_cl K 32 = 0 ∧ qq_cl K 33 = 1 ∧ qq_cl K 34 = 2 ∧ qq_cl K 300 = 0 ∧ qq_cl K 301 = 0 ∧ qq_cl K 302 = 0 := by
  unfold qq_cl pp_su
  refine ⟨rfl, rfl, rfl, rfl, rfl, rfl, rfl, rfl, rfl, rfl, rfl, rfl⟩
theorem qL_0 {K : Nat → Int} {M : ti_M} (a11 : tY M 60 3 11 = 0) (a12 : tY M 60 3 12 = 200) (a13 : tY M 60 3 13 = 2) (a14 : tY M 60 3 14 = 10) (a15 : tY M 60 3 15 = 3) (a16 : tY M 60 3 16 = 0) (a17 : tY M 60 3 17 = 0) (a18 : tY M 60 3 18 = 0) (a19 : tY M 60 3 19 = 0) (a20 : tY M 60 3 20 = 1) (a21 : tY M 60 3 21 = 2) (b0 : tY M 60 14 3 = 0) (b1 : tY M 60 14 4 = 0) (b2 : tY M 60 14 5 = 0) (c0 : tY M 60 15 3 = 0) (c1 : tY M 60 15 4 = 0) (c2 : tY M 60 15 5 = 0) (e30 : tI M 60 30 = 0) : qL (qq_cl K) M := by
  obtain ⟨v6, v7, v8, v9, v10, v11, w0, w1, w2, l0, l1, l2⟩ := cl_v (K := K)
  have z : (0 : Int32).toInt = 0 := by decide
  refine fun _ => ⟨⟨by rw [a18, e30], by rw [v6, v7, v8, v9, v10, v11]; decide, fun k hk => ?_, fun i h => by rw [a11, z] at h; omega⟩, fun k h1 h2 => ?_, fun k hk => ?_, fun i f h => ?_, fun j hj => ?_⟩
  · obtain rfl | rfl | rfl : k = 0 ∨ k = 1 ∨ k = 2 := by omega
    · show 0 ≤ qq_cl K 32 ∧ qq_cl K 32 ≤ 7; rw [w0]; decide
    · show 0 ≤ qq_cl K 33 ∧ qq_cl K 33 ≤ 7; rw [w1]; decide
    · show 0 ≤ qq_cl K 34 ∧ qq_cl K 34 ≤ 7; rw [w2]; decide
  · obtain rfl | rfl | rfl | rfl | rfl | rfl : k = 6 ∨ k = 7 ∨ k = 8 ∨ k = 9 ∨ k = 10 ∨ k = 11 := by omega
    · rw [v6]; show _ = (tY M 60 3 12).toInt; rw [a12]; rfl
    · rw [v7]; show _ = (tY M 60 3 13).toInt; rw [a13]; rfl
    · rw [v8]; show _ = (tY M 60 3 14).toInt; rw [a14]; rfl
    · rw [v9]; show _ = (tY M 60 3 15).toInt; rw [a15]; rfl
    · rw [v10]; show _ = (tY M 60 3 16).toInt; rw [a16]; rfl
    · rw [v11]; show _ = (tY M 60 3 17).toInt; rw [a17]; rfl
  · obtain rfl | rfl | rfl : k = 0 ∨ k = 1 ∨ k = 2 := by omega
    · show qq_cl K 32 = (tY M 60 3 19).toInt; rw [w0, a19]; rfl
    · show qq_cl K 33 = (tY M 60 3 20).toInt; rw [w1, a20]; rfl
    · show qq_cl K 34 = (tY M 60 3 21).toInt; rw [w2, a21]; rfl
  · rw [a11] at h; exact absurd h (by have : (0 : Int32).toInt = 0 := by decide
                                      omega)
  · have e : qq_cl K (300 + j) = 0 ∧ tY M 60 14 (3 + j) = 0 ∧ tY M 60 15 (3 + j) = 0 := by
      obtain rfl | rfl | rfl : j = 0 ∨ j = 1 ∨ j = 2 := by omega
      · exact ⟨l0, b0, c0⟩
      · exact ⟨l1, b1, c1⟩
      · exact ⟨l2, b2, c2⟩
    have z : (0 : Int32).toInt = 0 := by decide
    unfold qO
    rw [e.1, e.2.1, e.2.2, a18, z]
    exact ⟨fun _ => rfl, by decide, by decide, 0, rfl, rfl, by decide, fun h => absurd h (by decide), fun m h => absurd h (by omega)⟩
/-- all that a text tells: s its registers, td beside them -/
def tX (s td : Nat → Int) : Nat → Int := fun j => if j = 4 then s 7 else if j = 5 then s 8 else if 100 ≤ j ∧ j < 228 ∧ (j - 100) % 16 = 9 then s (200 + (j - 100) / 16) else td j
section
variable {s td : Nat → Int} {j m : Nat}
theorem tX_4 : tX s td 4 = s 7 := rfl
theorem tX_5 : tX s td 5 = s 8 := rfl
theorem tX_9 (h : m < 8) : tX s td (100 + 16 * m + 9) = s (200 + m) := by
  unfold tX
  rw [if_neg (by omega), if_neg (by omega), if_pos ⟨by omega, by omega, by omega⟩, show 200 + (100 + 16 * m + 9 - 100) / 16 = 200 + m by omega]
theorem tX_o (h : j ≠ 4) (h2 : j ≠ 5) (h3 : j < 100 ∨ 228 ≤ j ∨ (j - 100) % 16 ≠ 9) : tX s td j = td j := by
  unfold tX
  rw [if_neg h, if_neg h2, if_neg (by omega)]
end
theorem tR_hv {B : Nat → Int} {n : Nat} {s td : Nat → Int} {G X : ti_M} (h : qL td G) (hr : rQ B n s G) (hz : s 4 = 0) (hI : mI Tm G) (e3 : ∀ i : Nat, i < 11 → tY X 60 3 i = tY G 60 3 (11 + i)) (e5 : ∀ i : Nat, i < 8 → tY X 60 5 i = tY G 60 5 (8 + i)) (e6 : ∀ i : Nat, i < 8 → tY X 60 6 i = tY G 60 6 (8 + i)) (e7 : ∀ i : Nat, i < 8 → tY X 60 7 i = tY G 60 7 (8 + i)) (e8 : ∀ i : Nat, i < 8 → tY X 60 8 i = tY G 60 8 (8 + i)) (e9 : ∀ i : Nat, i < 8 → tY X 60 9 i = tY G 60 9 (8 + i)) (e10 : ∀ i : Nat, i < 8 → tY X 60 10 i = tY G 60 10 (8 + i)) (e11 : ∀ i : Nat, i < 8 → tY X 60 11 i = tY G 60 11 (8 + i)) (e12 : ∀ i : Nat, i < 8 → tY X 60 12 i = tY G 60 12 (8 + i)) (e13 : ∀ i : Nat, i < 8 → tY X 60 13 i = tY G 60 13 (8 + i)) (e14 : ∀ i : Nat, i < 3 → tY X 60 14 i = tY G 60 14 (3 + i)) (e15 : ∀ i : Nat, i < 3 → tY X 60 15 i = tY G 60 15 (3 + i)) (e16 : ∀ i : Nat, i < 64 → tY X 60 16 i = tY G 60 16 (64 + i)) (e17 : ∀ i : Nat, i < 64 → tY X 60 17 i = tY G 60 17 (64 + i)) : tR (tX s td) X := by
  have q0 := hr.2.2.2 hz
  have b := b18 hI
  obtain ⟨⟨k30, -⟩, a1, a2, a3, a4⟩ := h (hr.2.1.symm.trans hz)
  have s7 : s 7 = (tY G 60 3 11).toInt := q0.2.2.1.1
  have s8 : s 8 = (tY G 60 3 18).toInt := q0.2.2.1.2.1.trans k30.symm
  have o : ∀ k : Nat, 6 ≤ k → k ≤ 11 → tX s td k = (tY X 60 3 (k - 5)).toInt := fun k h1 h2 => by
    rw [tX_o (by omega) (by omega) (by omega), e3 _ (by omega), show 11 + (k - 5) = 6 + k by omega]; exact a1 k h1 h2
  refine ⟨⟨?_, o 6 (by decide) (by decide), o 7 (by decide) (by decide), o 8 (by decide) (by decide), o 9 (by decide) (by decide), o 10 (by decide) (by decide), o 11 (by decide) (by decide), ?_⟩, fun k hk => ?_, fun m hm hl => ?_, fun j hj => ?_⟩
  · rw [tX_4, e3 0 (by decide)]; exact s7
  · rw [tX_5, e3 7 (by decide)]; exact s8
  · rw [tX_o (by omega) (by omega) (by omega), e3 _ (by omega), show 11 + (8 + k) = 19 + k by omega]; exact a2 k hk
  · rw [tX_4, s7] at hl
    have f : ∀ f : Nat, 1 ≤ f → f ≤ 8 → tX s td (100 + 16 * m + f) = (tY G 60 (4 + f) (8 + m)).toInt := fun f h1 h2 => by rw [tX_o (by omega) (by omega) (by omega)]; exact a3 m f hl hm h1 h2
    have g := (q0.2.2.2.1 m hm (by omega)).2
    rw [e5 m hm, e6 m hm, e7 m hm, e8 m hm, e9 m hm, e10 m hm, e11 m hm, e12 m hm, e13 m hm, tX_9 hm]
    exact ⟨f 1 (by decide) (by decide), f 2 (by decide) (by decide), f 3 (by decide) (by decide), f 4 (by decide) (by decide), f 5 (by decide) (by decide), f 6 (by decide) (by decide), f 7 (by decide) (by decide), f 8 (by decide) (by decide), g.1⟩
  · obtain ⟨-, w64, w2, a, w3, w4, w5, w6, w7⟩ := a4 j hj
    rw [tX_o (by omega) (by omega) (by omega), e14 j hj, e15 j hj]
    refine ⟨a, w3, w4, w2, fun h => ?_, fun m hm => ?_⟩
    · rw [← w6 h]
      unfold ud
      exact dp_ext _ (fun x hx => ⟨e16 _ (by omega), e17 _ (by omega)⟩)
    · rw [tX_o (by omega) (by omega) (by omega), e16 _ (by omega), e17 _ (by omega)]
      exact w7 m hm
/-- a text that fails leaves what was told -/
theorem tR_lx {tx : Nat → Int} {N M : ti_M} (h : tR tx M) (hI : mI Tm M) (x : lx N M) (g : gU N M) : tR tx N := by
  obtain ⟨⟨a0, a1, a2, a3, a4, a5, a6, a7⟩, b, c, d⟩ := h
  have r3 : ∀ i : Nat, i < 11 → tY N 60 3 i = tY M 60 3 i := fun i hi => (x.2.1 i).1 hi
  refine ⟨?_, fun k hk => by rw [r3 _ (by omega)]; exact b k hk, fun m hm hl => ?_, fun j hj => ?_⟩
  · rw [r3 0 (by decide), r3 1 (by decide), r3 2 (by decide), r3 3 (by decide), r3 4 (by decide), r3 5 (by decide), r3 6 (by decide), r3 7 (by decide)]
    exact ⟨a0, a1, a2, a3, a4, a5, a6, a7⟩
  · rw [g 5 m (by decide) (by decide) hm, g 6 m (by decide) (by decide) hm, g 7 m (by decide) (by decide) hm, g 8 m (by decide) (by decide) hm, g 9 m (by decide) (by decide) hm, g 10 m (by decide) (by decide) hm, g 11 m (by decide) (by decide) hm, g 12 m (by decide) (by decide) hm, g 13 m (by decide) (by decide) hm]
    exact c m hm hl
  · have b15 : ib 0 64 (tY M 60 15 j) := hI.2.1 15 j
    have b2 := b15.2
    obtain ⟨a, w3, w4, w2, w6, w7⟩ := d j hj
    rw [(x.2.2.1 j hj).1, (x.2.2.1 j hj).2]
    have e : ∀ m : Nat, (m : Int) < tx (300 + j) → tY N 60 16 (a + m) = tY M 60 16 (a + m) ∧ tY N 60 17 (a + m) = tY M 60 17 (a + m) := fun m hm => x.2.2.2.1 (a + m) (by omega)
    refine ⟨a, w3, w4, w2, fun h => ?_, fun m hm => ?_⟩
    · rw [← w6 h]
      exact dp_ext _ (fun y hy => e y (by omega))
    · rw [(e m hm).1, (e m hm).2]; exact w7 m hm
theorem tW_hv {B : Nat → Int} {n : Nat} {s td : Nat → Int} {G : ti_M} (h : qL td G) (hr : rQ B n s G) (hz : s 4 = 0) (hI : mI Tm G) : tW (tX s td) := by
  have q0 := hr.2.2.2 hz
  obtain ⟨⟨-, ⟨k6, k7, k8, k9, k10, k11⟩, k32, k4⟩, -⟩ := h (hr.2.1.symm.trans hz)
  have s7 : s 7 = (tY G 60 3 11).toInt := q0.2.2.1.1
  have b : ib 0 8 (tY G 60 3 11) := hI.2.1 3 11
  have b1 := b.1
  have b2 := b.2
  have o : ∀ k : Nat, 6 ≤ k → k < 100 → tX s td k = td k := fun k h1 h2 => tX_o (by omega) (by omega) (by omega)
  unfold tW
  rw [tX_4, o 6 (by decide) (by decide), o 7 (by decide) (by decide), o 8 (by decide) (by decide), o 9 (by decide) (by decide), o 10 (by decide) (by decide), o 11 (by decide) (by decide)]
  refine ⟨by omega, k6, k7, k8, k9, k10, k11, fun m hm hl => ?_, fun k hk => by rw [o _ (by omega) (by omega)]; exact k32 k hk, fun m hm hl => ?_⟩
  · rw [tX_o (by omega) (by omega) (by omega)]; exact (k4 m (by omega) hm).1
  · rw [tX_9 hm]
    have g := (q0.2.2.2.1 m hm hl).2
    have u := (k4 m (by omega) hm).2
    omega

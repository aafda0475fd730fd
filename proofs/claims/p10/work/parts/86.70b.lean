variable {Tc : gC} {Tm : gM}
variable {Tc : gC} {Tm : gM}
/-! a queue on registers: 1 manner, 2 minute, 3 size, 4 water, 5 number, 16 k + i the rows (6 places, 7 powers, 8 state, 9 comes, 10 patience, 11 filled, 12 coin, 13 joined, 14 left, 15 kneeling, 16 coughed); what is told: 4 men, 6 water, 7 rate, 8 levies, 9 ear, 10 mutter, 11 seed, 32 + i powers, 100 + 16 m + k a man's, 300 + j a law's length, 400 + 64 j + n its code -/
/-- as an int wraps -/
def bw (x : Int) : Int := x.bmod 4294967296
abbrev bl_ER : Int := -9223372036854775808
def bl_if (p : Prop) [Decidable p] : Int := if p then 1 else 0
/-- a sign's work, unbounded -/
def bl_w (k a b : Int) : Int :=
  if k = 38 then a + b else if k = 39 then a - b else if k = 40 then (if a * b ≤ 1000000000000 ∧ -1000000000000 ≤ a * b then a * b else bl_ER) else if k = 41 then (if b = 0 then bl_ER else Int.tdiv a b) else if k = 32 then bl_if (a < b) else if k = 33 then bl_if (a ≤ b) else if k = 34 then bl_if (a = b) else if k = 35 then bl_if (a ≠ b) else if k = 36 then bl_if (b ≤ a) else if k = 37 then bl_if (b < a) else if k = 22 then bl_if (a ≠ 0 ∧ b ≠ 0) else if k = 23 then bl_if (a ≠ 0 ∨ b ≠ 0) else bl_ER
/-- a law's value: code, facts, how many knots are left, which is next, how many lie on the pile, the pile -/
def bl_rn (co fa : Nat → Int) : Nat → Nat → Nat → (Nat → Int) → Int
  | 0, _, t, st => if t = 1 then st 0 else bl_ER
  | f + 1, i, t, st =>
    if -21 ≤ co i then bl_rn co fa f (i + 1) (t + 1) (pp_su st t (if 0 ≤ co i then co i else fa (-(co i) - 16).toNat))
    else if co i = -24 ∧ 0 < t then bl_rn co fa f (i + 1) t (pp_su st (t - 1) (if st (t - 1) = 0 then 1 else 0))
    else if 1 < t then (if 1000000000000 < bl_w (-(co i)) (st (t - 2)) (st (t - 1)) ∨ bl_w (-(co i)) (st (t - 2)) (st (t - 1)) < -1000000000000 then bl_ER else bl_rn co fa f (i + 1) (t - 1) (pp_su st (t - 2) (bl_w (-(co i)) (st (t - 2)) (st (t - 1)))))
    else bl_rn co fa f (i + 1) t st
def bq_ma (s : Nat → Int) (p : Int) : Int := if 0 ≤ p ∧ p < s 3 then s (96 + p.toNat) else -2
def bq_pf (s : Nat → Int) (m : Int) : Nat → Nat → Int
  | 0, _ => -1
  | f + 1, p => if s (96 + p) = m then (p : Int) else bq_pf s m f (p + 1)
/-- the place of a man from p on -/
def bq_po (s : Nat → Int) (m : Int) (p : Nat) : Int := bq_pf s m ((s 3).toNat - p) p
theorem po_go {s : Nat → Int} {m : Int} {p : Nat} (h : p < (s 3).toNat) (hp : ¬ s (96 + p) = m) : bq_po s m p = bq_po s m (p + 1) := by
  unfold bq_po
  rw [show (s 3).toNat - p = ((s 3).toNat - (p + 1)) + 1 by omega, bq_pf, if_neg hp]
theorem po_at {s : Nat → Int} {m : Int} {p : Nat} (h : p < (s 3).toNat) (hp : s (96 + p) = m) : bq_po s m p = p := by
  unfold bq_po
  rw [show (s 3).toNat - p = ((s 3).toNat - (p + 1)) + 1 by omega, bq_pf, if_pos hp]
theorem po_end {s : Nat → Int} {m : Int} {p : Nat} (h : (s 3).toNat ≤ p) : bq_po s m p = -1 := by
  unfold bq_po
  rw [show (s 3).toNat - p = 0 by omega]
  rfl
def bq_wt (s : Nat → Int) (m : Int) : Int := if s (128 + m.toNat) = 0 then 0 else if s (128 + m.toNat) = 1 then bw (s 2 - s (208 + m.toNat)) else bw (s (224 + m.toNat) - s (208 + m.toNat))
def bq_fa (tx s : Nat → Int) (m : Int) (ps : Int) (j : Nat) : Int := if j = 0 then tx (100 + 16 * m.toNat + 1) else if j = 1 then tx (100 + 16 * m.toNat + 2) else if j = 2 then tx (100 + 16 * m.toNat + 4) else if j = 3 then s (192 + m.toNat) else if j = 4 then ps else bq_wt s m
/-- a law's value for who stands at a place -/
def bq_lv (tx s : Nat → Int) (k : Nat) (pl ps : Int) : Int := if bq_ma s pl < 0 ∨ tx (300 + k) = 0 then bl_ER else bl_rn (fun n => tx (400 + 64 * k + n)) (bq_fa tx s (bq_ma s pl) ps) (tx (300 + k)).toNat 0 0 (fun _ => 0)
def bq_pt (v lo hi wo : Int) : Int := if v = bl_ER then wo else if v < lo then lo else if hi < v then hi else v
def bq_nd (tx s : Nat → Int) : Int := bq_pt (bq_lv tx s 2 0 (s 3)) 1 9 ((s 3 + 1) / 2)
/-- one joins -/
def bq_ap (s : Nat → Int) (m : Int) : Nat → Int := if s 3 < 8 then pp_su (pp_su (pp_su (pp_su s (96 + (s 3).toNat) m) 3 (s 3 + 1)) (128 + m.toNat) 1) (208 + m.toNat) (s 2) else s
/-- places from i on move up by one -/
def bq_sf : Nat → Nat → (Nat → Int) → Nat → Int
  | 0, _, s => s
  | f + 1, i, s => bq_sf f (i + 1) (pp_su s (96 + i) (s (96 + i + 1)))
def bq_r2 (s : Nat → Int) (m : Int) (ns mi : Int) : Nat → Int := pp_su (pp_su (pp_su (pp_su s (128 + m.toNat) ns) (224 + m.toNat) mi) (240 + m.toNat) 0) (256 + m.toNat) 0
/-- one leaves his place -/
def bq_rm (s : Nat → Int) (p ns : Int) : Nat → Int := if bq_ma s p < 0 then s else bq_r2 (bq_sf (s 3 - 1 - p).toNat p.toNat (pp_su s 3 (s 3 - 1))) (bq_ma s p) ns (s 2)
def bq_ex (s : Nat → Int) (a b : Int) : Nat → Int := if 0 ≤ bq_po s a 0 ∧ 0 ≤ bq_po s b 0 then pp_su (pp_su s (96 + (bq_po s a 0).toNat) b) (96 + (bq_po s b 0).toNat) a else s
/-- who joins next: from m on, the best so far -/
def bq_nf (tx s : Nat → Int) : Nat → Nat → Int → Int
  | 0, _, b => b
  | f + 1, m, b => bq_nf tx s f (m + 1) (if s (128 + m) = 0 ∧ s (144 + m) = s 2 ∧ (b = -1 ∨ tx (100 + 16 * m + 2) < tx (100 + 16 * b.toNat + 2) ∨ (tx (100 + 16 * m + 2) = tx (100 + 16 * b.toNat + 2) ∧ tx (100 + 16 * b.toNat + 1) < tx (100 + 16 * m + 1))) then (m : Int) else b)
def bq_nx (tx s : Nat → Int) : Int := bq_nf tx s (tx 4).toNat 0 (-1)
/-- who comes joins -/
def bq_wl (tx : Nat → Int) : Nat → (Nat → Int) → Nat → Int
  | 0, s => s
  | f + 1, s => if bq_nx tx s = -1 then s else bq_wl tx f (bq_ap s (bq_nx tx s))
/-- how many coughs are heard: places left, from p on, heard so far -/
def bq_hs (s : Nat → Int) : Nat → Nat → Int → Int
  | 0, _, h => h
  | f + 1, p, h => bq_hs s f (p + 1) (bw (h + s (256 + (s (96 + p)).toNat)))
def bq_mn (a b : Int) : Int := if b < a then b else a
def bq_lh (tx s : Nat → Int) : Int := bq_mn (tx 9) (s 3 - 1)
def bq_fc (s : Nat → Int) : Nat → Int := fun j => if 256 ≤ j ∧ j < 264 then 0 else s j
/-- coughs -/
def bq_hc (tx s : Nat → Int) : Nat → Int :=
  if s 1 = 0 then (if 0 < bq_hs s (bq_lh tx s).toNat 1 0 ∧ bq_nd tx s ≤ bq_hs s (bq_lh tx s).toNat 1 0 ∧ ¬ (1 < s 3 ∧ tx (100 + 16 * (s 97).toNat + 9) = s 96) then bq_fc (bq_rm s 0 3) else bq_fc s) else s
/-- the first is served -/
def bq_pn (tx s : Nat → Int) : Int := bq_mn (bq_mn (tx 7) (bw (tx (100 + 16 * (s 96).toNat + 4) - s (176 + (s 96).toNat)))) (s 4)
def bq_pr (tx s : Nat → Int) : Nat → Int := if s 3 = 0 then s else pp_su (pp_su s 4 (bw (s 4 - bq_pn tx s))) (176 + (s 96).toNat) (bw (s (176 + (s 96).toNat) + bq_pn tx s))
/-- one pays -/
def bq_py (s : Nat → Int) (m k n : Int) : Nat → Int := pp_su (pp_su s (192 + m.toNat) (bw (s (192 + m.toNat) - n))) (192 + k.toNat) (bw (pp_su s (192 + m.toNat) (bw (s (192 + m.toNat) - n)) (192 + k.toNat) + n))
def bq_l1 (tx s : Nat → Int) (k : Int) (p : Nat) : Nat → Int := if s (96 + p) = k then s else bq_py s (s (96 + p)) k (bq_mn (bq_pt (bq_lv tx s 0 p p) 0 99 1) (s (192 + (s (96 + p)).toNat)))
def bq_lf (tx : Nat → Int) (k : Int) : Nat → Nat → (Nat → Int) → Nat → Int
  | 0, _, s => s
  | f + 1, p, s => bq_lf tx k f (p + 1) (bq_l1 tx s k p)
/-- the tax -/
def bq_ly (tx s : Nat → Int) : Nat → Int := if bq_ma s (s 114) < 0 ∨ tx 8 < 1 ∨ ¬ s 2 % tx 8 = 0 then s else bq_lf tx (bq_ma s (s 114)) (s 3).toNat 0 s
def bq_w1 (tx s : Nat → Int) (p : Nat) : Nat → Int := if 0 < s (240 + (s (96 + p)).toNat) then pp_su s (240 + (s (96 + p)).toNat) (s (240 + (s (96 + p)).toNat) - 1) else if 0 < p then pp_su s (160 + (s (96 + p)).toNat) (bw (s (160 + (s (96 + p)).toNat) - bq_pt (bq_lv tx s 1 p p) 0 9 1)) else s
def bq_wf (tx : Nat → Int) : Nat → Nat → (Nat → Int) → Nat → Int
  | 0, _, s => s
  | f + 1, p, s => bq_wf tx f (p + 1) (bq_w1 tx s p)
/-- patience -/
def bq_wr (tx s : Nat → Int) : Nat → Int := bq_wf tx (s 3).toNat 0 s
def bq_o1 (s : Nat → Int) (p : Nat) : Nat → Int := if s (160 + (s (96 + p)).toNat) ≤ 0 then bq_rm s p 3 else s
/-- from place p down to 1 -/
def bq_of : Nat → (Nat → Int) → Nat → Int
  | 0, s => s
  | p + 1, s => bq_of p (bq_o1 s (p + 1))
def bq_sv (tx s : Nat → Int) : Nat → Int := if 0 < s 3 ∧ tx (100 + 16 * (s 96).toNat + 4) ≤ s (176 + (s 96).toNat) then bq_rm s 0 2 else s
/-- who is served, who has lost patience -/
def bq_rl (tx s : Nat → Int) : Nat → Int := bq_of ((bq_sv tx s) 3 - 1).toNat (bq_sv tx s)
def bq_dr (n : Int) : Int := (n * 1103515245 + 12345) % 2147483648
/-- muttering -/
def bq_mt (tx s : Nat → Int) : Nat → Int := if s 1 = 3 ∨ tx 10 = 0 then s else if (bq_dr (s 5) / 65536) % 100 < tx 10 ∧ 1 < s 3 then bq_rm (pp_su s 5 (bq_dr (s 5))) (s 3 - 1) 3 else pp_su s 5 (bq_dr (s 5))
def bq_m1 (s : Nat → Int) : Nat → Int := pp_su s 2 (bw (s 2 + 1))
/-- a minute -/
def bq_ps (tx s : Nat → Int) : Nat → Int := bq_m1 (bq_mt tx (bq_rl tx (bq_wr tx (bq_ly tx (bq_pr tx (bq_hc tx (bq_wl tx (tx 4).toNat s)))))))
def bq_pl (tx : Nat → Int) : Nat → (Nat → Int) → Nat → Int
  | 0, s => s
  | f + 1, s => bq_pl tx f (bq_ps tx s)
/-! the class's queue and what is told, beside the registers -/
theorem su_cg {s s' : Nat → Int} {k k' : Nat} {v v' : Int} (h : s = s') (hk : k = k') (hv : v = v') : pp_su s k v = pp_su s' k' v' := by rw [h, hk, hv]
theorem bw_id {x : Int} (h1 : -2147483648 ≤ x) (h2 : x ≤ 2147483647) : bw x = x := by
  unfold bw
  rw [Int.bmod_def]
  split <;> omega
theorem bw_add {x y z : Int32} {a b : Int} (e : z = x + y) (ha : x.toInt = a) (hb : y.toInt = b) : z.toInt = bw (a + b) := by
  rw [e, Int32.toInt_add, ha, hb]; rfl
theorem bw_sub {x y z : Int32} {a b : Int} (e : z = x - y) (ha : x.toInt = a) (hb : y.toInt = b) : z.toInt = bw (a - b) := by
  rw [e, Int32.toInt_sub, ha, hb]; rfl
/-- all but the object q stays -/
def eo (q : Nat) (N M : ti_M) : Prop := (∀ o k : Nat, o ≠ q → tI N o k = tI M o k) ∧ ∀ o k : Nat, o ≠ q → tY N o k = tY M o k
theorem eo.refl {q : Nat} {M : ti_M} : eo q M M := ⟨fun _ _ _ => rfl, fun _ _ _ => rfl⟩
theorem eo.trans {q : Nat} {K N M : ti_M} (x : eo q K N) (y : eo q N M) : eo q K M := ⟨fun o k h => (x.1 o k h).trans (y.1 o k h), fun o k h => (x.2 o k h).trans (y.2 o k h)⟩
theorem eo_I {q k : Nat} {N M : ti_M} {v : Int32} (e : N = uI M q k v) : eo q N M := ⟨fun _ _ h => tI_nE e (no h), fun _ _ _ => tY_uIE e⟩
theorem eo_Y {q k : Nat} {N M : ti_M} {f : Nat → Int32} (e : N = uY M q k f) : eo q N M := ⟨fun _ _ _ => tI_uYE e, fun _ _ h => tY_nE e (no h)⟩
theorem eo_Z {q o k : Nat} {N M : ti_M} {f : Nat → Int64} (e : N = uZ M o k f) : eo q N M := ⟨fun _ _ _ => tI_uZE e, fun _ _ _ => tY_uZE e⟩
theorem eo_T {q o k : Nat} {N M : ti_M} {f : Option Nat} (e : N = uT M o k f) : eo q N M := ⟨fun _ _ _ => tI_uTE e, fun _ _ _ => tY_uTE e⟩
theorem eo_of {q : Nat} {N M : ti_M} (e1 : N.1 = M.1) (e2 : N.2.1 = M.2.1) : eo q N M := ⟨fun _ _ _ => tI_fr e1, fun _ _ _ => tY_fr e2⟩
def qC (q : Nat) (s : Nat → Int) (M : ti_M) : Prop := (∀ k : Nat, 1 ≤ k → k ≤ 5 → s k = (tI M q k).toInt) ∧ ∀ k i : Nat, 6 ≤ k → k ≤ 16 → i < 8 → (k = 7 → i < 3) → s (16 * k + i) = (tY M q k i).toInt
section
variable {q t k j : Nat} {s tx : Nat → Int} {M N : ti_M} {v : Int32} {z : Int}
theorem qC_I (h : qC q s M) (hv : v.toInt = z) (e : N = uI M q k v) (hk : k ≤ 5) : qC q (pp_su s k z) N := by
  refine ⟨fun k2 h1 h2 => ?_, fun k2 i h1 h2 hi h7 => ?_⟩
  · by_cases r : k2 = k
    · subst r; rw [su_s, tI_uE e, hv]
    · rw [su_n r, tI_nE e (nk r)]; exact h.1 k2 h1 h2
  · rw [su_n (by omega), tY_uIE e]; exact h.2 k2 i h1 h2 hi h7
theorem qC_Y {i : Int32} (h : qC q s M) (hi : i.toInt = (j : Int)) (hv : v.toInt = z) (e : N = uY M q k (upd (tY M q k) i.toNatClampNeg v)) (h6 : 6 ≤ k) (hj : j < 8) : qC q (pp_su s (16 * k + j) z) N := by
  rw [i_cl hi] at e
  refine ⟨fun k2 h1 h2 => ?_, fun k2 i2 h1 h2 hi2 h7 => ?_⟩
  · rw [su_n (by omega), tI_uYE e]; exact h.1 k2 h1 h2
  · by_cases r : k2 = k
    · subst r
      rw [tY_uE e]
      by_cases r2 : i2 = j
      · subst r2; rw [su_s, pk_us, hv]
      · rw [su_n (by omega), pk_un r2]; exact h.2 k2 i2 h1 h2 hi2 h7
    · rw [su_n (by omega), tY_nE e (nk r)]; exact h.2 k2 i2 h1 h2 hi2 h7
theorem qC_Z {o : Nat} {f : Nat → Int64} (h : qC q s M) (e : N = uZ M o k f) : qC q s N := by subst e; exact h
theorem qC_T {o : Nat} {f : Option Nat} (h : qC q s M) (e : N = uT M o k f) : qC q s N := by subst e; exact h
theorem qC_eo {o : Nat} (h : qC q s M) (e : eo o N M) (ho : q ≠ o) : qC q s N := ⟨fun k h1 h2 => by rw [e.1 q k ho]; exact h.1 k h1 h2, fun k i h1 h2 hi h7 => by rw [e.2 q k ho]; exact h.2 k i h1 h2 hi h7⟩
theorem qC_of (h : qC q s M) (e1 : N.1 = M.1) (e2 : N.2.1 = M.2.1) : qC q s N := ⟨fun k h1 h2 => by rw [tI_fr e1]; exact h.1 k h1 h2, fun k i h1 h2 hi h7 => by rw [tY_fr e2]; exact h.2 k i h1 h2 hi h7⟩
theorem qC_y {i : Int32} {a : Int} (h : qC q s M) (hi : i.toInt = a) (h0 : 0 ≤ a) (h8 : a < 8) (h6 : 6 ≤ k) (h16 : k ≤ 16) (e : v = tY M q k i.toNatClampNeg) (h7 : k = 7 → a < 3 := by omega) : s (16 * k + a.toNat) = v.toInt := by
  rw [h.2 k a.toNat h6 h16 (by omega) (by omega), e, i_cl (n := a.toNat) (by omega)]
def tC (t : Nat) (tx : Nat → Int) (M : ti_M) : Prop := (∀ k : Nat, 4 ≤ k → k ≤ 11 → tx k = (tI M t k).toInt) ∧ (∀ i : Nat, i < 3 → tx (32 + i) = (tY M t 1 i).toInt) ∧ (∀ i k : Nat, i < 8 → 1 ≤ k → k ≤ 9 → tx (100 + 16 * i + k) = (tI M (ti_men t i) k).toInt) ∧ ∀ j : Nat, j < 3 → tx (300 + j) = (tI M (ti_laws t j) 3).toInt ∧ ∀ n : Nat, n < 64 → tx (400 + 64 * j + n) = (tY M (ti_laws t j) 0 n).toInt
theorem tC_eo (ht : t = 3 ∨ t = 4) (hq : ti_cls q = 3) (h : tC t tx M) (e : eo q N M) : tC t tx N := by
  have e1 : t ≠ q := cls_ne (ob_t ht).1 hq (by decide)
  have e2 : ∀ i : Nat, i < 8 → ti_men t i ≠ q := fun i hi => cls_ne (ob_m ht hi).1 hq (by decide)
  have e3 : ∀ i : Nat, i < 3 → ti_laws t i ≠ q := fun i hi => cls_ne (ob_l ht hi).1 hq (by decide)
  refine ⟨fun k h1 h2 => ?_, fun i hi => ?_, fun i k hi h1 h2 => ?_, fun j hj => ⟨?_, fun n hn => ?_⟩⟩
  · rw [e.1 t k e1]; exact h.1 k h1 h2
  · rw [e.2 t 1 e1]; exact h.2.1 i hi
  · rw [e.1 _ k (e2 i hi)]; exact h.2.2.1 i k hi h1 h2
  · rw [e.1 _ 3 (e3 j hj)]; exact (h.2.2.2 j hj).1
  · rw [e.2 _ 0 (e3 j hj)]; exact (h.2.2.2 j hj).2 n hn
end
theorem sf_go {n i : Nat} {s : Nat → Int} (h : i < n) : bq_sf (n - i) i s = bq_sf (n - (i + 1)) (i + 1) (pp_su s (96 + i) (s (96 + i + 1))) := by
  rw [show n - i = (n - (i + 1)) + 1 by omega]; rfl
theorem i_div2 {x z : Int32} {a : Int} (e : z = x / 2) (ha : x.toInt = a) (h : 0 ≤ a) : z.toInt = a / 2 := by
  rw [e, lg_idiv_nonneg (by omega) (by decide), ha]; rfl
theorem lg_c {a b : Int64} {z : Int32} (e : z = lg_cmp a b) : (a.toInt < b.toInt ∧ z.toInt = -1) ∨ (a.toInt = b.toInt ∧ z.toInt = 0) ∨ (b.toInt < a.toInt ∧ z.toInt = 1) := by
  rw [e]
  unfold lg_cmp
  by_cases h : a > b
  · rw [if_pos h]
    exact Or.inr (Or.inr ⟨Int64.lt_iff_toInt_lt.mp h, by decide⟩)
  · rw [if_neg h]
    by_cases h2 : a = b
    · rw [if_pos h2]
      exact Or.inr (Or.inl ⟨by rw [h2], by decide⟩)
    · rw [if_neg h2]
      have h3 : ¬ b.toInt < a.toInt := fun q => h (Int64.lt_iff_toInt_lt.mpr q)
      have h4 : ¬ a.toInt = b.toInt := fun q => h2 (Int64.toInt_inj.mp q)
      exact Or.inl ⟨by omega, by decide⟩
/-! longs -/
theorem bm64 {x : Int} (h1 : -9223372036854775808 ≤ x) (h2 : x ≤ 9223372036854775807) : x.bmod (2 ^ 64) = x := by
  rw [Int.bmod_def]
  split <;> omega
theorem l_add {x y z : Int64} {a b : Int} (e : z = x + y) (ha : x.toInt = a) (hb : y.toInt = b) (h1 : -9223372036854775808 ≤ a + b) (h2 : a + b ≤ 9223372036854775807) : z.toInt = a + b := by
  rw [e, Int64.toInt_add, ha, hb]; exact bm64 h1 h2
theorem l_sub {x y z : Int64} {a b : Int} (e : z = x - y) (ha : x.toInt = a) (hb : y.toInt = b) (h1 : -9223372036854775808 ≤ a - b) (h2 : a - b ≤ 9223372036854775807) : z.toInt = a - b := by
  rw [e, Int64.toInt_sub, ha, hb]; exact bm64 h1 h2
theorem l_mul {x y z : Int64} {a b : Int} (e : z = x * y) (ha : x.toInt = a) (hb : y.toInt = b) (h1 : -9223372036854775808 ≤ a * b) (h2 : a * b ≤ 9223372036854775807) : z.toInt = a * b := by
  rw [e, Int64.toInt_mul, ha, hb]; exact bm64 h1 h2
theorem l_neg {x z : Int64} {a : Int} (e : z = -x) (ha : x.toInt = a) (h1 : -9223372036854775807 ≤ a) (h2 : a ≤ 9223372036854775807) : z.toInt = -a := by
  rw [e, Int64.toInt_neg, ha]; exact bm64 (by omega) (by omega)
theorem l_div {x y z : Int64} {a b : Int} (e : z = x / y) (ha : x.toInt = a) (hb : y.toInt = b) (h1 : -9223372036854775807 ≤ a) (h2 : a ≤ 9223372036854775807) : z.toInt = Int.tdiv a b := by
  have hm : Int.tdiv a b ≤ 9223372036854775807 ∧ -9223372036854775807 ≤ Int.tdiv a b := by
    have h3 := Int.natAbs_tdiv_le_natAbs a b
    omega
  rw [e, Int64.toInt_div, ha, hb]; exact bm64 (by omega) (by omega)
/-- a product of two, by a quotient -/
theorem bl_mq {a b n m : Int} (hn : (a < 0 ∧ n = -a) ∨ (0 < a ∧ n = a)) (hm : m = Int.tdiv 1000000000000 n) : (b ≤ m ∧ -m ≤ b) ↔ (a * b ≤ 1000000000000 ∧ -1000000000000 ≤ a * b) := by
  have h0 : 0 < n := by omega
  have e : m = 1000000000000 / n := by rw [hm, Int.tdiv_eq_ediv_of_nonneg (by decide)]
  have k1 : ∀ x : Int, x ≤ m ↔ x * n ≤ 1000000000000 := fun x => by rw [e]; exact Int.le_ediv_iff_mul_le h0
  have k2 := k1 b
  have k3 := k1 (-b)
  have k4 : -b * n = -(b * n) := Int.neg_mul b n
  have k5 : (a < 0 ∧ a * b = -(b * n)) ∨ (0 < a ∧ a * b = b * n) := by
    rcases hn with ⟨h, rfl⟩ | ⟨h, rfl⟩
    · exact Or.inl ⟨h, by rw [Int.mul_neg, Int.neg_neg, Int.mul_comm]⟩
    · exact Or.inr ⟨h, Int.mul_comm _ _⟩
  rw [k4] at k3
  generalize b * n = w at *
  generalize a * b = u at *
  omega
theorem bl_dv {n m : Int} (hn : 0 < n) (hm : m = Int.tdiv 1000000000000 n) : 0 ≤ m ∧ m ≤ 1000000000000 := by
  rw [hm, Int.tdiv_eq_ediv_of_nonneg (by decide)]
  exact ⟨Int.ediv_nonneg (by decide) (by omega), Int.ediv_le_self _ (by decide)⟩
/-! the law's pile, beside its picture -/
def lz (lw : Nat) (fa st : Nat → Int) (t : Int) (M : ti_M) : Prop := (∀ j : Nat, j < 6 → (tZ M lw 2 j).toInt = fa j ∧ -1000000000000 ≤ fa j ∧ fa j ≤ 1000000000000) ∧ ∀ j : Nat, (j : Int) < t → (tZ M lw 1 j).toInt = st j ∧ -1000000000000 ≤ st j ∧ st j ≤ 1000000000000
theorem lz_of {lw : Nat} {fa st : Nat → Int} {t : Int} {M N : ti_M} (h : lz lw fa st t M) (e : N.2.2.1 = M.2.2.1) : lz lw fa st t N := by
  have e2 : ∀ o k, tZ N o k = tZ M o k := fun o k => by show N.2.2.1 o k = M.2.2.1 o k; rw [e]
  exact ⟨fun j hj => by rw [e2]; exact h.1 j hj, fun j hj => by rw [e2]; exact h.2 j hj⟩
theorem lz_up {lw : Nat} {fa st : Nat → Int} {t t2 z j0 : Int} {y : Int32} {v : Int64} {M N : ti_M} (h : lz lw fa st t M) (e : N = uZ M lw 1 (vp_updL (tZ M lw 1) y.toNatClampNeg v)) (hy : y.toInt = j0) (h0 : 0 ≤ j0) (hv : v.toInt = z) (hz : -1000000000000 ≤ z ∧ z ≤ 1000000000000) (ht : ∀ j : Nat, (j : Int) < t2 → (j : Int) = j0 ∨ (j : Int) < t) : lz lw fa (pp_su st j0.toNat z) t2 N := by
  rw [i_cl (n := j0.toNat) (by omega)] at e
  refine ⟨fun j hj => by rw [tZ_nE e (by omega)]; exact h.1 j hj, fun j hj => ?_⟩
  rw [tZ_uE e]
  unfold vp_updL
  by_cases q : j = j0.toNat
  · subst q
    rw [su_s, if_pos rfl]
    exact ⟨hv, hz⟩
  · rw [su_n q, if_neg q]
    exact h.2 j (by rcases ht j hj with r | r; omega; exact r)
theorem rn_0 {co fa : Nat → Int} {f i t : Nat} {st : Nat → Int} (h : f = 0) : bl_rn co fa f i t st = if t = 1 then st 0 else bl_ER := by subst h; rfl
theorem rn_p {co fa : Nat → Int} {f f' i t : Nat} {st : Nat → Int} (e : f = f' + 1) (h : -21 ≤ co i) : bl_rn co fa f i t st = bl_rn co fa f' (i + 1) (t + 1) (pp_su st t (if 0 ≤ co i then co i else fa (-(co i) - 16).toNat)) := by subst e; rw [bl_rn, if_pos h]
theorem rn_n {co fa : Nat → Int} {f f' i t : Nat} {st : Nat → Int} (e : f = f' + 1) (h : co i = -24 ∧ 0 < t) : bl_rn co fa f i t st = bl_rn co fa f' (i + 1) t (pp_su st (t - 1) (if st (t - 1) = 0 then 1 else 0)) := by subst e; rw [bl_rn, if_neg (by omega), if_pos h]
theorem rn_x {co fa : Nat → Int} {f f' i t : Nat} {st : Nat → Int} (e : f = f' + 1) (h : co i < -21 ∧ ¬ (co i = -24 ∧ 0 < t) ∧ 1 < t) (hx : 1000000000000 < bl_w (-(co i)) (st (t - 2)) (st (t - 1)) ∨ bl_w (-(co i)) (st (t - 2)) (st (t - 1)) < -1000000000000) : bl_rn co fa f i t st = bl_ER := by subst e; rw [bl_rn, if_neg (by omega), if_neg h.2.1, if_pos h.2.2, if_pos hx]
theorem rn_b {co fa : Nat → Int} {f f' i t : Nat} {st : Nat → Int} (e : f = f' + 1) (h : co i < -21 ∧ ¬ (co i = -24 ∧ 0 < t) ∧ 1 < t) (hx : ¬ (1000000000000 < bl_w (-(co i)) (st (t - 2)) (st (t - 1)) ∨ bl_w (-(co i)) (st (t - 2)) (st (t - 1)) < -1000000000000)) : bl_rn co fa f i t st = bl_rn co fa f' (i + 1) (t - 1) (pp_su st (t - 2) (bl_w (-(co i)) (st (t - 2)) (st (t - 1)))) := by subst e; rw [bl_rn, if_neg (by omega), if_neg h.2.1, if_pos h.2.2, if_neg hx]
theorem rn_s {co fa : Nat → Int} {f f' i t : Nat} {st : Nat → Int} (e : f = f' + 1) (h : co i < -21 ∧ ¬ (co i = -24 ∧ 0 < t) ∧ ¬ 1 < t) : bl_rn co fa f i t st = bl_rn co fa f' (i + 1) t st := by subst e; rw [bl_rn, if_neg (by omega), if_neg h.2.1, if_neg h.2.2]
/-- a fact is laid -/
theorem lz_fa {lw n : Nat} {fa : Nat → Int} {y : Int32} {v : Int64} {M N : ti_M} (h : ∀ j : Nat, j < n → (tZ M lw 2 j).toInt = fa j ∧ -1000000000000 ≤ fa j ∧ fa j ≤ 1000000000000) (e : N = uZ M lw 2 (vp_updL (tZ M lw 2) y.toNatClampNeg v)) (hy : y.toInt = (n : Int)) (hv : v.toInt = fa n) (hb : -1000000000000 ≤ v.toInt ∧ v.toInt ≤ 1000000000000) : ∀ j : Nat, j < n + 1 → (tZ N lw 2 j).toInt = fa j ∧ -1000000000000 ≤ fa j ∧ fa j ≤ 1000000000000 := by
  rw [i_cl hy] at e
  intro j hj
  rw [tZ_uE e]
  unfold vp_updL
  by_cases q : j = n
  · subst q; rw [if_pos rfl, ← hv]; exact ⟨rfl, hb⟩
  · rw [if_neg q]; exact h j (by omega)
theorem co_y {co : Nat → Int} {lw : Nat} {M N : ti_M} {x i : Int32} (hco : ∀ n : Nat, n < 64 → co n = (tY M lw 0 n).toInt) (e : N.2.1 = M.2.1) (ex : x = tY N lw 0 i.toNatClampNeg) (h0 : 0 ≤ i.toInt) (h1 : i.toInt < 64) : co i.toInt.toNat = x.toInt := by
  rw [hco _ (by omega), ex, i_cl (n := i.toInt.toNat) (by omega), tY_fr e]
theorem lz_1 {lw : Nat} {fa st : Nat → Int} {t : Int} {M : ti_M} {x : Int64} {i : Int32} (h : lz lw fa st t M) (ex : x = tZ M lw 1 i.toNatClampNeg) (h0 : 0 ≤ i.toInt) (h1 : i.toInt < t) : x.toInt = st i.toInt.toNat ∧ -1000000000000 ≤ x.toInt ∧ x.toInt ≤ 1000000000000 := by
  rw [i_cl (n := i.toInt.toNat) (by omega)] at ex
  have q := h.2 i.toInt.toNat (by omega)
  rw [ex, q.1]; exact ⟨rfl, q.2⟩
theorem lz_2 {lw : Nat} {fa st : Nat → Int} {t : Int} {M : ti_M} {x : Int64} {i : Int32} (h : lz lw fa st t M) (ex : x = tZ M lw 2 i.toNatClampNeg) (h0 : 0 ≤ i.toInt) (h1 : i.toInt < 6) : x.toInt = fa i.toInt.toNat ∧ -1000000000000 ≤ x.toInt ∧ x.toInt ≤ 1000000000000 := by
  rw [i_cl (n := i.toInt.toNat) (by omega)] at ex
  have q := h.1 i.toInt.toNat (by omega)
  rw [ex, q.1]; exact ⟨rfl, q.2⟩
def vq (co : Nat → Int) (len : Int) (tx rg : Nat → Int) (pl ps : Int) : Int := if bq_ma rg pl < 0 ∨ len = 0 then bl_ER else bl_rn co (bq_fa tx rg (bq_ma rg pl) ps) len.toNat 0 0 (fun _ => 0)
theorem vq_lv {tx rg : Nat → Int} {k : Nat} {pl ps : Int} : vq (fun n => tx (400 + 64 * k + n)) (tx (300 + k)) tx rg pl ps = bq_lv tx rg k pl ps := rfl
/-! what registers a step leaves -/
section
variable {tx rg : Nat → Int} {k : Nat}
theorem ap_k {m : Int} (h : k < 96 ∧ k ≠ 3) : bq_ap rg m k = rg k := by
  unfold bq_ap
  split
  · rw [su_n (by omega), su_n (by omega), su_n (by omega), su_n (by omega)]
  · rfl
theorem sf_k (h : k < 96) : ∀ (f i : Nat) (s : Nat → Int), bq_sf f i s k = s k := by
  intro f
  induction f with
  | zero => intro i s; rfl
  | succ f ih => intro i s; rw [bq_sf, ih, su_n (by omega)]
theorem rm_k {p ns : Int} (h : k < 96 ∧ k ≠ 3) : bq_rm rg p ns k = rg k := by
  unfold bq_rm bq_r2
  split
  · rfl
  · rw [su_n (by omega), su_n (by omega), su_n (by omega), su_n (by omega), sf_k h.1, su_n h.2]
theorem fc_k (h : k < 96) : bq_fc rg k = rg k := by unfold bq_fc; rw [if_neg (by omega)]
theorem wl_k (h : k < 96 ∧ k ≠ 3) : ∀ (f : Nat) (s : Nat → Int), bq_wl tx f s k = s k := by
  intro f
  induction f with
  | zero => intro s; rfl
  | succ f ih =>
    intro s
    rw [bq_wl]
    split
    · rfl
    · rw [ih, ap_k h]
theorem hc_k (h : k < 96 ∧ k ≠ 3) : bq_hc tx rg k = rg k := by
  unfold bq_hc
  split
  · split
    · rw [fc_k h.1, rm_k h]
    · rw [fc_k h.1]
  · rfl
theorem pr_k (h : k < 96 ∧ k ≠ 4) : bq_pr tx rg k = rg k := by
  unfold bq_pr
  split
  · rfl
  · rw [su_n (by omega), su_n h.2]
theorem l1_k {t : Int} {p : Nat} (h : k < 96) : bq_l1 tx rg t p k = rg k := by
  unfold bq_l1 bq_py
  split
  · rfl
  · rw [su_n (by omega), su_n (by omega)]
theorem lf_k {t : Int} (h : k < 96) : ∀ (f p : Nat) (s : Nat → Int), bq_lf tx t f p s k = s k := by
  intro f
  induction f with
  | zero => intro p s; rfl
  | succ f ih => intro p s; rw [bq_lf, ih, l1_k h]
theorem ly_k (h : k < 96) : bq_ly tx rg k = rg k := by
  unfold bq_ly
  split
  · rfl
  · exact lf_k h _ _ _
theorem w1_k {p : Nat} (h : k < 96) : bq_w1 tx rg p k = rg k := by
  unfold bq_w1
  split
  · rw [su_n (by omega)]
  · split
    · rw [su_n (by omega)]
    · rfl
theorem wf_k (h : k < 96) : ∀ (f p : Nat) (s : Nat → Int), bq_wf tx f p s k = s k := by
  intro f
  induction f with
  | zero => intro p s; rfl
  | succ f ih => intro p s; rw [bq_wf, ih, w1_k h]
theorem wr_k (h : k < 96) : bq_wr tx rg k = rg k := wf_k h _ _ _
theorem of_k (h : k < 96 ∧ k ≠ 3) : ∀ (p : Nat) (s : Nat → Int), bq_of p s k = s k := by
  intro p
  induction p with
  | zero => intro s; rfl
  | succ p ih =>
    intro s
    rw [bq_of, ih]
    unfold bq_o1
    split
    · exact rm_k h
    · rfl
theorem sv_k (h : k < 96 ∧ k ≠ 3) : bq_sv tx rg k = rg k := by
  unfold bq_sv
  split
  · exact rm_k h
  · rfl
theorem rl_k (h : k < 96 ∧ k ≠ 3) : bq_rl tx rg k = rg k := by
  unfold bq_rl
  rw [of_k h, sv_k h]
theorem nf_go {s : Nat → Int} {f f' m : Nat} {b : Int} (e : f = f' + 1) : bq_nf tx s f m b = bq_nf tx s f' (m + 1) (if s (128 + m) = 0 ∧ s (144 + m) = s 2 ∧ (b = -1 ∨ tx (100 + 16 * m + 2) < tx (100 + 16 * b.toNat + 2) ∨ (tx (100 + 16 * m + 2) = tx (100 + 16 * b.toNat + 2) ∧ tx (100 + 16 * b.toNat + 1) < tx (100 + 16 * m + 1))) then (m : Int) else b) := by subst e; rfl
theorem nf_end {s : Nat → Int} {f m : Nat} {b : Int} (e : f = 0) : bq_nf tx s f m b = b := by subst e; rfl
theorem wl_go {s : Nat → Int} {f f' : Nat} (e : f = f' + 1) (h : bq_nx tx s ≠ -1) : bq_wl tx f s = bq_wl tx f' (bq_ap s (bq_nx tx s)) := by subst e; rw [bq_wl, if_neg h]
theorem wl_end {s : Nat → Int} {f : Nat} (h : f = 0 ∨ bq_nx tx s = -1) : bq_wl tx f s = s := by
  cases f with
  | zero => rfl
  | succ f => rw [bq_wl, if_pos (by omega)]
theorem hs_go {s : Nat → Int} {f f' p : Nat} {h : Int} (e : f = f' + 1) : bq_hs s f p h = bq_hs s f' (p + 1) (bw (h + s (256 + (s (96 + p)).toNat))) := by subst e; rfl
theorem hs_end {s : Nat → Int} {f p : Nat} {h : Int} (e : f = 0) : bq_hs s f p h = h := by subst e; rfl
theorem lf_go {t : Int} {f f' p : Nat} {s : Nat → Int} (e : f = f' + 1) : bq_lf tx t f p s = bq_lf tx t f' (p + 1) (bq_l1 tx s t p) := by subst e; rfl
theorem lf_end {t : Int} {f p : Nat} {s : Nat → Int} (e : f = 0) : bq_lf tx t f p s = s := by subst e; rfl
theorem wf_go {f f' p : Nat} {s : Nat → Int} (e : f = f' + 1) : bq_wf tx f p s = bq_wf tx f' (p + 1) (bq_w1 tx s p) := by subst e; rfl
theorem wf_end {f p : Nat} {s : Nat → Int} (e : f = 0) : bq_wf tx f p s = s := by subst e; rfl
end
theorem of_go {p p' : Nat} {s : Nat → Int} (e : p = p' + 1) : bq_of p s = bq_of p' (bq_o1 s p) := by subst e; rfl
theorem is_b {x b z : Int32} (e : z = x &&& b) (hx : x.toInt = 0 ∨ x.toInt = 1 ∨ x.toInt = 3) (hb : b = 1 ∨ b = 2 ∨ b = 4 ∨ b = 8 ∨ b = 16 ∨ b = 32) : (z.toInt ≠ 0 ∧ ((b.toInt = 1 ∧ x.toInt ≠ 0) ∨ (b.toInt = 2 ∧ x.toInt = 3))) ∨ (z.toInt = 0 ∧ ((b.toInt = 1 ∧ x.toInt = 0) ∨ (b.toInt = 2 ∧ x.toInt ≠ 3) ∨ 2 < b.toInt)) := by
  have hx2 : x = 0 ∨ x = 1 ∨ x = 3 := by
    rcases hx with h | h | h
    · exact Or.inl (Int32.toInt_inj.mp (h.trans (by decide)))
    · exact Or.inr (Or.inl (Int32.toInt_inj.mp (h.trans (by decide))))
    · exact Or.inr (Or.inr (Int32.toInt_inj.mp (h.trans (by decide))))
  subst e
  rcases hx2 with rfl | rfl | rfl <;> rcases hb with rfl | rfl | rfl | rfl | rfl | rfl <;> decide
/-- eight are filled -/
theorem qC_fl {q : Nat} {rg : Nat → Int} {M N : ti_M} {g : Nat → Int32} (h : qC q rg M) (e : N = uY M q 16 g) (hg : ∀ j : Nat, j < 8 → g j = 0) : qC q (bq_fc rg) N := by
  refine ⟨fun k h1 h2 => ?_, fun k i h6 h16 hi h7 => ?_⟩
  · rw [fc_k (by omega), tI_uYE e]; exact h.1 k h1 h2
  · unfold bq_fc
    by_cases r : k = 16
    · subst r; rw [if_pos (by omega), tY_uE e, hg i hi]; decide
    · rw [if_neg (by omega), tY_nE e (nk r)]; exact h.2 k i h6 h16 hi h7
theorem l_min {x y z : Int64} (e : z = if y < x then y else x) : (z.toInt = y.toInt ∧ y.toInt < x.toInt) ∨ (z.toInt = x.toInt ∧ x.toInt ≤ y.toInt) := by
  by_cases h : y < x
  · rw [if_pos h] at e; exact Or.inl ⟨by rw [e], Int64.lt_iff_toInt_lt.mp h⟩
  · rw [if_neg h] at e; exact Or.inr ⟨by rw [e], by have : ¬ y.toInt < x.toInt := fun q => h (Int64.lt_iff_toInt_lt.mpr q); omega⟩
theorem l_max {x y z : Int64} (e : z = if y < x then x else y) : (z.toInt = x.toInt ∧ y.toInt < x.toInt) ∨ (z.toInt = y.toInt ∧ x.toInt ≤ y.toInt) := by
  by_cases h : y < x
  · rw [if_pos h] at e; exact Or.inl ⟨by rw [e], Int64.lt_iff_toInt_lt.mp h⟩
  · rw [if_neg h] at e; exact Or.inr ⟨by rw [e], by have : ¬ y.toInt < x.toInt := fun q => h (Int64.lt_iff_toInt_lt.mpr q); omega⟩
theorem l_2i {x : Int64} {z : Int32} (e : z = x.toInt32) (h1 : -2147483648 ≤ x.toInt) (h2 : x.toInt ≤ 2147483647) : z.toInt = x.toInt := by
  rw [e, Int64.toInt_toInt32]; exact Kit.bmod32 (by omega) (by omega)
theorem l_and {x m z : Int64} {a : Int} (e : z = x &&& m) (hm : m = 2147483647) (hx : x.toInt = a) (h0 : 0 ≤ a) : z.toInt = a % 2147483648 := by
  have h1 : x.toBitVec.toNat = a.toNat := by
    have q : x.toInt = x.toBitVec.toInt := rfl
    rw [hx, BitVec.toInt_eq_toNat_cond] at q
    split at q <;> omega
  have h2 : z.toBitVec.toNat = a.toNat % 2147483648 := by
    rw [e, hm, Int64.toBitVec_and, BitVec.toNat_and, h1, show (2147483647 : Int64).toBitVec.toNat = 2 ^ 31 - 1 by decide, Nat.and_two_pow_sub_one_eq_mod]
  have q : z.toInt = z.toBitVec.toInt := rfl
  rw [q, BitVec.toInt_eq_toNat_cond, if_pos (by omega), h2]
  omega
theorem i_divc {x y z : Int32} {a b : Int} (e : z = x / y) (ha : x.toInt = a) (hb : y.toInt = b) (h : 0 ≤ a) (h2 : 0 < b) : z.toInt = a / b := by
  rw [e, lg_idiv_nonneg (by omega) (by omega), ha, hb]
/-! copies and starts -/
theorem cp_row {q r k i n : Nat} {a b : Int32} {Mj N Mf M : ti_M} (e : N = uY Mj q k (va_cpy (tY Mj r k) (tY Mj q k) a.toNatClampNeg a.toNatClampNeg b.toNatClampNeg)) (ha : a = 0) (hb : b.toInt = (n : Int)) (hf : tY Mf q k = tY N q k) (hr : tY Mj r k = tY M r k) (hi : i < n) : tY Mf q k i = tY M r k i := by
  rw [hf, tY_uE e, i_cl hb, ha, show (0 : Int32).toNatClampNeg = 0 by decide]
  unfold va_cpy
  rw [if_pos (by omega), hr, Nat.sub_zero, Nat.zero_add]
/-- told powers come in -/
def bq_cp (tx s : Nat → Int) : Nat → Int := fun j => if 112 ≤ j ∧ j < 115 then tx (32 + (j - 112)) else s j
theorem qC_cp {q t : Nat} {tx rg : Nat → Int} {a b : Int32} {M N : ti_M} (h : qC q rg M) (ht : tC t tx M) (e : N = uY M q 7 (va_cpy (tY M t 1) (tY M q 7) a.toNatClampNeg a.toNatClampNeg b.toNatClampNeg)) (ha : a = 0) (hb : b = 3) : qC q (bq_cp tx rg) N := by
  rw [ha, hb, show (0 : Int32).toNatClampNeg = 0 by decide, show (3 : Int32).toNatClampNeg = 3 by decide] at e
  refine ⟨fun k h1 h2 => ?_, fun k i h6 h16 hi h7 => ?_⟩
  · unfold bq_cp; rw [if_neg (by omega), tI_uYE e]; exact h.1 k h1 h2
  · unfold bq_cp
    by_cases r : k = 7
    · subst r
      have h3 := h7 rfl
      rw [if_pos (by omega), tY_uE e]
      unfold va_cpy
      rw [if_pos (by omega), show 32 + (16 * 7 + i - 112) = 32 + i by omega, show 0 + (i - 0) = i by omega]
      exact ht.2.1 i h3
    · rw [if_neg (by omega), tY_nE e (nk r)]; exact h.2 k i h6 h16 hi h7
/-- a row of eight is filled -/
def bq_fl (s : Nat → Int) (b : Nat) : Nat → Int := fun j => if b ≤ j ∧ j < b + 8 then 0 else s j
theorem qC_f8 {q k : Nat} {rg : Nat → Int} {M N : ti_M} {g : Nat → Int32} (h : qC q rg M) (e : N = uY M q k g) (hk : 8 ≤ k ∧ k ≤ 16) (hg : ∀ j : Nat, j < 8 → (g j).toInt = 0) : qC q (bq_fl rg (16 * k)) N := by
  refine ⟨fun k2 h1 h2 => ?_, fun k2 i h6 h16 hi h7 => ?_⟩
  · unfold bq_fl; rw [if_neg (by omega), tI_uYE e]; exact h.1 k2 h1 h2
  · unfold bq_fl
    by_cases r : k2 = k
    · subst r; rw [if_pos (by omega), tY_uE e, hg i hi]
    · rw [if_neg (by omega), tY_nE e (nk r)]; exact h.2 k2 i h6 h16 hi h7
/-- as the text tells it, for n men -/
def bq_s1 (tx J : Nat → Int) (n : Nat) : Nat → Int := fun j => if j = 1 ∨ j = 2 ∨ j = 3 then 0 else if j = 4 then tx 6 else if j = 5 then tx 11 else if 112 ≤ j ∧ j < 115 then tx (32 + (j - 112)) else if 144 ≤ j ∧ j < 144 + n then tx (100 + 16 * (j - 144) + 7) else if 160 ≤ j ∧ j < 160 + n then tx (100 + 16 * (j - 160) + 3) else if 192 ≤ j ∧ j < 192 + n then tx (100 + 16 * (j - 192) + 5) else J j
theorem s1_go {tx J : Nat → Int} {n : Nat} (hn : n < 8) : pp_su (pp_su (pp_su (bq_s1 tx J n) (144 + n) (tx (100 + 16 * n + 7))) (160 + n) (tx (100 + 16 * n + 3))) (192 + n) (tx (100 + 16 * n + 5)) = bq_s1 tx J (n + 1) := by
  funext j
  by_cases h1 : j = 144 + n
  · subst h1
    rw [su_n (by omega), su_n (by omega), su_s]
    unfold bq_s1
    rw [if_neg (by omega), if_neg (by omega), if_neg (by omega), if_neg (by omega), if_pos (by omega), show 144 + n - 144 = n by omega]
  · by_cases h2 : j = 160 + n
    · subst h2
      rw [su_n (by omega), su_s]
      unfold bq_s1
      rw [if_neg (by omega), if_neg (by omega), if_neg (by omega), if_neg (by omega), if_neg (by omega), if_pos (by omega), show 160 + n - 160 = n by omega]
    · by_cases h3 : j = 192 + n
      · subst h3
        rw [su_s]
        unfold bq_s1
        rw [if_neg (by omega), if_neg (by omega), if_neg (by omega), if_neg (by omega), if_neg (by omega), if_neg (by omega), if_pos (by omega), show 192 + n - 192 = n by omega]
      · rw [su_n h3, su_n h2, su_n h1]
        unfold bq_s1
        by_cases c1 : j = 1 ∨ j = 2 ∨ j = 3
        · rw [if_pos c1, if_pos c1]
        · rw [if_neg c1, if_neg c1]
          by_cases c4 : j = 4
          · rw [if_pos c4, if_pos c4]
          · rw [if_neg c4, if_neg c4]
            by_cases c5 : j = 5
            · rw [if_pos c5, if_pos c5]
            · rw [if_neg c5, if_neg c5]
              by_cases c6 : 112 ≤ j ∧ j < 115
              · rw [if_pos c6, if_pos c6]
              · rw [if_neg c6, if_neg c6]
                by_cases c7 : 144 ≤ j ∧ j < 144 + n
                · rw [if_pos c7, if_pos (by omega)]
                · rw [if_neg c7, if_neg (show ¬ (144 ≤ j ∧ j < 144 + (n + 1)) by omega)]
                  by_cases c8 : 160 ≤ j ∧ j < 160 + n
                  · rw [if_pos c8, if_pos (by omega)]
                  · rw [if_neg c8, if_neg (show ¬ (160 ≤ j ∧ j < 160 + (n + 1)) by omega)]
                    by_cases c9 : 192 ≤ j ∧ j < 192 + n
                    · rw [if_pos c9, if_pos (by omega)]
                    · rw [if_neg c9, if_neg (show ¬ (192 ≤ j ∧ j < 192 + (n + 1)) by omega)]
theorem s1_0 {tx J : Nat → Int} : bq_cp tx (pp_su (pp_su (pp_su (pp_su (pp_su J 1 0) 2 0) 3 0) 4 (tx 6)) 5 (tx 11)) = bq_s1 tx J 0 := by
  funext j
  unfold bq_cp bq_s1
  by_cases c6 : 112 ≤ j ∧ j < 115
  · rw [if_pos c6, if_neg (by omega), if_neg (by omega), if_neg (by omega), if_pos c6]
  · rw [if_neg c6]
    by_cases c5 : j = 5
    · subst c5; rw [su_s]; rfl
    · rw [su_n c5]
      by_cases c4 : j = 4
      · subst c4; rw [su_s]; rfl
      · rw [su_n c4]
        by_cases c3 : j = 3
        · subst c3; rw [su_s]; rfl
        · rw [su_n c3]
          by_cases c2 : j = 2
          · subst c2; rw [su_s]; rfl
          · rw [su_n c2]
            by_cases c1 : j = 1
            · subst c1; rw [su_s]; rfl
            · rw [su_n c1, if_neg (by omega), if_neg c4, if_neg c5, if_neg c6, if_neg (by omega), if_neg (by omega), if_neg (by omega)]
/-- as the text tells it; J where nothing is told -/
def bq_s0 (tx J : Nat → Int) : Nat → Int := bq_fl (bq_fl (bq_fl (bq_fl (bq_s1 tx J (tx 4).toNat) 128) 176) 240) 256
section
variable {tx rg : Nat → Int} {k : Nat}
theorem mt_k (h : k < 96 ∧ k ≠ 3 ∧ k ≠ 5) : bq_mt tx rg k = rg k := by
  unfold bq_mt
  split
  · rfl
  · split
    · rw [rm_k ⟨h.1, h.2.1⟩, su_n h.2.2]
    · rw [su_n h.2.2]
theorem mt_5 (h : 0 ≤ rg 5) : 0 ≤ bq_mt tx rg 5 := by
  have hd : 0 ≤ bq_dr (rg 5) := by unfold bq_dr; omega
  unfold bq_mt
  split
  · exact h
  · split
    · rw [rm_k (by decide), su_s]; exact hd
    · rw [su_s]; exact hd
theorem ps_1 : bq_ps tx rg 1 = rg 1 := by
  unfold bq_ps bq_m1
  rw [su_n (by decide), mt_k (by decide), rl_k (by decide), wr_k (by decide), ly_k (by decide), pr_k (by decide), hc_k (by decide), wl_k (by decide)]
theorem ps_2 : bq_ps tx rg 2 = bw (rg 2 + 1) := by
  unfold bq_ps bq_m1
  rw [su_s, mt_k (by decide), rl_k (by decide), wr_k (by decide), ly_k (by decide), pr_k (by decide), hc_k (by decide), wl_k (by decide)]
theorem ps_5 (h : 0 ≤ rg 5) : 0 ≤ bq_ps tx rg 5 := by
  unfold bq_ps bq_m1
  rw [su_n (by decide)]
  apply mt_5
  rw [rl_k (by decide), wr_k (by decide), ly_k (by decide), pr_k (by decide), hc_k (by decide), wl_k (by decide)]
  exact h
theorem pl_go {f f' : Nat} {s : Nat → Int} (e : f = f' + 1) : bq_pl tx f s = bq_pl tx f' (bq_ps tx s) := by subst e; rfl
end
theorem bl_wn {x z : Int32} (e : z = -x) (a b : Int) : bl_w z.toInt a b = bl_w (-x.toInt) a b := by
  by_cases h : -2147483647 ≤ x.toInt
  · rw [i_neg e rfl h]
  · have h1 := x.le_toInt
    have hx : x.toInt = -2147483648 := by omega
    have hz : z = -2147483648 := by rw [e, show x = -2147483648 from Int32.toInt_inj.mp (hx.trans (by decide))]; decide
    rw [hx, hz, show (-2147483648 : Int32).toInt = -2147483648 by decide]
    unfold bl_w
    rw [if_neg (by decide), if_neg (by decide), if_neg (by decide), if_neg (by decide), if_neg (by decide), if_neg (by decide), if_neg (by decide), if_neg (by decide), if_neg (by decide), if_neg (by decide), if_neg (by decide), if_neg (by decide), if_neg (by decide), if_neg (by decide), if_neg (by decide), if_neg (by decide), if_neg (by decide), if_neg (by decide), if_neg (by decide), if_neg (by decide), if_neg (by decide), if_neg (by decide), if_neg (by decide), if_neg (by decide)]

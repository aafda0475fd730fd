variable {Tc : gC} {Tm : gM}
/-! lines: what they tell -/
def qq_lq (B : Nat → Int) (n : Nat) (a td : Nat → Int) : Nat → Int := if 12 ≤ a 0 ∧ a 0 ≤ 14 then qq_ei B n (a 0 - 12).toNat (pp_pt B n 8) (qq_pt B n (a 0 - 12).toNat 8) (pp_on B n a) td else td
def qq_lw (B : Nat → Int) (n : Nat) (s td : Nat → Int) : Nat → Int := qq_lq B n (pp_av B n s) td
def qq_lb (B : Nat → Int) (n : Nat) (s td : Nat → Int) : Nat → Int := if s 0 = 0 then qq_mn B n s td else if s 0 = 1 then td else if s 0 = 2 then qq_pw B n s td else if s 0 = 3 then pp_su (pp_su td 6 (pp_on B n s 1)) 7 (pp_nb B n 0 999 (pp_on B n s) 1) else if s 0 = 4 then pp_su td 8 (pp_on B n s 1) else if s 0 = 5 then pp_su td 9 (pp_on B n s 1) else if s 0 = 6 then pp_su td 10 (pp_on B n s 1) else if s 0 = 7 then pp_su td 11 (pp_on B n s 1) else if s 0 = 8 then qq_lw B n s td else td
def qq_mq (B : Nat → Int) (n : Nat) (s td : Nat → Int) : Nat → Int := qq_m4 (s 7).toNat (pp_m3 B n (pp_m2 (pp_su s (100 + (s 7).toNat) (s 1)))) (qq_m3 B n (s 7).toNat (pp_tk B n 25 (pp_m2 (pp_su s (100 + (s 7).toNat) (s 1)))) td)
def qq_pq (B : Nat → Int) (n : Nat) (s td : Nat → Int) : Nat → Int := if 9 ≤ s 0 ∧ s 0 ≤ 11 then pp_su td (32 + (s 0 - 9).toNat) (pp_on B n s 1) else td
theorem qmn_q {B : Nat → Int} {n : Nat} {s td : Nat → Int} (h : s 7 < 8) : qq_mn B n s td = qq_mq B n (pp_av B n s) td := by
  unfold qq_mn qq_mq pp_m1
  rw [if_pos h, show pp_av B n s 7 = s 7 from av_n (by decide)]
theorem qpw_q {B : Nat → Int} {n : Nat} {s td : Nat → Int} : qq_pw B n s td = qq_pq B n (pp_av B n s) td := rfl
theorem qm_o {B : Nat → Int} {n m k : Nat} {b g td : Nat → Int} (h : k < 100 + 16 * m ∨ 228 ≤ k) (hm : m < 8) : qq_m4 m g (qq_m3 B n m b td) k = td k := by
  unfold qq_m4 qq_m3
  rw [su_n (by omega), su_n (by omega), su_n (by omega), su_n (by omega), su_n (by omega), su_n (by omega), su_n (by omega), su_n (by omega)]
theorem qm_v {B : Nat → Int} {n m : Nat} {b g td g1 g2 g3 g4 g5 g6 : Nat → Int} (e1 : g1 = pp_nb B n 1 99 b) (e2 : g2 = pp_nb B n 0 9 g1) (e3 : g3 = pp_nb B n 1 99 g2) (e4 : g4 = pp_nb B n 1 30 g3) (e5 : g5 = pp_nb B n 0 99 g4) (e6 : g6 = pp_nb B n 0 99 g5) :
    qq_m4 m g (qq_m3 B n m b td) (100 + 16 * m + 1) = b 1 ∧ qq_m4 m g (qq_m3 B n m b td) (100 + 16 * m + 2) = g1 1 ∧ qq_m4 m g (qq_m3 B n m b td) (100 + 16 * m + 3) = g2 1 ∧ qq_m4 m g (qq_m3 B n m b td) (100 + 16 * m + 4) = g3 1 ∧ qq_m4 m g (qq_m3 B n m b td) (100 + 16 * m + 5) = g4 1 ∧ qq_m4 m g (qq_m3 B n m b td) (100 + 16 * m + 6) = g5 1 ∧ qq_m4 m g (qq_m3 B n m b td) (100 + 16 * m + 7) = g6 1 ∧ qq_m4 m g (qq_m3 B n m b td) (100 + 16 * m + 8) = if g 0 = 15 then 1 else 0 := by
  unfold qq_m4 qq_m3
  rw [← e1, ← e2, ← e3, ← e4, ← e5, ← e6]
  refine ⟨?_, ?_, ?_, ?_, ?_, ?_, ?_, su_s⟩
  · rw [su_n (by omega), su_n (by omega), su_n (by omega), su_n (by omega), su_n (by omega), su_n (by omega), su_n (by omega), su_s]
  · rw [su_n (by omega), su_n (by omega), su_n (by omega), su_n (by omega), su_n (by omega), su_n (by omega), su_s]
  · rw [su_n (by omega), su_n (by omega), su_n (by omega), su_n (by omega), su_n (by omega), su_s]
  · rw [su_n (by omega), su_n (by omega), su_n (by omega), su_n (by omega), su_s]
  · rw [su_n (by omega), su_n (by omega), su_n (by omega), su_s]
  · rw [su_n (by omega), su_n (by omega), su_s]
  · rw [su_n (by omega), su_s]
/-! an expression tells of its own law alone -/
def tj (j : Nat) (td2 td : Nat → Int) : Prop := ∀ k : Nat, k ≠ 300 + j → (k < 400 + 64 * j ∨ 464 + 64 * j ≤ k) → td2 k = td k
theorem tj.refl {j : Nat} {td : Nat → Int} : tj j td td := fun _ _ _ => rfl
theorem tj.trans {j : Nat} {a b c : Nat → Int} (x : tj j a b) (y : tj j b c) : tj j a c := fun k h1 h2 => (x k h1 h2).trans (y k h1 h2)
theorem tj_a {j : Nat} {x : Int} {td : Nat → Int} : tj j (qa j x td) td := fun k h1 h2 => by
  unfold qa
  split
  · rw [su_n h1, su_n (by omega)]
  · rfl
def tP (j : Nat) (G : (Nat → Int) → (Nat → Int) → Nat → Int) : Prop := ∀ s td : Nat → Int, tj j (G s td) td
theorem tP_lp {j : Nat} {P : Int → Bool} {F : (Nat → Int) → Nat → Int} {G : (Nat → Int) → (Nat → Int) → Nat → Int} (h : tP j G) : ∀ f : Nat, tP j (qq_lp P F G f) := by
  intro f
  induction f with
  | zero => intro s td; exact tj.refl
  | succ f ih =>
    intro s td
    rw [qq_lp]
    split
    · exact (ih _ _).trans (h s td)
    · exact tj.refl
section
variable {B : Nat → Int} {n j : Nat} {F : (Nat → Int) → Nat → Int} {G : (Nat → Int) → (Nat → Int) → Nat → Int}
theorem tP_p0 : tP j (qq_p0 j) := fun s td => by
  unfold qq_p0
  repeat' split
  all_goals first | exact tj.refl | exact tj_a
theorem tP_pd (h : tP j G) : tP j (qq_pd B n j F G) := fun s td => (tP_lp (fun s td => tj_a.trans (h _ _)) 64 _ _).trans (h s td)
theorem tP_sm (h : tP j G) : tP j (qq_sm B n j F G) := fun s td => (tP_lp (fun s td => tj_a.trans (tP_pd h _ _)) 64 _ _).trans (tP_pd h s td)
theorem tP_c2 (h : tP j G) : tP j (qq_c2 B n j F G) := fun s td => by
  unfold qq_c2
  split
  · exact tj_a.trans (tP_sm h _ _)
  · exact tj.refl
theorem tP_cm (h : tP j G) : tP j (qq_cm B n j F G) := fun s td => (tP_c2 h _ _).trans (tP_sm h s td)
theorem tP_na : ∀ (f : Nat) (td : Nat → Int), tj j (qq_na j f td) td := by
  intro f
  induction f with
  | zero => intro td; exact tj.refl
  | succ f ih => intro td; exact tj_a.trans (ih td)
theorem tP_ng (h : tP j G) : tP j (qq_ng B n j F G) := fun s td => (tP_na _ _).trans (tP_cm h _ _)
theorem tP_bo (h : tP j G) : tP j (qq_bo B n j F G) := fun s td => (tP_lp (fun s td => tj_a.trans (tP_ng h _ _)) 64 _ _).trans (tP_ng h s td)
theorem tP_ei (h : tP j G) : tP j (qq_ei B n j F G) := fun s td => (tP_lp (fun s td => tj_a.trans (tP_bo h _ _)) 64 _ _).trans (tP_bo h s td)
end
theorem tP_pt {B : Nat → Int} {n j : Nat} : ∀ d : Nat, tP j (qq_pt B n j d) := by
  intro d
  induction d with
  | zero =>
    intro s td
    rw [qq_pt]
    split
    · exact tj.refl
    · exact tP_p0 s td
  | succ d ih =>
    intro s td
    rw [qq_pt]
    split
    · exact tP_ei ih _ _
    · exact tP_p0 s td
/-! of men, what is told ahead of this text stays -/
def gU (N M : ti_M) : Prop := ∀ k i : Nat, 5 ≤ k → k ≤ 13 → i < 8 → tY N 60 k i = tY M 60 k i
theorem gU.refl {M : ti_M} : gU M M := fun _ _ _ _ _ => rfl
theorem gU.trans {K N M : ti_M} (x : gU K N) (y : gU N M) : gU K M := fun k i a b c => (x k i a b c).trans (y k i a b c)
theorem gU_e {N M : ti_M} (e : N.2.1 = M.2.1) : gU N M := fun _ _ _ _ _ => cg (tY_fr e) _
theorem gU_pe {N M : ti_M} (x : pe N M) : gU N M := fun k i a b _ => by rw [x.1 k (by omega) (by omega) (by omega)]
theorem gU_Yx {N M : ti_M} {k : Nat} {f : Nat → Int32} (e : N = uY M 60 k f) (h : k < 5 ∨ 13 < k) : gU N M := fun k2 i a b _ => cg (tY_nE e (nk (by omega))) i
theorem gU_Y {N M : ti_M} {k i : Nat} {v : Int32} (e : N = uY M 60 k (upd (tY M 60 k) i v)) (h : 8 ≤ i) : gU N M := fun k2 j a b c => by
  by_cases r : k2 = k
  · subst r; rw [tY_uE e, pk_un (by omega)]
  · exact cg (tY_nE e (nk r)) j
/-! what lines have told, where nothing is wrong -/
/-- of a law -/
def qO (j : Nat) (td : Nat → Int) (M : ti_M) : Prop := 0 ≤ td (300 + j) ∧ ∃ a : Nat, (tY M 60 14 (3 + j)).toInt = a ∧ (tY M 60 15 (3 + j)).toInt = a + td (300 + j) ∧ a + td (300 + j) ≤ (tY M 60 3 18).toInt ∧ (0 < td (300 + j) → ud M a (td (300 + j)).toNat = some 1) ∧ ∀ n : Nat, (n : Int) < td (300 + j) → td (400 + 64 * j + n) = bq_kc (tY M 60 16 (64 + (a + n))).toInt (tY M 60 17 (64 + (a + n))).toInt ∧ ((tY M 60 16 (64 + (a + n))).toInt = 0 → 0 ≤ (tY M 60 17 (64 + (a + n))).toInt)
def qA (td : Nat → Int) (M : ti_M) : Prop := (∀ k : Nat, 6 ≤ k → k ≤ 11 → td k = (tY M 60 3 (6 + k)).toInt) ∧ (∀ k : Nat, k < 3 → td (32 + k) = (tY M 60 3 (19 + k)).toInt) ∧ (∀ i f : Nat, (i : Int) < (tY M 60 3 11).toInt → i < 8 → 1 ≤ f → f ≤ 8 → td (100 + 16 * i + f) = (tY M 60 (4 + f) (8 + i)).toInt) ∧ ∀ j : Nat, j < 3 → (pp_bt (tI M 60 18) (16 + j) = 0 → td (300 + j) = 0) ∧ td (300 + j) ≤ 64 ∧ qO j td M
/-- knots counted; bounds of what is told -/
def qK (td : Nat → Int) (M : ti_M) : Prop := (tY M 60 3 18).toInt = (tI M 60 30).toInt ∧ ((0 ≤ td 6 ∧ td 6 ≤ 999) ∧ 1 ≤ td 7 ∧ 1 ≤ td 8 ∧ (1 ≤ td 9 ∧ td 9 ≤ 7) ∧ 0 ≤ td 10 ∧ 0 ≤ td 11) ∧ (∀ k : Nat, k < 3 → 0 ≤ td (32 + k) ∧ td (32 + k) ≤ 7) ∧ ∀ i : Nat, (i : Int) < (tY M 60 3 11).toInt → i < 8 → (1 ≤ td (100 + 16 * i + 4) ∧ td (100 + 16 * i + 4) ≤ 30) ∧ (tY M 60 13 (8 + i)).toInt ≤ 8
def qL (td : Nat → Int) (M : ti_M) : Prop := (tI M 60 25).toInt = 0 → qK td M ∧ qA td M
section
variable {td td2 : Nat → Int} {N M : ti_M} {z v : Int32} {x : Int} {k a : Nat}
theorem qL_f (h : ff M = 0) : qL td M := fun q => absurd q (ff_n h)
theorem qA_fr (h : qA td M) (e : N.2.1 = M.2.1) (e18 : tI N 60 18 = tI M 60 18) : qA td N := by
  have e2 : ∀ k, tY N 60 k = tY M 60 k := fun k => tY_fr e
  unfold qA qO ud at *
  simp only [e2, e18]
  exact h
theorem qL_fr (h : qL td M) (e : N.2.1 = M.2.1) (e18 : tI N 60 18 = tI M 60 18) (e30 : tI N 60 30 = tI M 60 30) (hf : ff N ≤ ff M) : qL td N := fun q => ⟨by unfold qK; rw [e30, show tY N 60 3 = tY M 60 3 from tY_fr e, show tY N 60 13 = tY M 60 13 from tY_fr e]; exact (h (ff_q hf q)).1, qA_fr (h (ff_q hf q)).2 e e18⟩
theorem qL_18 {k0 : Nat} (h : qL td M) (e : N = uI M 60 18 z) (hb : ∀ j : Nat, j < 32 → pp_bt z j = if j = k0 then 1 else pp_bt (tI M 60 18) j) : qL td N := fun q => by
  have e2 : ∀ k, tY N 60 k = tY M 60 k := fun k => tY_uIE e
  have w := h (by rw [← tI_nE e (nk (by decide))]; exact q)
  have y := w.2
  refine ⟨by unfold qK; rw [e2 3, e2 13, tI_nE e (nk (by decide))]; exact w.1, ?_⟩
  unfold qA qO ud at *
  simp only [e2, tI_uE e]
  refine ⟨y.1, y.2.1, y.2.2.1, fun j hj => ⟨fun b => (y.2.2.2 j hj).1 ?_, (y.2.2.2 j hj).2⟩⟩
  rw [hb _ (by omega)] at b
  split at b
  · exact absurd b (by decide)
  · exact b
/-- a row of men, at the place that comes next, or one that tells nothing here -/
theorem qL_m {i : Nat} (h : qL td M) (e : N = uY M 60 k (upd (tY M 60 k) i v)) (hk : 4 ≤ k ∧ k ≤ 13) (hi : (k = 13 ∧ v.toInt ≤ 8) ∨ (tY M 60 3 11).toInt + 8 ≤ (i : Int)) : qL td N := fun q => by
  have w := h (by rw [← tI_uYE e]; exact q)
  have y := w.2
  have e2 : ∀ k2, k2 ≠ k → tY N 60 k2 = tY M 60 k2 := fun k2 h2 => tY_nE e (nk h2)
  refine ⟨⟨by rw [e2 3 (by omega), show tI N 60 30 = tI M 60 30 from tI_uYE e]; exact w.1.1, w.1.2.1, w.1.2.2.1, fun i2 h1 h0 => ?_⟩, ?_⟩
  · rw [e2 3 (by omega)] at h1
    have x := w.1.2.2.2 i2 h1 h0
    refine ⟨x.1, ?_⟩
    by_cases r : 13 = k
    · subst r
      rw [tY_uE e]
      by_cases r2 : 8 + i2 = i
      · rw [r2, pk_us]
        rcases hi with hi | hi
        · exact hi.2
        · omega
      · rw [pk_un r2]; exact x.2
    · rw [e2 13 r]; exact x.2
  unfold qA qO ud at *
  rw [e2 3 (by omega), e2 14 (by omega), e2 15 (by omega), e2 16 (by omega), e2 17 (by omega), show tI N 60 18 = tI M 60 18 from tI_uYE e]
  refine ⟨y.1, y.2.1, fun i2 f h1 h0 h2 h3 => ?_, y.2.2.2⟩
  rw [y.2.2.1 i2 f h1 h0 h2 h3]
  by_cases r : 4 + f = k
  · subst r
    rw [tY_uE e, pk_un (by omega)]
  · rw [e2 _ r]
/-- bounds of a number that is told -/
def bK (c : Nat) (x : Int) : Prop := (c = 6 → 0 ≤ x ∧ x ≤ 999) ∧ (c = 7 → 1 ≤ x) ∧ (c = 8 → 1 ≤ x) ∧ (c = 9 → 1 ≤ x ∧ x ≤ 7) ∧ (c = 10 → 0 ≤ x) ∧ (c = 11 → 0 ≤ x) ∧ (32 ≤ c → 0 ≤ x ∧ x ≤ 7)
/-- a number that is told -/
theorem qL_r {c : Nat} (h : qL td M) (e : N = uY M 60 3 (upd (tY M 60 3) a v)) (hv : (tI M 60 25).toInt = 0 → v.toInt = x) (hc : (6 ≤ c ∧ c ≤ 11 ∧ a = 6 + c) ∨ (32 ≤ c ∧ c < 35 ∧ a + 13 = c)) (hx : (tI M 60 25).toInt = 0 → bK c x) : qL (pp_su td c x) N := fun q => by
  have q0 : (tI M 60 25).toInt = 0 := by rw [← tI_uYE e]; exact q
  have w0 := h q0
  have y := w0.2
  have v0 := hv q0
  have e2 : ∀ k2, k2 ≠ 3 → tY N 60 k2 = tY M 60 k2 := fun k2 h2 => tY_nE e (nk h2)
  have e3 : ∀ i, i ≠ a → tY N 60 3 i = tY M 60 3 i := fun i hi => by rw [tY_uE e, pk_un hi]
  have ea : (tY N 60 3 a).toInt = x := by rw [tY_uE e, pk_us, v0]
  have hx := hx q0
  obtain ⟨k0, ⟨k6, k7, k8, k9, k10, k11⟩, k32, k4⟩ := w0.1
  refine ⟨⟨by rw [e3 18 (by omega), show tI N 60 30 = tI M 60 30 from tI_uYE e]; exact k0, ⟨?_, ?_, ?_, ?_, ?_, ?_⟩, fun k hk => ?_, fun i h1 h0 => ?_⟩, fun k h1 h2 => ?_, fun k hk => ?_, fun i f h1 h0 h2 h3 => ?_, fun j hj => ?_⟩
  · by_cases r : 6 = c
    · rw [← r, su_s]; exact hx.1 r.symm
    · rw [su_n r]; exact k6
  · by_cases r : 7 = c
    · rw [← r, su_s]; exact hx.2.1 r.symm
    · rw [su_n r]; exact k7
  · by_cases r : 8 = c
    · rw [← r, su_s]; exact hx.2.2.1 r.symm
    · rw [su_n r]; exact k8
  · by_cases r : 9 = c
    · rw [← r, su_s]; exact hx.2.2.2.1 r.symm
    · rw [su_n r]; exact k9
  · by_cases r : 10 = c
    · rw [← r, su_s]; exact hx.2.2.2.2.1 r.symm
    · rw [su_n r]; exact k10
  · by_cases r : 11 = c
    · rw [← r, su_s]; exact hx.2.2.2.2.2.1 r.symm
    · rw [su_n r]; exact k11
  · by_cases r : 32 + k = c
    · rw [r, su_s]; exact hx.2.2.2.2.2.2 (by omega)
    · rw [su_n r]; exact k32 k hk
  · rw [e3 11 (by omega)] at h1
    rw [su_n (by omega), e2 13 (by decide)]; exact k4 i h1 h0
  · by_cases r : k = c
    · subst r; rw [su_s, show 6 + k = a by omega, ea]
    · rw [su_n r, e3 _ (by omega)]; exact y.1 k h1 h2
  · by_cases r : 32 + k = c
    · rw [r, su_s, show 19 + k = a by omega, ea]
    · rw [su_n r, e3 _ (by omega)]; exact y.2.1 k hk
  · rw [e3 11 (by omega)] at h1
    rw [su_n (by omega), e2 _ (by omega)]; exact y.2.2.1 i f h1 h0 h2 h3
  · have w := y.2.2.2 j hj
    unfold qO ud at *
    rw [su_n (by omega), e2 14 (by decide), e2 15 (by decide), e2 16 (by decide), e2 17 (by decide), e3 18 (by omega), show tI N 60 18 = tI M 60 18 from tI_uYE e]
    obtain ⟨w1, w2, w3, b, w4, w5, w6, w7, w8⟩ := w
    exact ⟨w1, w2, w3, b, w4, w5, w6, w7, fun m hm => by rw [su_n (by omega)]; exact w8 m hm⟩
/-- a man more -/
theorem qL_mn (h : qL td M) (e : N = uY M 60 3 (upd (tY M 60 3) 11 z)) (h11 : (tY M 60 3 11).toInt = a) (hz : z.toInt = a + 1) (ha : a < 8) (ho : ∀ k : Nat, (k < 100 + 16 * a ∨ 228 ≤ k) → td2 k = td k) (hv : (tI M 60 25).toInt = 0 → ∀ f : Nat, 1 ≤ f → f ≤ 8 → td2 (100 + 16 * a + f) = (tY M 60 (4 + f) (8 + a)).toInt) (hb : (tI M 60 25).toInt = 0 → (1 ≤ td2 (100 + 16 * a + 4) ∧ td2 (100 + 16 * a + 4) ≤ 30) ∧ (tY M 60 13 (8 + a)).toInt ≤ 8) : qL td2 N := fun q => by
  have q0 : (tI M 60 25).toInt = 0 := by rw [← tI_uYE e]; exact q
  have w0 := h q0
  have y := w0.2
  have v0 := hv q0
  have e2 : ∀ k2, k2 ≠ 3 → tY N 60 k2 = tY M 60 k2 := fun k2 h2 => tY_nE e (nk h2)
  have e3 : ∀ i, i ≠ 11 → tY N 60 3 i = tY M 60 3 i := fun i hi => by rw [tY_uE e, pk_un hi]
  have ea : (tY N 60 3 11).toInt = a + 1 := by rw [tY_uE e, pk_us, hz]
  obtain ⟨k0, k6, k32, k4⟩ := w0.1
  refine ⟨⟨by rw [e3 18 (by omega), show tI N 60 30 = tI M 60 30 from tI_uYE e]; exact k0, by rw [ho 6 (by omega), ho 7 (by omega), ho 8 (by omega), ho 9 (by omega), ho 10 (by omega), ho 11 (by omega)]; exact k6, fun k hk => by rw [ho _ (by omega)]; exact k32 k hk, fun i h1 h0 => ?_⟩, fun k h1 h2 => ?_, fun k hk => ?_, fun i f h1 h0 h2 h3 => ?_, fun j hj => ?_⟩
  · rw [e2 13 (by decide)]
    by_cases r : i = a
    · subst r; exact hb q0
    · rw [ho _ (by omega)]; exact k4 i (by omega) h0
  · rw [ho k (by omega), e3 _ (by omega)]; exact y.1 k h1 h2
  · rw [ho _ (by omega), e3 _ (by omega)]; exact y.2.1 k hk
  · rw [e2 _ (by omega)]
    by_cases r : i = a
    · subst r; exact v0 f h2 h3
    · rw [ho _ (by omega)]; exact y.2.2.1 i f (by omega) h0 h2 h3
  · have w := y.2.2.2 j hj
    unfold qO ud at *
    rw [ho _ (by omega), e2 14 (by decide), e2 15 (by decide), e2 16 (by decide), e2 17 (by decide), e3 18 (by omega), show tI N 60 18 = tI M 60 18 from tI_uYE e]
    obtain ⟨w1, w2, w3, b, w4, w5, w6, w7, w8⟩ := w
    exact ⟨w1, w2, w3, b, w4, w5, w6, w7, fun m hm => by rw [ho _ (by omega)]; exact w8 m hm⟩
theorem qE_0 {lj : Nat} (hI : 0 ≤ (tY M 60 3 18).toInt) (h : (tI M 60 25).toInt = 0 → td (300 + lj) = 0) : qE (tY M 60 3 18).toInt.toNat 0 lj td M := fun q => by
  have z := h q
  rw [z]
  exact ⟨⟨by omega, Int.le_refl _⟩, rfl, fun m hm => absurd hm (by omega)⟩
/-- a law -/
theorem qL_law {A B C E : ti_M} {i i2 lj : Nat} {f t : Int32} (h : qL td A) (e1 : B = uY A 60 14 (upd (tY A 60 14) i f)) (hf : f.toInt = (tY A 60 3 18).toInt) (h0 : 0 ≤ (tY A 60 3 18).toInt) (hl : lj < 3) (hi : i = 3 + lj) (p : pe C B) (hff : ff C ≤ ff B) (q : qE (tY B 60 3 18).toInt.toNat 1 lj td2 C) (h64 : (tY C 60 3 18).toInt ≤ 64) (ht2 : tj lj td2 td) (e2 : E = uY C 60 15 (upd (tY C 60 15) i2 t)) (h2 : i2 = i) (ht : t.toInt = (tY C 60 3 18).toInt) (hb : (tI A 60 25).toInt = 0 → pp_bt (tI A 60 18) (16 + lj) ≠ 0) (hk : (tI C 60 25).toInt = 0 → (tY A 60 3 18).toInt = (tI A 60 30).toInt → (tY C 60 3 18).toInt = (tI C 60 30).toInt) : qL td2 E := fun q9 => by
  subst h2
  have qC : (tI C 60 25).toInt = 0 := by rw [← tI_uYE e2]; exact q9
  have qB : (tI B 60 25).toInt = 0 := ff_q hff qC
  have qA0 : (tI A 60 25).toInt = 0 := by rw [← tI_uYE e1]; exact qB
  have w0 := h qA0
  have y := w0.2
  have hb := hb qA0
  obtain ⟨⟨x1, x2⟩, x3, x4⟩ := q qC
  have r14 : ∀ x, tY E 60 14 x = upd (tY A 60 14) i2 f x := fun x => by rw [tY_nE e2 (nk (by decide)), p.1 14 (by decide) (by decide) (by decide), tY_uE e1]
  have r15 : ∀ x, tY E 60 15 x = upd (tY A 60 15) i2 t x := fun x => by rw [tY_uE e2, p.1 15 (by decide) (by decide) (by decide), tY_nE e1 (nk (by decide))]
  have k3 : tY B 60 3 = tY A 60 3 := tY_nE e1 (nk (by decide))
  have c3 : tY E 60 3 = tY C 60 3 := tY_nE e2 (nk (by decide))
  have r3 : ∀ i, i ≠ 18 → tY E 60 3 i = tY A 60 3 i := fun i hi => by rw [c3, p.2.1 i hi, k3]
  have r18 : tY E 60 3 18 = tY C 60 3 18 := by rw [c3]
  have rk : ∀ k, 4 < k → k < 13 → tY E 60 k = tY A 60 k := fun k h1 h2 => by rw [tY_nE e2 (nk (by omega)), p.1 k (by omega) (by omega) (by omega), tY_nE e1 (nk (by omega))]
  have r16 : tY E 60 16 = tY C 60 16 := tY_nE e2 (nk (by decide))
  have r17 : tY E 60 17 = tY C 60 17 := tY_nE e2 (nk (by decide))
  have b18 : tI E 60 18 = tI A 60 18 := (tI_uYE e2).trans ((p.2.2.2.2 18 (by decide)).trans (tI_uYE e1))
  have g3 := p.2.2.1
  have g4 := p.2.2.2.1
  rw [k3] at x1 x3 x4 g3 g4
  obtain ⟨k0, k6, k32, k4⟩ := w0.1
  have o : ∀ k : Nat, k < 300 → td2 k = td k := fun k h => ht2 k (by omega) (by omega)
  have r13 : tY E 60 13 = tY A 60 13 := by rw [tY_nE e2 (nk (by decide)), p.1 13 (by decide) (by decide) (by decide), tY_nE e1 (nk (by decide))]
  refine ⟨⟨by rw [r18, show tI E 60 30 = tI C 60 30 from tI_uYE e2]; exact hk qC k0, by rw [o 6 (by decide), o 7 (by decide), o 8 (by decide), o 9 (by decide), o 10 (by decide), o 11 (by decide)]; exact k6, fun k hk => by rw [o _ (by omega)]; exact k32 k hk, fun i h1 h0 => by rw [r3 11 (by decide)] at h1; rw [o _ (by omega), r13]; exact k4 i h1 h0⟩, fun k h1 h2 => ?_, fun k hk => ?_, fun m f h1 h0 h2 h3 => ?_, fun j hj => ?_⟩
  · rw [ht2 k (by omega) (by omega), r3 _ (by omega)]; exact y.1 k h1 h2
  · rw [ht2 _ (by omega) (by omega), r3 _ (by omega)]; exact y.2.1 k hk
  · rw [r3 11 (by decide)] at h1
    rw [ht2 _ (by omega) (by omega), rk _ (by omega) (by omega)]; exact y.2.2.1 m f h1 h0 h2 h3
  · by_cases r : j = lj
    · subst r
      refine ⟨fun b => absurd (by rw [← b18]; exact b) hb, by omega, x2, (tY A 60 3 18).toInt.toNat, ?_, ?_, ?_, fun w => ?_, fun m hm => ?_⟩
      · rw [r14, hi, pk_us]; omega
      · rw [r15, hi, pk_us]; omega
      · rw [r18]; omega
      · have : (td2 (300 + j)).toNat ≠ 0 := by omega
        unfold ud at *
        rw [r16, r17]; exact x3
      · rw [r16, r17]; exact x4 m hm
    · obtain ⟨w1, w64, w2, a, w3, w4, w5, w6, w7⟩ := y.2.2.2 j hj
      have et : td2 (300 + j) = td (300 + j) := ht2 _ (by omega) (by omega)
      rw [b18]
      unfold qO
      rw [et, r14, r15, pk_un (by omega), pk_un (by omega), r18]
      have ge : ∀ m : Nat, (m : Int) < td (300 + j) → tY E 60 16 (64 + (a + m)) = tY A 60 16 (64 + (a + m)) ∧ tY E 60 17 (64 + (a + m)) = tY A 60 17 (64 + (a + m)) := fun m hm => by
        have g := g3 (64 + (a + m)) (by omega)
        rw [r16, r17, g.1, g.2, tY_nE e1 (nk (by decide)), tY_nE e1 (nk (by decide))]
        exact ⟨rfl, rfl⟩
      refine ⟨w1, w64, w2, a, w3, w4, by omega, fun w => ?_, fun m hm => ?_⟩
      · rw [← w6 w]
        unfold ud
        exact dp_ext _ (fun x hx => ge x (by omega))
      · rw [ht2 _ (by omega) (by omega), (ge m hm).1, (ge m hm).2]; exact w7 m hm
end

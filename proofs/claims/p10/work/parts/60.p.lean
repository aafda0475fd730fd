variable {Tc : gC} {Tm : gM}
/-! tokens look at the bytes ahead of n alone -/
theorem px_rn {P : Int → Bool} {B B' : Nat → Int} {n : Nat} (h : ∀ i : Nat, i < n → B i = B' i) : ∀ f a : Nat, pt_rn P B n f a = pt_rn P B' n f a := by
  intro f
  induction f with
  | zero => intro a; rfl
  | succ f ih =>
    intro a
    rw [pt_rn, pt_rn]
    by_cases q : a < n
    · rw [h a q, ih]
    · rw [if_neg (fun g => q g.1), if_neg (fun g => q g.1)]
theorem px_to {P : Int → Bool} {B B' : Nat → Int} {n a : Nat} (h : ∀ i : Nat, i < n → B i = B' i) : pt_to P B n a = pt_to P B' n a := px_rn h _ _
theorem px_pk {B B' : Nat → Int} {n a : Nat} (h : ∀ i : Nat, i < n → B i = B' i) : pt_pk B n a = pt_pk B' n a := by
  unfold pt_pk
  by_cases q : a < n
  · rw [if_pos q, if_pos q, h a q]
  · rw [if_neg q, if_neg q]
theorem px_nf {B B' : Nat → Int} {n : Nat} (h : ∀ i : Nat, i < n → B i = B' i) : ∀ (f a : Nat) (v : Int), pt_nf B n f a v = pt_nf B' n f a v := by
  intro f
  induction f with
  | zero => intro a v; rfl
  | succ f ih =>
    intro a v
    rw [pt_nf, pt_nf]
    by_cases q : a < n
    · rw [h a q, ih]
    · rw [if_neg (fun g => q g.1), if_neg (fun g => q g.1)]
theorem px_ef {B B' : Nat → Int} {n : Nat} (h : ∀ i : Nat, i < n → B i = B' i) : ∀ (f a i : Nat) (v : Int), pt_ef B n f a i v = pt_ef B' n f a i v := by
  intro f
  induction f with
  | zero => intro a i v; rfl
  | succ f ih =>
    intro a i v
    rw [pt_ef, pt_ef]
    by_cases q : a < n
    · rw [h a q, ih]
    · rw [if_neg (fun g => q g.1), if_neg (fun g => q g.1)]
theorem px_P {B B' : Nat → Int} {n a : Nat} (h : ∀ i : Nat, i < n → B i = B' i) : pt_P B n a = pt_P B' n a := px_to h
theorem px_C {B B' : Nat → Int} {n a : Nat} (h : ∀ i : Nat, i < n → B i = B' i) : pt_C B n a = pt_C B' n a := by unfold pt_C; rw [px_P h, px_pk h]
theorem px_ev {B B' : Nat → Int} {n a i : Nat} {v : Int} (h : ∀ i : Nat, i < n → B i = B' i) : pt_ev B n a i v = pt_ev B' n a i v := px_ef h _ _ _ _
theorem px_nv {B B' : Nat → Int} {n a : Nat} {v : Int} (h : ∀ i : Nat, i < n → B i = B' i) : pt_nv B n a v = pt_nv B' n a v := px_nf h _ _ _
theorem px_K {B B' : Nat → Int} {n a : Nat} (h : ∀ i : Nat, i < n → B i = B' i) : pt_K B n a = pt_K B' n a := by unfold pt_K; rw [px_C h, px_P h, px_to h, px_ev h, px_pk h]
theorem px_V {B B' : Nat → Int} {n a : Nat} (h : ∀ i : Nat, i < n → B i = B' i) : pt_V B n a = pt_V B' n a := by unfold pt_V; rw [px_C h, px_P h, px_ev h, px_nv h]
theorem px_A {B B' : Nat → Int} {n a : Nat} (h : ∀ i : Nat, i < n → B i = B' i) : pt_A B n a = pt_A B' n a := by unfold pt_A; rw [px_C h, px_P h, px_to h, px_to h, px_pk h]
/-! the reference's memory beside the registers -/
def rQ0 (n : Nat) (s : Nat → Int) (M : ti_M) : Prop :=
  pt_T (s 0) (s 1) (tI M 60 23).toInt (tI M 60 24).toInt ∧ (s 2 = (tI M 60 22).toInt ∧ s 3 = (tI M 60 21).toInt ∧ s 3 ≤ (n : Int)) ∧ (s 7 = (tY M 60 3 11).toInt ∧ s 8 = (tI M 60 30).toInt ∧ s 9 = (tI M 60 19).toInt) ∧ (∀ i : Nat, i < 8 → (i : Int) < s 7 → s (100 + i) = (tY M 60 4 (8 + i)).toInt ∧ s (200 + i) = (tY M 60 13 (8 + i)).toInt - 1 ∧ -1 ≤ s (200 + i)) ∧ (∀ k : Nat, 3 ≤ k → k ≤ 7 → s (300 + k) = pp_bt (tI M 60 18) k) ∧ (∀ k : Nat, k < 3 → s (309 + k) = pp_bt (tI M 60 18) (12 + k) ∧ s (312 + k) = pp_bt (tI M 60 18) (16 + k))
def rQ (B : Nat → Int) (n : Nat) (s : Nat → Int) (M : ti_M) : Prop :=
  ((∀ i : Nat, i < n → pt_rB M i = B i) ∧ pt_rn0 M = n) ∧ s 4 = (tI M 60 25).toInt ∧ (s 5 = (tI M 60 26).toInt ∧ (s 4 ≠ 0 → s 0 = 28)) ∧ (s 4 = 0 → rQ0 n s M)
/-- a fault stands -/
def fz (s : Nat → Int) : Prop := s 4 ≠ 0 ∧ s 0 = 28
/-- .. and nothing more happens -/
def fk (s' s : Nat → Int) : Prop := s' 4 = s 4 ∧ s' 5 = s 5 ∧ s' 0 = 28
theorem fk.trans {a b c : Nat → Int} (x : fk a b) (y : fk b c) : fk a c := ⟨x.1.trans y.1, x.2.1.trans y.2.1, x.2.2⟩
theorem fk.zz {a b : Nat → Int} (x : fk a b) (y : fz b) : fz a := ⟨by rw [x.1]; exact y.1, x.2.2⟩
theorem fk.refl {a : Nat → Int} (y : fz a) : fk a a := ⟨rfl, rfl, y.2⟩
theorem fk_su {s : Nat → Int} {k : Nat} {v : Int} (h : fz s) (hk : 6 ≤ k) : fk (pp_su s k v) s := ⟨su_n (by omega), su_n (by omega), by rw [su_n (by omega)]; exact h.2⟩
theorem rf_f {s : Nat → Int} {k : Int} (h : fz s) : fk (pp_rf k s) s := by
  unfold pp_rf
  rw [if_neg h.1]
  exact ⟨su_n (by decide), su_n (by decide), su_s⟩
theorem tk_f {B : Nat → Int} {n : Nat} {s : Nat → Int} {k : Int} (h : fz s) (hk : k ≠ 28) : fk (pp_tk B n k s) s := by
  unfold pp_tk
  rw [if_neg (by rw [h.2]; exact Ne.symm hk)]
  exact rf_f h
theorem nb_f {B : Nat → Int} {n : Nat} {s : Nat → Int} {lo mo : Int} (h : fz s) : fk (pp_nb B n lo mo s) s := by
  unfold pp_nb
  rw [if_neg (by rw [h.2]; decide)]
  exact rf_f h
theorem lp_f {P : Int → Bool} {F : (Nat → Int) → Nat → Int} {f : Nat} {s : Nat → Int} (h : fz s) (hP : P 28 = false) : pp_lp P F f s = s := lp_end (Or.inr (by rw [h.2]; exact hP))
theorem p0_f {B : Nat → Int} {n : Nat} {s : Nat → Int} (h : fz s) : fk (pp_p0 B n s) s := by
  unfold pp_p0
  rw [if_neg (by rw [h.2]; decide), if_neg (by rw [h.2]; decide)]
  exact rf_f h
theorem pt_f {B : Nat → Int} {n d : Nat} {s : Nat → Int} (h : fz s) : fk (pp_pt B n d s) s := by
  cases d with
  | zero => rw [pp_pt, if_neg (by rw [h.2]; decide)]; exact p0_f h
  | succ d => rw [pp_pt, if_neg (by rw [h.2]; decide)]; exact p0_f h
section
variable {B : Nat → Int} {n : Nat} {F : (Nat → Int) → Nat → Int} {s : Nat → Int}
theorem pd_f (hF : ∀ s : Nat → Int, fz s → fk (F s) s) (h : fz s) : fk (pp_pd B n F s) s := by
  unfold pp_pd
  rw [lp_f ((hF s h).zz h) (by decide)]
  exact hF s h
theorem sm_f (hF : ∀ s : Nat → Int, fz s → fk (F s) s) (h : fz s) : fk (pp_sm B n F s) s := by
  unfold pp_sm
  rw [lp_f ((pd_f hF h).zz h) (by decide)]
  exact pd_f hF h
theorem cm_f (hF : ∀ s : Nat → Int, fz s → fk (F s) s) (h : fz s) : fk (pp_cm B n F s) s := by
  unfold pp_cm pp_c2
  have q := sm_f (B := B) (n := n) hF h
  rw [if_neg (by rw [q.2.2]; decide)]
  exact q
theorem ng_f (hF : ∀ s : Nat → Int, fz s → fk (F s) s) (h : fz s) : fk (pp_ng B n F s) s := by
  unfold pp_ng
  rw [lp_f h (by decide)]
  exact cm_f hF h
theorem bo_f (hF : ∀ s : Nat → Int, fz s → fk (F s) s) (h : fz s) : fk (pp_bo B n F s) s := by
  unfold pp_bo
  rw [lp_f ((ng_f hF h).zz h) (by decide)]
  exact ng_f hF h
theorem ei_f (hF : ∀ s : Nat → Int, fz s → fk (F s) s) (h : fz s) : fk (pp_ei B n F s) s := by
  unfold pp_ei
  rw [lp_f ((bo_f hF h).zz h) (by decide)]
  exact bo_f hF h
end
theorem m2_f {s : Nat → Int} (h : fz s) : fk (pp_m2 s) s := by
  unfold pp_m2
  rw [if_neg (fun q => absurd q.1 (by rw [h.2]; decide))]
  exact fk.refl h
theorem m3_f {B : Nat → Int} {n : Nat} {s : Nat → Int} (h : fz s) : fk (pp_m3 B n s) s := by
  have a0 := tk_f (B := B) (n := n) h (show (25 : Int) ≠ 28 by decide)
  have a1 := (nb_f (B := B) (n := n) (lo := 1) (mo := 99) (a0.zz h)).trans a0
  have a2 := (nb_f (B := B) (n := n) (lo := 0) (mo := 9) (a1.zz h)).trans a1
  have a3 := (nb_f (B := B) (n := n) (lo := 1) (mo := 99) (a2.zz h)).trans a2
  have a4 := (nb_f (B := B) (n := n) (lo := 1) (mo := 30) (a3.zz h)).trans a3
  have a5 := (nb_f (B := B) (n := n) (lo := 0) (mo := 99) (a4.zz h)).trans a4
  have a6 := (nb_f (B := B) (n := n) (lo := 0) (mo := 99) (a5.zz h)).trans a5
  exact (nb_f (B := B) (n := n) (lo := 0) (mo := 59) (a6.zz h)).trans a6
theorem m4_f {B : Nat → Int} {n : Nat} {s : Nat → Int} (h : fz s) : fk (pp_m4 B n s) s := by
  unfold pp_m4
  rw [if_neg (by rw [h.2]; decide)]
  exact fk.refl h
theorem m5_f {s : Nat → Int} (h : fz s) : fk (pp_m5 s) s := by
  unfold pp_m5
  have q := fk_su (k := 200 + (s 7).toNat) (v := -1) h (by omega)
  exact (fk_su (q.zz h) (by decide)).trans q
/-- where a fault stands the reference's memory is beside all such registers -/
theorem rQ_f {B : Nat → Int} {n : Nat} {s s' : Nat → Int} {M : ti_M} (h : rQ B n s M) (hz : s 4 ≠ 0) (hk : fk s' s) : rQ B n s' M := by
  refine ⟨h.1, hk.1.trans h.2.1, ⟨hk.2.1.trans h.2.2.1.1, fun _ => hk.2.2⟩, fun q => absurd q (by rw [hk.1]; exact hz)⟩
theorem rQ_z {B : Nat → Int} {n : Nat} {s : Nat → Int} {M : ti_M} (h : rQ B n s M) (hz : s 4 ≠ 0) : fz s := ⟨hz, h.2.2.1.2 hz⟩
theorem px_An {B : Nat → Int} {n a : Nat} (h : a ≤ n) : pt_A B n a ≤ (n : Int) := by
  have hp : pt_P B n a ≤ n := pt_to_n h
  unfold pt_A
  by_cases q : pt_C B n a = -1
  · rw [if_pos q]; omega
  · have hc := pt_pk_in (B := B) (n := n) (a := pt_P B n a) (c := pt_C B n a) rfl q
    rw [if_neg q]
    by_cases q1 : pt_L (pt_C B n a) = true
    · rw [if_pos q1]; have := pt_to_n (P := pt_L) (B := B) hp; omega
    · rw [if_neg q1]
      by_cases q2 : pt_D (pt_C B n a) = true
      · rw [if_pos q2]; have := pt_to_n (P := pt_D) (B := B) hp; omega
      · rw [if_neg q2]
        have hc1 := hc.1
        by_cases g : pt_P B n a + 1 < n
        · have := pt_s2b (pt_C B n a) (pt_pk B n (pt_P B n a + 1)); omega
        · have e : pt_pk B n (pt_P B n a + 1) = -1 := by unfold pt_pk; rw [if_neg g]
          rw [e]
          have e2 : pt_s2 (pt_C B n a) (-1) = 0 := by
            unfold pt_s2
            rw [if_neg (by omega), if_neg (by omega)]
          rw [e2]; omega
/-- behind a token -/
theorem rQ_av {B : Nat → Int} {n : Nat} {s : Nat → Int} {M N : ti_M} (h : rQ B n s M) (hz : s 4 = 0) (h0 : 0 ≤ (tI M 60 21).toInt) (hp : pr 21 24 N M) (k2 : (tI N 60 22).toInt = ((pt_P (pt_rB M) (pt_rn0 M) (tI M 60 21).toInt.toNat : Nat) : Int)) (k3 : (tI N 60 21).toInt = pt_A (pt_rB M) (pt_rn0 M) (tI M 60 21).toInt.toNat) (kT : pt_T (pt_K (pt_rB M) (pt_rn0 M) (tI M 60 21).toInt.toNat) (pt_V (pt_rB M) (pt_rn0 M) (tI M 60 21).toInt.toNat) (tI N 60 23).toInt (tI N 60 24).toInt) : rQ B n (pp_av B n s) N := by
  obtain ⟨⟨a1, a2⟩, b, c, d⟩ := h
  obtain ⟨d1, ⟨d2, d3, d3n⟩, ⟨d4, d5, d6⟩, d7, d8, d9⟩ := d hz
  rw [a2, ← d3] at k2 k3 kT
  rw [← d3] at h0
  rw [px_P a1] at k2
  rw [px_A a1] at k3
  rw [px_K a1, px_V a1] at kT
  have y : ∀ k : Nat, tY N 60 k = tY M 60 k := fun k => congrFun (congrFun hp.1 60) k
  have hn := px_An (B := B) (n := n) (a := (s 3).toNat) (by omega)
  refine ⟨⟨fun i hi => by rw [pr_B hp]; exact a1 i hi, by rw [pr_n hp (by decide)]; exact a2⟩, ?_, ⟨?_, fun q => absurd ?_ q⟩, fun _ => ⟨kT, ⟨k2.symm, k3.symm, hn⟩, ⟨?_, ?_, ?_⟩, fun i hi hl => ?_, fun k h1 h2 => ?_, fun k hk => ⟨?_, ?_⟩⟩⟩
  · rw [av_n (by decide), hp.2 25 (by decide)]; exact b
  · rw [av_n (by decide), hp.2 26 (by decide)]; exact c.1
  · rw [av_n (by decide)]; exact hz
  · rw [av_n (by decide), y]; exact d4
  · rw [av_n (by decide), hp.2 30 (by decide)]; exact d5
  · rw [av_n (by decide), hp.2 19 (by decide)]; exact d6
  · rw [av_n (by decide)] at hl
    rw [av_n (by omega), av_n (by omega), y, y]; exact d7 i hi hl
  · rw [av_n (by omega), hp.2 18 (by decide)]; exact d8 k h1 h2
  · rw [av_n (by omega), hp.2 18 (by decide)]; exact (d9 k hk).1
  · rw [av_n (by omega), hp.2 18 (by decide)]; exact (d9 k hk).2
/-- what of the memory is looked at -/
theorem rQ_keep {B : Nat → Int} {n : Nat} {s : Nat → Int} {M N : ti_M} (h : rQ B n s M) (h1 : tY N 60 1 = tY M 60 1) (hI : ∀ k : Nat, 18 ≤ k → k ≤ 30 → k ≠ 29 → tI N 60 k = tI M 60 k) (h3 : tY N 60 3 11 = tY M 60 3 11) (h4 : tY N 60 4 = tY M 60 4) (h13 : tY N 60 13 = tY M 60 13) : rQ B n s N := by
  unfold rQ rQ0 pt_rB pt_rn0 at *
  rw [h1, h3, h4, h13, hI 18 (by decide) (by decide) (by decide), hI 19 (by decide) (by decide) (by decide), hI 20 (by decide) (by decide) (by decide), hI 21 (by decide) (by decide) (by decide), hI 22 (by decide) (by decide) (by decide), hI 23 (by decide) (by decide) (by decide), hI 24 (by decide) (by decide) (by decide), hI 25 (by decide) (by decide) (by decide), hI 26 (by decide) (by decide) (by decide), hI 30 (by decide) (by decide) (by decide)]
  exact h
theorem rQ_pe {B : Nat → Int} {n : Nat} {s : Nat → Int} {M N : ti_M} (h : rQ B n s M) (p : pe N M) (hI : ∀ k, k ≠ 999 → tI N 60 k = tI M 60 k) : rQ B n s N :=
  rQ_keep h (p.1 1 (by decide) (by decide) (by decide)) (fun k _ h2 _ => hI k (by omega)) (p.2.1 11 (by decide)) (p.1 4 (by decide) (by decide) (by decide)) (p.1 13 (by decide) (by decide) (by decide))
theorem rQ_29 {B : Nat → Int} {n : Nat} {s : Nat → Int} {M N : ti_M} {v : Int32} (h : rQ B n s M) (e : N = uI M 60 29 v) : rQ B n s N :=
  rQ_keep h (tY_uIE e) (fun k _ _ h3 => tI_nE e (nk h3)) (by rw [tY_uIE e]) (tY_uIE e) (tY_uIE e)
theorem rQ_Yx {B : Nat → Int} {n k : Nat} {s : Nat → Int} {M N : ti_M} {f : Nat → Int32} (h : rQ B n s M) (e : N = uY M 60 k f) (h1 : k ≠ 1) (h3 : k ≠ 3) (h4 : k ≠ 4) (h13 : k ≠ 13) : rQ B n s N :=
  rQ_keep h (tY_nE e (nk (Ne.symm h1))) (fun k _ _ _ => tI_uYE e) (by rw [tY_nE e (nk (Ne.symm h3))]) (tY_nE e (nk (Ne.symm h4))) (tY_nE e (nk (Ne.symm h13)))
theorem rQ_3x {B : Nat → Int} {n i : Nat} {s : Nat → Int} {M N : ti_M} {v : Int32} (h : rQ B n s M) (e : N = uY M 60 3 (upd (tY M 60 3) i v)) (hi : i ≠ 11) : rQ B n s N :=
  rQ_keep h (tY_nE e (nk (by decide))) (fun k _ _ _ => tI_uYE e) (by rw [tY_uE e, pk_un (Ne.symm hi)]) (tY_nE e (nk (by decide))) (tY_nE e (nk (by decide)))
/-- what of the registers is looked at -/
theorem rQ_sub {B : Nat → Int} {n : Nat} {s s' : Nat → Int} {M : ti_M} (h : rQ B n s M) (e : ∀ j : Nat, (j < 10 ∨ (303 ≤ j ∧ j ≤ 314) ∨ (∃ i : Nat, i < 8 ∧ (i : Int) < s 7 ∧ (j = 100 + i ∨ j = 200 + i))) → s' j = s j) : rQ B n s' M := by
  obtain ⟨a, b, c, d⟩ := h
  have e4 := e 4 (Or.inl (by decide))
  refine ⟨a, e4.trans b, ?_, fun q => ?_⟩
  · rw [e4, e 5 (Or.inl (by decide)), e 0 (Or.inl (by decide))]; exact c
  · rw [e4] at q
    obtain ⟨d1, ⟨d2, d3, d3n⟩, ⟨d4, d5, d6⟩, d7, d8, d9⟩ := d q
    refine ⟨?_, ⟨?_, ?_, ?_⟩, ⟨?_, ?_, ?_⟩, fun i hi hl => ?_, fun k h1 h2 => ?_, fun k hk => ⟨?_, ?_⟩⟩
    · rw [e 0 (Or.inl (by decide)), e 1 (Or.inl (by decide))]; exact d1
    · rw [e 2 (Or.inl (by decide))]; exact d2
    · rw [e 3 (Or.inl (by decide))]; exact d3
    · rw [e 3 (Or.inl (by decide))]; exact d3n
    · rw [e 7 (Or.inl (by decide))]; exact d4
    · rw [e 8 (Or.inl (by decide))]; exact d5
    · rw [e 9 (Or.inl (by decide))]; exact d6
    · rw [e 7 (Or.inl (by decide))] at hl
      rw [e (100 + i) (Or.inr (Or.inr ⟨i, hi, hl, Or.inl rfl⟩)), e (200 + i) (Or.inr (Or.inr ⟨i, hi, hl, Or.inr rfl⟩))]
      exact d7 i hi hl
    · rw [e (300 + k) (Or.inr (Or.inl (by omega)))]; exact d8 k h1 h2
    · rw [e (309 + k) (Or.inr (Or.inl (by omega)))]; exact (d9 k hk).1
    · rw [e (312 + k) (Or.inr (Or.inl (by omega)))]; exact (d9 k hk).2
/-- a register of a man who isn't told yet -/
theorem rQ_su {B : Nat → Int} {n r : Nat} {s : Nat → Int} {M : ti_M} {v : Int} (h : rQ B n s M) (h7 : s 4 = 0 → 0 ≤ s 7 ∧ s 7 ≤ 8) (hr : r = 100 + (s 7).toNat ∨ r = 200 + (s 7).toNat) : rQ B n (pp_su s r v) M := by
  by_cases q : s 4 = 0
  · have h7 := h7 q
    refine rQ_sub h (fun j hj => su_n ?_)
    intro g
    rcases hj with hj | hj | ⟨i, hi, hl, hj⟩
    · omega
    · omega
    · omega
  · exact rQ_f h q (fk_su (rQ_z h q) (by omega))
theorem rQ_30 {B : Nat → Int} {n : Nat} {s : Nat → Int} {M N : ti_M} {v : Int32} (h : rQ B n s M) (e : N = uI M 60 30 v) : rQ B n (pp_su s 8 v.toInt) N := by
  obtain ⟨a, b, c, d⟩ := h
  have y : ∀ k : Nat, tY N 60 k = tY M 60 k := fun k => tY_uIE e
  have t : ∀ k : Nat, k ≠ 30 → tI N 60 k = tI M 60 k := fun k hk => tI_nE e (nk hk)
  refine ⟨⟨fun i hi => ?_, ?_⟩, ?_, ?_, fun q => ?_⟩
  · unfold pt_rB; rw [y 1]; exact a.1 i hi
  · unfold pt_rn0; rw [t 20 (by decide)]; exact a.2
  · rw [su_n (by omega), t 25 (by decide)]; exact b
  · rw [su_n (j := 5) (by omega), su_n (j := 4) (by omega), su_n (j := 0) (by omega), t 26 (by decide)]; exact c
  · rw [su_n (by omega)] at q; obtain ⟨d1, ⟨d2, d3, d3n⟩, ⟨d4, d5, d6⟩, d7, d8, d9⟩ := d q
    refine ⟨?_, ⟨?_, ?_, ?_⟩, ⟨?_, ?_, ?_⟩, fun i hi hl => ?_, fun k h1 h2 => ?_, fun k hk => ⟨?_, ?_⟩⟩
    · rw [su_n (by omega), su_n (by omega), t 23 (by decide), t 24 (by decide)]; exact d1
    · rw [su_n (by omega), t 22 (by decide)]; exact d2
    · rw [su_n (by omega), t 21 (by decide)]; exact d3
    · rw [su_n (by omega)]; exact d3n
    · rw [su_n (by omega), y 3]; exact d4
    · rw [su_s, tI_uE e]
    · rw [su_n (by omega), t 19 (by decide)]; exact d6
    · rw [su_n (by omega)] at hl; rw [su_n (by omega), su_n (by omega), y 4, y 13]; exact d7 i hi hl
    · rw [su_n (by omega), t 18 (by decide)]; exact d8 k h1 h2
    · rw [su_n (by omega), t 18 (by decide)]; exact (d9 k hk).1
    · rw [su_n (by omega), t 18 (by decide)]; exact (d9 k hk).2
theorem rQ_19 {B : Nat → Int} {n : Nat} {s : Nat → Int} {M N : ti_M} {v : Int32} (h : rQ B n s M) (e : N = uI M 60 19 v) : rQ B n (pp_su s 9 v.toInt) N := by
  obtain ⟨a, b, c, d⟩ := h
  have y : ∀ k : Nat, tY N 60 k = tY M 60 k := fun k => tY_uIE e
  have t : ∀ k : Nat, k ≠ 19 → tI N 60 k = tI M 60 k := fun k hk => tI_nE e (nk hk)
  refine ⟨⟨fun i hi => ?_, ?_⟩, ?_, ?_, fun q => ?_⟩
  · unfold pt_rB; rw [y 1]; exact a.1 i hi
  · unfold pt_rn0; rw [t 20 (by decide)]; exact a.2
  · rw [su_n (by omega), t 25 (by decide)]; exact b
  · rw [su_n (j := 5) (by omega), su_n (j := 4) (by omega), su_n (j := 0) (by omega), t 26 (by decide)]; exact c
  · rw [su_n (by omega)] at q; obtain ⟨d1, ⟨d2, d3, d3n⟩, ⟨d4, d5, d6⟩, d7, d8, d9⟩ := d q
    refine ⟨?_, ⟨?_, ?_, ?_⟩, ⟨?_, ?_, ?_⟩, fun i hi hl => ?_, fun k h1 h2 => ?_, fun k hk => ⟨?_, ?_⟩⟩
    · rw [su_n (by omega), su_n (by omega), t 23 (by decide), t 24 (by decide)]; exact d1
    · rw [su_n (by omega), t 22 (by decide)]; exact d2
    · rw [su_n (by omega), t 21 (by decide)]; exact d3
    · rw [su_n (by omega)]; exact d3n
    · rw [su_n (by omega), y 3]; exact d4
    · rw [su_n (by omega), t 30 (by decide)]; exact d5
    · rw [su_s, tI_uE e]
    · rw [su_n (by omega)] at hl; rw [su_n (by omega), su_n (by omega), y 4, y 13]; exact d7 i hi hl
    · rw [su_n (by omega), t 18 (by decide)]; exact d8 k h1 h2
    · rw [su_n (by omega), t 18 (by decide)]; exact (d9 k hk).1
    · rw [su_n (by omega), t 18 (by decide)]; exact (d9 k hk).2
theorem rQ_18 {B : Nat → Int} {n : Nat} {s : Nat → Int} {M N : ti_M} {z : Int32} {k0 r : Nat} (h : rQ B n s M) (e : N = uI M 60 18 z) (hb : ∀ j : Nat, j < 32 → pp_bt z j = if j = k0 then 1 else pp_bt (tI M 60 18) j) (hr : (3 ≤ k0 ∧ k0 ≤ 7 ∧ r = 300 + k0) ∨ (12 ≤ k0 ∧ k0 ≤ 14 ∧ r = 297 + k0) ∨ (16 ≤ k0 ∧ k0 ≤ 18 ∧ r = 296 + k0)) : rQ B n (pp_su s r 1) N := by
  obtain ⟨a, b, c, d⟩ := h
  have y : ∀ k : Nat, tY N 60 k = tY M 60 k := fun k => tY_uIE e
  have t : ∀ k : Nat, k ≠ 18 → tI N 60 k = tI M 60 k := fun k hk => tI_nE e (nk hk)
  refine ⟨⟨fun i hi => ?_, ?_⟩, ?_, ?_, fun q => ?_⟩
  · unfold pt_rB; rw [y 1]; exact a.1 i hi
  · unfold pt_rn0; rw [t 20 (by decide)]; exact a.2
  · rw [su_n (by omega), t 25 (by decide)]; exact b
  · rw [su_n (j := 5) (by omega), su_n (j := 4) (by omega), su_n (j := 0) (by omega), t 26 (by decide)]; exact c
  · rw [su_n (by omega)] at q; obtain ⟨d1, ⟨d2, d3, d3n⟩, ⟨d4, d5, d6⟩, d7, d8, d9⟩ := d q
    refine ⟨?_, ⟨?_, ?_, ?_⟩, ⟨?_, ?_, ?_⟩, fun i hi hl => ?_, fun k h1 h2 => ?_, fun k hk => ⟨?_, ?_⟩⟩
    · rw [su_n (by omega), su_n (by omega), t 23 (by decide), t 24 (by decide)]; exact d1
    · rw [su_n (by omega), t 22 (by decide)]; exact d2
    · rw [su_n (by omega), t 21 (by decide)]; exact d3
    · rw [su_n (by omega)]; exact d3n
    · rw [su_n (by omega), y 3]; exact d4
    · rw [su_n (by omega), t 30 (by decide)]; exact d5
    · rw [su_n (by omega), t 19 (by decide)]; exact d6
    · rw [su_n (by omega)] at hl; rw [su_n (by omega), su_n (by omega), y 4, y 13]; exact d7 i hi hl
    · rw [tI_uE e, hb (k) (by omega)]; by_cases q2 : k = k0
      · rw [if_pos q2, show 300 + k = r by omega, su_s]
      · rw [if_neg q2, su_n (by omega)]; exact d8 k h1 h2
    · rw [tI_uE e, hb (12 + k) (by omega)]; by_cases q2 : 12 + k = k0
      · rw [if_pos q2, show 309 + k = r by omega, su_s]
      · rw [if_neg q2, su_n (by omega)]; exact (d9 k hk).1
    · rw [tI_uE e, hb (16 + k) (by omega)]; by_cases q2 : 16 + k = k0
      · rw [if_pos q2, show 312 + k = r by omega, su_s]
      · rw [if_neg q2, su_n (by omega)]; exact (d9 k hk).2
theorem rQ_18n {B : Nat → Int} {n : Nat} {s : Nat → Int} {M N : ti_M} {z : Int32} {k0 : Nat} (h : rQ B n s M) (e : N = uI M 60 18 z) (hb : ∀ j : Nat, j < 32 → pp_bt z j = if j = k0 then 1 else pp_bt (tI M 60 18) j) (hr : k0 < 3 ∨ k0 = 8) : rQ B n s N := by
  obtain ⟨a, b, c, d⟩ := h
  have y : ∀ k : Nat, tY N 60 k = tY M 60 k := fun k => tY_uIE e
  have t : ∀ k : Nat, k ≠ 18 → tI N 60 k = tI M 60 k := fun k hk => tI_nE e (nk hk)
  refine ⟨⟨fun i hi => ?_, ?_⟩, ?_, ?_, fun q => ?_⟩
  · unfold pt_rB; rw [y 1]; exact a.1 i hi
  · unfold pt_rn0; rw [t 20 (by decide)]; exact a.2
  · rw [t 25 (by decide)]; exact b
  · rw [t 26 (by decide)]; exact c
  · obtain ⟨d1, ⟨d2, d3, d3n⟩, ⟨d4, d5, d6⟩, d7, d8, d9⟩ := d q
    refine ⟨?_, ⟨?_, ?_, ?_⟩, ⟨?_, ?_, ?_⟩, fun i hi hl => ?_, fun k h1 h2 => ?_, fun k hk => ⟨?_, ?_⟩⟩
    · rw [t 23 (by decide), t 24 (by decide)]; exact d1
    · rw [t 22 (by decide)]; exact d2
    · rw [t 21 (by decide)]; exact d3
    · exact d3n
    · rw [y 3]; exact d4
    · rw [t 30 (by decide)]; exact d5
    · rw [t 19 (by decide)]; exact d6
    · rw [y 4, y 13]; exact d7 i hi hl
    · rw [tI_uE e, hb (k) (by omega), if_neg (by omega)]; exact d8 k h1 h2
    · rw [tI_uE e, hb (12 + k) (by omega), if_neg (by omega)]; exact (d9 k hk).1
    · rw [tI_uE e, hb (16 + k) (by omega), if_neg (by omega)]; exact (d9 k hk).2
theorem rQ_4 {B : Nat → Int} {n : Nat} {s : Nat → Int} {M N : ti_M} {v : Int32} {x : Nat} (h : rQ B n s M) (e : N = uY M 60 4 (upd (tY M 60 4) x v)) (hx : s 4 = 0 → 8 + s 7 ≤ (x : Int)) : rQ B n s N := by
  obtain ⟨a, b, c, d⟩ := h
  have y : ∀ k : Nat, k ≠ 4 → tY N 60 k = tY M 60 k := fun k hk => tY_nE e (nk hk)
  have t : ∀ k : Nat, tI N 60 k = tI M 60 k := fun k => tI_uYE e
  refine ⟨⟨fun i hi => ?_, ?_⟩, ?_, ?_, fun q => ?_⟩
  · unfold pt_rB; rw [y 1 (by decide)]; exact a.1 i hi
  · unfold pt_rn0; rw [t 20]; exact a.2
  · rw [t 25]; exact b
  · rw [t 26]; exact c
  · obtain ⟨d1, ⟨d2, d3, d3n⟩, ⟨d4, d5, d6⟩, d7, d8, d9⟩ := d q
    refine ⟨?_, ⟨?_, ?_, ?_⟩, ⟨?_, ?_, ?_⟩, fun i hi hl => ?_, fun k h1 h2 => ?_, fun k hk => ⟨?_, ?_⟩⟩
    · rw [t 23, t 24]; exact d1
    · rw [t 22]; exact d2
    · rw [t 21]; exact d3
    · exact d3n
    · rw [y 3 (by decide)]; exact d4
    · rw [t 30]; exact d5
    · rw [t 19]; exact d6
    · rw [tY_uE e, pk_un (by have := hx q; omega), y 13 (by decide)]; exact d7 i hi hl
    · rw [t 18]; exact d8 k h1 h2
    · rw [t 18]; exact (d9 k hk).1
    · rw [t 18]; exact (d9 k hk).2
theorem rQ_13n {B : Nat → Int} {n : Nat} {s : Nat → Int} {M N : ti_M} {v : Int32} {x : Nat} (h : rQ B n s M) (e : N = uY M 60 13 (upd (tY M 60 13) x v)) (hx : s 4 = 0 → 8 + s 7 ≤ (x : Int)) : rQ B n s N := by
  obtain ⟨a, b, c, d⟩ := h
  have y : ∀ k : Nat, k ≠ 13 → tY N 60 k = tY M 60 k := fun k hk => tY_nE e (nk hk)
  have t : ∀ k : Nat, tI N 60 k = tI M 60 k := fun k => tI_uYE e
  refine ⟨⟨fun i hi => ?_, ?_⟩, ?_, ?_, fun q => ?_⟩
  · unfold pt_rB; rw [y 1 (by decide)]; exact a.1 i hi
  · unfold pt_rn0; rw [t 20]; exact a.2
  · rw [t 25]; exact b
  · rw [t 26]; exact c
  · obtain ⟨d1, ⟨d2, d3, d3n⟩, ⟨d4, d5, d6⟩, d7, d8, d9⟩ := d q
    refine ⟨?_, ⟨?_, ?_, ?_⟩, ⟨?_, ?_, ?_⟩, fun i hi hl => ?_, fun k h1 h2 => ?_, fun k hk => ⟨?_, ?_⟩⟩
    · rw [t 23, t 24]; exact d1
    · rw [t 22]; exact d2
    · rw [t 21]; exact d3
    · exact d3n
    · rw [y 3 (by decide)]; exact d4
    · rw [t 30]; exact d5
    · rw [t 19]; exact d6
    · rw [tY_uE e, pk_un (by have := hx q; omega), y 4 (by decide)]; exact d7 i hi hl
    · rw [t 18]; exact d8 k h1 h2
    · rw [t 18]; exact (d9 k hk).1
    · rw [t 18]; exact (d9 k hk).2
theorem rQ_13 {B : Nat → Int} {n : Nat} {s : Nat → Int} {M N : ti_M} {v : Int32} {x a0 : Nat} {b0 : Int} (h : rQ B n s M) (e : N = uY M 60 13 (upd (tY M 60 13) x v)) (hx : x = 8 + a0) (ha : a0 < 8) (hv : v.toInt = b0 + 1) (hb0 : -1 ≤ b0) : rQ B n (pp_su s (200 + a0) b0) N := by
  obtain ⟨a, b, c, d⟩ := h
  have y : ∀ k : Nat, k ≠ 13 → tY N 60 k = tY M 60 k := fun k hk => tY_nE e (nk hk)
  have t : ∀ k : Nat, tI N 60 k = tI M 60 k := fun k => tI_uYE e
  refine ⟨⟨fun i hi => ?_, ?_⟩, ?_, ?_, fun q => ?_⟩
  · unfold pt_rB; rw [y 1 (by decide)]; exact a.1 i hi
  · unfold pt_rn0; rw [t 20]; exact a.2
  · rw [su_n (by omega), t 25]; exact b
  · rw [su_n (j := 5) (by omega), su_n (j := 4) (by omega), su_n (j := 0) (by omega), t 26]; exact c
  · rw [su_n (by omega)] at q; obtain ⟨d1, ⟨d2, d3, d3n⟩, ⟨d4, d5, d6⟩, d7, d8, d9⟩ := d q
    refine ⟨?_, ⟨?_, ?_, ?_⟩, ⟨?_, ?_, ?_⟩, fun i hi hl => ?_, fun k h1 h2 => ?_, fun k hk => ⟨?_, ?_⟩⟩
    · rw [su_n (by omega), su_n (by omega), t 23, t 24]; exact d1
    · rw [su_n (by omega), t 22]; exact d2
    · rw [su_n (by omega), t 21]; exact d3
    · rw [su_n (by omega)]; exact d3n
    · rw [su_n (by omega), y 3 (by decide)]; exact d4
    · rw [su_n (by omega), t 30]; exact d5
    · rw [su_n (by omega), t 19]; exact d6
    · rw [su_n (by omega)] at hl
      by_cases q2 : i = a0
      · subst q2; rw [su_n (by omega), su_s, y 4 (by decide), tY_uE e, hx, pk_us]; exact ⟨(d7 i hi hl).1, by omega, hb0⟩
      · rw [su_n (by omega), su_n (by omega), y 4 (by decide), tY_uE e, pk_un (by omega)]; exact d7 i hi hl
    · rw [su_n (by omega), t 18]; exact d8 k h1 h2
    · rw [su_n (by omega), t 18]; exact (d9 k hk).1
    · rw [su_n (by omega), t 18]; exact (d9 k hk).2
theorem rQ_m7 {B : Nat → Int} {n : Nat} {s : Nat → Int} {M N : ti_M} {v : Int32} (h : rQ B n s M) (e : N = uY M 60 3 (upd (tY M 60 3) 11 v)) (hm : s 4 = 0 → 0 ≤ s 7 ∧ v.toInt = s 7 + 1 ∧ s (100 + (s 7).toNat) = (tY M 60 4 (8 + (s 7).toNat)).toInt ∧ s (200 + (s 7).toNat) = -1 ∧ (tY M 60 13 (8 + (s 7).toNat)).toInt = 0) : rQ B n (pp_su s 7 (s 7 + 1)) N := by
  obtain ⟨a, b, c, d⟩ := h
  have y : ∀ k : Nat, k ≠ 3 → tY N 60 k = tY M 60 k := fun k hk => tY_nE e (nk hk)
  have t : ∀ k : Nat, tI N 60 k = tI M 60 k := fun k => tI_uYE e
  refine ⟨⟨fun i hi => ?_, ?_⟩, ?_, ?_, fun q => ?_⟩
  · unfold pt_rB; rw [y 1 (by decide)]; exact a.1 i hi
  · unfold pt_rn0; rw [t 20]; exact a.2
  · rw [su_n (by omega), t 25]; exact b
  · rw [su_n (j := 5) (by omega), su_n (j := 4) (by omega), su_n (j := 0) (by omega), t 26]; exact c
  · rw [su_n (by omega)] at q; obtain ⟨d1, ⟨d2, d3, d3n⟩, ⟨d4, d5, d6⟩, d7, d8, d9⟩ := d q
    refine ⟨?_, ⟨?_, ?_, ?_⟩, ⟨?_, ?_, ?_⟩, fun i hi hl => ?_, fun k h1 h2 => ?_, fun k hk => ⟨?_, ?_⟩⟩
    · rw [su_n (by omega), su_n (by omega), t 23, t 24]; exact d1
    · rw [su_n (by omega), t 22]; exact d2
    · rw [su_n (by omega), t 21]; exact d3
    · rw [su_n (by omega)]; exact d3n
    · rw [su_s, tY_uE e, pk_us]; exact (hm q).2.1.symm
    · rw [su_n (by omega), t 30]; exact d5
    · rw [su_n (by omega), t 19]; exact d6
    · rw [su_s] at hl
      obtain ⟨m0, m1, m2, m3, m4⟩ := hm q
      rw [su_n (by omega), su_n (by omega), y 4 (by decide), y 13 (by decide)]
      by_cases q2 : (i : Int) < s 7
      · exact d7 i hi q2
      · rw [show (s 7).toNat = i by omega] at m2 m3 m4
        exact ⟨m2, by omega, by omega⟩
    · rw [su_n (by omega), t 18]; exact d8 k h1 h2
    · rw [su_n (by omega), t 18]; exact (d9 k hk).1
    · rw [su_n (by omega), t 18]; exact (d9 k hk).2
theorem rQ_wr {B : Nat → Int} {n : Nat} {s : Nat → Int} {M K N : ti_M} {kd x : Int32} (h : rQ B n s M) (hz : s 4 = 0) (e1 : K = uI M 60 25 kd) (e2 : N = uI K 60 26 x) (hx : x.toInt = (tI M 60 22).toInt) (hk : kd.toInt ≠ 0) : rQ B n (pp_rf kd.toInt s) N := by
  obtain ⟨a, b, c, d⟩ := h
  have d2 := (d hz).2.1.1
  unfold pp_rf
  rw [if_pos hz]
  have y : ∀ k : Nat, tY N 60 k = tY M 60 k := fun k => (tY_uIE e2).trans (tY_uIE e1)
  refine ⟨⟨fun i hi => ?_, ?_⟩, ?_, ⟨?_, fun _ => su_s⟩, fun q => absurd q ?_⟩
  · unfold pt_rB; rw [y 1]; exact a.1 i hi
  · unfold pt_rn0; rw [tI_nE e2 (nk (by decide)), tI_nE e1 (nk (by decide))]; exact a.2
  · rw [su_n (by decide), su_n (by decide), su_s, tI_nE e2 (nk (by decide)), tI_uE e1]
  · rw [su_n (by decide), su_s, tI_uE e2, hx]; exact d2
  · rw [su_n (by decide), su_n (by decide), su_s]; exact hk
/-! kinds and sorts -/
def pt_si (c : Int) : Int := if c = 59 then 29 else if c = 40 then 30 else if c = 41 then 31 else if c = 60 then 32 else if c = 256 then 33 else if c = 61 then 34 else if c = 257 then 35 else if c = 258 then 36 else if c = 62 then 37 else if c = 43 then 38 else if c = 45 then 39 else if c = 42 then 40 else 41
theorem pt_sis : ∀ j : Nat, j < 13 → pt_si (pt_sg (29 + (j : Int))) = 29 + (j : Int) := by decide +kernel
theorem pt_cmp0 : ∀ j : Nat, j < 13 → ((pt_sg (29 + (j : Int)) = 60 ∨ pt_sg (29 + (j : Int)) = 62 ∨ pt_sg (29 + (j : Int)) = 61 ∨ 256 ≤ pt_sg (29 + (j : Int))) ↔ (32 ≤ 29 + (j : Int) ∧ 29 + (j : Int) ≤ 37)) := by decide +kernel
theorem pt_Tsg {k v s w : Int} (h : pt_T k v s w) (hs : s = 3) : 29 ≤ k ∧ k ≤ 41 ∧ w = pt_sg k ∧ pt_si w = k ∧ ((w = 60 ∨ w = 62 ∨ w = 61 ∨ 256 ≤ w) ↔ (32 ≤ k ∧ k ≤ 37)) := by
  obtain ⟨⟨h0, h1⟩, h2, h3, h4, h5, h6, h7⟩ := h
  have g : 29 ≤ k := by
    by_cases q1 : k < 25
    · have := (h2 q1).1; omega
    · by_cases q2 : k = 25
      · have := (h3 q2).1; omega
      · by_cases q3 : k = 26
        · have := (h4 q3).1; omega
        · by_cases q4 : k = 27
          · have := h5 q4; omega
          · by_cases q5 : k = 28
            · have := h6 q5; omega
            · omega
  have e := (h7 g).2
  have f := pt_sis (k - 29).toNat (by omega)
  have f2 := pt_cmp0 (k - 29).toNat (by omega)
  rw [show 29 + (((k - 29).toNat : Nat) : Int) = k by omega] at f f2
  rw [← e] at f f2
  exact ⟨g, h1, e, f, f2⟩
theorem pt_Tso {k v s w : Int} (h : pt_T k v s w) (hs : s ≠ 3) : k < 29 := by
  by_cases q : 29 ≤ k
  · exact absurd (h.2.2.2.2.2.2 q).1 hs
  · omega
theorem pt_Twd {k v s w : Int} (h : pt_T k v s w) (hs : s = 0) : 0 ≤ k ∧ k < 25 ∧ 0 ≤ w ∧ w < 25 ∧ w = ((pt_pm.getD k.toNat 0 : Nat) : Int) ∧ k = ((pt_iv.getD w.toNat 0 : Nat) : Int) := by
  obtain ⟨⟨h0, h1⟩, h2, h3, h4, h5, h6, h7⟩ := h
  have g : k < 25 := by
    by_cases q1 : k < 25
    · exact q1
    · by_cases q2 : k = 25
      · have := (h3 q2).1; omega
      · by_cases q3 : k = 26
        · have := (h4 q3).1; omega
        · by_cases q4 : k = 27
          · have := h5 q4; omega
          · by_cases q5 : k = 28
            · have := h6 q5; omega
            · have := (h7 (by omega)).1; omega
  have e := (h2 g).2
  have p := pt_pmb k.toNat (by omega)
  refine ⟨h0, g, by omega, by omega, e, ?_⟩
  have e3 : w.toNat = pt_pm.getD k.toNat 0 := by omega
  rw [e3, p.2]
  omega
theorem pt_Tnw {k v s w : Int} (h : pt_T k v s w) (hs : s ≠ 0) : 25 ≤ k := by
  by_cases q : k < 25
  · exact absurd (h.2.1 q).1 hs
  · omega
theorem pt_Tnm {k v s w : Int} (h : pt_T k v s w) : (s = 1 → k = 25 ∧ w = v) ∧ (k = 25 → s = 1) ∧ (s = 2 → k = 26 ∧ (w = v ∨ (99999 < w ∧ 99999 < v))) ∧ (k = 26 → s = 2) ∧ (s = 4 → k = 27) ∧ (k = 27 → s = 4) := by
  obtain ⟨⟨h0, h1⟩, h2, h3, h4, h5, h6, h7⟩ := h
  have key : (s = 1 → k = 25) ∧ (s = 2 → k = 26) ∧ (s = 4 → k = 27) := by
    by_cases q1 : k < 25
    · have := (h2 q1).1; omega
    · by_cases q2 : k = 25
      · have := (h3 q2).1; omega
      · by_cases q3 : k = 26
        · have := (h4 q3).1; omega
        · by_cases q4 : k = 27
          · have := h5 q4; omega
          · by_cases q5 : k = 28
            · have := h6 q5; omega
            · have := (h7 (by omega)).1; omega
  exact ⟨fun q => ⟨key.1 q, (h3 (key.1 q)).2⟩, fun q => (h3 q).1, fun q => ⟨key.2.1 q, (h4 (key.2.1 q)).2⟩, fun q => (h4 q).1, fun q => key.2.2 q, h5⟩
section
variable {B : Nat → Int} {n : Nat} {s : Nat → Int} {M : ti_M}
theorem ff_y (h : ff M = 1) : (tI M 60 25).toInt = 0 := by
  by_cases q : (tI M 60 25).toInt = 0
  · exact q
  · rw [ff_0 q] at h; exact absurd h (by decide)
theorem rQ_g0 (h : rQ B n s M) (hf : ff M = 1) : s 4 = 0 := h.2.1.trans (ff_y hf)
theorem rQ_g1 (h : rQ B n s M) (hf : ff M = 0) : s 4 ≠ 0 := by rw [h.2.1]; exact ff_n hf
theorem rQ_28 (h : rQ B n s M) (hf : ff M = 0) : s 0 = 28 := h.2.2.1.2 (rQ_g1 h hf)
theorem rQ_T (h : rQ B n s M) (hf : ff M = 1) : pt_T (s 0) (s 1) (tI M 60 23).toInt (tI M 60 24).toInt := (h.2.2.2 (rQ_g0 h hf)).1
/-- a word is at hand, or it isn't -/
theorem rQ_w1 {x k : Int} (h : rQ B n s M) (d0 : (tI M 60 25).toInt = 0) (d1 : (tI M 60 23).toInt = 0) (d2 : (tI M 60 24).toInt = x) (hx : ((pt_iv.getD x.toNat 0 : Nat) : Int) = k) : s 0 = k ∧ s 4 = 0 := by
  have g := h.2.1.trans d0
  have e := pt_Twd (h.2.2.2 g).1 d1
  rw [d2] at e
  exact ⟨e.2.2.2.2.2.trans hx, g⟩
theorem rQ_w0 {x k : Int} (h : rQ B n s M) (hd : ¬ ((tI M 60 25).toInt = 0 ∧ (tI M 60 23).toInt = 0 ∧ (tI M 60 24).toInt = x)) (hk : 0 ≤ k ∧ k < 25) (hx : ((pt_pm.getD k.toNat 0 : Nat) : Int) = x) : s 0 ≠ k := by
  intro e
  by_cases q : s 4 = 0
  · have T := (h.2.2.2 q).1
    have w := T.2.1 (by omega)
    rw [e] at w
    exact hd ⟨by rw [← h.2.1]; exact q, w.1, w.2.trans hx⟩
  · have := h.2.2.1.2 q; omega
theorem rQ_s1 {x k : Int} (h : rQ B n s M) (d0 : (tI M 60 25).toInt = 0) (d1 : (tI M 60 23).toInt = 3) (d2 : (tI M 60 24).toInt = x) (hx : pt_si x = k) : s 0 = k ∧ s 4 = 0 := by
  have g := h.2.1.trans d0
  have e := pt_Tsg (h.2.2.2 g).1 d1
  rw [d2] at e
  exact ⟨by rw [← e.2.2.2.1]; exact hx, g⟩
theorem rQ_s0 {x k : Int} (h : rQ B n s M) (hd : ¬ ((tI M 60 25).toInt = 0 ∧ (tI M 60 23).toInt = 3 ∧ (tI M 60 24).toInt = x)) (hk : 29 ≤ k) (hx : pt_sg k = x) : s 0 ≠ k := by
  intro e
  by_cases q : s 4 = 0
  · have T := (h.2.2.2 q).1
    have w := T.2.2.2.2.2.2 (by omega)
    rw [e] at w
    exact hd ⟨by rw [← h.2.1]; exact q, w.1, w.2.trans hx⟩
  · have := h.2.2.1.2 q; omega
end
/-! knot and goOn of the reference, and how loops go on -/
def pp_k1 (s : Nat → Int) : Nat → Int := if s 4 = 0 then (if s 8 < 64 then pp_su s 8 (s 8 + 1) else pp_rf 2 s) else s
def pp_go (B : Nat → Int) (n : Nat) (s : Nat → Int) : Nat → Int := if s 4 = 0 then pp_av B n s else s
theorem rf_4 {k : Int} {s : Nat → Int} (hk : k ≠ 0) : pp_rf k s 4 ≠ 0 := by
  unfold pp_rf
  by_cases q : s 4 = 0
  · rw [if_pos q, su_n (by decide), su_n (by decide), su_s]; exact hk
  · rw [if_neg q, su_n (by decide)]; exact q
theorem rf_0 {k : Int} {s : Nat → Int} : pp_rf k s 0 = 28 := by
  unfold pp_rf
  by_cases q : s 4 = 0
  · rw [if_pos q, su_s]
  · rw [if_neg q, su_s]
theorem rf_n {k : Int} {s : Nat → Int} {j : Nat} (hj : 6 ≤ j) : pp_rf k s j = s j := by
  unfold pp_rf
  by_cases q : s 4 = 0
  · rw [if_pos q, su_n (by omega), su_n (by omega), su_n (by omega)]
  · rw [if_neg q, su_n (by omega)]
theorem tk_n {B : Nat → Int} {n : Nat} {k : Int} {s : Nat → Int} {j : Nat} (hj : 6 ≤ j) : pp_tk B n k s j = s j := by
  unfold pp_tk
  by_cases q : s 0 = k
  · rw [if_pos q, av_n (by omega)]
  · rw [if_neg q, rf_n hj]
theorem nb_n {B : Nat → Int} {n : Nat} {lo mo : Int} {s : Nat → Int} {j : Nat} (hj : 6 ≤ j) : pp_nb B n lo mo s j = s j := by
  unfold pp_nb
  by_cases q : s 0 = 26
  · rw [if_pos q]
    by_cases q2 : s 1 < lo ∨ mo < s 1
    · rw [if_pos q2, rf_n hj]
    · rw [if_neg q2, av_n (by omega)]
  · rw [if_neg q, rf_n hj]
theorem k1_f {s : Nat → Int} (h : s 4 ≠ 0) : pp_k1 s = s := by unfold pp_k1; rw [if_neg h]
theorem go_f {B : Nat → Int} {n : Nat} {s : Nat → Int} (h : s 4 ≠ 0) : pp_go B n s = s := by unfold pp_go; rw [if_neg h]
theorem kn_kg {B : Nat → Int} {n : Nat} {s : Nat → Int} (h : s 4 = 0) : pp_go B n (pp_k1 s) = pp_kn B n s := by
  unfold pp_k1 pp_kn
  rw [if_pos h]
  by_cases q : s 8 < 64
  · rw [if_pos q, if_pos q]; unfold pp_go; rw [su_n (by decide), if_pos h]
  · rw [if_neg q, if_neg q, go_f (rf_4 (by decide))]
theorem kn_g {B : Nat → Int} {n : Nat} {s : Nat → Int} (h : s 8 ≤ 64) : pp_kn B n s 0 = 28 ∨ (pp_kn B n s 8 = s 8 + 1 ∧ pp_kn B n s 8 ≤ 64) := by
  unfold pp_kn
  by_cases q : s 8 < 64
  · rw [if_pos q]
    refine Or.inr ?_
    rw [av_n (j := 8) (by decide), su_s]
    exact ⟨rfl, by omega⟩
  · rw [if_neg q, rf_0]; exact Or.inl rfl
/-- it ends in a fault's kind, or it tells a knot at least -/
def pp_gr (F : (Nat → Int) → Nat → Int) : Prop := (∀ s : Nat → Int, s 0 = 28 → F s 0 = 28) ∧ ∀ s : Nat → Int, s 8 ≤ 64 → F s 0 = 28 ∨ (s 8 + 1 ≤ F s 8 ∧ F s 8 ≤ 64)
theorem gr_kn {B : Nat → Int} {n : Nat} {F : (Nat → Int) → Nat → Int} (h : pp_gr F) : ∀ s : Nat → Int, s 8 ≤ 64 → F (pp_kn B n s) 0 = 28 ∨ (s 8 + 1 ≤ F (pp_kn B n s) 8 ∧ F (pp_kn B n s) 8 ≤ 64) := by
  intro s hs
  rcases kn_g (B := B) (n := n) hs with q | q
  · exact Or.inl (h.1 _ q)
  · rcases h.2 _ q.2 with g | g
    · exact Or.inl g
    · exact Or.inr ⟨by omega, g.2⟩
section
variable {P : Int → Bool} {G : (Nat → Int) → Nat → Int}
theorem lp_gr (hP : P 28 = false) (hG : ∀ s : Nat → Int, s 8 ≤ 64 → G s 0 = 28 ∨ (s 8 + 1 ≤ G s 8 ∧ G s 8 ≤ 64)) : ∀ (f : Nat) (s : Nat → Int), s 8 ≤ 64 → pp_lp P G f s 0 = 28 ∨ (s 8 ≤ pp_lp P G f s 8 ∧ pp_lp P G f s 8 ≤ 64) := by
  intro f
  induction f with
  | zero => intro s h; exact Or.inr ⟨Int.le_refl _, h⟩
  | succ f ih =>
    intro s h
    rw [pp_lp]
    by_cases q : P (s 0) = true
    · rw [if_pos q]
      rcases hG s h with g | g
      · rw [lp_end (Or.inr (by rw [g]; exact hP))]; exact Or.inl g
      · rcases ih _ g.2 with g2 | g2
        · exact Or.inl g2
        · exact Or.inr ⟨by omega, g2.2⟩
    · rw [if_neg q]; exact Or.inr ⟨Int.le_refl _, h⟩
theorem lp_st (hP : P 28 = false) (hG : ∀ s : Nat → Int, s 8 ≤ 64 → G s 0 = 28 ∨ (s 8 + 1 ≤ G s 8 ∧ G s 8 ≤ 64)) : ∀ (f : Nat) (s : Nat → Int), s 8 ≤ 64 → 65 ≤ (f : Int) + s 8 → pp_lp P G f s = pp_lp P G (f + 1) s := by
  intro f
  induction f with
  | zero => intro s h h2; omega
  | succ f ih =>
    intro s h h2
    rw [pp_lp, pp_lp]
    by_cases q : P (s 0) = true
    · rw [if_pos q, if_pos q]
      rcases hG s h with g | g
      · rw [lp_end (Or.inr (by rw [g]; exact hP)), lp_end (Or.inr (by rw [g]; exact hP))]
      · exact ih _ g.2 (by omega)
    · rw [if_neg q, if_neg q]
theorem lp_nx (hP : P 28 = false) (hG : ∀ s : Nat → Int, s 8 ≤ 64 → G s 0 = 28 ∨ (s 8 + 1 ≤ G s 8 ∧ G s 8 ≤ 64)) {s s' : Nat → Int} (f : Nat) (h : P (s 0) = true) (e : s' = G s) (h8 : s 8 ≤ 64) (hf : 64 ≤ (f : Int) + s 8) : pp_lp P G (f + 1) s = pp_lp P G (f + 1) s' := by
  subst e
  rw [pp_lp, if_pos h]
  rcases hG s h8 with g | g
  · rw [lp_end (Or.inr (by rw [g]; exact hP)), lp_end (Or.inr (by rw [g]; exact hP))]
  · exact lp_st hP hG f _ g.2 (by omega)
end
section
variable {B : Nat → Int} {n : Nat} {F : (Nat → Int) → Nat → Int}
theorem gr_28 {P : Int → Bool} {G : (Nat → Int) → Nat → Int} {f : Nat} {s : Nat → Int} (hP : P 28 = false) (h : s 0 = 28) : pp_lp P G f s 0 = 28 := by rw [lp_end (Or.inr (by rw [h]; exact hP))]; exact h
theorem gr_lp {P : Int → Bool} (hP : P 28 = false) (hF : pp_gr F) : pp_gr (fun s => pp_lp P (fun s => F (pp_kn B n s)) 64 (F s)) := by
  refine ⟨fun s h => gr_28 hP (hF.1 s h), fun s h => ?_⟩
  rcases hF.2 s h with g | g
  · exact Or.inl (gr_28 hP g)
  · rcases lp_gr hP (gr_kn hF) 64 (F s) g.2 with g2 | g2
    · exact Or.inl g2
    · refine Or.inr ⟨?_, g2.2⟩
      show s 8 + 1 ≤ pp_lp P (fun s => F (pp_kn B n s)) 64 (F s) 8
      have := g2.1
      have := g.1
      omega
theorem gr_pd (hF : pp_gr F) : pp_gr (pp_pd B n F) := gr_lp (P := pp_qT) (by decide) hF
theorem gr_sm (hF : pp_gr F) : pp_gr (pp_sm B n F) := gr_lp (P := pp_qP) (by decide) (gr_pd hF)
theorem gr_cm (hF : pp_gr F) : pp_gr (pp_cm B n F) := by
  have hS := gr_sm (B := B) (n := n) hF
  refine ⟨fun s h => ?_, fun s h => ?_⟩
  · unfold pp_cm pp_c2
    have q := hS.1 s h
    rw [if_neg (by rw [q]; decide)]; exact q
  · unfold pp_cm pp_c2
    by_cases q : 32 ≤ pp_sm B n F s 0 ∧ pp_sm B n F s 0 ≤ 37
    · rw [if_pos q]
      rcases hS.2 s h with g | g
      · omega
      · rcases gr_kn (B := B) (n := n) hS _ g.2 with g2 | g2
        · exact Or.inl g2
        · exact Or.inr ⟨by omega, g2.2⟩
    · rw [if_neg q]; exact hS.2 s h
theorem gr_ng (hF : pp_gr F) : pp_gr (pp_ng B n F) := by
  have hC := gr_cm (B := B) (n := n) hF
  refine ⟨fun s h => hC.1 _ (gr_28 (by decide) h), fun s h => ?_⟩
  unfold pp_ng
  rcases lp_gr (P := pp_qN) (G := pp_kn B n) (by decide) (fun s h => (kn_g h).imp id (fun g => ⟨by omega, g.2⟩)) 65 s h with g | g
  · exact Or.inl (hC.1 _ g)
  · rcases hC.2 _ g.2 with g2 | g2
    · exact Or.inl g2
    · exact Or.inr ⟨by omega, g2.2⟩
theorem gr_bo (hF : pp_gr F) : pp_gr (pp_bo B n F) := gr_lp (P := pp_qA) (by decide) (gr_ng hF)
theorem gr_ei (hF : pp_gr F) : pp_gr (pp_ei B n F) := gr_lp (P := pp_qO) (by decide) (gr_bo hF)
theorem gr_p0 : pp_gr (pp_p0 B n) := by
  refine ⟨fun s h => ?_, fun s h => ?_⟩
  · unfold pp_p0
    rw [if_neg (by rw [h]; decide), if_neg (by rw [h]; decide)]; exact rf_0
  · have g : pp_kn B n s 0 = 28 ∨ (s 8 + 1 ≤ pp_kn B n s 8 ∧ pp_kn B n s 8 ≤ 64) := (kn_g h).imp id (fun g => ⟨by omega, g.2⟩)
    unfold pp_p0
    repeat' split
    · exact Or.inl rf_0
    · exact g
    · exact g
    · exact Or.inl rf_0
theorem gr_pt : ∀ d : Nat, pp_gr (pp_pt B n d) := by
  intro d
  induction d with
  | zero =>
    refine ⟨fun s h => ?_, fun s h => ?_⟩
    · rw [pp_pt, if_neg (by rw [h]; decide)]; exact gr_p0.1 s h
    · rw [pp_pt]
      by_cases q : s 0 = 30
      · rw [if_pos q]; exact Or.inl rf_0
      · rw [if_neg q]; exact gr_p0.2 s h
  | succ d ih =>
    refine ⟨fun s h => ?_, fun s h => ?_⟩
    · rw [pp_pt, if_neg (by rw [h]; decide)]; exact gr_p0.1 s h
    · rw [pp_pt]
      by_cases q : s 0 = 30
      · rw [if_pos q]
        unfold pp_tk
        by_cases q2 : pp_ei B n (pp_pt B n d) (pp_av B n s) 0 = 31
        · rw [if_pos q2, av_n (j := 8) (by decide)]
          rcases (gr_ei (B := B) (n := n) ih).2 (pp_av B n s) (by rw [av_n (by decide)]; exact h) with g | g
          · omega
          · rw [av_n (j := 8) (by decide)] at g; exact Or.inr g
        · rw [if_neg q2]; exact Or.inl rf_0
      · rw [if_neg q]; exact gr_p0.2 s h
theorem ng_not {s : Nat → Int} (h : s 0 = 24) (h0 : 0 ≤ s 8) (h1 : s 8 ≤ 64) : pp_ng B n F s = pp_ng B n F (pp_kn B n s) := by
  unfold pp_ng
  rw [lp_nx (P := pp_qN) (G := pp_kn B n) (by decide) (fun s h => (kn_g h).imp id (fun g => ⟨by omega, g.2⟩)) 64 (by rw [h]; decide) rfl h1 (by omega)]
theorem ng_no {s : Nat → Int} (h : s 0 ≠ 24) : pp_ng B n F s = pp_cm B n F s := by
  unfold pp_ng
  rw [lp_end (P := pp_qN) (f := 65) (s := s) (Or.inr (decide_eq_false h))]
end

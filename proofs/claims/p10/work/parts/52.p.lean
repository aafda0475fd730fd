variable {Tc : gC} {Tm : gM}
/-! the reference's words -/
def pt_st : List Nat := [0, 4, 10, 16, 21, 28, 32, 39, 44, 48, 52, 58, 64, 68, 73, 78, 83, 86, 90, 94, 98, 102, 109, 114, 120, 125]
def pt_ln : List Nat := [3, 5, 5, 4, 6, 3, 6, 4, 3, 3, 5, 5, 3, 4, 4, 4, 2, 3, 3, 3, 3, 6, 4, 5, 4]
/-- the class's number of the reference's word, and back -/
def pt_iv : List Nat := [0, 1, 2, 3, 4, 5, 6, 7, 8, 15, 9, 10, 11, 12, 13, 14, 23, 22, 24, 16, 17, 18, 19, 20, 21]
def pt_pm : List Nat := [0, 1, 2, 3, 4, 5, 6, 7, 8, 10, 11, 12, 13, 14, 15, 9, 19, 20, 21, 22, 23, 24, 17, 16, 18]
def pt_rc (j : Nat) : Int := (tx_mb.getD j 0 &&& 255).toInt
theorem pt_s1 : ∀ w : Nat, w < 25 → pt_st.getD (w + 1) 0 = pt_st.getD w 0 + pt_ln.getD w 0 + 1 ∧ pt_rc (pt_st.getD w 0 + pt_ln.getD w 0) = 32 ∧ 1 ≤ pt_ln.getD w 0 ∧ pt_ln.getD w 0 ≤ 6 ∧ pt_st.getD w 0 + pt_ln.getD w 0 ≤ 124 := by decide +kernel
theorem pt_s2' : ∀ w : Nat, w < 25 → ∀ j : Nat, j < 6 → j < pt_ln.getD w 0 → ¬ pt_rc (pt_st.getD w 0 + j) = 32 ∧ 97 ≤ pt_rc (pt_st.getD w 0 + j) ∧ pt_rc (pt_st.getD w 0 + j) ≤ 122 := by decide +kernel
theorem pt_s25 : pt_st.getD 25 0 = 125 := by decide
theorem pt_ivb : ∀ w : Nat, w < 25 → pt_iv.getD w 0 < 25 ∧ pt_pm.getD (pt_iv.getD w 0) 0 = w := by decide +kernel
theorem pt_pmb : ∀ k : Nat, k < 25 → pt_pm.getD k 0 < 25 ∧ pt_iv.getD (pt_pm.getD k 0) 0 = k := by decide +kernel
theorem pt_wkq : ∀ k : Nat, k < 25 → pt_wk (pt_w.getD k 0) 0 = (k : Int) := by decide +kernel
/-- the letters of p to a are the w-th word -/
def pt_mt (B : Nat → Int) (p a w : Nat) : Prop := p + pt_ln.getD w 0 = a ∧ ∀ j : Nat, j < pt_ln.getD w 0 → B (p + j) = pt_rc (pt_st.getD w 0 + j)
def pt_dg (B : Nat → Int) (p a j : Nat) : Int := if p + j < a then B (p + j) - 96 else 0
def pt_h (B : Nat → Int) (p a : Nat) : Nat → Int
  | 0 => 0
  | k + 1 => pt_h B p a k * 32 + pt_dg B p a k
/-- a word's own letters -/
def pt_td (w j : Nat) : Int := if j < pt_ln.getD w 0 then pt_rc (pt_st.getD w 0 + j) - 96 else 0
theorem pt_tdw : ∀ w : Nat, w < 25 → pt_w.getD (pt_iv.getD w 0) 0 = ((((pt_td w 0 * 32 + pt_td w 1) * 32 + pt_td w 2) * 32 + pt_td w 3) * 32 + pt_td w 4) * 32 + pt_td w 5 := by decide +kernel
theorem pt_tdb : ∀ w : Nat, w < 25 → ∀ j : Nat, j < 6 → 0 ≤ pt_td w j ∧ pt_td w j ≤ 26 ∧ (j < pt_ln.getD w 0 ↔ 1 ≤ pt_td w j) := by decide +kernel
theorem pt_h6 {B : Nat → Int} {p a : Nat} : pt_h B p a 6 = ((((pt_dg B p a 0 * 32 + pt_dg B p a 1) * 32 + pt_dg B p a 2) * 32 + pt_dg B p a 3) * 32 + pt_dg B p a 4) * 32 + pt_dg B p a 5 := by
  simp only [pt_h]
  omega
/-- what letters stand there -/
def pt_al (B : Nat → Int) (p a : Nat) : Prop := ∀ j : Nat, p + j < a → 97 ≤ B (p + j) ∧ B (p + j) ≤ 122
theorem pt_dgb {B : Nat → Int} {p a : Nat} (h : pt_al B p a) (j : Nat) : 0 ≤ pt_dg B p a j ∧ pt_dg B p a j ≤ 26 ∧ (p + j < a ↔ 1 ≤ pt_dg B p a j) := by
  unfold pt_dg
  by_cases q : p + j < a
  · rw [if_pos q]; have := h j q; omega
  · rw [if_neg q]; omega
theorem pt_hb {B : Nat → Int} {p a : Nat} (h : pt_al B p a) : 0 ≤ pt_h B p a 0 ∧ 0 ≤ pt_h B p a 1 ∧ 0 ≤ pt_h B p a 2 ∧ 0 ≤ pt_h B p a 3 ∧ 0 ≤ pt_h B p a 4 ∧ 0 ≤ pt_h B p a 5 ∧ pt_h B p a 0 < 33554432 ∧ pt_h B p a 1 < 33554432 ∧ pt_h B p a 2 < 33554432 ∧ pt_h B p a 3 < 33554432 ∧ pt_h B p a 4 < 33554432 ∧ pt_h B p a 5 < 33554432 := by
  have h0 := pt_dgb h 0
  have h1 := pt_dgb h 1
  have h2 := pt_dgb h 2
  have h3 := pt_dgb h 3
  have h4 := pt_dgb h 4
  simp only [pt_h]
  omega
theorem pt_dig {d0 d1 d2 d3 d4 d5 t0 t1 t2 t3 t4 t5 : Int} (b0 : 0 ≤ d0 ∧ d0 ≤ 26) (b1 : 0 ≤ d1 ∧ d1 ≤ 26) (b2 : 0 ≤ d2 ∧ d2 ≤ 26) (b3 : 0 ≤ d3 ∧ d3 ≤ 26) (b4 : 0 ≤ d4 ∧ d4 ≤ 26) (b5 : 0 ≤ d5 ∧ d5 ≤ 26) (c0 : 0 ≤ t0 ∧ t0 ≤ 26) (c1 : 0 ≤ t1 ∧ t1 ≤ 26) (c2 : 0 ≤ t2 ∧ t2 ≤ 26) (c3 : 0 ≤ t3 ∧ t3 ≤ 26) (c4 : 0 ≤ t4 ∧ t4 ≤ 26) (c5 : 0 ≤ t5 ∧ t5 ≤ 26)
    (e : ((((d0 * 32 + d1) * 32 + d2) * 32 + d3) * 32 + d4) * 32 + d5 = ((((t0 * 32 + t1) * 32 + t2) * 32 + t3) * 32 + t4) * 32 + t5) : d0 = t0 ∧ d1 = t1 ∧ d2 = t2 ∧ d3 = t3 ∧ d4 = t4 ∧ d5 = t5 := by
  have h5 : d5 = t5 := by omega
  subst h5
  have e : (((d0 * 32 + d1) * 32 + d2) * 32 + d3) * 32 + d4 = (((t0 * 32 + t1) * 32 + t2) * 32 + t3) * 32 + t4 := by omega
  have h4 : d4 = t4 := by omega
  subst h4
  have e : ((d0 * 32 + d1) * 32 + d2) * 32 + d3 = ((t0 * 32 + t1) * 32 + t2) * 32 + t3 := by omega
  have h3 : d3 = t3 := by omega
  subst h3
  have e : (d0 * 32 + d1) * 32 + d2 = (t0 * 32 + t1) * 32 + t2 := by omega
  have h2 : d2 = t2 := by omega
  subst h2
  have h1 : d1 = t1 := by omega
  exact ⟨by omega, h1, rfl, rfl, rfl, rfl⟩
/-- six letters at most: the same letters, the same number -/
theorem pt_mt_h {B : Nat → Int} {p a w : Nat} (hal : pt_al B p a) (h0 : p ≤ a) (h6 : a ≤ p + 6) (hw : w < 25) : pt_mt B p a w ↔ pt_h B p a 6 = pt_w.getD (pt_iv.getD w 0) 0 := by
  have key : (∀ j : Nat, j < 6 → pt_dg B p a j = pt_td w j) ↔ pt_h B p a 6 = pt_w.getD (pt_iv.getD w 0) 0 := by
    rw [pt_h6, pt_tdw w hw]
    constructor
    · intro h
      rw [h 0 (by omega), h 1 (by omega), h 2 (by omega), h 3 (by omega), h 4 (by omega), h 5 (by omega)]
    · intro e j hj
      have g := fun j => pt_dgb hal j
      have t := fun j hj => pt_tdb w hw j hj
      obtain ⟨q0, q1, q2, q3, q4, q5⟩ := pt_dig ⟨(g 0).1, (g 0).2.1⟩ ⟨(g 1).1, (g 1).2.1⟩ ⟨(g 2).1, (g 2).2.1⟩ ⟨(g 3).1, (g 3).2.1⟩ ⟨(g 4).1, (g 4).2.1⟩ ⟨(g 5).1, (g 5).2.1⟩ ⟨(t 0 (by omega)).1, (t 0 (by omega)).2.1⟩ ⟨(t 1 (by omega)).1, (t 1 (by omega)).2.1⟩ ⟨(t 2 (by omega)).1, (t 2 (by omega)).2.1⟩ ⟨(t 3 (by omega)).1, (t 3 (by omega)).2.1⟩ ⟨(t 4 (by omega)).1, (t 4 (by omega)).2.1⟩ ⟨(t 5 (by omega)).1, (t 5 (by omega)).2.1⟩ e
      rcases (show j = 0 ∨ j = 1 ∨ j = 2 ∨ j = 3 ∨ j = 4 ∨ j = 5 by omega) with rfl | rfl | rfl | rfl | rfl | rfl <;> assumption
  rw [← key]
  have hl := (pt_s1 w hw).2.2.2.1
  constructor
  · rintro ⟨h1, h2⟩ j hj
    unfold pt_dg pt_td
    by_cases q : j < pt_ln.getD w 0
    · rw [if_pos (by omega), if_pos q, h2 j q]
    · rw [if_neg (by omega), if_neg q]
  · intro h
    have hi : ∀ j : Nat, j < 6 → (p + j < a ↔ j < pt_ln.getD w 0) := fun j hj => by
      rw [(pt_dgb hal j).2.2, (pt_tdb w hw j hj).2.2, h j hj]
    have hp : p + pt_ln.getD w 0 = a := by
      have i0 := hi 0 (by omega)
      have i1 := hi 1 (by omega)
      have i2 := hi 2 (by omega)
      have i3 := hi 3 (by omega)
      have i4 := hi 4 (by omega)
      have i5 := hi 5 (by omega)
      omega
    refine ⟨hp, fun j hj => ?_⟩
    have e := h j (by omega)
    unfold pt_dg pt_td at e
    rw [if_pos (by omega), if_pos hj] at e
    omega
/-- where P ends, and what stands ahead of it -/
theorem pt_rn_all {P : Int → Bool} {B : Nat → Int} {n : Nat} : ∀ f a j : Nat, a ≤ j → j < pt_rn P B n f a → j < n ∧ P (B j) = true := by
  intro f
  induction f with
  | zero => intro a j h1 h2; rw [pt_rn] at h2; omega
  | succ f ih =>
    intro a j h1 h2
    rw [pt_rn] at h2
    by_cases q : a < n ∧ P (B a) = true
    · rw [if_pos q] at h2
      by_cases e : j = a
      · subst e; exact q
      · exact ih (a + 1) j (by omega) h2
    · rw [if_neg q] at h2; omega
theorem pt_rn_stop {P : Int → Bool} {B : Nat → Int} {n : Nat} : ∀ f a : Nat, n ≤ a + f → ¬ (pt_rn P B n f a < n ∧ P (B (pt_rn P B n f a)) = true) := by
  intro f
  induction f with
  | zero => intro a h; rw [pt_rn]; omega
  | succ f ih =>
    intro a h
    rw [pt_rn]
    by_cases q : a < n ∧ P (B a) = true
    · rw [if_pos q]; exact ih (a + 1) (by omega)
    · rw [if_neg q]; exact q
theorem pt_to_all {P : Int → Bool} {B : Nat → Int} {n a j : Nat} (h1 : a ≤ j) (h2 : j < pt_to P B n a) : j < n ∧ P (B j) = true := pt_rn_all _ _ _ h1 h2
theorem pt_to_stop {P : Int → Bool} {B : Nat → Int} {n a : Nat} : ¬ (pt_to P B n a < n ∧ P (B (pt_to P B n a)) = true) := pt_rn_stop _ _ (by omega)
theorem pt_to_al {B : Nat → Int} {n p : Nat} : pt_al B p (pt_to pt_L B n p) := fun j hj => of_decide_eq_true (pt_to_all (Nat.le_add_right p j) hj).2
/-- the letters' number, told from the front and from behind -/
def pt_s (B : Nat → Int) (p : Nat) : Nat → Int
  | 0 => 0
  | k + 1 => pt_s B p k + (B (p + k) - 96) * pt_p k
theorem pt_ev_s {B : Nat → Int} {n p : Nat} : ∀ k : Nat, k ≤ 6 → p + k ≤ pt_to pt_L B n p → pt_ev B n p 0 0 = pt_ev B n (p + k) k (pt_s B p k) := by
  intro k
  induction k with
  | zero => intro _ _; rfl
  | succ k ih =>
    intro h1 h2
    have q := pt_to_all (P := pt_L) (B := B) (n := n) (a := p) (j := p + k) (by omega) (by omega)
    rw [ih (by omega) (by omega), pt_ev_go q.1 q.2, if_pos (by omega)]
    rfl
theorem pt_ev_h {B : Nat → Int} {n p : Nat} (h : pt_to pt_L B n p ≤ p + 6) : pt_ev B n p 0 0 = pt_h B p (pt_to pt_L B n p) 6 := by
  have hp : p ≤ pt_to pt_L B n p := pt_to_le
  have hs := pt_to_stop (P := pt_L) (B := B) (n := n) (a := p)
  obtain ⟨k, hk⟩ : ∃ k : Nat, pt_to pt_L B n p = p + k := ⟨_, (Nat.add_sub_cancel' hp).symm⟩
  rw [hk] at h hs ⊢
  rw [pt_ev_s (B := B) (n := n) (p := p) k (by omega) (by rw [hk]; exact Nat.le_refl _), pt_ev_end hs, pt_h6]
  unfold pt_dg
  rcases (show k = 0 ∨ k = 1 ∨ k = 2 ∨ k = 3 ∨ k = 4 ∨ k = 5 ∨ k = 6 by omega) with rfl | rfl | rfl | rfl | rfl | rfl | rfl
  all_goals
    simp only [pt_s, pt_p]
    repeat' split
    all_goals omega
/-- of a word of six letters at most: the reference's word is the class's -/
theorem pt_wd {B : Nat → Int} {n p w : Nat} (h6 : pt_to pt_L B n p ≤ p + 6) (hw : w < 25) (hm : pt_mt B p (pt_to pt_L B n p) w) : pt_wk (pt_ev B n p 0 0) 0 = ((pt_iv.getD w 0 : Nat) : Int) := by
  rw [pt_ev_h h6, (pt_mt_h pt_to_al pt_to_le h6 hw).mp hm]
  exact pt_wkq _ (pt_ivb w hw).1
theorem pt_wk25 {v : Int} (h : ∀ k : Nat, k < 25 → ¬ pt_w.getD k 0 = v) : ∀ k : Nat, k ≤ 25 → pt_wk v (25 - k) = 25 := by
  intro k
  induction k with
  | zero => intro _; rfl
  | succ k ih =>
    intro hk
    rw [pt_wk_go (by omega) (h _ (by omega)), show 25 - (k + 1) + 1 = 25 - k by omega]
    exact ih (by omega)
theorem pt_nw {B : Nat → Int} {n p : Nat} (h6 : pt_to pt_L B n p ≤ p + 6) (hm : ∀ w : Nat, w < 25 → ¬ pt_mt B p (pt_to pt_L B n p) w) : pt_wk (pt_ev B n p 0 0) 0 = 25 := by
  refine pt_wk25 (fun k hk e => ?_) 25 (Nat.le_refl _)
  have q := pt_pmb k hk
  refine hm _ q.1 ((pt_mt_h pt_to_al pt_to_le h6 q.1).mpr ?_)
  rw [q.2, e, pt_ev_h h6]
/-- the reference's number -/
def pt_mf (B : Nat → Int) (n : Nat) : Nat → Nat → Int → Int
  | 0, _, v => v
  | f + 1, a, v => if a < n ∧ pt_D (B a) = true then pt_mf B n f (a + 1) (if 99999 < v then v else 10 * v + B a - 48) else v
def pt_mv (B : Nat → Int) (n a : Nat) (v : Int) : Int := pt_mf B n (n - a) a v
theorem pt_mv_go {B : Nat → Int} {n a : Nat} {v : Int} (h : a < n) (hp : pt_D (B a) = true) : pt_mv B n a v = pt_mv B n (a + 1) (if 99999 < v then v else 10 * v + B a - 48) := by
  unfold pt_mv
  rw [show n - a = (n - (a + 1)) + 1 by omega, pt_mf, if_pos ⟨h, hp⟩]
theorem pt_mv_end {B : Nat → Int} {n a : Nat} {v : Int} (h : ¬ (a < n ∧ pt_D (B a) = true)) : pt_mv B n a v = v := by
  unfold pt_mv
  cases n - a with
  | zero => rfl
  | succ f => rw [pt_mf, if_neg h]
theorem pt_mnf {B : Nat → Int} {n : Nat} : ∀ (f a : Nat) (v w : Int), 0 ≤ v → v ≤ 1000000 → (w = v ∨ (99999 < w ∧ 99999 < v)) → (pt_mf B n f a w = pt_nf B n f a v ∨ (99999 < pt_mf B n f a w ∧ 99999 < pt_nf B n f a v)) := by
  intro f
  induction f with
  | zero => intro a v w _ _ h; exact h
  | succ f ih =>
    intro a v w h0 h1 h
    rw [pt_mf, pt_nf]
    by_cases q : a < n ∧ pt_D (B a) = true
    · rw [if_pos q, if_pos q]
      have d := of_decide_eq_true q.2
      refine ih _ _ _ (by omega) (by omega) ?_
      by_cases g : 99999 < w
      · rw [if_pos g]; right; omega
      · rw [if_neg g]; left; omega
    · rw [if_neg q, if_neg q]; exact h
theorem pt_mn {B : Nat → Int} {n a : Nat} : pt_mv B n a 0 = pt_nv B n a 0 ∨ (99999 < pt_mv B n a 0 ∧ 99999 < pt_nv B n a 0) := pt_mnf _ _ _ _ (by decide) (by decide) (Or.inl rfl)
/-- a sign's number in the reference -/
def pt_sg (k : Int) : Int := if k = 29 then 59 else if k = 30 then 40 else if k = 31 then 41 else if k = 32 then 60 else if k = 33 then 256 else if k = 34 then 61 else if k = 35 then 257 else if k = 36 then 258 else if k = 37 then 62 else if k = 38 then 43 else if k = 39 then 45 else if k = 40 then 42 else 47
/-- kind k and value v of the class's token, sort s and value w of the reference's -/
def pt_T (k v s w : Int) : Prop := (0 ≤ k ∧ k ≤ 41) ∧ (k < 25 → s = 0 ∧ w = ((pt_pm.getD k.toNat 0 : Nat) : Int)) ∧ (k = 25 → s = 1 ∧ w = v) ∧ (k = 26 → s = 2 ∧ (w = v ∨ (99999 < w ∧ 99999 < v))) ∧ (k = 27 → s = 4) ∧ (k = 28 → s = 5) ∧ (29 ≤ k → s = 3 ∧ w = pt_sg k)
theorem pt_Tw {w : Nat} {v : Int} (h : w < 25) : pt_T ((pt_iv.getD w 0 : Nat) : Int) v 0 (w : Int) := by
  have q := pt_ivb w h
  refine ⟨by omega, fun _ => ⟨rfl, ?_⟩, fun g => by omega, fun g => by omega, fun g => by omega, fun g => by omega, fun g => by omega⟩
  rw [show (((pt_iv.getD w 0 : Nat) : Int)).toNat = pt_iv.getD w 0 from Int.toNat_natCast _, q.2]
theorem pt_Tc {k v s w : Int} (h : (k = 25 ∧ s = 1 ∧ w = v) ∨ (k = 26 ∧ s = 2 ∧ (w = v ∨ (99999 < w ∧ 99999 < v))) ∨ (k = 27 ∧ s = 4) ∨ (k = 28 ∧ s = 5)) : pt_T k v s w := by
  rcases h with ⟨rfl, h1, h2⟩ | ⟨rfl, h1, h2⟩ | ⟨rfl, h1⟩ | ⟨rfl, h1⟩
  · exact ⟨by omega, fun g => by omega, fun _ => ⟨h1, h2⟩, fun g => by omega, fun g => by omega, fun g => by omega, fun g => by omega⟩
  · exact ⟨by omega, fun g => by omega, fun g => by omega, fun _ => ⟨h1, h2⟩, fun g => by omega, fun g => by omega, fun g => by omega⟩
  · exact ⟨by omega, fun g => by omega, fun g => by omega, fun g => by omega, fun _ => h1, fun g => by omega, fun g => by omega⟩
  · exact ⟨by omega, fun g => by omega, fun g => by omega, fun g => by omega, fun g => by omega, fun _ => h1, fun g => by omega⟩

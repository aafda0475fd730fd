variable {Tc : gC} {Tm : gM}
/-! safety: bounds that last -/
def ib (lo hi : Int) (v : Int32) : Prop := lo ≤ v.toInt ∧ v.toInt ≤ hi
theorem ib_mk {lo hi : Int} {v : Int32} (h1 : lo ≤ v.toInt) (h2 : v.toInt ≤ hi) : ib lo hi v := ⟨h1, h2⟩
/-- queues whose minute is bound: now, the ring, the image -/
def cPer (o : Nat) : Prop := o = 27 ∨ (29 ≤ o ∧ o ≤ 49)
def cBI (ci o k : Nat) (v : Int32) : Prop := match ci, k with
  | 0, 5 => ib 0 16 v
  | 1, 3 => ib 0 64 v
  | 3, 2 => cPer o → ib 0 120 v
  | 3, 3 => ib 0 8 v
  | 5, 1 => ib 0 19 v
  | 5, 2 => ib 0 20 v
  | 6, 5 => ib 0 24 v
  | 6, 6 => ib (-1) 24 v
  | 6, 10 => ib 0 480 v
  | 7, 1 => ib 0 700 v
  | 7, 2 => ib 0 700 v
  | 7, 3 => ib 0 700 v
  | 7, 4 => ib 0 41 v
  | 7, 6 => ib 0 2147483647 v
  | 8, 4 => ib 0 8 v
  | _, _ => True
def cBY (ci k : Nat) (v : Int32) : Prop := match ci, k with
  | 1, 0 => 0 ≤ v.toInt ∨ v.toInt ≤ -16
  | 3, 6 => ib 0 7 v
  | 6, 0 => ib 0 59 v
  | _, _ => True
def cG (M : ti_M) : gC := (tY M 2 0, tI M 50 5, tI M 50 6, tY M 50 0, tY M 50 1, tY M 50 2, tY M 50 3)
theorem cG_I {M : ti_M} {o k : Nat} {v : Int32} (h : ¬ (o = 50 ∧ (k = 5 ∨ k = 6))) : cG (uI M o k v) = cG M := by
  unfold cG
  rw [tI_n _ _ _ _ (fun q => h ⟨q.2.symm, Or.inl q.1.symm⟩), tI_n _ _ _ _ (fun q => h ⟨q.2.symm, Or.inr q.1.symm⟩)]; rfl
theorem cG_Y {M : ti_M} {o k : Nat} {f : Nat → Int32} (h : ¬ (o = 2 ∧ k = 0)) (h2 : ¬ (o = 50 ∧ k < 4)) : cG (uY M o k f) = cG M := by
  unfold cG
  rw [tY_n _ _ _ _ (fun q => h ⟨q.2.symm, q.1.symm⟩), tY_n _ _ _ _ (fun q => h2 ⟨q.2.symm, by omega⟩), tY_n _ _ _ _ (fun q => h2 ⟨q.2.symm, by omega⟩), tY_n _ _ _ _ (fun q => h2 ⟨q.2.symm, by omega⟩), tY_n _ _ _ _ (fun q => h2 ⟨q.2.symm, by omega⟩)]; rfl
theorem cG_50 {o ci : Nat} (hc : ti_cls o = ci) (q : o = 50) : ci = 6 := by subst q; exact hc.symm
theorem cG_2 {o ci : Nat} (hc : ti_cls o = ci) (q : o = 2) : ci = 7 := by subst q; exact hc.symm
def cI (Tc : gC) (M : ti_M) : Prop := (∀ o k, cBI (ti_cls o) o k (tI M o k)) ∧ (∀ o k i, cBY (ti_cls o) k (tY M o k i)) ∧ cG M = Tc
theorem cI_self {M : ti_M} (h : cI Tc M) : cI (cG M) M := ⟨h.1, h.2.1, rfl⟩
theorem cI_uI {M N : ti_M} {o k ci : Nat} {v : Int32} (h : cI Tc M) (e : N = uI M o k v) (hc : ti_cls o = ci) (hb : cBI ci o k v) (hz : ¬ (ci = 6 ∧ (k = 5 ∨ k = 6)) := by decide) : cI Tc N := by
  subst e
  refine ⟨fun o2 k2 => ?_, fun o2 k2 i => h.2.1 o2 k2 i, (cG_I (fun q => hz ⟨cG_50 hc q.1, q.2⟩)).trans h.2.2⟩
  by_cases q : k2 = k ∧ o2 = o
  · obtain ⟨rfl, rfl⟩ := q; rw [tI_u, hc]; exact hb
  · rw [tI_n _ _ _ _ q]; exact h.1 o2 k2
theorem cI_uY {M N : ti_M} {o k ci : Nat} {f : Nat → Int32} (h : cI Tc M) (e : N = uY M o k f) (hc : ti_cls o = ci) (hb : ∀ i, cBY ci k (f i)) (hz : ¬ (ci = 7 ∧ k = 0) ∧ ¬ (ci = 6 ∧ k < 4) := by decide) : cI Tc N := by
  subst e
  refine ⟨fun o2 k2 => h.1 o2 k2, fun o2 k2 i => ?_, (cG_Y (fun q => hz.1 ⟨cG_2 hc q.1, q.2⟩) (fun q => hz.2 ⟨cG_50 hc q.1, q.2⟩)).trans h.2.2⟩
  by_cases q : k2 = k ∧ o2 = o
  · obtain ⟨rfl, rfl⟩ := q; rw [tY_u, hc]; exact hb i
  · rw [tY_n _ _ _ _ q]; exact h.2.1 o2 k2 i
/-- stones may change -/
theorem cI_gI {M N : ti_M} {o k ci : Nat} {v : Int32} (h : cI Tc M) (e : N = uI M o k v) (hc : ti_cls o = ci) (hb : cBI ci o k v) : cI (cG N) N := by
  subst e
  refine ⟨fun o2 k2 => ?_, fun o2 k2 i => h.2.1 o2 k2 i, rfl⟩
  by_cases q : k2 = k ∧ o2 = o
  · obtain ⟨rfl, rfl⟩ := q; rw [tI_u, hc]; exact hb
  · rw [tI_n _ _ _ _ q]; exact h.1 o2 k2
theorem cI_gY {M N : ti_M} {o k ci i : Nat} {v : Int32} (h : cI Tc M) (e : N = uY M o k (upd (tY M o k) i v)) (hc : ti_cls o = ci) (hb : cBY ci k v) : cI (cG N) N := by
  subst e
  refine ⟨fun o2 k2 => h.1 o2 k2, fun o2 k2 j => ?_, rfl⟩
  by_cases q : k2 = k ∧ o2 = o
  · obtain ⟨rfl, rfl⟩ := q
    rw [tY_u, hc]
    by_cases r : j = i
    · subst r; rw [pk_us]; exact hb
    · rw [pk_un r, ← hc]; exact h.2.1 _ _ j
  · rw [tY_n _ _ _ _ q]; exact h.2.1 o2 k2 j
theorem cI_up {M N : ti_M} {o k ci i : Nat} {v : Int32} (h : cI Tc M) (e : N = uY M o k (upd (tY M o k) i v)) (hc : ti_cls o = ci) (hb : cBY ci k v) (hz : ¬ (ci = 7 ∧ k = 0) ∧ ¬ (ci = 6 ∧ k < 4) := by decide) : cI Tc N := by
  refine cI_uY h e hc (fun j => ?_) hz
  by_cases q : j = i
  · subst q; rw [pk_us]; exact hb
  · rw [pk_un q, ← hc]; exact h.2.1 o k j
theorem cI_uZ {M N : ti_M} {o k : Nat} {f : Nat → Int64} (h : cI Tc M) (e : N = uZ M o k f) : cI Tc N := by subst e; exact h
theorem cI_uT {M N : ti_M} {o k : Nat} {v : Option Nat} (h : cI Tc M) (e : N = uT M o k v) : cI Tc N := by subst e; exact h
theorem cI_cp {M N : ti_M} {o k ci o1 k1 a b n : Nat} (h : cI Tc M) (e : N = uY M o k (va_cpy (tY M o1 k1) (tY M o k) a b n)) (hc : ti_cls o = ci) (hb : ∀ i, cBY ci k (tY M o1 k1 i)) (hz : ¬ (ci = 7 ∧ k = 0) ∧ ¬ (ci = 6 ∧ k < 4) := by decide) : cI Tc N := by
  refine cI_uY h e hc (fun j => ?_) hz
  unfold va_cpy
  split
  · exact hb _
  · rw [← hc]; exact h.2.1 o k j
theorem cI_rd {M : ti_M} {o k ci : Nat} {x : Int32} (h : cI Tc M) (hc : ti_cls o = ci) (e : x = tI M o k) : cBI ci o k x := by rw [e, ← hc]; exact h.1 o k
theorem cI_ry {M : ti_M} {o k ci i : Nat} {x : Int32} (h : cI Tc M) (hc : ti_cls o = ci) (e : x = tY M o k i) : cBY ci k x := by rw [e, ← hc]; exact h.2.1 o k i
/-! reads behind a write -/
theorem tI_uE {M N : ti_M} {o k : Nat} {v : Int32} (e : N = uI M o k v) : tI N o k = v := by subst e; exact tI_u M o k v
theorem tI_nE {M N : ti_M} {o k : Nat} {v : Int32} (e : N = uI M o k v) {o2 k2 : Nat} (h : ¬ (k2 = k ∧ o2 = o)) : tI N o2 k2 = tI M o2 k2 := by subst e; exact tI_n M o k v h
theorem tI_uYE {M N : ti_M} {o k : Nat} {v : Nat → Int32} (e : N = uY M o k v) {o2 k2 : Nat} : tI N o2 k2 = tI M o2 k2 := by subst e; rfl
theorem tI_uZE {M N : ti_M} {o k : Nat} {v : Nat → Int64} (e : N = uZ M o k v) {o2 k2 : Nat} : tI N o2 k2 = tI M o2 k2 := by subst e; rfl
theorem tI_uTE {M N : ti_M} {o k : Nat} {v : Option Nat} (e : N = uT M o k v) {o2 k2 : Nat} : tI N o2 k2 = tI M o2 k2 := by subst e; rfl
theorem tY_uIE {M N : ti_M} {o k : Nat} {v : Int32} (e : N = uI M o k v) {o2 k2 : Nat} : tY N o2 k2 = tY M o2 k2 := by subst e; rfl
theorem tY_uE {M N : ti_M} {o k : Nat} {v : Nat → Int32} (e : N = uY M o k v) : tY N o k = v := by subst e; exact tY_u M o k v
theorem tY_nE {M N : ti_M} {o k : Nat} {v : Nat → Int32} (e : N = uY M o k v) {o2 k2 : Nat} (h : ¬ (k2 = k ∧ o2 = o)) : tY N o2 k2 = tY M o2 k2 := by subst e; exact tY_n M o k v h
theorem tY_uZE {M N : ti_M} {o k : Nat} {v : Nat → Int64} (e : N = uZ M o k v) {o2 k2 : Nat} : tY N o2 k2 = tY M o2 k2 := by subst e; rfl
theorem tY_uTE {M N : ti_M} {o k : Nat} {v : Option Nat} (e : N = uT M o k v) {o2 k2 : Nat} : tY N o2 k2 = tY M o2 k2 := by subst e; rfl
theorem tZ_uIE {M N : ti_M} {o k : Nat} {v : Int32} (e : N = uI M o k v) {o2 k2 : Nat} : tZ N o2 k2 = tZ M o2 k2 := by subst e; rfl
theorem tZ_uYE {M N : ti_M} {o k : Nat} {v : Nat → Int32} (e : N = uY M o k v) {o2 k2 : Nat} : tZ N o2 k2 = tZ M o2 k2 := by subst e; rfl
theorem tZ_uE {M N : ti_M} {o k : Nat} {v : Nat → Int64} (e : N = uZ M o k v) : tZ N o k = v := by subst e; exact tZ_u M o k v
theorem tZ_nE {M N : ti_M} {o k : Nat} {v : Nat → Int64} (e : N = uZ M o k v) {o2 k2 : Nat} (h : ¬ (k2 = k ∧ o2 = o)) : tZ N o2 k2 = tZ M o2 k2 := by subst e; exact tZ_n M o k v h
theorem tZ_uTE {M N : ti_M} {o k : Nat} {v : Option Nat} (e : N = uT M o k v) {o2 k2 : Nat} : tZ N o2 k2 = tZ M o2 k2 := by subst e; rfl
theorem tT_uIE {M N : ti_M} {o k : Nat} {v : Int32} (e : N = uI M o k v) {o2 k2 : Nat} : tT N o2 k2 = tT M o2 k2 := by subst e; rfl
theorem tT_uYE {M N : ti_M} {o k : Nat} {v : Nat → Int32} (e : N = uY M o k v) {o2 k2 : Nat} : tT N o2 k2 = tT M o2 k2 := by subst e; rfl
theorem tT_uZE {M N : ti_M} {o k : Nat} {v : Nat → Int64} (e : N = uZ M o k v) {o2 k2 : Nat} : tT N o2 k2 = tT M o2 k2 := by subst e; rfl
theorem tT_uE {M N : ti_M} {o k : Nat} {v : Option Nat} (e : N = uT M o k v) : tT N o k = v := by subst e; exact tT_u M o k v
theorem tT_nE {M N : ti_M} {o k : Nat} {v : Option Nat} (e : N = uT M o k v) {o2 k2 : Nat} (h : ¬ (k2 = k ∧ o2 = o)) : tT N o2 k2 = tT M o2 k2 := by subst e; exact tT_n M o k v h
theorem rf_I {M N : ti_M} {o k : Nat} {v : Int32} (e : N = uI M o k v) : N.2.2.2 = M.2.2.2 := by subst e; rfl
theorem rf_Y {M N : ti_M} {o k : Nat} {v : Nat → Int32} (e : N = uY M o k v) : N.2.2.2 = M.2.2.2 := by subst e; rfl
theorem rf_Z {M N : ti_M} {o k : Nat} {v : Nat → Int64} (e : N = uZ M o k v) : N.2.2.2 = M.2.2.2 := by subst e; rfl
theorem ra_Y {M N : ti_M} {o k : Nat} {v : Nat → Int32} (e : N = uY M o k v) : N.1 = M.1 := by subst e; rfl
theorem ra_Z {M N : ti_M} {o k : Nat} {v : Nat → Int64} (e : N = uZ M o k v) : N.1 = M.1 := by subst e; rfl
theorem ra_T {M N : ti_M} {o k : Nat} {v : Option Nat} (e : N = uT M o k v) : N.1 = M.1 := by subst e; rfl
theorem tI_fr {M N : ti_M} (e : N.1 = M.1) {o k : Nat} : tI N o k = tI M o k := congrFun (congrFun e o) k
theorem tT_fr {M N : ti_M} (e : N.2.2.2 = M.2.2.2) {o k : Nat} : tT N o k = tT M o k := congrFun (congrFun e o) k
/-- references stay but those of the queues that are laid anew at each use -/
def rT (N M : ti_M) : Prop := ∀ o k : Nat, ¬ (k = 0 ∧ (o = 51 ∨ o = 52 ∨ o = 54 ∨ o = 55)) → tT N o k = tT M o k
theorem rT.refl {M : ti_M} : rT M M := fun _ _ _ => rfl
theorem rT.trans {K N M : ti_M} (h1 : rT K N) (h2 : rT N M) : rT K M := fun o k h => (h1 o k h).trans (h2 o k h)
theorem rs_of {N M : ti_M} (e : N.2.2.2 = M.2.2.2) : rT N M := fun _ _ _ => tT_fr e
theorem rs_TT {N M : ti_M} {o : Nat} {v : Option Nat} (e : N.2.2.2 = (uT M o 0 v).2.2.2) (ho : o = 51 ∨ o = 52 ∨ o = 54 ∨ o = 55) : rT N M := fun o2 k2 h => (tT_fr e).trans (tT_n _ _ _ _ (fun q => h ⟨q.1, by rw [q.2]; exact ho⟩))
theorem rs_T {N M : ti_M} {o : Nat} {v : Option Nat} (e : N = uT M o 0 v) (ho : o = 51 ∨ o = 52 ∨ o = 54 ∨ o = 55) : rT N M := rs_TT (by rw [e]) ho
/-- the ints of the class's own object, of the tokens and of the steps stay -/
def fX (N M : ti_M) : Prop := ∀ k : Nat, tI N 0 k = tI M 0 k ∧ tI N 2 k = tI M 2 k ∧ tI N 28 k = tI M 28 k ∧ ∀ o : Nat, o ≤ 20 → tI N o k = tI M o k
theorem fX.refl {M : ti_M} : fX M M := fun _ => ⟨rfl, rfl, rfl, fun _ _ => rfl⟩
theorem fX.trans {K N M : ti_M} (h1 : fX K N) (h2 : fX N M) : fX K M := fun k => ⟨(h1 k).1.trans (h2 k).1, (h1 k).2.1.trans (h2 k).2.1, (h1 k).2.2.1.trans (h2 k).2.2.1, fun o h => ((h1 k).2.2.2 o h).trans ((h2 k).2.2.2 o h)⟩
theorem fx_of {N M : ti_M} (e : N.1 = M.1) : fX N M := fun _ => ⟨tI_fr e, tI_fr e, tI_fr e, fun _ _ => tI_fr e⟩
theorem fx_I {N M : ti_M} {o k : Nat} {v : Int32} (e : N = uI M o k v) (h : 20 < o ∧ o ≠ 28) : fX N M := by
  subst e
  exact fun k2 => ⟨tI_o _ _ _ _ (by omega), tI_o _ _ _ _ (by omega), tI_o _ _ _ _ (by omega), fun o2 h2 => tI_o _ _ _ _ (by omega)⟩
theorem fxn {o ci : Nat} (hc : ti_cls o = ci) (h : ci ≠ 9 ∧ ci ≠ 4 ∧ ci ≠ 7 ∧ ci ≠ 8 ∧ ci ≠ 2 ∧ ci ≠ 5) : 20 < o ∧ o ≠ 28 := by
  constructor
  · by_cases q : o ≤ 20
    · exfalso
      have : ∀ o : Nat, o ≤ 20 → ti_cls o = 9 ∨ ti_cls o = 4 ∨ ti_cls o = 7 ∨ ti_cls o = 8 ∨ ti_cls o = 2 := by decide
      have := this o q
      omega
    · omega
  · intro e
    refine h.2.2.2.2.2 ?_
    rw [← hc, e]; decide
theorem np_51 : ¬ cPer 51 := by unfold cPer; decide
theorem np_52 : ¬ cPer 52 := by unfold cPer; decide
theorem np_54 : ¬ cPer 54 := by unfold cPer; decide
theorem np_55 : ¬ cPer 55 := by unfold cPer; decide
theorem cPr {i : Nat} (h : i < 20) : cPer (29 + i) := Or.inr ⟨by omega, by omega⟩
def f0 (N M : ti_M) : Prop := ∀ k : Nat, tI N 0 k = tI M 0 k ∧ tI N 28 k = tI M 28 k
theorem f0.refl {M : ti_M} : f0 M M := fun _ => ⟨rfl, rfl⟩
theorem f0.trans {K N M : ti_M} (h1 : f0 K N) (h2 : f0 N M) : f0 K M := fun k => ⟨(h1 k).1.trans (h2 k).1, (h1 k).2.trans (h2 k).2⟩
theorem f0_of {N M : ti_M} (e : N.1 = M.1) : f0 N M := fun _ => ⟨tI_fr e, tI_fr e⟩
theorem f0_x {N M : ti_M} (h : fX N M) : f0 N M := fun k => ⟨(h k).1, (h k).2.2.1⟩
theorem f0_I {N M : ti_M} {o k : Nat} {v : Int32} (e : N = uI M o k v) (h : o ≠ 0 ∧ o ≠ 28) : f0 N M := by
  subst e
  exact fun k2 => ⟨tI_o _ _ _ _ (Ne.symm h.1), tI_o _ _ _ _ (Ne.symm h.2)⟩
theorem f0n {o ci : Nat} (hc : ti_cls o = ci) (h : ci ≠ 9 ∧ ci ≠ 5) : o ≠ 0 ∧ o ≠ 28 := by
  refine ⟨fun e => h.1 ?_, fun e => h.2 ?_⟩
  · rw [← hc, e]; decide
  · rw [← hc, e]; decide
def o12 (N M : ti_M) : Prop := ∀ o k : Nat, o ≠ 1 → o ≠ 2 → tI N o k = tI M o k
theorem o12.refl {M : ti_M} : o12 M M := fun _ _ _ _ => rfl
theorem o12.trans {K N M : ti_M} (h1 : o12 K N) (h2 : o12 N M) : o12 K M := fun o k a b => (h1 o k a b).trans (h2 o k a b)
theorem o12_of {N M : ti_M} (e : N.1 = M.1) : o12 N M := fun _ _ _ _ => tI_fr e
theorem o12_I {N M : ti_M} {o k : Nat} {v : Int32} (e : N = uI M o k v) (h : o = 1 ∨ o = 2) : o12 N M := by
  subst e
  intro o2 k2 a b
  exact tI_o _ _ _ _ (fun q => by rcases h with h | h; exact a (q.trans h); exact b (q.trans h))
theorem f0_12 {N M : ti_M} (h : o12 N M) : f0 N M := fun k => ⟨h 0 k (by decide) (by decide), h 28 k (by decide) (by decide)⟩
def rR (N M : ti_M) : Prop := ∀ o k : Nat, o ≠ 1 → tT N o k = tT M o k
theorem rR.refl {M : ti_M} : rR M M := fun _ _ _ => rfl
theorem rR.trans {K N M : ti_M} (h1 : rR K N) (h2 : rR N M) : rR K M := fun o k h => (h1 o k h).trans (h2 o k h)
theorem rr_of {N M : ti_M} (e : N.2.2.2 = M.2.2.2) : rR N M := fun _ _ _ => tT_fr e
theorem rr_T {N M : ti_M} {k : Nat} {v : Option Nat} (e : N = uT M 1 k v) : rR N M := by subst e; exact fun o2 k2 h => tT_n _ _ _ _ (fun q => h q.2)
def s_pk (M : ti_M) : Int32 := if (tI M 2 3).toInt < (tI M 2 2).toInt then tY M 2 0 (tI M 2 3).toNatClampNeg &&& 255 else -1
theorem nk {a b : Nat} {P : Prop} (h : a ≠ b) : ¬ (a = b ∧ P) := fun q => h q.1
theorem no {a b : Nat} {P : Prop} (h : a ≠ b) : ¬ (P ∧ a = b) := fun q => h q.2
theorem rf_Tc {M M1 N : ti_M} {o k : Nat} {v : Option Nat} (e : N = uT M1 o k v) (h : M1.2.2.2 = M.2.2.2) : N.2.2.2 = (uT M o k v).2.2.2 := by subst e; show up2 M1.2.2.2 o k v = up2 M.2.2.2 o k v; rw [h]
theorem rf_TTc {M P N : ti_M} {o k : Nat} {v : Option Nat} (e : N.2.2.2 = (uT P o k v).2.2.2) (h : P.2.2.2 = M.2.2.2) : N.2.2.2 = (uT M o k v).2.2.2 := by rw [e]; show up2 P.2.2.2 o k v = up2 M.2.2.2 o k v; rw [h]
section
variable {p : Program} {l : Launch} {e : Env} {R : Room} {s : State} {m : MethodId} {args : Array Value} {below : List Frame} {meth : Method} {c : Code} {H : Heap} {locs : List Loc} {cells slots : Nat} {Q : State → Prop} {pc : Nat} {ls : Array Slot} {rest : List Value} {cc : ByteArray}
theorem sb_icmp_eq (hx : p.tables.exec = Jvm.exec) (hb : c.code = cc) {x y : Int32} {a b : Int} (ha : x.toInt = a) (hy : y.toInt = b) {off : Int} {tgt : Nat} (hdg : decode cc pc = .ok (.if_icmp .eq off, 3)) (ht : (pc : Int) + off = (tgt : Int)) (kt : a = b → W p l e R s m args below meth c H locs cells slots Q (F0 m tgt ls rest)) (kf : ¬ a = b → W p l e R s m args below meth c H locs cells slots Q (F0 m (pc + 3) ls rest)) : W p l e R s m args below meth c H locs cells slots Q (F0 m pc ls (.int y :: .int x :: rest)) :=
  lv_icmp_eq hx hb hdg ht (fun h => kt (by rw [← ha, ← hy, h])) (fun h => kf (fun q => h (Int32.toInt_inj.mp (by rw [ha, hy]; exact q))))
theorem sb_if_eq (hx : p.tables.exec = Jvm.exec) (hb : c.code = cc) {x : Int32} {a : Int} (ha : x.toInt = a) {off : Int} {tgt : Nat} (hdg : decode cc pc = .ok (.ifCond .eq off, 3)) (ht : (pc : Int) + off = (tgt : Int)) (kt : a = 0 → W p l e R s m args below meth c H locs cells slots Q (F0 m tgt ls rest)) (kf : ¬ a = 0 → W p l e R s m args below meth c H locs cells slots Q (F0 m (pc + 3) ls rest)) : W p l e R s m args below meth c H locs cells slots Q (F0 m pc ls (.int x :: rest)) := by
  have hy : (0 : Int32).toInt = 0 := by decide
  exact lv_if_eq hx hb hdg ht (fun h => kt (by rw [← ha, h]; exact hy)) (fun h => kf (fun q => h (Int32.toInt_inj.mp (by rw [ha, hy]; exact q))))
theorem sb_icmp_ne (hx : p.tables.exec = Jvm.exec) (hb : c.code = cc) {x y : Int32} {a b : Int} (ha : x.toInt = a) (hy : y.toInt = b) {off : Int} {tgt : Nat} (hdg : decode cc pc = .ok (.if_icmp .ne off, 3)) (ht : (pc : Int) + off = (tgt : Int)) (kt : ¬ a = b → W p l e R s m args below meth c H locs cells slots Q (F0 m tgt ls rest)) (kf : a = b → W p l e R s m args below meth c H locs cells slots Q (F0 m (pc + 3) ls rest)) : W p l e R s m args below meth c H locs cells slots Q (F0 m pc ls (.int y :: .int x :: rest)) :=
  lv_icmp_ne hx hb hdg ht (fun h => kt (fun q => h (Int32.toInt_inj.mp (by rw [ha, hy]; exact q)))) (fun h => kf (by rw [← ha, ← hy, h]))
theorem sb_if_ne (hx : p.tables.exec = Jvm.exec) (hb : c.code = cc) {x : Int32} {a : Int} (ha : x.toInt = a) {off : Int} {tgt : Nat} (hdg : decode cc pc = .ok (.ifCond .ne off, 3)) (ht : (pc : Int) + off = (tgt : Int)) (kt : ¬ a = 0 → W p l e R s m args below meth c H locs cells slots Q (F0 m tgt ls rest)) (kf : a = 0 → W p l e R s m args below meth c H locs cells slots Q (F0 m (pc + 3) ls rest)) : W p l e R s m args below meth c H locs cells slots Q (F0 m pc ls (.int x :: rest)) := by
  have hy : (0 : Int32).toInt = 0 := by decide
  exact lv_if_ne hx hb hdg ht (fun h => kt (fun q => h (Int32.toInt_inj.mp (by rw [ha, hy]; exact q)))) (fun h => kf (by rw [← ha, h]; exact hy))
theorem sb_icmp_lt (hx : p.tables.exec = Jvm.exec) (hb : c.code = cc) {x y : Int32} {a b : Int} (ha : x.toInt = a) (hy : y.toInt = b) {off : Int} {tgt : Nat} (hdg : decode cc pc = .ok (.if_icmp .lt off, 3)) (ht : (pc : Int) + off = (tgt : Int)) (kt : a < b → W p l e R s m args below meth c H locs cells slots Q (F0 m tgt ls rest)) (kf : b ≤ a → W p l e R s m args below meth c H locs cells slots Q (F0 m (pc + 3) ls rest)) : W p l e R s m args below meth c H locs cells slots Q (F0 m pc ls (.int y :: .int x :: rest)) :=
  lv_icmp_lt hx hb hdg ht (fun h => kt (by rw [← ha, ← hy]; exact Int32.lt_iff_toInt_lt.mp h)) (fun h => kf (by rw [← ha, ← hy]; exact Int.not_lt.mp (fun q => h (Int32.lt_iff_toInt_lt.mpr q))))
theorem sb_if_lt (hx : p.tables.exec = Jvm.exec) (hb : c.code = cc) {x : Int32} {a : Int} (ha : x.toInt = a) {off : Int} {tgt : Nat} (hdg : decode cc pc = .ok (.ifCond .lt off, 3)) (ht : (pc : Int) + off = (tgt : Int)) (kt : a < 0 → W p l e R s m args below meth c H locs cells slots Q (F0 m tgt ls rest)) (kf : 0 ≤ a → W p l e R s m args below meth c H locs cells slots Q (F0 m (pc + 3) ls rest)) : W p l e R s m args below meth c H locs cells slots Q (F0 m pc ls (.int x :: rest)) := by
  have hy : (0 : Int32).toInt = 0 := by decide
  exact lv_if_lt hx hb hdg ht (fun h => kt (by rw [← ha]; have h9 := Int32.lt_iff_toInt_lt.mp h; rw [hy] at h9; exact h9)) (fun h => kf (by rw [← ha]; refine Int.not_lt.mp (fun q => h (Int32.lt_iff_toInt_lt.mpr ?_)); rw [hy]; exact q))
theorem sb_icmp_ge (hx : p.tables.exec = Jvm.exec) (hb : c.code = cc) {x y : Int32} {a b : Int} (ha : x.toInt = a) (hy : y.toInt = b) {off : Int} {tgt : Nat} (hdg : decode cc pc = .ok (.if_icmp .ge off, 3)) (ht : (pc : Int) + off = (tgt : Int)) (kt : b ≤ a → W p l e R s m args below meth c H locs cells slots Q (F0 m tgt ls rest)) (kf : a < b → W p l e R s m args below meth c H locs cells slots Q (F0 m (pc + 3) ls rest)) : W p l e R s m args below meth c H locs cells slots Q (F0 m pc ls (.int y :: .int x :: rest)) :=
  lv_icmp_ge hx hb hdg ht (fun h => kt (by rw [← ha, ← hy]; exact Int32.le_iff_toInt_le.mp h)) (fun h => kf (by rw [← ha, ← hy]; exact Int.not_le.mp (fun q => h (Int32.le_iff_toInt_le.mpr q))))
theorem sb_if_ge (hx : p.tables.exec = Jvm.exec) (hb : c.code = cc) {x : Int32} {a : Int} (ha : x.toInt = a) {off : Int} {tgt : Nat} (hdg : decode cc pc = .ok (.ifCond .ge off, 3)) (ht : (pc : Int) + off = (tgt : Int)) (kt : 0 ≤ a → W p l e R s m args below meth c H locs cells slots Q (F0 m tgt ls rest)) (kf : a < 0 → W p l e R s m args below meth c H locs cells slots Q (F0 m (pc + 3) ls rest)) : W p l e R s m args below meth c H locs cells slots Q (F0 m pc ls (.int x :: rest)) := by
  have hy : (0 : Int32).toInt = 0 := by decide
  exact lv_if_ge hx hb hdg ht (fun h => kt (by rw [← ha]; have h9 := Int32.le_iff_toInt_le.mp h; rw [hy] at h9; exact h9)) (fun h => kf (by rw [← ha]; refine Int.not_le.mp (fun q => h (Int32.le_iff_toInt_le.mpr ?_)); rw [hy]; exact q))
theorem sb_icmp_gt (hx : p.tables.exec = Jvm.exec) (hb : c.code = cc) {x y : Int32} {a b : Int} (ha : x.toInt = a) (hy : y.toInt = b) {off : Int} {tgt : Nat} (hdg : decode cc pc = .ok (.if_icmp .gt off, 3)) (ht : (pc : Int) + off = (tgt : Int)) (kt : b < a → W p l e R s m args below meth c H locs cells slots Q (F0 m tgt ls rest)) (kf : a ≤ b → W p l e R s m args below meth c H locs cells slots Q (F0 m (pc + 3) ls rest)) : W p l e R s m args below meth c H locs cells slots Q (F0 m pc ls (.int y :: .int x :: rest)) :=
  lv_icmp_gt hx hb hdg ht (fun h => kt (by rw [← ha, ← hy]; exact Int32.lt_iff_toInt_lt.mp h)) (fun h => kf (by rw [← ha, ← hy]; exact Int.not_lt.mp (fun q => h (Int32.lt_iff_toInt_lt.mpr q))))
theorem sb_if_gt (hx : p.tables.exec = Jvm.exec) (hb : c.code = cc) {x : Int32} {a : Int} (ha : x.toInt = a) {off : Int} {tgt : Nat} (hdg : decode cc pc = .ok (.ifCond .gt off, 3)) (ht : (pc : Int) + off = (tgt : Int)) (kt : 0 < a → W p l e R s m args below meth c H locs cells slots Q (F0 m tgt ls rest)) (kf : a ≤ 0 → W p l e R s m args below meth c H locs cells slots Q (F0 m (pc + 3) ls rest)) : W p l e R s m args below meth c H locs cells slots Q (F0 m pc ls (.int x :: rest)) := by
  have hy : (0 : Int32).toInt = 0 := by decide
  exact lv_if_gt hx hb hdg ht (fun h => kt (by rw [← ha]; have h9 := Int32.lt_iff_toInt_lt.mp h; rw [hy] at h9; exact h9)) (fun h => kf (by rw [← ha]; refine Int.not_lt.mp (fun q => h (Int32.lt_iff_toInt_lt.mpr ?_)); rw [hy]; exact q))
theorem sb_icmp_le (hx : p.tables.exec = Jvm.exec) (hb : c.code = cc) {x y : Int32} {a b : Int} (ha : x.toInt = a) (hy : y.toInt = b) {off : Int} {tgt : Nat} (hdg : decode cc pc = .ok (.if_icmp .le off, 3)) (ht : (pc : Int) + off = (tgt : Int)) (kt : a ≤ b → W p l e R s m args below meth c H locs cells slots Q (F0 m tgt ls rest)) (kf : b < a → W p l e R s m args below meth c H locs cells slots Q (F0 m (pc + 3) ls rest)) : W p l e R s m args below meth c H locs cells slots Q (F0 m pc ls (.int y :: .int x :: rest)) :=
  lv_icmp_le hx hb hdg ht (fun h => kt (by rw [← ha, ← hy]; exact Int32.le_iff_toInt_le.mp h)) (fun h => kf (by rw [← ha, ← hy]; exact Int.not_le.mp (fun q => h (Int32.le_iff_toInt_le.mpr q))))
theorem sb_if_le (hx : p.tables.exec = Jvm.exec) (hb : c.code = cc) {x : Int32} {a : Int} (ha : x.toInt = a) {off : Int} {tgt : Nat} (hdg : decode cc pc = .ok (.ifCond .le off, 3)) (ht : (pc : Int) + off = (tgt : Int)) (kt : a ≤ 0 → W p l e R s m args below meth c H locs cells slots Q (F0 m tgt ls rest)) (kf : 0 < a → W p l e R s m args below meth c H locs cells slots Q (F0 m (pc + 3) ls rest)) : W p l e R s m args below meth c H locs cells slots Q (F0 m pc ls (.int x :: rest)) := by
  have hy : (0 : Int32).toInt = 0 := by decide
  exact lv_if_le hx hb hdg ht (fun h => kt (by rw [← ha]; have h9 := Int32.le_iff_toInt_le.mp h; rw [hy] at h9; exact h9)) (fun h => kf (by rw [← ha]; refine Int.not_le.mp (fun q => h (Int32.le_iff_toInt_le.mpr ?_)); rw [hy]; exact q))
end
theorem i_add {x y z : Int32} {a b : Int} (e : z = x + y) (ha : x.toInt = a) (hb : y.toInt = b) (h1 : -2147483648 ≤ a + b) (h2 : a + b ≤ 2147483647) : z.toInt = a + b := by
  rw [e, Int32.toInt_add, ha, hb]; exact Kit.bmod32 (by omega) (by omega)
theorem i_sub {x y z : Int32} {a b : Int} (e : z = x - y) (ha : x.toInt = a) (hb : y.toInt = b) (h1 : -2147483648 ≤ a - b) (h2 : a - b ≤ 2147483647) : z.toInt = a - b := by
  rw [e, Int32.toInt_sub, ha, hb]; exact Kit.bmod32 (by omega) (by omega)
theorem i_mul {x y z : Int32} {a b : Int} (e : z = x * y) (ha : x.toInt = a) (hb : y.toInt = b) (h1 : -2147483648 ≤ a * b) (h2 : a * b ≤ 2147483647) : z.toInt = a * b := by
  rw [e, Int32.toInt_mul, ha, hb]; generalize a * b = q at h1 h2 ⊢; exact Kit.bmod32 (by omega) (by omega)
theorem i_neg {x z : Int32} {a : Int} (e : z = -x) (ha : x.toInt = a) (h1 : -2147483647 ≤ a) : z.toInt = -a := by
  have h := x.toInt_lt
  rw [e, Int32.toInt_neg, ha]; rw [ha] at h; exact Kit.bmod32 (by omega) (by omega)
theorem i_rem {x y z : Int32} {a b : Int} (e : z = x - x / y * y) (ha : x.toInt = a) (hb : y.toInt = b) (h1 : 0 ≤ a) (h2 : 0 < b) : 0 ≤ z.toInt ∧ z.toInt < b ∧ z.toInt = a % b := by
  rw [irem_eq_mod] at e
  have h : z.toInt = a % b := by rw [e, Kit.i32_rem_nonneg (by omega), ha, hb]
  have h3 := Int.emod_nonneg a (show b ≠ 0 by omega)
  have h4 := Int.emod_lt_of_pos a h2
  rw [h]; exact ⟨h3, h4, rfl⟩
theorem i_min {x y z : Int32} {a b : Int} (e : z = if y < x then y else x) (ha : x.toInt = a) (hb : y.toInt = b) : z.toInt ≤ a ∧ z.toInt ≤ b ∧ (z.toInt = a ∨ z.toInt = b) := by
  by_cases h : y < x
  · rw [if_pos h] at e; have h2 := Int32.lt_iff_toInt_lt.mp h; rw [ha, hb] at h2; rw [e, hb]; omega
  · rw [if_neg h] at e; have h2 : ¬ y.toInt < x.toInt := fun q => h (Int32.lt_iff_toInt_lt.mpr q); rw [ha, hb] at h2; rw [e, ha]; omega
theorem i_max {x y z : Int32} {a b : Int} (e : z = if x < y then y else x) (ha : x.toInt = a) (hb : y.toInt = b) : a ≤ z.toInt ∧ b ≤ z.toInt ∧ (z.toInt = a ∨ z.toInt = b) := by
  by_cases h : x < y
  · rw [if_pos h] at e; have h2 := Int32.lt_iff_toInt_lt.mp h; rw [ha, hb] at h2; rw [e, hb]; omega
  · rw [if_neg h] at e; have h2 : ¬ x.toInt < y.toInt := fun q => h (Int32.lt_iff_toInt_lt.mpr q); rw [ha, hb] at h2; rw [e, ha]; omega
theorem i_and {x m z : Int32} (k : Nat) (e : z = x &&& m) (hm : m.toBitVec.toNat = 2 ^ k - 1) (hk : k ≤ 30) : 0 ≤ z.toInt ∧ z.toInt < 2 ^ k := by
  have h := pk_andIn x k hm hk
  rw [← e, vp_in_iff] at h
  refine ⟨h.1, ?_⟩
  have := h.2
  rwa [Int.natCast_pow] at this
theorem i_cl {x : Int32} {n : Nat} (h : x.toInt = (n : Int)) : x.toNatClampNeg = n := by
  show x.toInt.toNat = n
  rw [h]; rfl
theorem ob_t {t : Nat} (h : t = 3 ∨ t = 4) : ti_ob ti_LT t 8 := by rcases h with rfl | rfl; exact ob_3; exact ob_4
theorem ob_m {t : Nat} (h : t = 3 ∨ t = 4) : ∀ {i : Nat}, i < 8 → ti_ob ti_LT (ti_men t i) 2 := by
  intro i hi
  have h8 : i = 0 ∨ i = 1 ∨ i = 2 ∨ i = 3 ∨ i = 4 ∨ i = 5 ∨ i = 6 ∨ i = 7 := by omega
  rcases h with rfl | rfl
  · rcases h8 with rfl | rfl | rfl | rfl | rfl | rfl | rfl | rfl
    · exact ob_5
    · exact ob_6
    · exact ob_7
    · exact ob_8
    · exact ob_9
    · exact ob_10
    · exact ob_11
    · exact ob_12
  · rcases h8 with rfl | rfl | rfl | rfl | rfl | rfl | rfl | rfl
    · exact ob_13
    · exact ob_14
    · exact ob_15
    · exact ob_16
    · exact ob_17
    · exact ob_18
    · exact ob_19
    · exact ob_20
theorem ob_l {t : Nat} (h : t = 3 ∨ t = 4) : ∀ {i : Nat}, i < 3 → ti_ob ti_LT (ti_laws t i) 1 := by
  intro i hi
  have h8 : i = 0 ∨ i = 1 ∨ i = 2 := by omega
  rcases h with rfl | rfl
  · rcases h8 with rfl | rfl | rfl
    · exact ob_21
    · exact ob_22
    · exact ob_23
  · rcases h8 with rfl | rfl | rfl
    · exact ob_24
    · exact ob_25
    · exact ob_26
theorem i_nt {x : Int32} {a : Int} (ha : x.toInt = a) {n : Nat} (h1 : 0 ≤ a) (h2 : a < n) : x.toNatClampNeg < n := by
  show x.toInt.toNat < n
  rw [ha]; omega
theorem ti_Tv {A : Nat → Nat → Nat} {z : Option Nat} {t : Nat} (h : z = some t) : some (va_rf (z.map (fun t => A t 0))) = some (Value.ref (A t 0)) := by rw [h]; rfl
section
variable {p : Program} {l : Launch} {e : Env} {R : Room} {s : State} {m : MethodId} {args : Array Value} {below : List Frame} {meth : Method} {c : Code} {H : Heap} {locs : List Loc} {cells slots : Nat} {Q : State → Prop} {pc : Nat} {ls : Array Slot} {rest : List Value} {cc : ByteArray} {own : String} {nL : Nat} {D : va_G} {cy : Nat → ClassId} {Ls : List (Nat × Nat)} {A : Nat → Nat → Nat}
theorem ti_minl {idx : Nat} (C : ti_C p s m c args cc own nL D cy Ls A) (hm : Cond.methodLink own idx yJ9_min_f86c9 ∈ lw_g) (hsz : ls.size = nL) (hfr : 1 ≤ R.frames) (hlo : (rest.map fun v => v.category).sum + 15 ≤ R.locals) (hcs : cells ≤ R.cells ∧ slots ≤ R.slots) {x y : Int64} (hdg : decode cc pc = .ok (.invokestatic idx, 3)) (kk : W p l e R s m args below meth c H locs cells slots Q (F0 m (pc + 3) ls (.long (if y < x then y else x) :: rest))) : W p l e R s m args below meth c H locs cells slots Q (F0 m pc ls (.long y :: .long x :: rest)) :=
  va_mmin_long C.1 C.2.1 (by rw [C.2.2.2.2.2.1, hsz]) C.2.2.2.1 (C.2.2.1 _ hm) (C.2.2.1 _ ys_J9_min_f86c9) (C.2.2.1 _ yi_J9_min_f86c9) (C.2.2.1 _ yc_J9_min_f86c9) hfr hlo hcs.1 hcs.2 hdg kk
theorem ti_maxl {idx : Nat} (C : ti_C p s m c args cc own nL D cy Ls A) (hm : Cond.methodLink own idx yJ9_max_f86c9 ∈ lw_g) (hsz : ls.size = nL) (hfr : 1 ≤ R.frames) (hlo : (rest.map fun v => v.category).sum + 15 ≤ R.locals) (hcs : cells ≤ R.cells ∧ slots ≤ R.slots) {x y : Int64} (hdg : decode cc pc = .ok (.invokestatic idx, 3)) (kk : W p l e R s m args below meth c H locs cells slots Q (F0 m (pc + 3) ls (.long (if y < x then x else y) :: rest))) : W p l e R s m args below meth c H locs cells slots Q (F0 m pc ls (.long y :: .long x :: rest)) :=
  va_mmax_long C.1 C.2.1 (by rw [C.2.2.2.2.2.1, hsz]) C.2.2.2.1 (C.2.2.1 _ hm) (C.2.2.1 _ ys_J9_max_f86c9) (C.2.2.1 _ yi_J9_max_f86c9) (C.2.2.1 _ yc_J9_max_f86c9) hfr hlo hcs.1 hcs.2 hdg kk
end
theorem lc0 {z : Int32} {a : Int64} (e : z = lg_cmp a 0) (h : ¬ z.toInt = 0) : ¬ a = 0 := by intro h0; apply h; rw [e, h0]; decide
theorem ln0 {z a : Int64} (e : z = -a) (h : ¬ a = 0) : ¬ z = 0 := by
  intro h0
  apply h
  have h1 : -(-a) = 0 := by rw [← e, h0]; rfl
  simpa using h1
theorem nn_lt {x : Int32} (h : 0 ≤ x.toInt) : x.toBitVec.toNat < 2 ^ 31 := by
  have e : x.toInt = x.toBitVec.toInt := rfl
  rw [e, BitVec.toInt_eq_toNat_cond] at h
  by_cases q : 2 * x.toBitVec.toNat < 2 ^ 32
  · omega
  · rw [if_neg q] at h; have := x.toBitVec.isLt; omega
theorem lt_nn {x : Int32} (h : x.toBitVec.toNat < 2 ^ 31) : 0 ≤ x.toInt := by
  have e : x.toInt = x.toBitVec.toInt := rfl
  rw [e, BitVec.toInt_eq_toNat_cond, if_pos (by omega)]; omega
theorem i_or {x y z : Int32} (e : z = x ||| y) (hx : 0 ≤ x.toInt) (hy : 0 ≤ y.toInt) : 0 ≤ z.toInt := by
  apply lt_nn
  have h : z.toBitVec.toNat = x.toBitVec.toNat ||| y.toBitVec.toNat := by rw [e]; simp
  rw [h]
  exact Nat.or_lt_two_pow (nn_lt hx) (nn_lt hy)
theorem sh_all : ∀ a : Nat, a < 27 → ∀ b : Nat, b < 6 → (0 : Int) ≤ ((nI a) <<< ((nI (5 * (5 - b))) &&& 31)).toInt := by decide +kernel
theorem i_shl {x y z : Int32} (e : z = x <<< (y &&& 31)) (h1 : 0 ≤ x.toInt) (h2 : x.toInt ≤ 26) {b : Int} (hy : y.toInt = 5 * (5 - b)) (h3 : 0 ≤ b) (h4 : b ≤ 5) : 0 ≤ z.toInt := by
  have ex : x = nI x.toInt.toNat := Int32.toInt_inj.mp (by rw [nI_toInt (by omega)]; omega)
  have ey : y = nI (5 * (5 - b.toNat)) := Int32.toInt_inj.mp (by rw [nI_toInt (by omega), hy]; omega)
  rw [e, ex, ey]
  exact sh_all _ (by omega) _ (by omega)
theorem cls_ne {a b c d : Nat} (h1 : ti_cls a = c) (h2 : ti_cls b = d) (h : c ≠ d) : a ≠ b := fun e => h (by rw [← h1, ← h2, e])
theorem pass_min {x z mu : Int32} (hb : ib 0 120 x) (hm : mu.toInt < 120) (e : x = mu) (ez : z = x + 1) : ib 0 120 z := by
  obtain ⟨h1, h2⟩ := hb
  rw [← e] at hm
  have h := i_add ez rfl (by decide : (1 : Int32).toInt = 1) (by omega) (by omega)
  exact ⟨by omega, by omega⟩
theorem nz {x : Int32} (h : ¬ x.toInt = 0) : ¬ x = 0 := fun q => h (by rw [q]; rfl)
theorem nar_b {x : Int32} (h1 : 0 ≤ x.toInt) (h2 : x.toInt ≤ 1) : narrow .boolean (.int x) = .int x := by
  have h : x = 0 ∨ x = 1 := by
    rcases (show x.toInt = 0 ∨ x.toInt = 1 by omega) with h | h
    · left; exact Int32.toInt_inj.mp (by rw [h]; rfl)
    · right; exact Int32.toInt_inj.mp (by rw [h]; rfl)
  rcases h with rfl | rfl <;> rfl
theorem fit_b {x : Int32} (h1 : 0 ≤ x.toInt) (h2 : x.toInt ≤ 1) : fits .boolean (.int x) = true := by
  have h := fits_narrow_boolean x
  rwa [nar_b h1 h2] at h
theorem ob_r {i : Nat} (h : i < 20) : ti_ob ti_LT (29 + i) 3 := by
  rcases (show i = 0 ∨ i = 1 ∨ i = 2 ∨ i = 3 ∨ i = 4 ∨ i = 5 ∨ i = 6 ∨ i = 7 ∨ i = 8 ∨ i = 9 ∨ i = 10 ∨ i = 11 ∨ i = 12 ∨ i = 13 ∨ i = 14 ∨ i = 15 ∨ i = 16 ∨ i = 17 ∨ i = 18 ∨ i = 19 by omega) with rfl | rfl | rfl | rfl | rfl | rfl | rfl | rfl | rfl | rfl | rfl | rfl | rfl | rfl | rfl | rfl | rfl | rfl | rfl | rfl
  · exact ob_29
  · exact ob_30
  · exact ob_31
  · exact ob_32
  · exact ob_33
  · exact ob_34
  · exact ob_35
  · exact ob_36
  · exact ob_37
  · exact ob_38
  · exact ob_39
  · exact ob_40
  · exact ob_41
  · exact ob_42
  · exact ob_43
  · exact ob_44
  · exact ob_45
  · exact ob_46
  · exact ob_47
  · exact ob_48
/-- which text is told, and what it and the reader hold, stays -/
def tl (N M : ti_M) : Prop := (∀ o k : Nat, 1 ≤ o → o ≤ 20 → tI N o k = tI M o k) ∧ tT N 0 1 = tT M 0 1 ∧ tT N 0 2 = tT M 0 2
theorem tl.refl {M : ti_M} : tl M M := ⟨fun _ _ _ _ => rfl, rfl, rfl⟩
theorem tl.trans {K N M : ti_M} (x : tl K N) (y : tl N M) : tl K M := ⟨fun o k a b => (x.1 o k a b).trans (y.1 o k a b), x.2.1.trans y.2.1, x.2.2.trans y.2.2⟩
theorem tl_I {M N : ti_M} {o k : Nat} {v : Int32} (e : N = uI M o k v) (h : o = 0 ∨ 20 < o) : tl N M := ⟨fun o2 k2 h1 h2 => tI_nE e (no (by omega)), tT_uIE e, tT_uIE e⟩
theorem tl_Y {M N : ti_M} {o k : Nat} {f : Nat → Int32} (e : N = uY M o k f) : tl N M := ⟨fun _ _ _ _ => tI_uYE e, tT_uYE e, tT_uYE e⟩
theorem tl_Z {M N : ti_M} {o k : Nat} {f : Nat → Int64} (e : N = uZ M o k f) : tl N M := ⟨fun _ _ _ _ => tI_uZE e, tT_uZE e, tT_uZE e⟩
theorem tl_T {M N : ti_M} {o k : Nat} {v : Option Nat} (e : N = uT M o k v) (h : ¬ (1 = k ∧ 0 = o) ∧ ¬ (2 = k ∧ 0 = o)) : tl N M := ⟨fun _ _ _ _ => tI_uTE e, tT_nE e h.1, tT_nE e h.2⟩
theorem tl_x {M N : ti_M} (x : fX N M) (h : tT N 0 1 = tT M 0 1) (h' : tT N 0 2 = tT M 0 2) : tl N M := ⟨fun o k _ h2 => (x k).2.2.2 o h2, h, h'⟩

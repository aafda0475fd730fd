section
variable {Tc : gC} {Tm : gM}
def ib (lo hi : Int) (v : Int32) : Prop := lo ≤ v.toInt ∧ v.toInt ≤ hi
theorem ib_mk {lo hi : Int} {v : Int32} (h1 : lo ≤ v.toInt) (h2 : v.toInt ≤ hi) : ib lo hi v := ⟨h1, h2⟩
/-- queues whose minute is bound: now, the ring, the image -/
def cPer (o : Nat) : Prop := o = 27 ∨ (29 ≤ o ∧ o ≤ 49)
def cBI (ci o k : Nat) (v : Int32) : Prop := match ci, k with
  | 0, 5 => ib 0 16 v
  | 1, 3 => ib 0 64 v
  | 3, 2 => cPer o → ib 0 120 v
  | 3, 3 => ib 0 8 v
  | 5, 1 => ib 0 19 v
  | 5, 2 => ib 0 20 v
  | 6, 5 => ib 0 24 v
  | 6, 6 => ib (-1) 24 v
  | 6, 10 => ib 0 480 v
  | 7, 1 => ib 0 700 v
  | 7, 2 => ib 0 700 v
  | 7, 3 => ib 0 700 v
  | 7, 4 => ib 0 41 v
  | 7, 6 => ib 0 2147483647 v
  | 8, 4 => ib 0 8 v
  | _, _ => True
def cBY (ci k : Nat) (v : Int32) : Prop := match ci, k with
  | 1, 0 => 0 ≤ v.toInt ∨ v.toInt ≤ -16
  | 3, 6 => ib 0 7 v
  | 6, 0 => ib 0 59 v
  | _, _ => True
def cG (M : ti_M) : gC := (tY M 2 0, tI M 50 5, tI M 50 6, tY M 50 0, tY M 50 1, tY M 50 2, tY M 50 3)
theorem cG_I {M : ti_M} {o k : Nat} {v : Int32} (h : ¬ (o = 50 ∧ (k = 5 ∨ k = 6))) : cG (uI M o k v) = cG M := by
  unfold cG
  rw [tI_n _ _ _ _ (fun q => h ⟨q.2.symm, Or.inl q.1.symm⟩), tI_n _ _ _ _ (fun q => h ⟨q.2.symm, Or.inr q.1.symm⟩)]; rfl
theorem cG_Y {M : ti_M} {o k : Nat} {f : Nat → Int32} (h : ¬ (o = 2 ∧ k = 0)) (h2 : ¬ (o = 50 ∧ k < 4)) : cG (uY M o k f) = cG M := by
  unfold cG
  rw [tY_n _ _ _ _ (fun q => h ⟨q.2.symm, q.1.symm⟩), tY_n _ _ _ _ (fun q => h2 ⟨q.2.symm, by omega⟩), tY_n _ _ _ _ (fun q => h2 ⟨q.2.symm, by omega⟩), tY_n _ _ _ _ (fun q => h2 ⟨q.2.symm, by omega⟩), tY_n _ _ _ _ (fun q => h2 ⟨q.2.symm, by omega⟩)]; rfl
theorem cG_50 {o ci : Nat} (hc : ti_cls o = ci) (q : o = 50) : ci = 6 := by subst q; exact hc.symm
theorem cG_2 {o ci : Nat} (hc : ti_cls o = ci) (q : o = 2) : ci = 7 := by subst q; exact hc.symm
def cI (Tc : gC) (M : ti_M) : Prop := (∀ o k, cBI (ti_cls o) o k (tI M o k)) ∧ (∀ o k i, cBY (ti_cls o) k (tY M o k i)) ∧ cG M = Tc
theorem cI_self {M : ti_M} (h : cI Tc M) : cI (cG M) M := ⟨h.1, h.2.1, rfl⟩
theorem cI_uI {M N : ti_M} {o k ci : Nat} {v : Int32} (h : cI Tc M) (e : N = uI M o k v) (hc : ti_cls o = ci) (hb : cBI ci o k v) (hz : ¬ (ci = 6 ∧ (k = 5 ∨ k = 6)) := by decide) : cI Tc N := by
  subst e
  refine ⟨fun o2 k2 => ?_, fun o2 k2 i => h.2.1 o2 k2 i, (cG_I (fun q => hz ⟨cG_50 hc q.1, q.2⟩)).trans h.2.2⟩
  by_cases q : k2 = k ∧ o2 = o
  · obtain ⟨rfl, rfl⟩ := q; rw [tI_u, hc]; exact hb
  · rw [tI_n _ _ _ _ q]; exact h.1 o2 k2
theorem cI_uY {M N : ti_M} {o k ci : Nat} {f : Nat → Int32} (h : cI Tc M) (e : N = uY M o k f) (hc : ti_cls o = ci) (hb : ∀ i, cBY ci k (f i)) (hz : ¬ (ci = 7 ∧ k = 0) ∧ ¬ (ci = 6 ∧ k < 4) := by decide) : cI Tc N := by
  subst e
  refine ⟨fun o2 k2 => h.1 o2 k2, fun o2 k2 i => ?_, (cG_Y (fun q => hz.1 ⟨cG_2 hc q.1, q.2⟩) (fun q => hz.2 ⟨cG_50 hc q.1, q.2⟩)).trans h.2.2⟩
  by_cases q : k2 = k ∧ o2 = o
  · obtain ⟨rfl, rfl⟩ := q; rw [tY_u, hc]; exact hb i
  · rw [tY_n _ _ _ _ q]; exact h.2.1 o2 k2 i
/-- stones may change -/
theorem cI_gI {M N : ti_M} {o k ci : Nat} {v : Int32} (h : cI Tc M) (e : N = uI M o k v) (hc : ti_cls o = ci) (hb : cBI ci o k v) : cI (cG N) N := by
  subst e
  refine ⟨fun o2 k2 => ?_, fun o2 k2 i => h.2.1 o2 k2 i, rfl⟩
  by_cases q : k2 = k ∧ o2 = o
  · obtain ⟨rfl, rfl⟩ := q; rw [tI_u, hc]; exact hb
  · rw [tI_n _ _ _ _ q]; exact h.1 o2 k2
theorem cI_gY {M N : ti_M} {o k ci i : Nat} {v : Int32} (h : cI Tc M) (e : N = uY M o k (upd (tY M o k) i v)) (hc : ti_cls o = ci) (hb : cBY ci k v) : cI (cG N) N := by
  subst e
  refine ⟨fun o2 k2 => h.1 o2 k2, fun o2 k2 j => ?_, rfl⟩
  by_cases q : k2 = k ∧ o2 = o
  · obtain ⟨rfl, rfl⟩ := q
    rw [tY_u, hc]
    by_cases r : j = i
    · subst r; rw [pk_us]; exact hb
    · rw [pk_un r, ← hc]; exact h.2.1 _ _ j
  · rw [tY_n _ _ _ _ q]; exact h.2.1 o2 k2 j
theorem cI_up {M N : ti_M} {o k ci i : Nat} {v : Int32} (h : cI Tc M) (e : N = uY M o k (upd (tY M o k) i v)) (hc : ti_cls o = ci) (hb : cBY ci k v) (hz : ¬ (ci = 7 ∧ k = 0) ∧ ¬ (ci = 6 ∧ k < 4) := by decide) : cI Tc N := by
  refine cI_uY h e hc (fun j => ?_) hz
  by_cases q : j = i
  · subst q; rw [pk_us]; exact hb
  · rw [pk_un q, ← hc]; exact h.2.1 o k j
theorem cI_uZ {M N : ti_M} {o k : Nat} {f : Nat → Int64} (h : cI Tc M) (e : N = uZ M o k f) : cI Tc N := by subst e; exact h
theorem cI_uT {M N : ti_M} {o k : Nat} {v : Option Nat} (h : cI Tc M) (e : N = uT M o k v) : cI Tc N := by subst e; exact h
theorem cI_cp {M N : ti_M} {o k ci o1 k1 a b n : Nat} (h : cI Tc M) (e : N = uY M o k (va_cpy (tY M o1 k1) (tY M o k) a b n)) (hc : ti_cls o = ci) (hb : ∀ i, cBY ci k (tY M o1 k1 i)) (hz : ¬ (ci = 7 ∧ k = 0) ∧ ¬ (ci = 6 ∧ k < 4) := by decide) : cI Tc N := by
  refine cI_uY h e hc (fun j => ?_) hz
  unfold va_cpy
  split
  · exact hb _
  · rw [← hc]; exact h.2.1 o k j
theorem cI_rd {M : ti_M} {o k ci : Nat} {x : Int32} (h : cI Tc M) (hc : ti_cls o = ci) (e : x = tI M o k) : cBI ci o k x := by rw [e, ← hc]; exact h.1 o k
theorem cI_ry {M : ti_M} {o k ci i : Nat} {x : Int32} (h : cI Tc M) (hc : ti_cls o = ci) (e : x = tY M o k i) : cBY ci k x := by rw [e, ← hc]; exact h.2.1 o k i
theorem tI_uE {M N : ti_M} {o k : Nat} {v : Int32} (e : N = uI M o k v) : tI N o k = v := by subst e; exact tI_u M o k v
theorem tI_nE {M N : ti_M} {o k : Nat} {v : Int32} (e : N = uI M o k v) {o2 k2 : Nat} (h : ¬ (k2 = k ∧ o2 = o)) : tI N o2 k2 = tI M o2 k2 := by subst e; exact tI_n M o k v h
theorem tI_uYE {M N : ti_M} {o k : Nat} {v : Nat → Int32} (e : N = uY M o k v) {o2 k2 : Nat} : tI N o2 k2 = tI M o2 k2 := by subst e; rfl
theorem tI_uZE {M N : ti_M} {o k : Nat} {v : Nat → Int64} (e : N = uZ M o k v) {o2 k2 : Nat} : tI N o2 k2 = tI M o2 k2 := by subst e; rfl
theorem tI_uTE {M N : ti_M} {o k : Nat} {v : Option Nat} (e : N = uT M o k v) {o2 k2 : Nat} : tI N o2 k2 = tI M o2 k2 := by subst e; rfl
theorem tY_uIE {M N : ti_M} {o k : Nat} {v : Int32} (e : N = uI M o k v) {o2 k2 : Nat} : tY N o2 k2 = tY M o2 k2 := by subst e; rfl
theorem tY_uE {M N : ti_M} {o k : Nat} {v : Nat → Int32} (e : N = uY M o k v) : tY N o k = v := by subst e; exact tY_u M o k v
theorem tY_nE {M N : ti_M} {o k : Nat} {v : Nat → Int32} (e : N = uY M o k v) {o2 k2 : Nat} (h : ¬ (k2 = k ∧ o2 = o)) : tY N o2 k2 = tY M o2 k2 := by subst e; exact tY_n M o k v h
theorem tY_uZE {M N : ti_M} {o k : Nat} {v : Nat → Int64} (e : N = uZ M o k v) {o2 k2 : Nat} : tY N o2 k2 = tY M o2 k2 := by subst e; rfl
theorem tY_uTE {M N : ti_M} {o k : Nat} {v : Option Nat} (e : N = uT M o k v) {o2 k2 : Nat} : tY N o2 k2 = tY M o2 k2 := by subst e; rfl
theorem tZ_uIE {M N : ti_M} {o k : Nat} {v : Int32} (e : N = uI M o k v) {o2 k2 : Nat} : tZ N o2 k2 = tZ M o2 k2 := by subst e; rfl
theorem tZ_uE {M N : ti_M} {o k : Nat} {v : Nat → Int64} (e : N = uZ M o k v) : tZ N o k = v := by subst e; exact tZ_u M o k v
theorem tZ_nE {M N : ti_M} {o k : Nat} {v : Nat → Int64} (e : N = uZ M o k v) {o2 k2 : Nat} (h : ¬ (k2 = k ∧ o2 = o)) : tZ N o2 k2 = tZ M o2 k2 := by subst e; exact tZ_n M o k v h
theorem tT_uIE {M N : ti_M} {o k : Nat} {v : Int32} (e : N = uI M o k v) {o2 k2 : Nat} : tT N o2 k2 = tT M o2 k2 := by subst e; rfl
theorem tT_uYE {M N : ti_M} {o k : Nat} {v : Nat → Int32} (e : N = uY M o k v) {o2 k2 : Nat} : tT N o2 k2 = tT M o2 k2 := by subst e; rfl
theorem tT_uZE {M N : ti_M} {o k : Nat} {v : Nat → Int64} (e : N = uZ M o k v) {o2 k2 : Nat} : tT N o2 k2 = tT M o2 k2 := by subst e; rfl
theorem tT_uE {M N : ti_M} {o k : Nat} {v : Option Nat} (e : N = uT M o k v) : tT N o k = v := by subst e; exact tT_u M o k v
theorem tT_nE {M N : ti_M} {o k : Nat} {v : Option Nat} (e : N = uT M o k v) {o2 k2 : Nat} (h : ¬ (k2 = k ∧ o2 = o)) : tT N o2 k2 = tT M o2 k2 := by subst e; exact tT_n M o k v h
theorem rf_I {M N : ti_M} {o k : Nat} {v : Int32} (e : N = uI M o k v) : N.2.2.2 = M.2.2.2 := by subst e; rfl
theorem rf_Y {M N : ti_M} {o k : Nat} {v : Nat → Int32} (e : N = uY M o k v) : N.2.2.2 = M.2.2.2 := by subst e; rfl
theorem rf_Z {M N : ti_M} {o k : Nat} {v : Nat → Int64} (e : N = uZ M o k v) : N.2.2.2 = M.2.2.2 := by subst e; rfl
theorem ra_Y {M N : ti_M} {o k : Nat} {v : Nat → Int32} (e : N = uY M o k v) : N.1 = M.1 := by subst e; rfl
theorem ra_Z {M N : ti_M} {o k : Nat} {v : Nat → Int64} (e : N = uZ M o k v) : N.1 = M.1 := by subst e; rfl
theorem ra_T {M N : ti_M} {o k : Nat} {v : Option Nat} (e : N = uT M o k v) : N.1 = M.1 := by subst e; rfl
theorem tI_fr {M N : ti_M} (e : N.1 = M.1) {o k : Nat} : tI N o k = tI M o k := congrFun (congrFun e o) k
theorem tT_fr {M N : ti_M} (e : N.2.2.2 = M.2.2.2) {o k : Nat} : tT N o k = tT M o k := congrFun (congrFun e o) k
/-- references stay but those of the queues that are laid anew at each use -/
def rT (N M : ti_M) : Prop := ∀ o k : Nat, ¬ (k = 0 ∧ (o = 51 ∨ o = 52 ∨ o = 54 ∨ o = 55)) → tT N o k = tT M o k
theorem rT.refl {M : ti_M} : rT M M := fun _ _ _ => rfl
theorem rT.trans {K N M : ti_M} (h1 : rT K N) (h2 : rT N M) : rT K M := fun o k h => (h1 o k h).trans (h2 o k h)
theorem rs_of {N M : ti_M} (e : N.2.2.2 = M.2.2.2) : rT N M := fun _ _ _ => tT_fr e
theorem rs_TT {N M : ti_M} {o : Nat} {v : Option Nat} (e : N.2.2.2 = (uT M o 0 v).2.2.2) (ho : o = 51 ∨ o = 52 ∨ o = 54 ∨ o = 55) : rT N M := fun o2 k2 h => (tT_fr e).trans (tT_n _ _ _ _ (fun q => h ⟨q.1, by rw [q.2]; exact ho⟩))
/-- the ints of the class's own object, of the tokens and of the steps stay -/
def fX (N M : ti_M) : Prop := ∀ k : Nat, tI N 0 k = tI M 0 k ∧ tI N 2 k = tI M 2 k ∧ tI N 28 k = tI M 28 k ∧ ∀ o : Nat, o ≤ 20 → tI N o k = tI M o k
theorem fX.refl {M : ti_M} : fX M M := fun _ => ⟨rfl, rfl, rfl, fun _ _ => rfl⟩
theorem fX.trans {K N M : ti_M} (h1 : fX K N) (h2 : fX N M) : fX K M := fun k => ⟨(h1 k).1.trans (h2 k).1, (h1 k).2.1.trans (h2 k).2.1, (h1 k).2.2.1.trans (h2 k).2.2.1, fun o h => ((h1 k).2.2.2 o h).trans ((h2 k).2.2.2 o h)⟩
theorem fx_of {N M : ti_M} (e : N.1 = M.1) : fX N M := fun _ => ⟨tI_fr e, tI_fr e, tI_fr e, fun _ _ => tI_fr e⟩
theorem fx_I {N M : ti_M} {o k : Nat} {v : Int32} (e : N = uI M o k v) (h : 20 < o ∧ o ≠ 28) : fX N M := by
  subst e
  exact fun k2 => ⟨tI_o _ _ _ _ (by omega), tI_o _ _ _ _ (by omega), tI_o _ _ _ _ (by omega), fun o2 h2 => tI_o _ _ _ _ (by omega)⟩
theorem fxn {o ci : Nat} (hc : ti_cls o = ci) (h : ci ≠ 9 ∧ ci ≠ 4 ∧ ci ≠ 7 ∧ ci ≠ 8 ∧ ci ≠ 2 ∧ ci ≠ 5) : 20 < o ∧ o ≠ 28 := by
  constructor
  · by_cases q : o ≤ 20
    · exfalso
      have : ∀ o : Nat, o ≤ 20 → ti_cls o = 9 ∨ ti_cls o = 4 ∨ ti_cls o = 7 ∨ ti_cls o = 8 ∨ ti_cls o = 2 := by decide
      have := this o q
      omega
    · omega
  · intro e
    refine h.2.2.2.2.2 ?_
    rw [← hc, e]; decide
theorem np_51 : ¬ cPer 51 := by unfold cPer; decide
theorem np_52 : ¬ cPer 52 := by unfold cPer; decide
theorem np_54 : ¬ cPer 54 := by unfold cPer; decide
theorem np_55 : ¬ cPer 55 := by unfold cPer; decide
theorem cPr {i : Nat} (h : i < 20) : cPer (29 + i) := Or.inr ⟨by omega, by omega⟩
def f0 (N M : ti_M) : Prop := ∀ k : Nat, tI N 0 k = tI M 0 k ∧ tI N 28 k = tI M 28 k
theorem f0.refl {M : ti_M} : f0 M M := fun _ => ⟨rfl, rfl⟩
theorem f0.trans {K N M : ti_M} (h1 : f0 K N) (h2 : f0 N M) : f0 K M := fun k => ⟨(h1 k).1.trans (h2 k).1, (h1 k).2.trans (h2 k).2⟩
theorem f0_of {N M : ti_M} (e : N.1 = M.1) : f0 N M := fun _ => ⟨tI_fr e, tI_fr e⟩
theorem f0_x {N M : ti_M} (h : fX N M) : f0 N M := fun k => ⟨(h k).1, (h k).2.2.1⟩
theorem f0_I {N M : ti_M} {o k : Nat} {v : Int32} (e : N = uI M o k v) (h : o ≠ 0 ∧ o ≠ 28) : f0 N M := by
  subst e
  exact fun k2 => ⟨tI_o _ _ _ _ (Ne.symm h.1), tI_o _ _ _ _ (Ne.symm h.2)⟩
theorem f0n {o ci : Nat} (hc : ti_cls o = ci) (h : ci ≠ 9 ∧ ci ≠ 5) : o ≠ 0 ∧ o ≠ 28 := by
  refine ⟨fun e => h.1 ?_, fun e => h.2 ?_⟩
  · rw [← hc, e]; decide
  · rw [← hc, e]; decide
def o12 (N M : ti_M) : Prop := ∀ o k : Nat, o ≠ 1 → o ≠ 2 → tI N o k = tI M o k
theorem o12.refl {M : ti_M} : o12 M M := fun _ _ _ _ => rfl
theorem o12.trans {K N M : ti_M} (h1 : o12 K N) (h2 : o12 N M) : o12 K M := fun o k a b => (h1 o k a b).trans (h2 o k a b)
theorem o12_I {N M : ti_M} {o k : Nat} {v : Int32} (e : N = uI M o k v) (h : o = 1 ∨ o = 2) : o12 N M := by
  subst e
  intro o2 k2 a b
  exact tI_o _ _ _ _ (fun q => by rcases h with h | h; exact a (q.trans h); exact b (q.trans h))
theorem f0_12 {N M : ti_M} (h : o12 N M) : f0 N M := fun k => ⟨h 0 k (by decide) (by decide), h 28 k (by decide) (by decide)⟩
def rR (N M : ti_M) : Prop := ∀ o k : Nat, o ≠ 1 → tT N o k = tT M o k
theorem rR.refl {M : ti_M} : rR M M := fun _ _ _ => rfl
theorem rR.trans {K N M : ti_M} (h1 : rR K N) (h2 : rR N M) : rR K M := fun o k h => (h1 o k h).trans (h2 o k h)
theorem rr_of {N M : ti_M} (e : N.2.2.2 = M.2.2.2) : rR N M := fun _ _ _ => tT_fr e
theorem rr_T {N M : ti_M} {k : Nat} {v : Option Nat} (e : N = uT M 1 k v) : rR N M := by subst e; exact fun o2 k2 h => tT_n _ _ _ _ (fun q => h q.2)
def s_pk (M : ti_M) : Int32 := if (tI M 2 3).toInt < (tI M 2 2).toInt then tY M 2 0 (tI M 2 3).toNatClampNeg &&& 255 else -1
theorem nk {a b : Nat} {P : Prop} (h : a ≠ b) : ¬ (a = b ∧ P) := fun q => h q.1
theorem no {a b : Nat} {P : Prop} (h : a ≠ b) : ¬ (P ∧ a = b) := fun q => h q.2
theorem rf_Tc {M M1 N : ti_M} {o k : Nat} {v : Option Nat} (e : N = uT M1 o k v) (h : M1.2.2.2 = M.2.2.2) : N.2.2.2 = (uT M o k v).2.2.2 := by subst e; show up2 M1.2.2.2 o k v = up2 M.2.2.2 o k v; rw [h]
theorem rf_TTc {M P N : ti_M} {o k : Nat} {v : Option Nat} (e : N.2.2.2 = (uT P o k v).2.2.2) (h : P.2.2.2 = M.2.2.2) : N.2.2.2 = (uT M o k v).2.2.2 := by rw [e]; show up2 P.2.2.2 o k v = up2 M.2.2.2 o k v; rw [h]
section
variable {p : Program} {l : Launch} {e : Env} {R : Room} {s : State} {m : MethodId} {args : Array Value} {below : List Frame} {meth : Method} {c : Code} {H : Heap} {locs : List Loc} {cells slots : Nat} {Q : State → Prop} {pc : Nat} {ls : Array Slot} {rest : List Value} {cc : ByteArray}
theorem sb_icmp_eq (hx : p.tables.exec = Jvm.exec) (hb : c.code = cc) {x y : Int32} {a b : Int} (ha : x.toInt = a) (hy : y.toInt = b) {off : Int} {tgt : Nat} (hdg : decode cc pc = .ok (.if_icmp .eq off, 3)) (ht : (pc : Int) + off = (tgt : Int)) (kt : a = b → W p l e R s m args below meth c H locs cells slots Q (F0 m tgt ls rest)) (kf : ¬ a = b → W p l e R s m args below meth c H locs cells slots Q (F0 m (pc + 3) ls rest)) : W p l e R s m args below meth c H locs cells slots Q (F0 m pc ls (.int y :: .int x :: rest)) :=
  lv_icmp_eq hx hb hdg ht (fun h => kt (by rw [← ha, ← hy, h])) (fun h => kf (fun q => h (Int32.toInt_inj.mp (by rw [ha, hy]; exact q))))
theorem sb_if_eq (hx : p.tables.exec = Jvm.exec) (hb : c.code = cc) {x : Int32} {a : Int} (ha : x.toInt = a) {off : Int} {tgt : Nat} (hdg : decode cc pc = .ok (.ifCond .eq off, 3)) (ht : (pc : Int) + off = (tgt : Int)) (kt : a = 0 → W p l e R s m args below meth c H locs cells slots Q (F0 m tgt ls rest)) (kf : ¬ a = 0 → W p l e R s m args below meth c H locs cells slots Q (F0 m (pc + 3) ls rest)) : W p l e R s m args below meth c H locs cells slots Q (F0 m pc ls (.int x :: rest)) := by
  have hy : (0 : Int32).toInt = 0 := by decide
  exact lv_if_eq hx hb hdg ht (fun h => kt (by rw [← ha, h]; exact hy)) (fun h => kf (fun q => h (Int32.toInt_inj.mp (by rw [ha, hy]; exact q))))
theorem sb_icmp_ne (hx : p.tables.exec = Jvm.exec) (hb : c.code = cc) {x y : Int32} {a b : Int} (ha : x.toInt = a) (hy : y.toInt = b) {off : Int} {tgt : Nat} (hdg : decode cc pc = .ok (.if_icmp .ne off, 3)) (ht : (pc : Int) + off = (tgt : Int)) (kt : ¬ a = b → W p l e R s m args below meth c H locs cells slots Q (F0 m tgt ls rest)) (kf : a = b → W p l e R s m args below meth c H locs cells slots Q (F0 m (pc + 3) ls rest)) : W p l e R s m args below meth c H locs cells slots Q (F0 m pc ls (.int y :: .int x :: rest)) :=
  lv_icmp_ne hx hb hdg ht (fun h => kt (fun q => h (Int32.toInt_inj.mp (by rw [ha, hy]; exact q)))) (fun h => kf (by rw [← ha, ← hy, h]))
theorem sb_if_ne (hx : p.tables.exec = Jvm.exec) (hb : c.code = cc) {x : Int32} {a : Int} (ha : x.toInt = a) {off : Int} {tgt : Nat} (hdg : decode cc pc = .ok (.ifCond .ne off, 3)) (ht : (pc : Int) + off = (tgt : Int)) (kt : ¬ a = 0 → W p l e R s m args below meth c H locs cells slots Q (F0 m tgt ls rest)) (kf : a = 0 → W p l e R s m args below meth c H locs cells slots Q (F0 m (pc + 3) ls rest)) : W p l e R s m args below meth c H locs cells slots Q (F0 m pc ls (.int x :: rest)) := by
  have hy : (0 : Int32).toInt = 0 := by decide
  exact lv_if_ne hx hb hdg ht (fun h => kt (fun q => h (Int32.toInt_inj.mp (by rw [ha, hy]; exact q)))) (fun h => kf (by rw [← ha, h]; exact hy))
theorem sb_icmp_lt (hx : p.tables.exec = Jvm.exec) (hb : c.code = cc) {x y : Int32} {a b : Int} (ha : x.toInt = a) (hy : y.toInt = b) {off : Int} {tgt : Nat} (hdg : decode cc pc = .ok (.if_icmp .lt off, 3)) (ht : (pc : Int) + off = (tgt : Int)) (kt : a < b → W p l e R s m args below meth c H locs cells slots Q (F0 m tgt ls rest)) (kf : b ≤ a → W p l e R s m args below meth c H locs cells slots Q (F0 m (pc + 3) ls rest)) : W p l e R s m args below meth c H locs cells slots Q (F0 m pc ls (.int y :: .int x :: rest)) :=
  lv_icmp_lt hx hb hdg ht (fun h => kt (by rw [← ha, ← hy]; exact Int32.lt_iff_toInt_lt.mp h)) (fun h => kf (by rw [← ha, ← hy]; exact Int.not_lt.mp (fun q => h (Int32.lt_iff_toInt_lt.mpr q))))
theorem sb_if_lt (hx : p.tables.exec = Jvm.exec) (hb : c.code = cc) {x : Int32} {a : Int} (ha : x.toInt = a) {off : Int} {tgt : Nat} (hdg : decode cc pc = .ok (.ifCond .lt off, 3)) (ht : (pc : Int) + off = (tgt : Int)) (kt : a < 0 → W p l e R s m args below meth c H locs cells slots Q (F0 m tgt ls rest)) (kf : 0 ≤ a → W p l e R s m args below meth c H locs cells slots Q (F0 m (pc + 3) ls rest)) : W p l e R s m args below meth c H locs cells slots Q (F0 m pc ls (.int x :: rest)) := by
  have hy : (0 : Int32).toInt = 0 := by decide
  exact lv_if_lt hx hb hdg ht (fun h => kt (by rw [← ha]; have h9 := Int32.lt_iff_toInt_lt.mp h; rw [hy] at h9; exact h9)) (fun h => kf (by rw [← ha]; refine Int.not_lt.mp (fun q => h (Int32.lt_iff_toInt_lt.mpr ?_)); rw [hy]; exact q))
theorem sb_icmp_ge (hx : p.tables.exec = Jvm.exec) (hb : c.code = cc) {x y : Int32} {a b : Int} (ha : x.toInt = a) (hy : y.toInt = b) {off : Int} {tgt : Nat} (hdg : decode cc pc = .ok (.if_icmp .ge off, 3)) (ht : (pc : Int) + off = (tgt : Int)) (kt : b ≤ a → W p l e R s m args below meth c H locs cells slots Q (F0 m tgt ls rest)) (kf : a < b → W p l e R s m args below meth c H locs cells slots Q (F0 m (pc + 3) ls rest)) : W p l e R s m args below meth c H locs cells slots Q (F0 m pc ls (.int y :: .int x :: rest)) :=
  lv_icmp_ge hx hb hdg ht (fun h => kt (by rw [← ha, ← hy]; exact Int32.le_iff_toInt_le.mp h)) (fun h => kf (by rw [← ha, ← hy]; exact Int.not_le.mp (fun q => h (Int32.le_iff_toInt_le.mpr q))))
theorem sb_if_ge (hx : p.tables.exec = Jvm.exec) (hb : c.code = cc) {x : Int32} {a : Int} (ha : x.toInt = a) {off : Int} {tgt : Nat} (hdg : decode cc pc = .ok (.ifCond .ge off, 3)) (ht : (pc : Int) + off = (tgt : Int)) (kt : 0 ≤ a → W p l e R s m args below meth c H locs cells slots Q (F0 m tgt ls rest)) (kf : a < 0 → W p l e R s m args below meth c H locs cells slots Q (F0 m (pc + 3) ls rest)) : W p l e R s m args below meth c H locs cells slots Q (F0 m pc ls (.int x :: rest)) := by
  have hy : (0 : Int32).toInt = 0 := by decide
  exact lv_if_ge hx hb hdg ht (fun h => kt (by rw [← ha]; have h9 := Int32.le_iff_toInt_le.mp h; rw [hy] at h9; exact h9)) (fun h => kf (by rw [← ha]; refine Int.not_le.mp (fun q => h (Int32.le_iff_toInt_le.mpr ?_)); rw [hy]; exact q))
theorem sb_icmp_gt (hx : p.tables.exec = Jvm.exec) (hb : c.code = cc) {x y : Int32} {a b : Int} (ha : x.toInt = a) (hy : y.toInt = b) {off : Int} {tgt : Nat} (hdg : decode cc pc = .ok (.if_icmp .gt off, 3)) (ht : (pc : Int) + off = (tgt : Int)) (kt : b < a → W p l e R s m args below meth c H locs cells slots Q (F0 m tgt ls rest)) (kf : a ≤ b → W p l e R s m args below meth c H locs cells slots Q (F0 m (pc + 3) ls rest)) : W p l e R s m args below meth c H locs cells slots Q (F0 m pc ls (.int y :: .int x :: rest)) :=
  lv_icmp_gt hx hb hdg ht (fun h => kt (by rw [← ha, ← hy]; exact Int32.lt_iff_toInt_lt.mp h)) (fun h => kf (by rw [← ha, ← hy]; exact Int.not_lt.mp (fun q => h (Int32.lt_iff_toInt_lt.mpr q))))
theorem sb_if_gt (hx : p.tables.exec = Jvm.exec) (hb : c.code = cc) {x : Int32} {a : Int} (ha : x.toInt = a) {off : Int} {tgt : Nat} (hdg : decode cc pc = .ok (.ifCond .gt off, 3)) (ht : (pc : Int) + off = (tgt : Int)) (kt : 0 < a → W p l e R s m args below meth c H locs cells slots Q (F0 m tgt ls rest)) (kf : a ≤ 0 → W p l e R s m args below meth c H locs cells slots Q (F0 m (pc + 3) ls rest)) : W p l e R s m args below meth c H locs cells slots Q (F0 m pc ls (.int x :: rest)) := by
  have hy : (0 : Int32).toInt = 0 := by decide
  exact lv_if_gt hx hb hdg ht (fun h => kt (by rw [← ha]; have h9 := Int32.lt_iff_toInt_lt.mp h; rw [hy] at h9; exact h9)) (fun h => kf (by rw [← ha]; refine Int.not_lt.mp (fun q => h (Int32.lt_iff_toInt_lt.mpr ?_)); rw [hy]; exact q))
theorem sb_icmp_le (hx : p.tables.exec = Jvm.exec) (hb : c.code = cc) {x y : Int32} {a b : Int} (ha : x.toInt = a) (hy : y.toInt = b) {off : Int} {tgt : Nat} (hdg : decode cc pc = .ok (.if_icmp .le off, 3)) (ht : (pc : Int) + off = (tgt : Int)) (kt : a ≤ b → W p l e R s m args below meth c H locs cells slots Q (F0 m tgt ls rest)) (kf : b < a → W p l e R s m args below meth c H locs cells slots Q (F0 m (pc + 3) ls rest)) : W p l e R s m args below meth c H locs cells slots Q (F0 m pc ls (.int y :: .int x :: rest)) :=
  lv_icmp_le hx hb hdg ht (fun h => kt (by rw [← ha, ← hy]; exact Int32.le_iff_toInt_le.mp h)) (fun h => kf (by rw [← ha, ← hy]; exact Int.not_le.mp (fun q => h (Int32.le_iff_toInt_le.mpr q))))
theorem sb_if_le (hx : p.tables.exec = Jvm.exec) (hb : c.code = cc) {x : Int32} {a : Int} (ha : x.toInt = a) {off : Int} {tgt : Nat} (hdg : decode cc pc = .ok (.ifCond .le off, 3)) (ht : (pc : Int) + off = (tgt : Int)) (kt : a ≤ 0 → W p l e R s m args below meth c H locs cells slots Q (F0 m tgt ls rest)) (kf : 0 < a → W p l e R s m args below meth c H locs cells slots Q (F0 m (pc + 3) ls rest)) : W p l e R s m args below meth c H locs cells slots Q (F0 m pc ls (.int x :: rest)) := by
  have hy : (0 : Int32).toInt = 0 := by decide
  exact lv_if_le hx hb hdg ht (fun h => kt (by rw [← ha]; have h9 := Int32.le_iff_toInt_le.mp h; rw [hy] at h9; exact h9)) (fun h => kf (by rw [← ha]; refine Int.not_le.mp (fun q => h (Int32.le_iff_toInt_le.mpr ?_)); rw [hy]; exact q))
end
theorem i_add {x y z : Int32} {a b : Int} (e : z = x + y) (ha : x.toInt = a) (hb : y.toInt = b) (h1 : -2147483648 ≤ a + b) (h2 : a + b ≤ 2147483647) : z.toInt = a + b := by
  rw [e, Int32.toInt_add, ha, hb]; exact Kit.bmod32 (by omega) (by omega)
theorem i_sub {x y z : Int32} {a b : Int} (e : z = x - y) (ha : x.toInt = a) (hb : y.toInt = b) (h1 : -2147483648 ≤ a - b) (h2 : a - b ≤ 2147483647) : z.toInt = a - b := by
  rw [e, Int32.toInt_sub, ha, hb]; exact Kit.bmod32 (by omega) (by omega)
theorem i_mul {x y z : Int32} {a b : Int} (e : z = x * y) (ha : x.toInt = a) (hb : y.toInt = b) (h1 : -2147483648 ≤ a * b) (h2 : a * b ≤ 2147483647) : z.toInt = a * b := by
  rw [e, Int32.toInt_mul, ha, hb]; generalize a * b = q at h1 h2 ⊢; exact Kit.bmod32 (by omega) (by omega)
theorem i_neg {x z : Int32} {a : Int} (e : z = -x) (ha : x.toInt = a) (h1 : -2147483647 ≤ a) : z.toInt = -a := by
  have h := x.toInt_lt
  rw [e, Int32.toInt_neg, ha]; rw [ha] at h; exact Kit.bmod32 (by omega) (by omega)
theorem i_rem {x y z : Int32} {a b : Int} (e : z = x - x / y * y) (ha : x.toInt = a) (hb : y.toInt = b) (h1 : 0 ≤ a) (h2 : 0 < b) : 0 ≤ z.toInt ∧ z.toInt < b ∧ z.toInt = a % b := by
  rw [irem_eq_mod] at e
  have h : z.toInt = a % b := by rw [e, Kit.i32_rem_nonneg (by omega), ha, hb]
  have h3 := Int.emod_nonneg a (show b ≠ 0 by omega)
  have h4 := Int.emod_lt_of_pos a h2
  rw [h]; exact ⟨h3, h4, rfl⟩
theorem i_min {x y z : Int32} {a b : Int} (e : z = if y < x then y else x) (ha : x.toInt = a) (hb : y.toInt = b) : z.toInt ≤ a ∧ z.toInt ≤ b ∧ (z.toInt = a ∨ z.toInt = b) := by
  by_cases h : y < x
  · rw [if_pos h] at e; have h2 := Int32.lt_iff_toInt_lt.mp h; rw [ha, hb] at h2; rw [e, hb]; omega
  · rw [if_neg h] at e; have h2 : ¬ y.toInt < x.toInt := fun q => h (Int32.lt_iff_toInt_lt.mpr q); rw [ha, hb] at h2; rw [e, ha]; omega
theorem i_max {x y z : Int32} {a b : Int} (e : z = if x < y then y else x) (ha : x.toInt = a) (hb : y.toInt = b) : a ≤ z.toInt ∧ b ≤ z.toInt ∧ (z.toInt = a ∨ z.toInt = b) := by
  by_cases h : x < y
  · rw [if_pos h] at e; have h2 := Int32.lt_iff_toInt_lt.mp h; rw [ha, hb] at h2; rw [e, hb]; omega
  · rw [if_neg h] at e; have h2 : ¬ x.toInt < y.toInt := fun q => h (Int32.lt_iff_toInt_lt.mpr q); rw [ha, hb] at h2; rw [e, ha]; omega
theorem i_and {x m z : Int32} (k : Nat) (e : z = x &&& m) (hm : m.toBitVec.toNat = 2 ^ k - 1) (hk : k ≤ 30) : 0 ≤ z.toInt ∧ z.toInt < 2 ^ k := by
  have h := pk_andIn x k hm hk
  rw [← e, vp_in_iff] at h
  refine ⟨h.1, ?_⟩
  have := h.2
  rwa [Int.natCast_pow] at this
theorem i_cl {x : Int32} {n : Nat} (h : x.toInt = (n : Int)) : x.toNatClampNeg = n := by
  show x.toInt.toNat = n
  rw [h]; rfl
theorem ob_t {t : Nat} (h : t = 3 ∨ t = 4) : ti_ob ti_LT t 8 := by rcases h with rfl | rfl; exact ob_3; exact ob_4
theorem ob_m {t : Nat} (h : t = 3 ∨ t = 4) : ∀ {i : Nat}, i < 8 → ti_ob ti_LT (ti_men t i) 2 := by
  intro i hi
  have h8 : i = 0 ∨ i = 1 ∨ i = 2 ∨ i = 3 ∨ i = 4 ∨ i = 5 ∨ i = 6 ∨ i = 7 := by omega
  rcases h with rfl | rfl
  · rcases h8 with rfl | rfl | rfl | rfl | rfl | rfl | rfl | rfl
    · exact ob_5
    · exact ob_6
    · exact ob_7
    · exact ob_8
    · exact ob_9
    · exact ob_10
    · exact ob_11
    · exact ob_12
  · rcases h8 with rfl | rfl | rfl | rfl | rfl | rfl | rfl | rfl
    · exact ob_13
    · exact ob_14
    · exact ob_15
    · exact ob_16
    · exact ob_17
    · exact ob_18
    · exact ob_19
    · exact ob_20
theorem ob_l {t : Nat} (h : t = 3 ∨ t = 4) : ∀ {i : Nat}, i < 3 → ti_ob ti_LT (ti_laws t i) 1 := by
  intro i hi
  have h8 : i = 0 ∨ i = 1 ∨ i = 2 := by omega
  rcases h with rfl | rfl
  · rcases h8 with rfl | rfl | rfl
    · exact ob_21
    · exact ob_22
    · exact ob_23
  · rcases h8 with rfl | rfl | rfl
    · exact ob_24
    · exact ob_25
    · exact ob_26
theorem i_nt {x : Int32} {a : Int} (ha : x.toInt = a) {n : Nat} (h1 : 0 ≤ a) (h2 : a < n) : x.toNatClampNeg < n := by
  show x.toInt.toNat < n
  rw [ha]; omega
theorem ti_Tv {A : Nat → Nat → Nat} {z : Option Nat} {t : Nat} (h : z = some t) : some (va_rf (z.map (fun t => A t 0))) = some (Value.ref (A t 0)) := by rw [h]; rfl
section
variable {p : Program} {l : Launch} {e : Env} {R : Room} {s : State} {m : MethodId} {args : Array Value} {below : List Frame} {meth : Method} {c : Code} {H : Heap} {locs : List Loc} {cells slots : Nat} {Q : State → Prop} {pc : Nat} {ls : Array Slot} {rest : List Value} {cc : ByteArray} {own : String} {nL : Nat} {D : va_G} {cy : Nat → ClassId} {Ls : List (Nat × Nat)} {A : Nat → Nat → Nat}
theorem ti_minl {idx : Nat} (C : ti_C p s m c args cc own nL D cy Ls A) (hm : Cond.methodLink own idx yJ9_min_f86c9 ∈ lw_g) (hsz : ls.size = nL) (hfr : 1 ≤ R.frames) (hlo : (rest.map fun v => v.category).sum + 15 ≤ R.locals) (hcs : cells ≤ R.cells ∧ slots ≤ R.slots) {x y : Int64} (hdg : decode cc pc = .ok (.invokestatic idx, 3)) (kk : W p l e R s m args below meth c H locs cells slots Q (F0 m (pc + 3) ls (.long (if y < x then y else x) :: rest))) : W p l e R s m args below meth c H locs cells slots Q (F0 m pc ls (.long y :: .long x :: rest)) :=
  va_mmin_long C.1 C.2.1 (by rw [C.2.2.2.2.2.1, hsz]) C.2.2.2.1 (C.2.2.1 _ hm) (C.2.2.1 _ ys_J9_min_f86c9) (C.2.2.1 _ yi_J9_min_f86c9) (C.2.2.1 _ yc_J9_min_f86c9) hfr hlo hcs.1 hcs.2 hdg kk
theorem ti_maxl {idx : Nat} (C : ti_C p s m c args cc own nL D cy Ls A) (hm : Cond.methodLink own idx yJ9_max_f86c9 ∈ lw_g) (hsz : ls.size = nL) (hfr : 1 ≤ R.frames) (hlo : (rest.map fun v => v.category).sum + 15 ≤ R.locals) (hcs : cells ≤ R.cells ∧ slots ≤ R.slots) {x y : Int64} (hdg : decode cc pc = .ok (.invokestatic idx, 3)) (kk : W p l e R s m args below meth c H locs cells slots Q (F0 m (pc + 3) ls (.long (if y < x then x else y) :: rest))) : W p l e R s m args below meth c H locs cells slots Q (F0 m pc ls (.long y :: .long x :: rest)) :=
  va_mmax_long C.1 C.2.1 (by rw [C.2.2.2.2.2.1, hsz]) C.2.2.2.1 (C.2.2.1 _ hm) (C.2.2.1 _ ys_J9_max_f86c9) (C.2.2.1 _ yi_J9_max_f86c9) (C.2.2.1 _ yc_J9_max_f86c9) hfr hlo hcs.1 hcs.2 hdg kk
end
theorem lc0 {z : Int32} {a : Int64} (e : z = lg_cmp a 0) (h : ¬ z.toInt = 0) : ¬ a = 0 := by intro h0; apply h; rw [e, h0]; decide
theorem ln0 {z a : Int64} (e : z = -a) (h : ¬ a = 0) : ¬ z = 0 := by
  intro h0
  apply h
  have h1 : -(-a) = 0 := by rw [← e, h0]; rfl
  simpa using h1
theorem nn_lt {x : Int32} (h : 0 ≤ x.toInt) : x.toBitVec.toNat < 2 ^ 31 := by
  have e : x.toInt = x.toBitVec.toInt := rfl
  rw [e, BitVec.toInt_eq_toNat_cond] at h
  by_cases q : 2 * x.toBitVec.toNat < 2 ^ 32
  · omega
  · rw [if_neg q] at h; have := x.toBitVec.isLt; omega
theorem lt_nn {x : Int32} (h : x.toBitVec.toNat < 2 ^ 31) : 0 ≤ x.toInt := by
  have e : x.toInt = x.toBitVec.toInt := rfl
  rw [e, BitVec.toInt_eq_toNat_cond, if_pos (by omega)]; omega
theorem i_or {x y z : Int32} (e : z = x ||| y) (hx : 0 ≤ x.toInt) (hy : 0 ≤ y.toInt) : 0 ≤ z.toInt := by
  apply lt_nn
  have h : z.toBitVec.toNat = x.toBitVec.toNat ||| y.toBitVec.toNat := by rw [e]; simp
  rw [h]
  exact Nat.or_lt_two_pow (nn_lt hx) (nn_lt hy)
theorem cls_ne {a b c d : Nat} (h1 : ti_cls a = c) (h2 : ti_cls b = d) (h : c ≠ d) : a ≠ b := fun e => h (by rw [← h1, ← h2, e])
theorem pass_min {x z mu : Int32} (hb : ib 0 120 x) (hm : mu.toInt < 120) (e : x = mu) (ez : z = x + 1) : ib 0 120 z := by
  obtain ⟨h1, h2⟩ := hb
  rw [← e] at hm
  have h := i_add ez rfl (by decide : (1 : Int32).toInt = 1) (by omega) (by omega)
  exact ⟨by omega, by omega⟩
theorem nz {x : Int32} (h : ¬ x.toInt = 0) : ¬ x = 0 := fun q => h (by rw [q]; rfl)
theorem nar_b {x : Int32} (h1 : 0 ≤ x.toInt) (h2 : x.toInt ≤ 1) : narrow .boolean (.int x) = .int x := by
  have h : x = 0 ∨ x = 1 := by
    rcases (show x.toInt = 0 ∨ x.toInt = 1 by omega) with h | h
    · left; exact Int32.toInt_inj.mp (by rw [h]; rfl)
    · right; exact Int32.toInt_inj.mp (by rw [h]; rfl)
  rcases h with rfl | rfl <;> rfl
theorem ob_r {i : Nat} (h : i < 20) : ti_ob ti_LT (29 + i) 3 := by
  rcases (show i = 0 ∨ i = 1 ∨ i = 2 ∨ i = 3 ∨ i = 4 ∨ i = 5 ∨ i = 6 ∨ i = 7 ∨ i = 8 ∨ i = 9 ∨ i = 10 ∨ i = 11 ∨ i = 12 ∨ i = 13 ∨ i = 14 ∨ i = 15 ∨ i = 16 ∨ i = 17 ∨ i = 18 ∨ i = 19 by omega) with rfl | rfl | rfl | rfl | rfl | rfl | rfl | rfl | rfl | rfl | rfl | rfl | rfl | rfl | rfl | rfl | rfl | rfl | rfl | rfl
  · exact ob_29
  · exact ob_30
  · exact ob_31
  · exact ob_32
  · exact ob_33
  · exact ob_34
  · exact ob_35
  · exact ob_36
  · exact ob_37
  · exact ob_38
  · exact ob_39
  · exact ob_40
  · exact ob_41
  · exact ob_42
  · exact ob_43
  · exact ob_44
  · exact ob_45
  · exact ob_46
  · exact ob_47
  · exact ob_48
/-- which text is told, and what it and the reader hold, stays -/
def tl (N M : ti_M) : Prop := (∀ o k : Nat, 1 ≤ o → o ≤ 20 → tI N o k = tI M o k) ∧ tT N 0 1 = tT M 0 1 ∧ tT N 0 2 = tT M 0 2
theorem tl.refl {M : ti_M} : tl M M := ⟨fun _ _ _ _ => rfl, rfl, rfl⟩
theorem tl.trans {K N M : ti_M} (x : tl K N) (y : tl N M) : tl K M := ⟨fun o k a b => (x.1 o k a b).trans (y.1 o k a b), x.2.1.trans y.2.1, x.2.2.trans y.2.2⟩
theorem tl_x {M N : ti_M} (x : fX N M) (h : tT N 0 1 = tT M 0 1) (h' : tT N 0 2 = tT M 0 2) : tl N M := ⟨fun o k _ h2 => (x k).2.2.2 o h2, h, h'⟩
end
section
theorem sy_nat : Cond.native arraycopyName ∈ lw_g := lw_g_mem 560 (by decide +kernel) (by decide +kernel)
theorem sy_sta : Cond.static arraycopyName ∈ lw_g := lw_g_mem 559 (by decide +kernel) (by decide +kernel)
theorem sy_ini : Cond.initialized "java/lang/System" ∈ lw_g := lw_g_mem 132 (by decide +kernel) (by decide +kernel)
theorem ml_X3_72 : Cond.methodLink RX3 72 arraycopyName ∈ lw_g := lw_g_mem 558 (by decide +kernel) (by decide +kernel)
theorem uY_uY (M : ti_M) (o k : Nat) (f g : Nat → Int32) : uY (uY M o k f) o k g = uY M o k g := by
  simp only [uY, Prod.mk.injEq, true_and, and_true]
  funext o2 k2
  simp only [up2]
  by_cases h : k2 = k ∧ o2 = o
  · rw [if_pos h, if_pos h]
  · rw [if_neg h, if_neg h, if_neg h]
set_option maxHeartbeats 4000000 in
set_option maxRecDepth 100000 in
/-- Arrays.fill: each place of the row holds v -/
theorem k_fill (l : Launch) (D : va_G) (A : Nat → Nat → Nat) (cy : Nat → ClassId) {Ls : List (Nat × Nat)} (hN : Ls.Nodup) (hJ : ti_inj Ls A) (M : ti_M) (o k ci len : Nat) (v : Int32) (ho : ti_ob Ls o ci) (hj : k + 1 ∈ ti_parts ci) (har : ∀ f g, ti_ar A cy ci o k f g = (cy 1, len, .inl f)) (hlen : len < 2 ^ 31) : ti_Kv l yJ7_fill_53178 cJ7_fill_53178 4 0 Ls D A cy M [.ref (A o (k + 1)), .int v] (fun M2 => ∃ g, M2 = uY M o k g ∧ ∀ j, j < len → g j = v) := by
  refine ti_eV yp_J7_fill_53178 hJ hN (Nat.le_of_ble_eq_true rfl) ?_
  intro p e s m args below meth c Q H0 C hQ hw ls hl
  have hx := C.1
  have hb := C.2.1
  have hl : lv_has ls 4 [(0, .ref (A o (k + 1))), (1, .int v)] := hl
  refine lv_iconst (v := 0) hx hb dJ7_fill_53178_0 (by decide) ?_
  refine lv_istore_n (lv' := [(2, .int 0), (0, .ref (A o (k + 1))), (1, .int v)]) hx hb dJ7_fill_53178_1 rfl hl (by decide) rfl (fun ls hl => ?_)
  refine lv_aload_n hx hb dJ7_fill_53178_2 rfl (lv_at hl 1 rfl) ?_
  refine ti_alen (ci := ci) (n := len) (t0 := 1) (v := nI len) C hw ho hj (fun f g => by rw [har]; exact ⟨rfl, rfl⟩) rfl rfl dJ7_fill_53178_3 ?_
  refine lv_istore_n (lv' := [(3, .int (nI len)), (2, .int 0), (0, .ref (A o (k + 1))), (1, .int v)]) hx hb dJ7_fill_53178_4 rfl hl (by decide) rfl (fun ls hl => ?_)
  suffices hloop : ∀ (n i : Nat) (g : Nat → Int32) (H : Heap) (locs : List Loc) (ls : Array Slot), len < i + n → i ≤ len → (∀ j, j < i → g j = v) → ti_H Ls D A cy H0 (uY M o k g) H locs → lv_has ls 4 [(3, .int (nI len)), (2, .int (nI i)), (0, .ref (A o (k + 1))), (1, .int v)] → W p l e (ti_rm 0) s m args below meth c H locs 0 0 Q (F0 m 5 ls []) from
    hloop (len + 1) 0 (tY M o k) _ _ _ (by omega) (Nat.zero_le _) (fun j h => by omega) (hw.to (uY_eta M o k).symm) hl
  intro n
  induction n with
  | zero => intro i g H locs ls h1 h2; omega
  | succ n ih =>
    intro i g H locs ls hf hi hg hw hl
    refine lv_iload_n hx hb dJ7_fill_53178_5 rfl (lv_at hl 1 rfl) ?_
    refine lv_iload_n hx hb dJ7_fill_53178_6 rfl (lv_at hl 0 rfl) ?_
    refine lv_icmp_ge (tgt := 20) hx hb dJ7_fill_53178_7 (by decide) (fun c_7 => ?_) (fun c_7 => ?_)
    · have he : i = len := by
        have := (nI_leI hlen (Nat.lt_of_le_of_lt hi hlen)).mp c_7
        omega
      exact hQ _ _ _ _ _ hw ⟨g, rfl, by rw [← he]; exact hg⟩ dJ7_fill_53178_20
    · have hlt : i < len := by
        rcases Nat.lt_or_ge i len with q | q
        · exact q
        · exact absurd ((nI_leI hlen (Nat.lt_of_le_of_lt hi hlen)).mpr q) c_7
      refine lv_aload_n hx hb dJ7_fill_53178_10 rfl (lv_at hl 2 rfl) ?_
      refine lv_iload_n hx hb dJ7_fill_53178_11 rfl (lv_at hl 1 rfl) ?_
      refine lv_iload_n hx hb dJ7_fill_53178_12 rfl (lv_at hl 3 rfl) ?_
      refine ti_iast (ci := ci) (n := len) C hw ho hj har (vp_in_nI hlt hlen) dJ7_fill_53178_13 (fun H locs hw => ?_)
      rw [tY_u, uY_uY, nI_clamp (Nat.lt_of_le_of_lt hi hlen)] at hw
      refine lv_iinc (v := nI (i + 1)) (lv' := [(2, .int (nI (i + 1))), (3, .int (nI len)), (0, .ref (A o (k + 1))), (1, .int v)]) hx hb dJ7_fill_53178_14 hl (k := 1) rfl (nI_1 i) (by decide) rfl (fun ls hl => ?_)
      refine lv_goto (tgt := 5) hx hb dJ7_fill_53178_17 (by decide) ?_
      refine ih (i + 1) (upd g i v) _ _ _ (by omega) hlt (fun j hj => ?_) hw (lv_sub hl [1, 0, 2, 3] rfl)
      by_cases e : j = i
      · subst e; exact pk_us
      · rw [pk_un e]; exact hg j (by omega)
end
section
variable {Tc : gC} {Tm : gM}
set_option maxHeartbeats 4000000 in
set_option maxRecDepth 100000 in
theorem s_X3_manAt (l : Launch) (D : va_G) (A : Nat → Nat → Nat) (cy : Nat → ClassId) (hJ : ti_inj ti_LT A) (M : ti_M) (hI : cI Tc M) (q : Nat) (hq : ti_ob ti_LT q 3) (pl : Int32) : ti_Ki l yX3_manAt cX3_manAt 2 (some .int) 0 ti_LT D A cy M [.ref (A q 0), .int pl] (fun r M2 => M2 = M ∧ (-2) ≤ r.toInt ∧ r.toInt ≤ 7 ∧ (r.toInt < 0 ∨ (0 ≤ pl.toInt ∧ pl.toInt < (tI M q 3).toInt))) := by
  refine ti_eI yp_X3_manAt hJ ti_LT_nd (Nat.le_of_ble_eq_true rfl) ?_
  intro p e s m args below meth c Q H0 C hQ hw ls hl
  have hx := C.1
  have hb := C.2.1
  have hl : lv_has ls 2 [(0, .ref (A q 0)), (1, .int pl)] := hl
  refine lv_iload_n hx hb dX3_manAt_0 rfl (lv_at hl 1 rfl) ?_
  have hj_21_4 : ∀  (H : Heap) (locs : List Loc) (ls : Array Slot), ti_H ti_LT D A cy H0 M H locs → lv_has ls 2 [(0, .ref (A q 0)), (1, .int pl)] → W p l e (ti_rm 0) s m args below meth c H locs 0 0 Q (F0 m 21 ls []) := by
    intro  H locs ls  hw hl
    refine lv_bipush (v := (-2)) hx hb dX3_manAt_21 (by decide) ?_
    exact hQ _ _ _ _ _ _ hw rfl (⟨rfl, by first | omega | decide, by first | omega | decide, by first | omega | exact Or.inl (by decide)⟩) dX3_manAt_23
  refine sb_if_lt (tgt := 21) hx hb rfl dX3_manAt_1 (by decide) (fun c_1_0 => ?_) (fun c_1_0 => ?_)
  · exact hj_21_4  _ _ _  hw (lv_sub hl [0, 1] rfl)
  · refine lv_iload_n hx hb dX3_manAt_4 rfl (lv_at hl 1 rfl) ?_
    refine lv_aload_n hx hb dX3_manAt_5 rfl (lv_at hl 0 rfl) ?_
    refine ti_get (ci := 3) (k := 3) (N := 17) (T := TX3) C hw iw_3 rfl hq (by decide) (by decide) fl_X3_56 rfl rfl dX3_manAt_6 ?_
    refine lv_topi (fun x_2 ex_2 => ?_)
    have bx_2 : 0 ≤ x_2.toInt ∧ x_2.toInt ≤ 8 := cI_rd hI hq.1 ex_2
    have ux_2 : (tI M q 3).toInt = x_2.toInt := by rw [ex_2]
    refine sb_icmp_ge (tgt := 21) hx hb rfl rfl dX3_manAt_9 (by decide) (fun c_9_2 => ?_) (fun c_9_2 => ?_)
    · exact hj_21_4  _ _ _  hw (lv_sub hl [0, 1] rfl)
    · refine lv_aload_n hx hb dX3_manAt_12 rfl (lv_at hl 0 rfl) ?_
      refine ti_get (ci := 3) (k := 6) (N := 17) (T := TX3) (v := .ref (A q 7)) C hw iw_3 rfl hq (by decide) (by decide) fl_X3_9 rfl rfl dX3_manAt_13 ?_
      refine lv_iload_n hx hb dX3_manAt_16 rfl (lv_at hl 1 rfl) ?_
      refine ti_iald (ci := 3) (k := 6) (n := 8) C hw hq (by decide) (fun _ _ => rfl) (vp_in_iff.mpr (by omega)) dX3_manAt_17 ?_
      refine lv_topi (fun x_4 ex_4 => ?_)
      have bx_4 : 0 ≤ x_4.toInt ∧ x_4.toInt ≤ 7 := cI_ry hI hq.1 ex_4
      refine lv_goto (tgt := 23) hx hb dX3_manAt_18 (by decide) ?_
      exact hQ _ _ _ _ _ _ hw rfl (⟨rfl, by first | omega | decide, by first | omega | decide, by first | omega | exact Or.inl (by decide)⟩) dX3_manAt_23
set_option maxHeartbeats 4000000 in
set_option maxRecDepth 100000 in
theorem s_X3_placeOf (l : Launch) (D : va_G) (A : Nat → Nat → Nat) (cy : Nat → ClassId) (hJ : ti_inj ti_LT A) (M : ti_M) (hI : cI Tc M) (q : Nat) (hq : ti_ob ti_LT q 3) (mn : Int32) : ti_Ki l yX3_placeOf cX3_placeOf 3 (some .int) 0 ti_LT D A cy M [.ref (A q 0), .int mn] (fun r M2 => M2 = M ∧ (-1) ≤ r.toInt ∧ r.toInt ≤ 7) := by
  refine ti_eI yp_X3_placeOf hJ ti_LT_nd (Nat.le_of_ble_eq_true rfl) ?_
  intro p e s m args below meth c Q H0 C hQ hw ls hl
  have hx := C.1
  have hb := C.2.1
  have hl : lv_has ls 3 [(0, .ref (A q 0)), (1, .int mn)] := hl
  refine lv_iconst (v := 0) hx hb dX3_placeOf_0 (by decide) ?_
  refine lv_istore_n (lv' := [(2, .int 0), (0, .ref (A q 0)), (1, .int mn)]) hx hb dX3_placeOf_1 rfl hl (by decide) rfl (fun ls hl => ?_)
  have hl_2_3 : ∀ (n_4 : Nat) (x_1 : Int32) (H : Heap) (locs : List Loc) (ls : Array Slot), (8 - x_1.toInt : Int).toNat < n_4 → (0 ≤ x_1.toInt) → (x_1.toInt ≤ 8) → ti_H ti_LT D A cy H0 M H locs → lv_has ls 3 [(2, .int x_1), (0, .ref (A q 0)), (1, .int mn)] → W p l e (ti_rm 0) s m args below meth c H locs 0 0 Q (F0 m 2 ls []) := by
    intro n_4
    induction n_4 with
    | zero => intro x_1 H locs ls hf_4; exact absurd hf_4 (Nat.not_lt_zero _)
    | succ n_4 ih_4 =>
      intro x_1 H locs ls hf_4 b_2 b_3 hw hl
      refine lv_iload_n hx hb dX3_placeOf_2 rfl (lv_at hl 0 rfl) ?_
      refine lv_aload_n hx hb dX3_placeOf_3 rfl (lv_at hl 1 rfl) ?_
      refine ti_get (ci := 3) (k := 3) (N := 17) (T := TX3) C hw iw_3 rfl hq (by decide) (by decide) fl_X3_56 rfl rfl dX3_placeOf_4 ?_
      refine lv_topi (fun x_5 ex_5 => ?_)
      have bx_5 : 0 ≤ x_5.toInt ∧ x_5.toInt ≤ 8 := cI_rd hI hq.1 ex_5
      have ux_5 : (tI M q 3).toInt = x_5.toInt := by rw [ex_5]
      refine sb_icmp_ge (tgt := 28) hx hb rfl rfl dX3_placeOf_7 (by decide) (fun c_7_5 => ?_) (fun c_7_5 => ?_)
      · refine lv_iconst (v := (-1)) hx hb dX3_placeOf_28 (by decide) ?_
        exact hQ _ _ _ _ _ _ hw rfl (⟨rfl, by first | omega | decide, by first | omega | decide⟩) dX3_placeOf_29
      · refine lv_aload_n hx hb dX3_placeOf_10 rfl (lv_at hl 1 rfl) ?_
        refine ti_get (ci := 3) (k := 6) (N := 17) (T := TX3) (v := .ref (A q 7)) C hw iw_3 rfl hq (by decide) (by decide) fl_X3_9 rfl rfl dX3_placeOf_11 ?_
        refine lv_iload_n hx hb dX3_placeOf_14 rfl (lv_at hl 0 rfl) ?_
        refine ti_iald (ci := 3) (k := 6) (n := 8) C hw hq (by decide) (fun _ _ => rfl) (vp_in_iff.mpr (by omega)) dX3_placeOf_15 ?_
        refine lv_topi (fun x_7 ex_7 => ?_)
        have bx_7 : 0 ≤ x_7.toInt ∧ x_7.toInt ≤ 7 := cI_ry hI hq.1 ex_7
        refine lv_iload_n hx hb dX3_placeOf_16 rfl (lv_at hl 2 rfl) ?_
        refine sb_icmp_ne (tgt := 22) hx hb rfl rfl dX3_placeOf_17 (by decide) (fun c_17_7 => ?_) (fun c_17_7 => ?_)
        · obtain ⟨x_9, ex_9⟩ : ∃ z : Int32, z = x_1 + 1 := ⟨_, rfl⟩
          have tx_9 : x_9.toInt = x_1.toInt + 1 := i_add ex_9 rfl (by decide) (by omega) (by omega)
          refine lv_iinc (v := x_9) (lv' := [(2, .int x_9), (0, .ref (A q 0)), (1, .int mn)]) hx hb dX3_placeOf_22 hl (k := 0) rfl (by rw [ex_9]; rfl) (by decide) rfl (fun ls hl => ?_)
          refine lv_goto (tgt := 2) hx hb dX3_placeOf_25 (by decide) ?_
          exact ih_4 x_9 _ _ _ (by omega) (by first | omega | decide) (by first | omega | decide) hw (lv_sub hl [0, 1, 2] rfl)
        · refine lv_iload_n hx hb dX3_placeOf_20 rfl (lv_at hl 0 rfl) ?_
          exact hQ _ _ _ _ _ _ hw rfl (⟨rfl, by first | omega | decide, by first | omega | decide⟩) dX3_placeOf_21
  exact hl_2_3 ((8 - 0 : Int).toNat + 1) 0 _ _ _ (Nat.lt_succ_self _) (by have lt0 : (0 : Int32).toInt = 0 := (by decide); first | omega | decide) (by have lt0 : (0 : Int32).toInt = 0 := (by decide); first | omega | decide) hw (lv_sub hl [0, 1, 2] rfl)
set_option maxHeartbeats 4000000 in
set_option maxRecDepth 100000 in
theorem s_X3_waited (l : Launch) (D : va_G) (A : Nat → Nat → Nat) (cy : Nat → ClassId) (hJ : ti_inj ti_LT A) (M : ti_M) (hI : cI Tc M) (q : Nat) (hq : ti_ob ti_LT q 3) (mn : Int32) (h1 : 0 ≤ mn.toInt) (h2 : mn.toInt ≤ 7) : ti_Ki l yX3_waited cX3_waited 2 (some .int) 0 ti_LT D A cy M [.ref (A q 0), .int mn] (fun r M2 => M2 = M) := by
  refine ti_eI yp_X3_waited hJ ti_LT_nd (Nat.le_of_ble_eq_true rfl) ?_
  intro p e s m args below meth c Q H0 C hQ hw ls hl
  have hx := C.1
  have hb := C.2.1
  have hl : lv_has ls 2 [(0, .ref (A q 0)), (1, .int mn)] := hl
  refine lv_aload_n hx hb dX3_waited_0 rfl (lv_at hl 0 rfl) ?_
  refine ti_get (ci := 3) (k := 8) (N := 17) (T := TX3) (v := .ref (A q 9)) C hw iw_3 rfl hq (by decide) (by decide) fl_X3_18 rfl rfl dX3_waited_1 ?_
  refine lv_iload_n hx hb dX3_waited_4 rfl (lv_at hl 1 rfl) ?_
  refine ti_iald (ci := 3) (k := 8) (n := 8) C hw hq (by decide) (fun _ _ => rfl) (vp_in_iff.mpr (by omega)) dX3_waited_5 ?_
  refine lv_topi (fun x_1 ex_1 => ?_)
  by_cases s_2_0 : x_1 = 0
  · refine lv_lookup (tgt := 32) hx hb dX3_waited_6 (by decide) (off := 26) (by rw [s_2_0]; decide) (by decide) ?_
    refine lv_iconst (v := 0) hx hb dX3_waited_32 (by decide) ?_
    exact hQ _ _ _ _ _ _ hw rfl rfl dX3_waited_33
  · by_cases s_2_1 : x_1 = 1
    · refine lv_lookup (tgt := 34) hx hb dX3_waited_6 (by decide) (off := 28) (by rw [s_2_1]; decide) (by decide) ?_
      refine lv_aload_n hx hb dX3_waited_34 rfl (lv_at hl 0 rfl) ?_
      refine ti_get (ci := 3) (k := 2) (N := 17) (T := TX3) C hw iw_3 rfl hq (by decide) (by decide) fl_X3_53 rfl rfl dX3_waited_35 ?_
      refine lv_topi (fun x_3 ex_3 => ?_)
      refine lv_aload_n hx hb dX3_waited_38 rfl (lv_at hl 0 rfl) ?_
      refine ti_get (ci := 3) (k := 13) (N := 17) (T := TX3) (v := .ref (A q 14)) C hw iw_3 rfl hq (by decide) (by decide) fl_X3_33 rfl rfl dX3_waited_39 ?_
      refine lv_iload_n hx hb dX3_waited_42 rfl (lv_at hl 1 rfl) ?_
      refine ti_iald (ci := 3) (k := 13) (n := 8) C hw hq (by decide) (fun _ _ => rfl) (vp_in_iff.mpr (by omega)) dX3_waited_43 ?_
      refine lv_topi (fun x_4 ex_4 => ?_)
      refine lv_isub hx hb dX3_waited_44 ?_
      refine lv_topi (fun x_5 ex_5 => ?_)
      exact hQ _ _ _ _ _ _ hw rfl rfl dX3_waited_45
    · refine lv_lookup (tgt := 46) hx hb dX3_waited_6 (by decide) (off := 40) (ti_lk _ x_1.toInt _ (by intro q hq; simp only [List.mem_cons, List.not_mem_nil, or_false] at hq; rcases hq with rfl | rfl <;> first | exact ti_nev 0 s_2_0 (by decide) | exact ti_nev 1 s_2_1 (by decide))) (by decide) ?_
      refine lv_aload_n hx hb dX3_waited_46 rfl (lv_at hl 0 rfl) ?_
      refine ti_get (ci := 3) (k := 14) (N := 17) (T := TX3) (v := .ref (A q 15)) C hw iw_3 rfl hq (by decide) (by decide) fl_X3_36 rfl rfl dX3_waited_47 ?_
      refine lv_iload_n hx hb dX3_waited_50 rfl (lv_at hl 1 rfl) ?_
      refine ti_iald (ci := 3) (k := 14) (n := 8) C hw hq (by decide) (fun _ _ => rfl) (vp_in_iff.mpr (by omega)) dX3_waited_51 ?_
      refine lv_topi (fun x_6 ex_6 => ?_)
      refine lv_aload_n hx hb dX3_waited_52 rfl (lv_at hl 0 rfl) ?_
      refine ti_get (ci := 3) (k := 13) (N := 17) (T := TX3) (v := .ref (A q 14)) C hw iw_3 rfl hq (by decide) (by decide) fl_X3_33 rfl rfl dX3_waited_53 ?_
      refine lv_iload_n hx hb dX3_waited_56 rfl (lv_at hl 1 rfl) ?_
      refine ti_iald (ci := 3) (k := 13) (n := 8) C hw hq (by decide) (fun _ _ => rfl) (vp_in_iff.mpr (by omega)) dX3_waited_57 ?_
      refine lv_topi (fun x_7 ex_7 => ?_)
      refine lv_isub hx hb dX3_waited_58 ?_
      refine lv_topi (fun x_8 ex_8 => ?_)
      exact hQ _ _ _ _ _ _ hw rfl rfl dX3_waited_59
set_option maxHeartbeats 4000000 in
set_option maxRecDepth 100000 in
theorem s_X3_howMany (l : Launch) (D : va_G) (A : Nat → Nat → Nat) (cy : Nat → ClassId) (hJ : ti_inj ti_LT A) (M : ti_M) (hI : cI Tc M) (q t : Nat) (hq : ti_ob ti_LT q 3) (ht : t = 3 ∨ t = 4) (hT : tT M q 0 = some t) (hw0 : Int32) : ti_Ki l yX3_howMany cX3_howMany 4 (some .int) 0 ti_LT D A cy M [.ref (A q 0), .int hw0] (fun r M2 => M2 = M) := by
  refine ti_eI yp_X3_howMany hJ ti_LT_nd (Nat.le_of_ble_eq_true rfl) ?_
  intro p e s m args below meth c Q H0 C hQ hw ls hl
  have hx := C.1
  have hb := C.2.1
  have hl : lv_has ls 4 [(0, .ref (A q 0)), (1, .int hw0)] := hl
  refine lv_iconst (v := 0) hx hb dX3_howMany_0 (by decide) ?_
  refine lv_istore_n (lv' := [(2, .int 0), (0, .ref (A q 0)), (1, .int hw0)]) hx hb dX3_howMany_1 rfl hl (by decide) rfl (fun ls hl => ?_)
  refine lv_iconst (v := 0) hx hb dX3_howMany_2 (by decide) ?_
  refine lv_istore_n (lv' := [(3, .int 0), (2, .int 0), (0, .ref (A q 0)), (1, .int hw0)]) hx hb dX3_howMany_3 rfl hl (by decide) rfl (fun ls hl => ?_)
  have hl_4_4 : ∀ (n_5 : Nat) (x_1 : Int32) (x_4 : Int32) (H : Heap) (locs : List Loc) (ls : Array Slot), (8 - x_1.toInt : Int).toNat < n_5 → (0 ≤ x_1.toInt) → (x_1.toInt ≤ 8) → ti_H ti_LT D A cy H0 M H locs → lv_has ls 4 [(3, .int x_1), (2, .int x_4), (0, .ref (A q 0)), (1, .int hw0)] → W p l e (ti_rm 0) s m args below meth c H locs 0 0 Q (F0 m 4 ls []) := by
    intro n_5
    induction n_5 with
    | zero => intro x_1 x_4 H locs ls hf_5; exact absurd hf_5 (Nat.not_lt_zero _)
    | succ n_5 ih_5 =>
      intro x_1 x_4 H locs ls hf_5 b_2 b_3 hw hl
      refine lv_iload_n hx hb dX3_howMany_4 rfl (lv_at hl 0 rfl) ?_
      refine lv_aload_n hx hb dX3_howMany_5 rfl (lv_at hl 2 rfl) ?_
      refine ti_get (ci := 3) (k := 0) (N := 17) (T := TX3) (v := .ref (A t 0)) C hw iw_3 rfl hq (by decide) (by decide) fl_X3_45 rfl (ti_Tv (hT)) dX3_howMany_6 ?_
      refine ti_get (ci := 8) (k := 4) (N := 12) (T := TX8) C hw iw_8 rfl (ob_t ht) (by decide) (by decide) fl_X3_78 rfl rfl dX3_howMany_9 ?_
      refine lv_topi (fun x_6 ex_6 => ?_)
      have bx_6 : 0 ≤ x_6.toInt ∧ x_6.toInt ≤ 8 := cI_rd hI (ob_t ht).1 ex_6
      have ux_6 : (tI M t 4).toInt = x_6.toInt := by rw [ex_6]
      refine sb_icmp_ge (tgt := 34) hx hb rfl rfl dX3_howMany_12 (by decide) (fun c_12_6 => ?_) (fun c_12_6 => ?_)
      · refine lv_iload_n hx hb dX3_howMany_34 rfl (lv_at hl 1 rfl) ?_
        exact hQ _ _ _ _ _ _ hw rfl rfl dX3_howMany_35
      · refine lv_aload_n hx hb dX3_howMany_15 rfl (lv_at hl 2 rfl) ?_
        refine ti_get (ci := 3) (k := 8) (N := 17) (T := TX3) (v := .ref (A q 9)) C hw iw_3 rfl hq (by decide) (by decide) fl_X3_18 rfl rfl dX3_howMany_16 ?_
        refine lv_iload_n hx hb dX3_howMany_19 rfl (lv_at hl 0 rfl) ?_
        refine ti_iald (ci := 3) (k := 8) (n := 8) C hw hq (by decide) (fun _ _ => rfl) (vp_in_iff.mpr (by omega)) dX3_howMany_20 ?_
        refine lv_topi (fun x_8 ex_8 => ?_)
        refine lv_iload_n hx hb dX3_howMany_21 rfl (lv_at hl 3 rfl) ?_
        have hj_28_11 : ∀ (x_11 : Int32) (H : Heap) (locs : List Loc) (ls : Array Slot), ti_H ti_LT D A cy H0 M H locs → lv_has ls 4 [(3, .int x_1), (2, .int x_11), (0, .ref (A q 0)), (1, .int hw0)] → W p l e (ti_rm 0) s m args below meth c H locs 0 0 Q (F0 m 28 ls []) := by
          intro x_11 H locs ls  hw hl
          obtain ⟨x_12, ex_12⟩ : ∃ z : Int32, z = x_1 + 1 := ⟨_, rfl⟩
          have tx_12 : x_12.toInt = x_1.toInt + 1 := i_add ex_12 rfl (by decide) (by omega) (by omega)
          refine lv_iinc (v := x_12) (lv' := [(3, .int x_12), (2, .int x_11), (0, .ref (A q 0)), (1, .int hw0)]) hx hb dX3_howMany_28 hl (k := 0) rfl (by rw [ex_12]; rfl) (by decide) rfl (fun ls hl => ?_)
          refine lv_goto (tgt := 4) hx hb dX3_howMany_31 (by decide) ?_
          exact ih_5 x_12 x_11 _ _ _ (by omega) (by first | omega | decide) (by first | omega | decide) hw (lv_sub hl [0, 1, 2, 3] rfl)
        refine sb_icmp_ne (tgt := 28) hx hb rfl rfl dX3_howMany_22 (by decide) (fun c_22_8 => ?_) (fun c_22_8 => ?_)
        · exact hj_28_11 x_4 _ _ _  hw (lv_sub hl [0, 1, 2, 3] rfl)
        · obtain ⟨x_10, ex_10⟩ : ∃ z : Int32, z = x_4 + 1 := ⟨_, rfl⟩
          refine lv_iinc (v := x_10) (lv' := [(2, .int x_10), (3, .int x_1), (0, .ref (A q 0)), (1, .int hw0)]) hx hb dX3_howMany_25 hl (k := 1) rfl (by rw [ex_10]; rfl) (by decide) rfl (fun ls hl => ?_)
          exact hj_28_11 x_10 _ _ _  hw (lv_sub hl [1, 0, 2, 3] rfl)
  exact hl_4_4 ((8 - 0 : Int).toNat + 1) 0 0 _ _ _ (Nat.lt_succ_self _) (by have lt0 : (0 : Int32).toInt = 0 := (by decide); first | omega | decide) (by have lt0 : (0 : Int32).toInt = 0 := (by decide); first | omega | decide) hw (lv_sub hl [0, 1, 2, 3] rfl)
set_option maxHeartbeats 4000000 in
set_option maxRecDepth 100000 in
theorem s_X3_allCoin (l : Launch) (D : va_G) (A : Nat → Nat → Nat) (cy : Nat → ClassId) (hJ : ti_inj ti_LT A) (M : ti_M) (hI : cI Tc M) (q t : Nat) (hq : ti_ob ti_LT q 3) (ht : t = 3 ∨ t = 4) (hT : tT M q 0 = some t) : ti_Ki l yX3_allCoin cX3_allCoin 3 (some .int) 0 ti_LT D A cy M [.ref (A q 0)] (fun r M2 => M2 = M) := by
  refine ti_eI yp_X3_allCoin hJ ti_LT_nd (Nat.le_of_ble_eq_true rfl) ?_
  intro p e s m args below meth c Q H0 C hQ hw ls hl
  have hx := C.1
  have hb := C.2.1
  have hl : lv_has ls 3 [(0, .ref (A q 0))] := hl
  refine lv_iconst (v := 0) hx hb dX3_allCoin_0 (by decide) ?_
  refine lv_istore_n (lv' := [(1, .int 0), (0, .ref (A q 0))]) hx hb dX3_allCoin_1 rfl hl (by decide) rfl (fun ls hl => ?_)
  refine lv_iconst (v := 0) hx hb dX3_allCoin_2 (by decide) ?_
  refine lv_istore_n (lv' := [(2, .int 0), (1, .int 0), (0, .ref (A q 0))]) hx hb dX3_allCoin_3 rfl hl (by decide) rfl (fun ls hl => ?_)
  have hl_4_4 : ∀ (n_5 : Nat) (x_1 : Int32) (x_4 : Int32) (H : Heap) (locs : List Loc) (ls : Array Slot), (8 - x_1.toInt : Int).toNat < n_5 → (0 ≤ x_1.toInt) → (x_1.toInt ≤ 8) → ti_H ti_LT D A cy H0 M H locs → lv_has ls 3 [(2, .int x_1), (1, .int x_4), (0, .ref (A q 0))] → W p l e (ti_rm 0) s m args below meth c H locs 0 0 Q (F0 m 4 ls []) := by
    intro n_5
    induction n_5 with
    | zero => intro x_1 x_4 H locs ls hf_5; exact absurd hf_5 (Nat.not_lt_zero _)
    | succ n_5 ih_5 =>
      intro x_1 x_4 H locs ls hf_5 b_2 b_3 hw hl
      refine lv_iload_n hx hb dX3_allCoin_4 rfl (lv_at hl 0 rfl) ?_
      refine lv_aload_n hx hb dX3_allCoin_5 rfl (lv_at hl 2 rfl) ?_
      refine ti_get (ci := 3) (k := 0) (N := 17) (T := TX3) (v := .ref (A t 0)) C hw iw_3 rfl hq (by decide) (by decide) fl_X3_45 rfl (ti_Tv (hT)) dX3_allCoin_6 ?_
      refine ti_get (ci := 8) (k := 4) (N := 12) (T := TX8) C hw iw_8 rfl (ob_t ht) (by decide) (by decide) fl_X3_78 rfl rfl dX3_allCoin_9 ?_
      refine lv_topi (fun x_6 ex_6 => ?_)
      have bx_6 : 0 ≤ x_6.toInt ∧ x_6.toInt ≤ 8 := cI_rd hI (ob_t ht).1 ex_6
      have ux_6 : (tI M t 4).toInt = x_6.toInt := by rw [ex_6]
      refine sb_icmp_ge (tgt := 30) hx hb rfl rfl dX3_allCoin_12 (by decide) (fun c_12_6 => ?_) (fun c_12_6 => ?_)
      · refine lv_iload_n hx hb dX3_allCoin_30 rfl (lv_at hl 1 rfl) ?_
        exact hQ _ _ _ _ _ _ hw rfl rfl dX3_allCoin_31
      · refine lv_iload_n hx hb dX3_allCoin_15 rfl (lv_at hl 1 rfl) ?_
        refine lv_aload_n hx hb dX3_allCoin_16 rfl (lv_at hl 2 rfl) ?_
        refine ti_get (ci := 3) (k := 12) (N := 17) (T := TX3) (v := .ref (A q 13)) C hw iw_3 rfl hq (by decide) (by decide) fl_X3_30 rfl rfl dX3_allCoin_17 ?_
        refine lv_iload_n hx hb dX3_allCoin_20 rfl (lv_at hl 0 rfl) ?_
        refine ti_iald (ci := 3) (k := 12) (n := 8) C hw hq (by decide) (fun _ _ => rfl) (vp_in_iff.mpr (by omega)) dX3_allCoin_21 ?_
        refine lv_topi (fun x_8 ex_8 => ?_)
        refine lv_iadd hx hb dX3_allCoin_22 ?_
        refine lv_topi (fun x_9 ex_9 => ?_)
        refine lv_istore_n (lv' := [(1, .int x_9), (2, .int x_1), (0, .ref (A q 0))]) hx hb dX3_allCoin_23 rfl hl (by decide) rfl (fun ls hl => ?_)
        obtain ⟨x_10, ex_10⟩ : ∃ z : Int32, z = x_1 + 1 := ⟨_, rfl⟩
        have tx_10 : x_10.toInt = x_1.toInt + 1 := i_add ex_10 rfl (by decide) (by omega) (by omega)
        refine lv_iinc (v := x_10) (lv' := [(2, .int x_10), (1, .int x_9), (0, .ref (A q 0))]) hx hb dX3_allCoin_24 hl (k := 1) rfl (by rw [ex_10]; rfl) (by decide) rfl (fun ls hl => ?_)
        refine lv_goto (tgt := 4) hx hb dX3_allCoin_27 (by decide) ?_
        exact ih_5 x_10 x_9 _ _ _ (by omega) (by first | omega | decide) (by first | omega | decide) hw (lv_sub hl [0, 1, 2] rfl)
  exact hl_4_4 ((8 - 0 : Int).toNat + 1) 0 0 _ _ _ (Nat.lt_succ_self _) (by have lt0 : (0 : Int32).toInt = 0 := (by decide); first | omega | decide) (by have lt0 : (0 : Int32).toInt = 0 := (by decide); first | omega | decide) hw (lv_sub hl [0, 1, 2] rfl)
set_option maxHeartbeats 4000000 in
set_option maxRecDepth 100000 in
theorem s_X3_allCoughs (l : Launch) (D : va_G) (A : Nat → Nat → Nat) (cy : Nat → ClassId) (hJ : ti_inj ti_LT A) (M : ti_M) (hI : cI Tc M) (q t : Nat) (hq : ti_ob ti_LT q 3) (ht : t = 3 ∨ t = 4) (hT : tT M q 0 = some t) : ti_Ki l yX3_allCoughs cX3_allCoughs 3 (some .int) 0 ti_LT D A cy M [.ref (A q 0)] (fun r M2 => M2 = M) := by
  refine ti_eI yp_X3_allCoughs hJ ti_LT_nd (Nat.le_of_ble_eq_true rfl) ?_
  intro p e s m args below meth c Q H0 C hQ hw ls hl
  have hx := C.1
  have hb := C.2.1
  have hl : lv_has ls 3 [(0, .ref (A q 0))] := hl
  refine lv_iconst (v := 0) hx hb dX3_allCoughs_0 (by decide) ?_
  refine lv_istore_n (lv' := [(1, .int 0), (0, .ref (A q 0))]) hx hb dX3_allCoughs_1 rfl hl (by decide) rfl (fun ls hl => ?_)
  refine lv_iconst (v := 0) hx hb dX3_allCoughs_2 (by decide) ?_
  refine lv_istore_n (lv' := [(2, .int 0), (1, .int 0), (0, .ref (A q 0))]) hx hb dX3_allCoughs_3 rfl hl (by decide) rfl (fun ls hl => ?_)
  have hl_4_4 : ∀ (n_5 : Nat) (x_1 : Int32) (x_4 : Int32) (H : Heap) (locs : List Loc) (ls : Array Slot), (8 - x_1.toInt : Int).toNat < n_5 → (0 ≤ x_1.toInt) → (x_1.toInt ≤ 8) → ti_H ti_LT D A cy H0 M H locs → lv_has ls 3 [(2, .int x_1), (1, .int x_4), (0, .ref (A q 0))] → W p l e (ti_rm 0) s m args below meth c H locs 0 0 Q (F0 m 4 ls []) := by
    intro n_5
    induction n_5 with
    | zero => intro x_1 x_4 H locs ls hf_5; exact absurd hf_5 (Nat.not_lt_zero _)
    | succ n_5 ih_5 =>
      intro x_1 x_4 H locs ls hf_5 b_2 b_3 hw hl
      refine lv_iload_n hx hb dX3_allCoughs_4 rfl (lv_at hl 0 rfl) ?_
      refine lv_aload_n hx hb dX3_allCoughs_5 rfl (lv_at hl 2 rfl) ?_
      refine ti_get (ci := 3) (k := 0) (N := 17) (T := TX3) (v := .ref (A t 0)) C hw iw_3 rfl hq (by decide) (by decide) fl_X3_45 rfl (ti_Tv (hT)) dX3_allCoughs_6 ?_
      refine ti_get (ci := 8) (k := 4) (N := 12) (T := TX8) C hw iw_8 rfl (ob_t ht) (by decide) (by decide) fl_X3_78 rfl rfl dX3_allCoughs_9 ?_
      refine lv_topi (fun x_6 ex_6 => ?_)
      have bx_6 : 0 ≤ x_6.toInt ∧ x_6.toInt ≤ 8 := cI_rd hI (ob_t ht).1 ex_6
      have ux_6 : (tI M t 4).toInt = x_6.toInt := by rw [ex_6]
      refine sb_icmp_ge (tgt := 30) hx hb rfl rfl dX3_allCoughs_12 (by decide) (fun c_12_6 => ?_) (fun c_12_6 => ?_)
      · refine lv_iload_n hx hb dX3_allCoughs_30 rfl (lv_at hl 1 rfl) ?_
        exact hQ _ _ _ _ _ _ hw rfl rfl dX3_allCoughs_31
      · refine lv_iload_n hx hb dX3_allCoughs_15 rfl (lv_at hl 1 rfl) ?_
        refine lv_aload_n hx hb dX3_allCoughs_16 rfl (lv_at hl 2 rfl) ?_
        refine ti_get (ci := 3) (k := 16) (N := 17) (T := TX3) (v := .ref (A q 17)) C hw iw_3 rfl hq (by decide) (by decide) fl_X3_42 rfl rfl dX3_allCoughs_17 ?_
        refine lv_iload_n hx hb dX3_allCoughs_20 rfl (lv_at hl 0 rfl) ?_
        refine ti_iald (ci := 3) (k := 16) (n := 8) C hw hq (by decide) (fun _ _ => rfl) (vp_in_iff.mpr (by omega)) dX3_allCoughs_21 ?_
        refine lv_topi (fun x_8 ex_8 => ?_)
        refine lv_iadd hx hb dX3_allCoughs_22 ?_
        refine lv_topi (fun x_9 ex_9 => ?_)
        refine lv_istore_n (lv' := [(1, .int x_9), (2, .int x_1), (0, .ref (A q 0))]) hx hb dX3_allCoughs_23 rfl hl (by decide) rfl (fun ls hl => ?_)
        obtain ⟨x_10, ex_10⟩ : ∃ z : Int32, z = x_1 + 1 := ⟨_, rfl⟩
        have tx_10 : x_10.toInt = x_1.toInt + 1 := i_add ex_10 rfl (by decide) (by omega) (by omega)
        refine lv_iinc (v := x_10) (lv' := [(2, .int x_10), (1, .int x_9), (0, .ref (A q 0))]) hx hb dX3_allCoughs_24 hl (k := 1) rfl (by rw [ex_10]; rfl) (by decide) rfl (fun ls hl => ?_)
        refine lv_goto (tgt := 4) hx hb dX3_allCoughs_27 (by decide) ?_
        exact ih_5 x_10 x_9 _ _ _ (by omega) (by first | omega | decide) (by first | omega | decide) hw (lv_sub hl [0, 1, 2] rfl)
  exact hl_4_4 ((8 - 0 : Int).toNat + 1) 0 0 _ _ _ (Nat.lt_succ_self _) (by have lt0 : (0 : Int32).toInt = 0 := (by decide); first | omega | decide) (by have lt0 : (0 : Int32).toInt = 0 := (by decide); first | omega | decide) hw (lv_sub hl [0, 1, 2] rfl)
end
section
variable {Tc : gC} {Tm : gM}
set_option maxHeartbeats 4000000 in
set_option maxRecDepth 100000 in
theorem s_X1_work (l : Launch) (D : va_G) (A : Nat → Nat → Nat) (cy : Nat → ClassId) (hJ : ti_inj ti_LT A) (M : ti_M) (hI : cI Tc M) (sg : Int32) (a b2 : Int64) : ti_Kl l yX1_work cX1_work 7 (some .long) 0 ti_LT D A cy M [.int sg, .long a, .long b2] (fun r M2 => M2 = M) := by
  refine ti_eL yp_X1_work hJ ti_LT_nd (Nat.le_of_ble_eq_true rfl) ?_
  intro p e s m args below meth c Q H0 C hQ hw ls hl
  have hx := C.1
  have hb := C.2.1
  have hl : lv_has ls 7 [(0, .int sg), (1, .long a), (3, .long b2)] := hl
  refine lv_iload_n hx hb dX1_work_0 rfl (lv_at hl 0 rfl) ?_
  by_cases s_1_22 : sg = 22
  · refine lv_tableIn (tgt := 247) (off := 246) hx hb dX1_work_1 (by rw [s_1_22]; decide) (by rw [s_1_22]; decide) (by rw [s_1_22]; decide) (by decide) ?_
    refine lv_lload_n hx hb dX1_work_247 rfl (lv_at hl 1 rfl) ?_
    refine lv_lconst (v := 0) hx hb dX1_work_248 (by decide) ?_
    refine W.lcmp hx hb dX1_work_249 ?_
    refine lv_topi (fun x_33 ex_33 => ?_)
    have hj_263_36 : ∀  (H : Heap) (locs : List Loc) (ls : Array Slot), ti_H ti_LT D A cy H0 M H locs → lv_has ls 7 [(0, .int sg), (1, .long a), (3, .long b2)] → W p l e (ti_rm 0) s m args below meth c H locs 0 0 Q (F0 m 263 ls []) := by
      intro  H locs ls  hw hl
      refine lv_lconst (v := 0) hx hb dX1_work_263 (by decide) ?_
      exact hQ _ _ _ _ _ _ hw rfl dX1_work_264
    refine sb_if_eq (tgt := 263) hx hb rfl dX1_work_250 (by decide) (fun c_250_33 => ?_) (fun c_250_33 => ?_)
    · exact hj_263_36  _ _ _  hw (lv_sub hl [0, 1, 2] rfl)
    · refine lv_lload_n hx hb dX1_work_253 rfl (lv_at hl 2 rfl) ?_
      refine lv_lconst (v := 0) hx hb dX1_work_254 (by decide) ?_
      refine W.lcmp hx hb dX1_work_255 ?_
      refine lv_topi (fun x_35 ex_35 => ?_)
      refine sb_if_eq (tgt := 263) hx hb rfl dX1_work_256 (by decide) (fun c_256_35 => ?_) (fun c_256_35 => ?_)
      · exact hj_263_36  _ _ _  hw (lv_sub hl [0, 1, 2] rfl)
      · refine lv_lconst (v := 1) hx hb dX1_work_259 (by decide) ?_
        refine lv_goto (tgt := 264) hx hb dX1_work_260 (by decide) ?_
        exact hQ _ _ _ _ _ _ hw rfl dX1_work_264
  · by_cases s_1_23 : sg = 23
    · refine lv_tableIn (tgt := 265) (off := 264) hx hb dX1_work_1 (by rw [s_1_23]; decide) (by rw [s_1_23]; decide) (by rw [s_1_23]; decide) (by decide) ?_
      refine lv_lload_n hx hb dX1_work_265 rfl (lv_at hl 1 rfl) ?_
      refine lv_lconst (v := 0) hx hb dX1_work_266 (by decide) ?_
      refine W.lcmp hx hb dX1_work_267 ?_
      refine lv_topi (fun x_37 ex_37 => ?_)
      have hj_277_40 : ∀  (H : Heap) (locs : List Loc) (ls : Array Slot), ti_H ti_LT D A cy H0 M H locs → lv_has ls 7 [(0, .int sg), (1, .long a), (3, .long b2)] → W p l e (ti_rm 0) s m args below meth c H locs 0 0 Q (F0 m 277 ls []) := by
        intro  H locs ls  hw hl
        refine lv_lconst (v := 1) hx hb dX1_work_277 (by decide) ?_
        refine lv_goto (tgt := 282) hx hb dX1_work_278 (by decide) ?_
        exact hQ _ _ _ _ _ _ hw rfl dX1_work_282
      refine sb_if_ne (tgt := 277) hx hb rfl dX1_work_268 (by decide) (fun c_268_37 => ?_) (fun c_268_37 => ?_)
      · exact hj_277_40  _ _ _  hw (lv_sub hl [0, 1, 2] rfl)
      · refine lv_lload_n hx hb dX1_work_271 rfl (lv_at hl 2 rfl) ?_
        refine lv_lconst (v := 0) hx hb dX1_work_272 (by decide) ?_
        refine W.lcmp hx hb dX1_work_273 ?_
        refine lv_topi (fun x_39 ex_39 => ?_)
        refine sb_if_eq (tgt := 281) hx hb rfl dX1_work_274 (by decide) (fun c_274_39 => ?_) (fun c_274_39 => ?_)
        · refine lv_lconst (v := 0) hx hb dX1_work_281 (by decide) ?_
          exact hQ _ _ _ _ _ _ hw rfl dX1_work_282
        · exact hj_277_40  _ _ _  hw (lv_sub hl [0, 1, 2] rfl)
    · have hj_283_40 : ∀  (H : Heap) (locs : List Loc) (ls : Array Slot), ti_H ti_LT D A cy H0 M H locs → lv_has ls 7 [(0, .int sg), (1, .long a), (3, .long b2)] → W p l e (ti_rm 0) s m args below meth c H locs 0 0 Q (F0 m 283 ls []) := by
        intro  H locs ls  hw hl
        refine lv_ldc2 (v := (-9223372036854775808)) hx hb C.2.2.2.1 (C.2.2.1 _ cn_X1_34) dX1_work_283 ?_
        exact hQ _ _ _ _ _ _ hw rfl dX1_work_286
      by_cases s_1_24 : sg = 24
      · refine lv_tableIn (tgt := 283) (off := 282) hx hb dX1_work_1 (by rw [s_1_24]; decide) (by rw [s_1_24]; decide) (by rw [s_1_24]; decide) (by decide) ?_
        exact hj_283_40  _ _ _  hw (lv_sub hl [0, 1, 2] rfl)
      · by_cases s_1_25 : sg = 25
        · refine lv_tableIn (tgt := 283) (off := 282) hx hb dX1_work_1 (by rw [s_1_25]; decide) (by rw [s_1_25]; decide) (by rw [s_1_25]; decide) (by decide) ?_
          exact hj_283_40  _ _ _  hw (lv_sub hl [0, 1, 2] rfl)
        · by_cases s_1_26 : sg = 26
          · refine lv_tableIn (tgt := 283) (off := 282) hx hb dX1_work_1 (by rw [s_1_26]; decide) (by rw [s_1_26]; decide) (by rw [s_1_26]; decide) (by decide) ?_
            exact hj_283_40  _ _ _  hw (lv_sub hl [0, 1, 2] rfl)
          · by_cases s_1_27 : sg = 27
            · refine lv_tableIn (tgt := 283) (off := 282) hx hb dX1_work_1 (by rw [s_1_27]; decide) (by rw [s_1_27]; decide) (by rw [s_1_27]; decide) (by decide) ?_
              exact hj_283_40  _ _ _  hw (lv_sub hl [0, 1, 2] rfl)
            · by_cases s_1_28 : sg = 28
              · refine lv_tableIn (tgt := 283) (off := 282) hx hb dX1_work_1 (by rw [s_1_28]; decide) (by rw [s_1_28]; decide) (by rw [s_1_28]; decide) (by decide) ?_
                exact hj_283_40  _ _ _  hw (lv_sub hl [0, 1, 2] rfl)
              · by_cases s_1_29 : sg = 29
                · refine lv_tableIn (tgt := 283) (off := 282) hx hb dX1_work_1 (by rw [s_1_29]; decide) (by rw [s_1_29]; decide) (by rw [s_1_29]; decide) (by decide) ?_
                  exact hj_283_40  _ _ _  hw (lv_sub hl [0, 1, 2] rfl)
                · by_cases s_1_30 : sg = 30
                  · refine lv_tableIn (tgt := 283) (off := 282) hx hb dX1_work_1 (by rw [s_1_30]; decide) (by rw [s_1_30]; decide) (by rw [s_1_30]; decide) (by decide) ?_
                    exact hj_283_40  _ _ _  hw (lv_sub hl [0, 1, 2] rfl)
                  · by_cases s_1_31 : sg = 31
                    · refine lv_tableIn (tgt := 283) (off := 282) hx hb dX1_work_1 (by rw [s_1_31]; decide) (by rw [s_1_31]; decide) (by rw [s_1_31]; decide) (by decide) ?_
                      exact hj_283_40  _ _ _  hw (lv_sub hl [0, 1, 2] rfl)
                    · by_cases s_1_32 : sg = 32
                      · refine lv_tableIn (tgt := 175) (off := 174) hx hb dX1_work_1 (by rw [s_1_32]; decide) (by rw [s_1_32]; decide) (by rw [s_1_32]; decide) (by decide) ?_
                        refine lv_lload_n hx hb dX1_work_175 rfl (lv_at hl 1 rfl) ?_
                        refine lv_lload_n hx hb dX1_work_176 rfl (lv_at hl 2 rfl) ?_
                        refine W.lcmp hx hb dX1_work_177 ?_
                        refine lv_topi (fun x_21 ex_21 => ?_)
                        refine sb_if_ge (tgt := 185) hx hb rfl dX1_work_178 (by decide) (fun c_178_21 => ?_) (fun c_178_21 => ?_)
                        · refine lv_lconst (v := 0) hx hb dX1_work_185 (by decide) ?_
                          exact hQ _ _ _ _ _ _ hw rfl dX1_work_186
                        · refine lv_lconst (v := 1) hx hb dX1_work_181 (by decide) ?_
                          refine lv_goto (tgt := 186) hx hb dX1_work_182 (by decide) ?_
                          exact hQ _ _ _ _ _ _ hw rfl dX1_work_186
                      · by_cases s_1_33 : sg = 33
                        · refine lv_tableIn (tgt := 187) (off := 186) hx hb dX1_work_1 (by rw [s_1_33]; decide) (by rw [s_1_33]; decide) (by rw [s_1_33]; decide) (by decide) ?_
                          refine lv_lload_n hx hb dX1_work_187 rfl (lv_at hl 1 rfl) ?_
                          refine lv_lload_n hx hb dX1_work_188 rfl (lv_at hl 2 rfl) ?_
                          refine W.lcmp hx hb dX1_work_189 ?_
                          refine lv_topi (fun x_23 ex_23 => ?_)
                          refine sb_if_gt (tgt := 197) hx hb rfl dX1_work_190 (by decide) (fun c_190_23 => ?_) (fun c_190_23 => ?_)
                          · refine lv_lconst (v := 0) hx hb dX1_work_197 (by decide) ?_
                            exact hQ _ _ _ _ _ _ hw rfl dX1_work_198
                          · refine lv_lconst (v := 1) hx hb dX1_work_193 (by decide) ?_
                            refine lv_goto (tgt := 198) hx hb dX1_work_194 (by decide) ?_
                            exact hQ _ _ _ _ _ _ hw rfl dX1_work_198
                        · by_cases s_1_34 : sg = 34
                          · refine lv_tableIn (tgt := 199) (off := 198) hx hb dX1_work_1 (by rw [s_1_34]; decide) (by rw [s_1_34]; decide) (by rw [s_1_34]; decide) (by decide) ?_
                            refine lv_lload_n hx hb dX1_work_199 rfl (lv_at hl 1 rfl) ?_
                            refine lv_lload_n hx hb dX1_work_200 rfl (lv_at hl 2 rfl) ?_
                            refine W.lcmp hx hb dX1_work_201 ?_
                            refine lv_topi (fun x_25 ex_25 => ?_)
                            refine sb_if_ne (tgt := 209) hx hb rfl dX1_work_202 (by decide) (fun c_202_25 => ?_) (fun c_202_25 => ?_)
                            · refine lv_lconst (v := 0) hx hb dX1_work_209 (by decide) ?_
                              exact hQ _ _ _ _ _ _ hw rfl dX1_work_210
                            · refine lv_lconst (v := 1) hx hb dX1_work_205 (by decide) ?_
                              refine lv_goto (tgt := 210) hx hb dX1_work_206 (by decide) ?_
                              exact hQ _ _ _ _ _ _ hw rfl dX1_work_210
                          · by_cases s_1_35 : sg = 35
                            · refine lv_tableIn (tgt := 211) (off := 210) hx hb dX1_work_1 (by rw [s_1_35]; decide) (by rw [s_1_35]; decide) (by rw [s_1_35]; decide) (by decide) ?_
                              refine lv_lload_n hx hb dX1_work_211 rfl (lv_at hl 1 rfl) ?_
                              refine lv_lload_n hx hb dX1_work_212 rfl (lv_at hl 2 rfl) ?_
                              refine W.lcmp hx hb dX1_work_213 ?_
                              refine lv_topi (fun x_27 ex_27 => ?_)
                              refine sb_if_eq (tgt := 221) hx hb rfl dX1_work_214 (by decide) (fun c_214_27 => ?_) (fun c_214_27 => ?_)
                              · refine lv_lconst (v := 0) hx hb dX1_work_221 (by decide) ?_
                                exact hQ _ _ _ _ _ _ hw rfl dX1_work_222
                              · refine lv_lconst (v := 1) hx hb dX1_work_217 (by decide) ?_
                                refine lv_goto (tgt := 222) hx hb dX1_work_218 (by decide) ?_
                                exact hQ _ _ _ _ _ _ hw rfl dX1_work_222
                            · by_cases s_1_36 : sg = 36
                              · refine lv_tableIn (tgt := 223) (off := 222) hx hb dX1_work_1 (by rw [s_1_36]; decide) (by rw [s_1_36]; decide) (by rw [s_1_36]; decide) (by decide) ?_
                                refine lv_lload_n hx hb dX1_work_223 rfl (lv_at hl 1 rfl) ?_
                                refine lv_lload_n hx hb dX1_work_224 rfl (lv_at hl 2 rfl) ?_
                                refine W.lcmp hx hb dX1_work_225 ?_
                                refine lv_topi (fun x_29 ex_29 => ?_)
                                refine sb_if_lt (tgt := 233) hx hb rfl dX1_work_226 (by decide) (fun c_226_29 => ?_) (fun c_226_29 => ?_)
                                · refine lv_lconst (v := 0) hx hb dX1_work_233 (by decide) ?_
                                  exact hQ _ _ _ _ _ _ hw rfl dX1_work_234
                                · refine lv_lconst (v := 1) hx hb dX1_work_229 (by decide) ?_
                                  refine lv_goto (tgt := 234) hx hb dX1_work_230 (by decide) ?_
                                  exact hQ _ _ _ _ _ _ hw rfl dX1_work_234
                              · by_cases s_1_37 : sg = 37
                                · refine lv_tableIn (tgt := 235) (off := 234) hx hb dX1_work_1 (by rw [s_1_37]; decide) (by rw [s_1_37]; decide) (by rw [s_1_37]; decide) (by decide) ?_
                                  refine lv_lload_n hx hb dX1_work_235 rfl (lv_at hl 1 rfl) ?_
                                  refine lv_lload_n hx hb dX1_work_236 rfl (lv_at hl 2 rfl) ?_
                                  refine W.lcmp hx hb dX1_work_237 ?_
                                  refine lv_topi (fun x_31 ex_31 => ?_)
                                  refine sb_if_le (tgt := 245) hx hb rfl dX1_work_238 (by decide) (fun c_238_31 => ?_) (fun c_238_31 => ?_)
                                  · refine lv_lconst (v := 0) hx hb dX1_work_245 (by decide) ?_
                                    exact hQ _ _ _ _ _ _ hw rfl dX1_work_246
                                  · refine lv_lconst (v := 1) hx hb dX1_work_241 (by decide) ?_
                                    refine lv_goto (tgt := 246) hx hb dX1_work_242 (by decide) ?_
                                    exact hQ _ _ _ _ _ _ hw rfl dX1_work_246
                                · by_cases s_1_38 : sg = 38
                                  · refine lv_tableIn (tgt := 96) (off := 95) hx hb dX1_work_1 (by rw [s_1_38]; decide) (by rw [s_1_38]; decide) (by rw [s_1_38]; decide) (by decide) ?_
                                    refine lv_lload_n hx hb dX1_work_96 rfl (lv_at hl 1 rfl) ?_
                                    refine lv_lload_n hx hb dX1_work_97 rfl (lv_at hl 2 rfl) ?_
                                    refine lv_ladd hx hb dX1_work_98 ?_
                                    refine lv_topl (fun x_2 ex_2 => ?_)
                                    exact hQ _ _ _ _ _ _ hw rfl dX1_work_99
                                  · by_cases s_1_39 : sg = 39
                                    · refine lv_tableIn (tgt := 100) (off := 99) hx hb dX1_work_1 (by rw [s_1_39]; decide) (by rw [s_1_39]; decide) (by rw [s_1_39]; decide) (by decide) ?_
                                      refine lv_lload_n hx hb dX1_work_100 rfl (lv_at hl 1 rfl) ?_
                                      refine lv_lload_n hx hb dX1_work_101 rfl (lv_at hl 2 rfl) ?_
                                      refine lv_lsub hx hb dX1_work_102 ?_
                                      refine lv_topl (fun x_3 ex_3 => ?_)
                                      exact hQ _ _ _ _ _ _ hw rfl dX1_work_103
                                    · by_cases s_1_40 : sg = 40
                                      · refine lv_tableIn (tgt := 104) (off := 103) hx hb dX1_work_1 (by rw [s_1_40]; decide) (by rw [s_1_40]; decide) (by rw [s_1_40]; decide) (by decide) ?_
                                        refine lv_lload_n hx hb dX1_work_104 rfl (lv_at hl 1 rfl) ?_
                                        refine lv_lconst (v := 0) hx hb dX1_work_105 (by decide) ?_
                                        refine W.lcmp hx hb dX1_work_106 ?_
                                        refine lv_topi (fun x_4 ex_4 => ?_)
                                        have hj_132_11 : ∀ (x_11 : Int64) (H : Heap) (locs : List Loc) (ls : Array Slot), ti_H ti_LT D A cy H0 M H locs → lv_has ls 7 [(0, .int sg), (1, .long a), (3, .long b2)] → W p l e (ti_rm 0) s m args below meth c H locs 0 0 Q (F0 m 132 ls [.long x_11]) := by
                                          intro x_11 H locs ls  hw hl
                                          refine lv_lstore (lv' := [(5, .long x_11), (0, .int sg), (1, .long a), (3, .long b2)]) hx hb dX1_work_132 hl (by decide) rfl (fun ls hl => ?_)
                                          refine lv_lload_n hx hb dX1_work_134 rfl (lv_at hl 3 rfl) ?_
                                          refine lv_lload hx hb dX1_work_135 (lv_at hl 0 rfl) ?_
                                          refine W.lcmp hx hb dX1_work_137 ?_
                                          refine lv_topi (fun x_12 ex_12 => ?_)
                                          have hj_149_16 : ∀  (H : Heap) (locs : List Loc) (ls : Array Slot), ti_H ti_LT D A cy H0 M H locs → lv_has ls 7 [(5, .long x_11), (0, .int sg), (1, .long a), (3, .long b2)] → W p l e (ti_rm 0) s m args below meth c H locs 0 0 Q (F0 m 149 ls []) := by
                                            intro  H locs ls  hw hl
                                            refine lv_ldc2 (v := (-9223372036854775808)) hx hb C.2.2.2.1 (C.2.2.1 _ cn_X1_34) dX1_work_149 ?_
                                            refine lv_goto (tgt := 158) hx hb dX1_work_152 (by decide) ?_
                                            exact hQ _ _ _ _ _ _ hw rfl dX1_work_158
                                          refine sb_if_gt (tgt := 149) hx hb rfl dX1_work_138 (by decide) (fun c_138_12 => ?_) (fun c_138_12 => ?_)
                                          · exact hj_149_16  _ _ _  hw (lv_sub hl [0, 1, 2, 3] rfl)
                                          · refine lv_lload_n hx hb dX1_work_141 rfl (lv_at hl 3 rfl) ?_
                                            refine lv_lload hx hb dX1_work_142 (lv_at hl 0 rfl) ?_
                                            refine lv_lneg hx hb dX1_work_144 ?_
                                            refine lv_topl (fun x_14 ex_14 => ?_)
                                            refine W.lcmp hx hb dX1_work_145 ?_
                                            refine lv_topi (fun x_15 ex_15 => ?_)
                                            refine sb_if_ge (tgt := 155) hx hb rfl dX1_work_146 (by decide) (fun c_146_15 => ?_) (fun c_146_15 => ?_)
                                            · refine lv_lload_n hx hb dX1_work_155 rfl (lv_at hl 2 rfl) ?_
                                              refine lv_lload_n hx hb dX1_work_156 rfl (lv_at hl 3 rfl) ?_
                                              refine lv_lmul hx hb dX1_work_157 ?_
                                              refine lv_topl (fun x_17 ex_17 => ?_)
                                              exact hQ _ _ _ _ _ _ hw rfl dX1_work_158
                                            · exact hj_149_16  _ _ _  hw (lv_sub hl [0, 1, 2, 3] rfl)
                                        refine sb_if_ne (tgt := 116) hx hb rfl dX1_work_107 (by decide) (fun c_107_4 => ?_) (fun c_107_4 => ?_)
                                        · refine lv_ldc2 (v := 1000000000000) hx hb C.2.2.2.1 (C.2.2.1 _ cn_X1_67) dX1_work_116 ?_
                                          refine lv_lload_n hx hb dX1_work_119 rfl (lv_at hl 1 rfl) ?_
                                          refine lv_lconst (v := 0) hx hb dX1_work_120 (by decide) ?_
                                          refine W.lcmp hx hb dX1_work_121 ?_
                                          refine lv_topi (fun x_6 ex_6 => ?_)
                                          refine sb_if_ge (tgt := 130) hx hb rfl dX1_work_122 (by decide) (fun c_122_6 => ?_) (fun c_122_6 => ?_)
                                          · refine lv_lload_n hx hb dX1_work_130 rfl (lv_at hl 1 rfl) ?_
                                            refine lv_ldiv hx hb dX1_work_131 (lc0 ex_4 c_107_4) ?_
                                            refine lv_topl (fun x_10 ex_10 => ?_)
                                            exact hj_132_11 x_10 _ _ _  hw (lv_sub hl [0, 1, 2] rfl)
                                          · refine lv_lload_n hx hb dX1_work_125 rfl (lv_at hl 1 rfl) ?_
                                            refine lv_lneg hx hb dX1_work_126 ?_
                                            refine lv_topl (fun x_8 ex_8 => ?_)
                                            refine lv_goto (tgt := 131) hx hb dX1_work_127 (by decide) ?_
                                            refine lv_ldiv hx hb dX1_work_131 (ln0 ex_8 (lc0 ex_4 c_107_4)) ?_
                                            refine lv_topl (fun x_9 ex_9 => ?_)
                                            exact hj_132_11 x_9 _ _ _  hw (lv_sub hl [0, 1, 2] rfl)
                                        · refine lv_ldc2 (v := 1000000000000) hx hb C.2.2.2.1 (C.2.2.1 _ cn_X1_67) dX1_work_110 ?_
                                          refine lv_goto (tgt := 132) hx hb dX1_work_113 (by decide) ?_
                                          exact hj_132_11 1000000000000 _ _ _  hw (lv_sub hl [0, 1, 2] rfl)
                                      · by_cases s_1_41 : sg = 41
                                        · refine lv_tableIn (tgt := 159) (off := 158) hx hb dX1_work_1 (by rw [s_1_41]; decide) (by rw [s_1_41]; decide) (by rw [s_1_41]; decide) (by decide) ?_
                                          refine lv_lload_n hx hb dX1_work_159 rfl (lv_at hl 2 rfl) ?_
                                          refine lv_lconst (v := 0) hx hb dX1_work_160 (by decide) ?_
                                          refine W.lcmp hx hb dX1_work_161 ?_
                                          refine lv_topi (fun x_18 ex_18 => ?_)
                                          refine sb_if_ne (tgt := 171) hx hb rfl dX1_work_162 (by decide) (fun c_162_18 => ?_) (fun c_162_18 => ?_)
                                          · refine lv_lload_n hx hb dX1_work_171 rfl (lv_at hl 1 rfl) ?_
                                            refine lv_lload_n hx hb dX1_work_172 rfl (lv_at hl 2 rfl) ?_
                                            refine lv_ldiv hx hb dX1_work_173 (lc0 ex_18 c_162_18) ?_
                                            refine lv_topl (fun x_20 ex_20 => ?_)
                                            exact hQ _ _ _ _ _ _ hw rfl dX1_work_174
                                          · refine lv_ldc2 (v := (-9223372036854775808)) hx hb C.2.2.2.1 (C.2.2.1 _ cn_X1_34) dX1_work_165 ?_
                                            refine lv_goto (tgt := 174) hx hb dX1_work_168 (by decide) ?_
                                            exact hQ _ _ _ _ _ _ hw rfl dX1_work_174
                                        · refine lv_tableOut (tgt := 283) hx hb dX1_work_1 (ti_out (lo := 22) (hi := 41) sg (fun v h1 h2 => by rcases (show v = 22 ∨ v = 23 ∨ v = 24 ∨ v = 25 ∨ v = 26 ∨ v = 27 ∨ v = 28 ∨ v = 29 ∨ v = 30 ∨ v = 31 ∨ v = 32 ∨ v = 33 ∨ v = 34 ∨ v = 35 ∨ v = 36 ∨ v = 37 ∨ v = 38 ∨ v = 39 ∨ v = 40 ∨ v = 41 by omega) with rfl | rfl | rfl | rfl | rfl | rfl | rfl | rfl | rfl | rfl | rfl | rfl | rfl | rfl | rfl | rfl | rfl | rfl | rfl | rfl <;> first | exact ti_nev 22 s_1_22 (by decide) | exact ti_nev 23 s_1_23 (by decide) | exact ti_nev 24 s_1_24 (by decide) | exact ti_nev 25 s_1_25 (by decide) | exact ti_nev 26 s_1_26 (by decide) | exact ti_nev 27 s_1_27 (by decide) | exact ti_nev 28 s_1_28 (by decide) | exact ti_nev 29 s_1_29 (by decide) | exact ti_nev 30 s_1_30 (by decide) | exact ti_nev 31 s_1_31 (by decide) | exact ti_nev 32 s_1_32 (by decide) | exact ti_nev 33 s_1_33 (by decide) | exact ti_nev 34 s_1_34 (by decide) | exact ti_nev 35 s_1_35 (by decide) | exact ti_nev 36 s_1_36 (by decide) | exact ti_nev 37 s_1_37 (by decide) | exact ti_nev 38 s_1_38 (by decide) | exact ti_nev 39 s_1_39 (by decide) | exact ti_nev 40 s_1_40 (by decide) | exact ti_nev 41 s_1_41 (by decide))) (by decide) ?_
                                          exact hj_283_40  _ _ _  hw (lv_sub hl [0, 1, 2] rfl)
set_option maxHeartbeats 4000000 in
set_option maxRecDepth 100000 in
theorem s_X3_put (l : Launch) (D : va_G) (A : Nat → Nat → Nat) (cy : Nat → ClassId) (hJ : ti_inj ti_LT A) (M : ti_M) (hI : cI Tc M) (a : Int64) (b1 b2 b3 : Int32) : ti_Ki l yX3_put cX3_put 5 (some .int) 1 ti_LT D A cy M [.long a, .int b1, .int b2, .int b3] (fun r M2 => M2 = M) := by
  refine ti_eI yp_X3_put hJ ti_LT_nd (Nat.le_of_ble_eq_true rfl) ?_
  intro p e s m args below meth c Q H0 C hQ hw ls hl
  have hx := C.1
  have hb := C.2.1
  have hl : lv_has ls 5 [(0, .long a), (2, .int b1), (3, .int b2), (4, .int b3)] := hl
  refine lv_lload_n hx hb dX3_put_0 rfl (lv_at hl 0 rfl) ?_
  refine lv_ldc2 (v := (-9223372036854775808)) hx hb C.2.2.2.1 (C.2.2.1 _ cn_X3_108) dX3_put_1 ?_
  refine W.lcmp hx hb dX3_put_4 ?_
  refine lv_topi (fun x_1 ex_1 => ?_)
  refine sb_if_ne (tgt := 11) hx hb rfl dX3_put_5 (by decide) (fun c_5_1 => ?_) (fun c_5_1 => ?_)
  · refine lv_iload_n hx hb dX3_put_11 rfl (lv_at hl 1 rfl) ?_
    obtain ⟨x_3, ex_3⟩ : ∃ z : Int64, z = b1.toInt64 := ⟨_, rfl⟩
    refine lv_i2l (v := x_3) hx hb dX3_put_12 ex_3.symm ?_
    refine lv_iload_n hx hb dX3_put_13 rfl (lv_at hl 2 rfl) ?_
    obtain ⟨x_4, ex_4⟩ : ∃ z : Int64, z = b2.toInt64 := ⟨_, rfl⟩
    refine lv_i2l (v := x_4) hx hb dX3_put_14 ex_4.symm ?_
    refine lv_lload_n hx hb dX3_put_15 rfl (lv_at hl 0 rfl) ?_
    refine ti_minl C ml_X3_110 hl.1 (by decide) (Nat.le_of_ble_eq_true rfl) ⟨Nat.zero_le _, Nat.zero_le _⟩ dX3_put_16 ?_
    refine lv_topl (fun x_5 ex_5 => ?_)
    refine ti_maxl C ml_X3_116 hl.1 (by decide) (Nat.le_of_ble_eq_true rfl) ⟨Nat.zero_le _, Nat.zero_le _⟩ dX3_put_19 ?_
    refine lv_topl (fun x_6 ex_6 => ?_)
    obtain ⟨x_7, ex_7⟩ : ∃ z : Int32, z = (x_6 : Int64).toInt32 := ⟨_, rfl⟩
    refine lv_l2i (v := x_7) hx hb dX3_put_22 ex_7.symm ?_
    exact hQ _ _ _ _ _ _ hw rfl rfl dX3_put_23
  · refine lv_iload hx hb dX3_put_8 (lv_at hl 3 rfl) ?_
    exact hQ _ _ _ _ _ _ hw rfl rfl dX3_put_10
set_option maxHeartbeats 4000000 in
set_option maxRecDepth 100000 in
theorem s_X3_isGuarded (l : Launch) (D : va_G) (A : Nat → Nat → Nat) (cy : Nat → ClassId) (hJ : ti_inj ti_LT A) (M : ti_M) (hI : cI Tc M) (q t : Nat) (hq : ti_ob ti_LT q 3) (ht : t = 3 ∨ t = 4) (hT : tT M q 0 = some t) : ti_Ki l yX3_isGuarded cX3_isGuarded 1 (some .boolean) 0 ti_LT D A cy M [.ref (A q 0)] (fun r M2 => M2 = M) := by
  refine ti_eI yp_X3_isGuarded hJ ti_LT_nd (Nat.le_of_ble_eq_true rfl) ?_
  intro p e s m args below meth c Q H0 C hQ hw ls hl
  have hx := C.1
  have hb := C.2.1
  have hl : lv_has ls 1 [(0, .ref (A q 0))] := hl
  refine lv_aload_n hx hb dX3_isGuarded_0 rfl (lv_at hl 0 rfl) ?_
  refine ti_get (ci := 3) (k := 3) (N := 17) (T := TX3) C hw iw_3 rfl hq (by decide) (by decide) fl_X3_56 rfl rfl dX3_isGuarded_1 ?_
  refine lv_topi (fun x_1 ex_1 => ?_)
  have bx_1 : 0 ≤ x_1.toInt ∧ x_1.toInt ≤ 8 := cI_rd hI hq.1 ex_1
  have ux_1 : (tI M q 3).toInt = x_1.toInt := by rw [ex_1]
  refine lv_iconst (v := 1) hx hb dX3_isGuarded_4 (by decide) ?_
  have hj_38_7 : ∀  (H : Heap) (locs : List Loc) (ls : Array Slot), ti_H ti_LT D A cy H0 M H locs → lv_has ls 1 [(0, .ref (A q 0))] → W p l e (ti_rm 0) s m args below meth c H locs 0 0 Q (F0 m 38 ls []) := by
    intro  H locs ls  hw hl
    refine lv_iconst (v := 0) hx hb dX3_isGuarded_38 (by decide) ?_
    exact hQ _ _ _ _ _ _ hw rfl rfl dX3_isGuarded_39
  refine sb_icmp_le (tgt := 38) hx hb rfl (by decide : (1 : Int32).toInt = 1) dX3_isGuarded_5 (by decide) (fun c_5_1 => ?_) (fun c_5_1 => ?_)
  · exact hj_38_7  _ _ _  hw (lv_sub hl [0] rfl)
  · refine lv_aload_n hx hb dX3_isGuarded_8 rfl (lv_at hl 0 rfl) ?_
    refine ti_get (ci := 3) (k := 0) (N := 17) (T := TX3) (v := .ref (A t 0)) C hw iw_3 rfl hq (by decide) (by decide) fl_X3_45 rfl (ti_Tv (hT)) dX3_isGuarded_9 ?_
    refine ti_get (ci := 8) (k := 0) (N := 12) (T := TX8) (v := .ref (A t 1)) C hw iw_8 rfl (ob_t ht) (by decide) (by decide) fl_X3_81 rfl rfl dX3_isGuarded_12 ?_
    refine lv_aload_n hx hb dX3_isGuarded_15 rfl (lv_at hl 0 rfl) ?_
    refine ti_get (ci := 3) (k := 6) (N := 17) (T := TX3) (v := .ref (A q 7)) C hw iw_3 rfl hq (by decide) (by decide) fl_X3_9 rfl rfl dX3_isGuarded_16 ?_
    refine lv_iconst (v := 1) hx hb dX3_isGuarded_19 (by decide) ?_
    refine ti_iald (ci := 3) (k := 6) (n := 8) C hw hq (by decide) (fun _ _ => rfl) (by unfold vp_in; decide) dX3_isGuarded_20 ?_
    refine lv_topi (fun x_3 ex_3 => ?_)
    have bx_3 : 0 ≤ x_3.toInt ∧ x_3.toInt ≤ 7 := cI_ry hI hq.1 ex_3
    refine ti_aald (ci := 8) (k := 0) (n := 8) (t0 := 5) (Cn := RX2) (gg := (ti_men t)) (j := x_3.toNatClampNeg) C hw (ob_t ht) (by decide) (fun _ _ => rfl) rfl (vp_in_iff.mpr (by omega)) rfl dX3_isGuarded_21 ?_
    have ob_4 : ti_ob ti_LT (ti_men t x_3.toNatClampNeg) 2 := ob_m ht (i_nt rfl (by omega) (by omega))
    refine ti_get (ci := 2) (k := 9) (N := 10) (T := TX2) C hw iw_2 rfl ob_4 (by decide) (by decide) fl_X3_131 rfl rfl dX3_isGuarded_22 ?_
    refine lv_topi (fun x_5 ex_5 => ?_)
    refine lv_aload_n hx hb dX3_isGuarded_25 rfl (lv_at hl 0 rfl) ?_
    refine ti_get (ci := 3) (k := 6) (N := 17) (T := TX3) (v := .ref (A q 7)) C hw iw_3 rfl hq (by decide) (by decide) fl_X3_9 rfl rfl dX3_isGuarded_26 ?_
    refine lv_iconst (v := 0) hx hb dX3_isGuarded_29 (by decide) ?_
    refine ti_iald (ci := 3) (k := 6) (n := 8) C hw hq (by decide) (fun _ _ => rfl) (by unfold vp_in; decide) dX3_isGuarded_30 ?_
    refine lv_topi (fun x_6 ex_6 => ?_)
    have bx_6 : 0 ≤ x_6.toInt ∧ x_6.toInt ≤ 7 := cI_ry hI hq.1 ex_6
    refine sb_icmp_ne (tgt := 38) hx hb rfl rfl dX3_isGuarded_31 (by decide) (fun c_31_6 => ?_) (fun c_31_6 => ?_)
    · exact hj_38_7  _ _ _  hw (lv_sub hl [0] rfl)
    · refine lv_iconst (v := 1) hx hb dX3_isGuarded_34 (by decide) ?_
      refine lv_goto (tgt := 39) hx hb dX3_isGuarded_35 (by decide) ?_
      exact hQ _ _ _ _ _ _ hw rfl rfl dX3_isGuarded_39
set_option maxHeartbeats 4000000 in
set_option maxRecDepth 100000 in
theorem s_X3_lastHeard (l : Launch) (D : va_G) (A : Nat → Nat → Nat) (cy : Nat → ClassId) (hJ : ti_inj ti_LT A) (M : ti_M) (hI : cI Tc M) (q t : Nat) (hq : ti_ob ti_LT q 3) (ht : t = 3 ∨ t = 4) (hT : tT M q 0 = some t) : ti_Ki l yX3_lastHeard cX3_lastHeard 1 (some .int) 1 ti_LT D A cy M [.ref (A q 0)] (fun r M2 => M2 = M ∧ r.toInt ≤ 7) := by
  refine ti_eI yp_X3_lastHeard hJ ti_LT_nd (Nat.le_of_ble_eq_true rfl) ?_
  intro p e s m args below meth c Q H0 C hQ hw ls hl
  have hx := C.1
  have hb := C.2.1
  have hl : lv_has ls 1 [(0, .ref (A q 0))] := hl
  refine lv_aload_n hx hb dX3_lastHeard_0 rfl (lv_at hl 0 rfl) ?_
  refine ti_get (ci := 3) (k := 0) (N := 17) (T := TX3) (v := .ref (A t 0)) C hw iw_3 rfl hq (by decide) (by decide) fl_X3_45 rfl (ti_Tv (hT)) dX3_lastHeard_1 ?_
  refine ti_get (ci := 8) (k := 9) (N := 12) (T := TX8) C hw iw_8 rfl (ob_t ht) (by decide) (by decide) fl_X3_134 rfl rfl dX3_lastHeard_4 ?_
  refine lv_topi (fun x_1 ex_1 => ?_)
  refine lv_aload_n hx hb dX3_lastHeard_7 rfl (lv_at hl 0 rfl) ?_
  refine ti_get (ci := 3) (k := 3) (N := 17) (T := TX3) C hw iw_3 rfl hq (by decide) (by decide) fl_X3_56 rfl rfl dX3_lastHeard_8 ?_
  refine lv_topi (fun x_2 ex_2 => ?_)
  have bx_2 : 0 ≤ x_2.toInt ∧ x_2.toInt ≤ 8 := cI_rd hI hq.1 ex_2
  have ux_2 : (tI M q 3).toInt = x_2.toInt := by rw [ex_2]
  refine lv_iconst (v := 1) hx hb dX3_lastHeard_11 (by decide) ?_
  refine lv_isub hx hb dX3_lastHeard_12 ?_
  refine lv_topi (fun x_3 ex_3 => ?_)
  have tx_3 : x_3.toInt = x_2.toInt - 1 := i_sub ex_3 rfl (by decide : (1 : Int32).toInt = 1) (by omega) (by omega)
  refine ti_min C ml_X3_137 hl.1 (by decide) (Nat.le_of_ble_eq_true rfl) ⟨Nat.zero_le _, Nat.zero_le _⟩ dX3_lastHeard_13 ?_
  refine lv_topi (fun x_4 ex_4 => ?_)
  have bx_4 := i_min ex_4 rfl rfl
  exact hQ _ _ _ _ _ _ hw rfl (⟨rfl, by omega⟩) dX3_lastHeard_16
set_option maxHeartbeats 4000000 in
set_option maxRecDepth 100000 in
theorem s_X3_is (l : Launch) (D : va_G) (A : Nat → Nat → Nat) (cy : Nat → ClassId) (hJ : ti_inj ti_LT A) (M : ti_M) (hI : cI Tc M) (q : Nat) (hq : ti_ob ti_LT q 3) (bt : Int32) : ti_Ki l yX3_is cX3_is 2 (some .boolean) 0 ti_LT D A cy M [.ref (A q 0), .int bt] (fun r M2 => M2 = M) := by
  refine ti_eI yp_X3_is hJ ti_LT_nd (Nat.le_of_ble_eq_true rfl) ?_
  intro p e s m args below meth c Q H0 C hQ hw ls hl
  have hx := C.1
  have hb := C.2.1
  have hl : lv_has ls 2 [(0, .ref (A q 0)), (1, .int bt)] := hl
  refine lv_aload_n hx hb dX3_is_0 rfl (lv_at hl 0 rfl) ?_
  refine ti_get (ci := 3) (k := 1) (N := 17) (T := TX3) C hw iw_3 rfl hq (by decide) (by decide) fl_X3_49 rfl rfl dX3_is_1 ?_
  refine lv_topi (fun x_1 ex_1 => ?_)
  refine lv_iload_n hx hb dX3_is_4 rfl (lv_at hl 1 rfl) ?_
  refine lv_iand hx hb dX3_is_5 ?_
  refine lv_topi (fun x_2 ex_2 => ?_)
  refine sb_if_eq (tgt := 13) hx hb rfl dX3_is_6 (by decide) (fun c_6_2 => ?_) (fun c_6_2 => ?_)
  · refine lv_iconst (v := 0) hx hb dX3_is_13 (by decide) ?_
    exact hQ _ _ _ _ _ _ hw rfl rfl dX3_is_14
  · refine lv_iconst (v := 1) hx hb dX3_is_9 (by decide) ?_
    refine lv_goto (tgt := 14) hx hb dX3_is_10 (by decide) ?_
    exact hQ _ _ _ _ _ _ hw rfl rfl dX3_is_14
set_option maxHeartbeats 4000000 in
set_option maxRecDepth 100000 in
theorem s_X3_joinsAhead (l : Launch) (D : va_G) (A : Nat → Nat → Nat) (cy : Nat → ClassId) (hJ : ti_inj ti_LT A) (M : ti_M) (hI : cI Tc M) (m1 m2 : Nat) (h1 : ti_ob ti_LT m1 2) (h2 : ti_ob ti_LT m2 2) : ti_Ki l yX3_joinsAhead cX3_joinsAhead 2 (some .boolean) 0 ti_LT D A cy M [.ref (A m1 0), .ref (A m2 0)] (fun r M2 => M2 = M) := by
  refine ti_eI yp_X3_joinsAhead hJ ti_LT_nd (Nat.le_of_ble_eq_true rfl) ?_
  intro p e s m args below meth c Q H0 C hQ hw ls hl
  have hx := C.1
  have hb := C.2.1
  have hl : lv_has ls 2 [(0, .ref (A m1 0)), (1, .ref (A m2 0))] := hl
  refine lv_aload_n hx hb dX3_joinsAhead_0 rfl (lv_at hl 0 rfl) ?_
  refine ti_get (ci := 2) (k := 2) (N := 10) (T := TX2) C hw iw_2 rfl h1 (by decide) (by decide) fl_X3_176 rfl rfl dX3_joinsAhead_1 ?_
  refine lv_topi (fun x_1 ex_1 => ?_)
  refine lv_aload_n hx hb dX3_joinsAhead_4 rfl (lv_at hl 1 rfl) ?_
  refine ti_get (ci := 2) (k := 2) (N := 10) (T := TX2) C hw iw_2 rfl h2 (by decide) (by decide) fl_X3_176 rfl rfl dX3_joinsAhead_5 ?_
  refine lv_topi (fun x_2 ex_2 => ?_)
  have hj_33_7 : ∀  (H : Heap) (locs : List Loc) (ls : Array Slot), ti_H ti_LT D A cy H0 M H locs → lv_has ls 2 [(0, .ref (A m1 0)), (1, .ref (A m2 0))] → W p l e (ti_rm 0) s m args below meth c H locs 0 0 Q (F0 m 33 ls []) := by
    intro  H locs ls  hw hl
    refine lv_iconst (v := 1) hx hb dX3_joinsAhead_33 (by decide) ?_
    refine lv_goto (tgt := 38) hx hb dX3_joinsAhead_34 (by decide) ?_
    exact hQ _ _ _ _ _ _ hw rfl rfl dX3_joinsAhead_38
  refine sb_icmp_lt (tgt := 33) hx hb rfl rfl dX3_joinsAhead_8 (by decide) (fun c_8_2 => ?_) (fun c_8_2 => ?_)
  · exact hj_33_7  _ _ _  hw (lv_sub hl [0, 1] rfl)
  · refine lv_aload_n hx hb dX3_joinsAhead_11 rfl (lv_at hl 0 rfl) ?_
    refine ti_get (ci := 2) (k := 2) (N := 10) (T := TX2) C hw iw_2 rfl h1 (by decide) (by decide) fl_X3_176 rfl rfl dX3_joinsAhead_12 ?_
    refine ti_top (y := x_1) (ex_1.symm) ?_
    refine lv_aload_n hx hb dX3_joinsAhead_15 rfl (lv_at hl 1 rfl) ?_
    refine ti_get (ci := 2) (k := 2) (N := 10) (T := TX2) C hw iw_2 rfl h2 (by decide) (by decide) fl_X3_176 rfl rfl dX3_joinsAhead_16 ?_
    refine ti_top (y := x_2) (ex_2.symm) ?_
    have hj_37_7 : ∀  (H : Heap) (locs : List Loc) (ls : Array Slot), ti_H ti_LT D A cy H0 M H locs → lv_has ls 2 [(0, .ref (A m1 0)), (1, .ref (A m2 0))] → W p l e (ti_rm 0) s m args below meth c H locs 0 0 Q (F0 m 37 ls []) := by
      intro  H locs ls  hw hl
      refine lv_iconst (v := 0) hx hb dX3_joinsAhead_37 (by decide) ?_
      exact hQ _ _ _ _ _ _ hw rfl rfl dX3_joinsAhead_38
    refine sb_icmp_ne (tgt := 37) hx hb rfl rfl dX3_joinsAhead_19 (by decide) (fun c_19_3 => ?_) (fun c_19_3 => ?_)
    · exact hj_37_7  _ _ _  hw (lv_sub hl [0, 1] rfl)
    · refine lv_aload_n hx hb dX3_joinsAhead_22 rfl (lv_at hl 0 rfl) ?_
      refine ti_get (ci := 2) (k := 1) (N := 10) (T := TX2) C hw iw_2 rfl h1 (by decide) (by decide) fl_X3_179 rfl rfl dX3_joinsAhead_23 ?_
      refine lv_topi (fun x_5 ex_5 => ?_)
      refine lv_aload_n hx hb dX3_joinsAhead_26 rfl (lv_at hl 1 rfl) ?_
      refine ti_get (ci := 2) (k := 1) (N := 10) (T := TX2) C hw iw_2 rfl h2 (by decide) (by decide) fl_X3_179 rfl rfl dX3_joinsAhead_27 ?_
      refine lv_topi (fun x_6 ex_6 => ?_)
      refine sb_icmp_le (tgt := 37) hx hb rfl rfl dX3_joinsAhead_30 (by decide) (fun c_30_6 => ?_) (fun c_30_6 => ?_)
      · exact hj_37_7  _ _ _  hw (lv_sub hl [0, 1] rfl)
      · exact hj_33_7  _ _ _  hw (lv_sub hl [0, 1] rfl)
set_option maxHeartbeats 4000000 in
set_option maxRecDepth 100000 in
theorem s_X3_nextToJoin (l : Launch) (D : va_G) (A : Nat → Nat → Nat) (cy : Nat → ClassId) (hJ : ti_inj ti_LT A) (M : ti_M) (hI : cI Tc M) (q t : Nat) (hq : ti_ob ti_LT q 3) (ht : t = 3 ∨ t = 4) (hT : tT M q 0 = some t) : ti_Ki l yX3_nextToJoin cX3_nextToJoin 3 (some .int) 1 ti_LT D A cy M [.ref (A q 0)] (fun r M2 => M2 = M ∧ (-1) ≤ r.toInt ∧ r.toInt ≤ 7) := by
  refine ti_eI yp_X3_nextToJoin hJ ti_LT_nd (Nat.le_of_ble_eq_true rfl) ?_
  intro p e s m args below meth c Q H0 C hQ hw ls hl
  have hx := C.1
  have hb := C.2.1
  have hl : lv_has ls 3 [(0, .ref (A q 0))] := hl
  refine lv_iconst (v := (-1)) hx hb dX3_nextToJoin_0 (by decide) ?_
  refine lv_istore_n (lv' := [(1, .int (-1)), (0, .ref (A q 0))]) hx hb dX3_nextToJoin_1 rfl hl (by decide) rfl (fun ls hl => ?_)
  refine lv_iconst (v := 0) hx hb dX3_nextToJoin_2 (by decide) ?_
  refine lv_istore_n (lv' := [(2, .int 0), (1, .int (-1)), (0, .ref (A q 0))]) hx hb dX3_nextToJoin_3 rfl hl (by decide) rfl (fun ls hl => ?_)
  have hl_4_6 : ∀ (n_7 : Nat) (x_1 : Int32) (x_4 : Int32) (H : Heap) (locs : List Loc) (ls : Array Slot), (8 - x_1.toInt : Int).toNat < n_7 → (0 ≤ x_1.toInt) → (x_1.toInt ≤ 8) → ((-1) ≤ x_4.toInt) → (x_4.toInt ≤ 7) → ti_H ti_LT D A cy H0 M H locs → lv_has ls 3 [(2, .int x_1), (1, .int x_4), (0, .ref (A q 0))] → W p l e (ti_rm 1) s m args below meth c H locs 0 0 Q (F0 m 4 ls []) := by
    intro n_7
    induction n_7 with
    | zero => intro x_1 x_4 H locs ls hf_7; exact absurd hf_7 (Nat.not_lt_zero _)
    | succ n_7 ih_7 =>
      intro x_1 x_4 H locs ls hf_7 b_2 b_3 b_5 b_6 hw hl
      refine lv_iload_n hx hb dX3_nextToJoin_4 rfl (lv_at hl 0 rfl) ?_
      refine lv_aload_n hx hb dX3_nextToJoin_5 rfl (lv_at hl 2 rfl) ?_
      refine ti_get (ci := 3) (k := 0) (N := 17) (T := TX3) (v := .ref (A t 0)) C hw iw_3 rfl hq (by decide) (by decide) fl_X3_45 rfl (ti_Tv (hT)) dX3_nextToJoin_6 ?_
      refine ti_get (ci := 8) (k := 4) (N := 12) (T := TX8) C hw iw_8 rfl (ob_t ht) (by decide) (by decide) fl_X3_78 rfl rfl dX3_nextToJoin_9 ?_
      refine lv_topi (fun x_8 ex_8 => ?_)
      have bx_8 : 0 ≤ x_8.toInt ∧ x_8.toInt ≤ 8 := cI_rd hI (ob_t ht).1 ex_8
      have ux_8 : (tI M t 4).toInt = x_8.toInt := by rw [ex_8]
      refine sb_icmp_ge (tgt := 74) hx hb rfl rfl dX3_nextToJoin_12 (by decide) (fun c_12_8 => ?_) (fun c_12_8 => ?_)
      · refine lv_iload_n hx hb dX3_nextToJoin_74 rfl (lv_at hl 1 rfl) ?_
        exact hQ _ _ _ _ _ _ hw rfl (⟨rfl, by first | omega | decide, by first | omega | decide⟩) dX3_nextToJoin_75
      · refine lv_aload_n hx hb dX3_nextToJoin_15 rfl (lv_at hl 2 rfl) ?_
        refine ti_get (ci := 3) (k := 8) (N := 17) (T := TX3) (v := .ref (A q 9)) C hw iw_3 rfl hq (by decide) (by decide) fl_X3_18 rfl rfl dX3_nextToJoin_16 ?_
        refine lv_iload_n hx hb dX3_nextToJoin_19 rfl (lv_at hl 0 rfl) ?_
        refine ti_iald (ci := 3) (k := 8) (n := 8) C hw hq (by decide) (fun _ _ => rfl) (vp_in_iff.mpr (by omega)) dX3_nextToJoin_20 ?_
        refine lv_topi (fun x_10 ex_10 => ?_)
        have hj_68_24 : ∀ (x_21 : Int32) (H : Heap) (locs : List Loc) (ls : Array Slot), ((-1) ≤ x_21.toInt) → (x_21.toInt ≤ 8) → (x_21.toInt ≤ 7) → ti_H ti_LT D A cy H0 M H locs → lv_has ls 3 [(2, .int x_1), (1, .int x_21), (0, .ref (A q 0))] → W p l e (ti_rm 1) s m args below meth c H locs 0 0 Q (F0 m 68 ls []) := by
          intro x_21 H locs ls b_22 b_23 j_24 hw hl
          obtain ⟨x_25, ex_25⟩ : ∃ z : Int32, z = x_1 + 1 := ⟨_, rfl⟩
          have tx_25 : x_25.toInt = x_1.toInt + 1 := i_add ex_25 rfl (by decide) (by omega) (by omega)
          refine lv_iinc (v := x_25) (lv' := [(2, .int x_25), (1, .int x_21), (0, .ref (A q 0))]) hx hb dX3_nextToJoin_68 hl (k := 0) rfl (by rw [ex_25]; rfl) (by decide) rfl (fun ls hl => ?_)
          refine lv_goto (tgt := 4) hx hb dX3_nextToJoin_71 (by decide) ?_
          exact ih_7 x_25 x_21 _ _ _ (by omega) (by first | omega | decide) (by first | omega | decide) (by first | omega | decide) (by first | omega | decide) hw (lv_sub hl [0, 1, 2] rfl)
        refine sb_if_ne (tgt := 68) hx hb rfl dX3_nextToJoin_21 (by decide) (fun c_21_10 => ?_) (fun c_21_10 => ?_)
        · exact hj_68_24 x_4 _ _ _ (by first | omega | decide) (by first | omega | decide) (by first | omega | decide) hw (lv_sub hl [0, 1, 2] rfl)
        · refine lv_aload_n hx hb dX3_nextToJoin_24 rfl (lv_at hl 2 rfl) ?_
          refine ti_get (ci := 3) (k := 9) (N := 17) (T := TX3) (v := .ref (A q 10)) C hw iw_3 rfl hq (by decide) (by decide) fl_X3_21 rfl rfl dX3_nextToJoin_25 ?_
          refine lv_iload_n hx hb dX3_nextToJoin_28 rfl (lv_at hl 0 rfl) ?_
          refine ti_iald (ci := 3) (k := 9) (n := 8) C hw hq (by decide) (fun _ _ => rfl) (vp_in_iff.mpr (by omega)) dX3_nextToJoin_29 ?_
          refine lv_topi (fun x_12 ex_12 => ?_)
          refine lv_aload_n hx hb dX3_nextToJoin_30 rfl (lv_at hl 2 rfl) ?_
          refine ti_get (ci := 3) (k := 2) (N := 17) (T := TX3) C hw iw_3 rfl hq (by decide) (by decide) fl_X3_53 rfl rfl dX3_nextToJoin_31 ?_
          refine lv_topi (fun x_13 ex_13 => ?_)
          refine sb_icmp_ne (tgt := 68) hx hb rfl rfl dX3_nextToJoin_34 (by decide) (fun c_34_13 => ?_) (fun c_34_13 => ?_)
          · exact hj_68_24 x_4 _ _ _ (by first | omega | decide) (by first | omega | decide) (by first | omega | decide) hw (lv_sub hl [0, 1, 2] rfl)
          · refine lv_iload_n hx hb dX3_nextToJoin_37 rfl (lv_at hl 1 rfl) ?_
            refine lv_iconst (v := (-1)) hx hb dX3_nextToJoin_38 (by decide) ?_
            have hj_66_20 : ∀  (H : Heap) (locs : List Loc) (ls : Array Slot), ti_H ti_LT D A cy H0 M H locs → lv_has ls 3 [(2, .int x_1), (1, .int x_4), (0, .ref (A q 0))] → W p l e (ti_rm 1) s m args below meth c H locs 0 0 Q (F0 m 66 ls []) := by
              intro  H locs ls  hw hl
              refine lv_iload_n hx hb dX3_nextToJoin_66 rfl (lv_at hl 0 rfl) ?_
              refine lv_istore_n (lv' := [(1, .int x_1), (2, .int x_1), (0, .ref (A q 0))]) hx hb dX3_nextToJoin_67 rfl hl (by decide) rfl (fun ls hl => ?_)
              exact hj_68_24 x_1 _ _ _ (by first | omega | decide) (by first | omega | decide) (by first | omega | decide) hw (lv_sub hl [1, 0, 2] rfl)
            refine sb_icmp_eq (tgt := 66) hx hb rfl (by decide : ((-1) : Int32).toInt = (-1)) dX3_nextToJoin_39 (by decide) (fun c_39_14 => ?_) (fun c_39_14 => ?_)
            · exact hj_66_20  _ _ _  hw (lv_sub hl [0, 1, 2] rfl)
            · refine lv_aload_n hx hb dX3_nextToJoin_42 rfl (lv_at hl 2 rfl) ?_
              refine ti_get (ci := 3) (k := 0) (N := 17) (T := TX3) (v := .ref (A t 0)) C hw iw_3 rfl hq (by decide) (by decide) fl_X3_45 rfl (ti_Tv (hT)) dX3_nextToJoin_43 ?_
              refine ti_get (ci := 8) (k := 0) (N := 12) (T := TX8) (v := .ref (A t 1)) C hw iw_8 rfl (ob_t ht) (by decide) (by decide) fl_X3_81 rfl rfl dX3_nextToJoin_46 ?_
              refine lv_iload_n hx hb dX3_nextToJoin_49 rfl (lv_at hl 0 rfl) ?_
              refine ti_aald (ci := 8) (k := 0) (n := 8) (t0 := 5) (Cn := RX2) (gg := (ti_men t)) (j := x_1.toNatClampNeg) C hw (ob_t ht) (by decide) (fun _ _ => rfl) rfl (vp_in_iff.mpr (by omega)) rfl dX3_nextToJoin_50 ?_
              have ob_16 : ti_ob ti_LT (ti_men t x_1.toNatClampNeg) 2 := ob_m ht (i_nt rfl (by omega) (by omega))
              refine lv_aload_n hx hb dX3_nextToJoin_51 rfl (lv_at hl 2 rfl) ?_
              refine ti_get (ci := 3) (k := 0) (N := 17) (T := TX3) (v := .ref (A t 0)) C hw iw_3 rfl hq (by decide) (by decide) fl_X3_45 rfl (ti_Tv (hT)) dX3_nextToJoin_52 ?_
              refine ti_get (ci := 8) (k := 0) (N := 12) (T := TX8) (v := .ref (A t 1)) C hw iw_8 rfl (ob_t ht) (by decide) (by decide) fl_X3_81 rfl rfl dX3_nextToJoin_55 ?_
              refine lv_iload_n hx hb dX3_nextToJoin_58 rfl (lv_at hl 1 rfl) ?_
              refine ti_aald (ci := 8) (k := 0) (n := 8) (t0 := 5) (Cn := RX2) (gg := (ti_men t)) (j := x_4.toNatClampNeg) C hw (ob_t ht) (by decide) (fun _ _ => rfl) rfl (vp_in_iff.mpr (by omega)) rfl dX3_nextToJoin_59 ?_
              have ob_17 : ti_ob ti_LT (ti_men t x_4.toNatClampNeg) 2 := ob_m ht (i_nt rfl (by omega) (by omega))
              refine ti_callSi (av := [.ref (A (ti_men t x_1.toNatClampNeg) 0), .ref (A (ti_men t x_4.toNatClampNeg) 0)]) C hw (s_X3_joinsAhead l D A cy hJ M hI (ti_men t x_1.toNatClampNeg) (ti_men t x_4.toNatClampNeg) ob_16 ob_17) ⟨ml_X3_172, ys_X3_joinsAhead, yi_X3_joinsAhead, yc_X3_joinsAhead⟩ yd_X3_joinsAhead rfl hl.1 (Nat.le_of_ble_eq_true rfl) ⟨by decide, by decide⟩ ⟨Nat.zero_le _, Nat.zero_le _⟩ dX3_nextToJoin_60 (fun r_18 M_19 H locs hp_19 hw => ?_)
              have hm := hp_19
              have hw := hw.to hm
              refine sb_if_eq (tgt := 68) hx hb rfl dX3_nextToJoin_63 (by decide) (fun c_63_19 => ?_) (fun c_63_19 => ?_)
              · exact hj_68_24 x_4 _ _ _ (by first | omega | decide) (by first | omega | decide) (by first | omega | decide) hw (lv_sub hl [0, 1, 2] rfl)
              · exact hj_66_20  _ _ _  hw (lv_sub hl [0, 1, 2] rfl)
  exact hl_4_6 ((8 - 0 : Int).toNat + 1) 0 (-1) _ _ _ (Nat.lt_succ_self _) (by have lt0 : ((-1) : Int32).toInt = (-1) := (by decide); have lt1 : (0 : Int32).toInt = 0 := (by decide); first | omega | decide) (by have lt0 : ((-1) : Int32).toInt = (-1) := (by decide); have lt1 : (0 : Int32).toInt = 0 := (by decide); first | omega | decide) (by have lt0 : ((-1) : Int32).toInt = (-1) := (by decide); have lt1 : (0 : Int32).toInt = 0 := (by decide); first | omega | decide) (by have lt0 : ((-1) : Int32).toInt = (-1) := (by decide); have lt1 : (0 : Int32).toInt = 0 := (by decide); first | omega | decide) hw (lv_sub hl [0, 1, 2] rfl)
end
section
variable {Tc : gC} {Tm : gM}
set_option maxHeartbeats 4000000 in
set_option maxRecDepth 100000 in
theorem s_X8_find (l : Launch) (D : va_G) (A : Nat → Nat → Nat) (cy : Nat → ClassId) (hJ : ti_inj ti_LT A) (M : ti_M) (hI : cI Tc M) (t : Nat) (ht : t = 3 ∨ t = 4) (nm : Int32) : ti_Ki l yX8_find cX8_find 3 (some .int) 0 ti_LT D A cy M [.ref (A t 0), .int nm] (fun r M2 => M2 = M ∧ (-1) ≤ r.toInt ∧ r.toInt ≤ 7) := by
  refine ti_eI yp_X8_find hJ ti_LT_nd (Nat.le_of_ble_eq_true rfl) ?_
  intro p e s m args below meth c Q H0 C hQ hw ls hl
  have hx := C.1
  have hb := C.2.1
  have hl : lv_has ls 3 [(0, .ref (A t 0)), (1, .int nm)] := hl
  refine lv_iconst (v := 0) hx hb dX8_find_0 (by decide) ?_
  refine lv_istore_n (lv' := [(2, .int 0), (0, .ref (A t 0)), (1, .int nm)]) hx hb dX8_find_1 rfl hl (by decide) rfl (fun ls hl => ?_)
  have hl_2_3 : ∀ (n_4 : Nat) (x_1 : Int32) (H : Heap) (locs : List Loc) (ls : Array Slot), (8 - x_1.toInt : Int).toNat < n_4 → (0 ≤ x_1.toInt) → (x_1.toInt ≤ 8) → ti_H ti_LT D A cy H0 M H locs → lv_has ls 3 [(2, .int x_1), (0, .ref (A t 0)), (1, .int nm)] → W p l e (ti_rm 0) s m args below meth c H locs 0 0 Q (F0 m 2 ls []) := by
    intro n_4
    induction n_4 with
    | zero => intro x_1 H locs ls hf_4; exact absurd hf_4 (Nat.not_lt_zero _)
    | succ n_4 ih_4 =>
      intro x_1 H locs ls hf_4 b_2 b_3 hw hl
      refine lv_iload_n hx hb dX8_find_2 rfl (lv_at hl 0 rfl) ?_
      refine lv_aload_n hx hb dX8_find_3 rfl (lv_at hl 1 rfl) ?_
      refine ti_get (ci := 8) (k := 4) (N := 12) (T := TX8) C hw iw_8 rfl (ob_t ht) (by decide) (by decide) fl_X8_36 rfl rfl dX8_find_4 ?_
      refine lv_topi (fun x_5 ex_5 => ?_)
      have bx_5 : 0 ≤ x_5.toInt ∧ x_5.toInt ≤ 8 := cI_rd hI (ob_t ht).1 ex_5
      have ux_5 : (tI M t 4).toInt = x_5.toInt := by rw [ex_5]
      refine sb_icmp_ge (tgt := 31) hx hb rfl rfl dX8_find_7 (by decide) (fun c_7_5 => ?_) (fun c_7_5 => ?_)
      · refine lv_iconst (v := (-1)) hx hb dX8_find_31 (by decide) ?_
        exact hQ _ _ _ _ _ _ hw rfl (⟨rfl, by first | omega | decide, by first | omega | decide⟩) dX8_find_32
      · refine lv_aload_n hx hb dX8_find_10 rfl (lv_at hl 1 rfl) ?_
        refine ti_get (ci := 8) (k := 0) (N := 12) (T := TX8) (v := .ref (A t 1)) C hw iw_8 rfl (ob_t ht) (by decide) (by decide) fl_X8_11 rfl rfl dX8_find_11 ?_
        refine lv_iload_n hx hb dX8_find_14 rfl (lv_at hl 0 rfl) ?_
        refine ti_aald (ci := 8) (k := 0) (n := 8) (t0 := 5) (Cn := RX2) (gg := (ti_men t)) (j := x_1.toNatClampNeg) C hw (ob_t ht) (by decide) (fun _ _ => rfl) rfl (vp_in_iff.mpr (by omega)) rfl dX8_find_15 ?_
        have ob_7 : ti_ob ti_LT (ti_men t x_1.toNatClampNeg) 2 := ob_m ht (i_nt rfl (by omega) (by omega))
        refine ti_get (ci := 2) (k := 0) (N := 10) (T := TX2) C hw iw_2 rfl ob_7 (by decide) (by decide) fl_X8_63 rfl rfl dX8_find_16 ?_
        refine lv_topi (fun x_8 ex_8 => ?_)
        refine lv_iload_n hx hb dX8_find_19 rfl (lv_at hl 2 rfl) ?_
        refine sb_icmp_ne (tgt := 25) hx hb rfl rfl dX8_find_20 (by decide) (fun c_20_8 => ?_) (fun c_20_8 => ?_)
        · obtain ⟨x_10, ex_10⟩ : ∃ z : Int32, z = x_1 + 1 := ⟨_, rfl⟩
          have tx_10 : x_10.toInt = x_1.toInt + 1 := i_add ex_10 rfl (by decide) (by omega) (by omega)
          refine lv_iinc (v := x_10) (lv' := [(2, .int x_10), (0, .ref (A t 0)), (1, .int nm)]) hx hb dX8_find_25 hl (k := 0) rfl (by rw [ex_10]; rfl) (by decide) rfl (fun ls hl => ?_)
          refine lv_goto (tgt := 2) hx hb dX8_find_28 (by decide) ?_
          exact ih_4 x_10 _ _ _ (by omega) (by first | omega | decide) (by first | omega | decide) hw (lv_sub hl [0, 1, 2] rfl)
        · refine lv_iload_n hx hb dX8_find_23 rfl (lv_at hl 0 rfl) ?_
          exact hQ _ _ _ _ _ _ hw rfl (⟨rfl, by first | omega | decide, by first | omega | decide⟩) dX8_find_24
  exact hl_2_3 ((8 - 0 : Int).toNat + 1) 0 _ _ _ (Nat.lt_succ_self _) (by have lt0 : (0 : Int32).toInt = 0 := (by decide); first | omega | decide) (by have lt0 : (0 : Int32).toInt = 0 := (by decide); first | omega | decide) hw (lv_sub hl [0, 1, 2] rfl)
set_option maxHeartbeats 4000000 in
set_option maxRecDepth 100000 in
theorem s_J6_bitCount_0f7a4 (l : Launch) (D : va_G) (A : Nat → Nat → Nat) (cy : Nat → ClassId) (hJ : ti_inj ti_LT A) (M : ti_M) (hI : cI Tc M) (z : Int32) : ti_Ki l yJ6_bitCount_0f7a4 cJ6_bitCount_0f7a4 1 (some .int) 0 ti_LT D A cy M [.int z] (fun r M2 => M2 = M) := by
  refine ti_eI yp_J6_bitCount_0f7a4 hJ ti_LT_nd (Nat.le_of_ble_eq_true rfl) ?_
  intro p e s m args below meth c Q H0 C hQ hw ls hl
  have hx := C.1
  have hb := C.2.1
  have hl : lv_has ls 1 [(0, .int z)] := hl
  refine lv_iload_n hx hb dJ6_bitCount_0f7a4_0 rfl (lv_at hl 0 rfl) ?_
  refine lv_iload_n hx hb dJ6_bitCount_0f7a4_1 rfl (lv_at hl 0 rfl) ?_
  refine lv_iconst (v := 1) hx hb dJ6_bitCount_0f7a4_2 (by decide) ?_
  refine lv_iushr hx hb dJ6_bitCount_0f7a4_3 rfl ?_
  refine lv_topi (fun x_1 ex_1 => ?_)
  refine lv_ldcw (v := 1431655765) hx hb C.2.2.2.1 (C.2.2.1 _ cn_J6_265) dJ6_bitCount_0f7a4_4 ?_
  refine lv_iand hx hb dJ6_bitCount_0f7a4_7 ?_
  refine lv_topi (fun x_2 ex_2 => ?_)
  refine lv_isub hx hb dJ6_bitCount_0f7a4_8 ?_
  refine lv_topi (fun x_3 ex_3 => ?_)
  refine lv_istore_n (lv' := [(0, .int x_3)]) hx hb dJ6_bitCount_0f7a4_9 rfl hl (by decide) rfl (fun ls hl => ?_)
  refine lv_iload_n hx hb dJ6_bitCount_0f7a4_10 rfl (lv_at hl 0 rfl) ?_
  refine lv_ldcw (v := 858993459) hx hb C.2.2.2.1 (C.2.2.1 _ cn_J6_266) dJ6_bitCount_0f7a4_11 ?_
  refine lv_iand hx hb dJ6_bitCount_0f7a4_14 ?_
  refine lv_topi (fun x_4 ex_4 => ?_)
  refine lv_iload_n hx hb dJ6_bitCount_0f7a4_15 rfl (lv_at hl 0 rfl) ?_
  refine lv_iconst (v := 2) hx hb dJ6_bitCount_0f7a4_16 (by decide) ?_
  refine lv_iushr hx hb dJ6_bitCount_0f7a4_17 rfl ?_
  refine lv_topi (fun x_5 ex_5 => ?_)
  refine lv_ldcw (v := 858993459) hx hb C.2.2.2.1 (C.2.2.1 _ cn_J6_266) dJ6_bitCount_0f7a4_18 ?_
  refine lv_iand hx hb dJ6_bitCount_0f7a4_21 ?_
  refine lv_topi (fun x_6 ex_6 => ?_)
  refine lv_iadd hx hb dJ6_bitCount_0f7a4_22 ?_
  refine lv_topi (fun x_7 ex_7 => ?_)
  refine lv_istore_n (lv' := [(0, .int x_7)]) hx hb dJ6_bitCount_0f7a4_23 rfl hl (by decide) rfl (fun ls hl => ?_)
  refine lv_iload_n hx hb dJ6_bitCount_0f7a4_24 rfl (lv_at hl 0 rfl) ?_
  refine lv_iload_n hx hb dJ6_bitCount_0f7a4_25 rfl (lv_at hl 0 rfl) ?_
  refine lv_iconst (v := 4) hx hb dJ6_bitCount_0f7a4_26 (by decide) ?_
  refine lv_iushr hx hb dJ6_bitCount_0f7a4_27 rfl ?_
  refine lv_topi (fun x_8 ex_8 => ?_)
  refine lv_iadd hx hb dJ6_bitCount_0f7a4_28 ?_
  refine lv_topi (fun x_9 ex_9 => ?_)
  refine lv_ldcw (v := 252645135) hx hb C.2.2.2.1 (C.2.2.1 _ cn_J6_267) dJ6_bitCount_0f7a4_29 ?_
  refine lv_iand hx hb dJ6_bitCount_0f7a4_32 ?_
  refine lv_topi (fun x_10 ex_10 => ?_)
  refine lv_istore_n (lv' := [(0, .int x_10)]) hx hb dJ6_bitCount_0f7a4_33 rfl hl (by decide) rfl (fun ls hl => ?_)
  refine lv_iload_n hx hb dJ6_bitCount_0f7a4_34 rfl (lv_at hl 0 rfl) ?_
  refine lv_iload_n hx hb dJ6_bitCount_0f7a4_35 rfl (lv_at hl 0 rfl) ?_
  refine lv_bipush (v := 8) hx hb dJ6_bitCount_0f7a4_36 (by decide) ?_
  refine lv_iushr hx hb dJ6_bitCount_0f7a4_38 rfl ?_
  refine lv_topi (fun x_11 ex_11 => ?_)
  refine lv_iadd hx hb dJ6_bitCount_0f7a4_39 ?_
  refine lv_topi (fun x_12 ex_12 => ?_)
  refine lv_istore_n (lv' := [(0, .int x_12)]) hx hb dJ6_bitCount_0f7a4_40 rfl hl (by decide) rfl (fun ls hl => ?_)
  refine lv_iload_n hx hb dJ6_bitCount_0f7a4_41 rfl (lv_at hl 0 rfl) ?_
  refine lv_iload_n hx hb dJ6_bitCount_0f7a4_42 rfl (lv_at hl 0 rfl) ?_
  refine lv_bipush (v := 16) hx hb dJ6_bitCount_0f7a4_43 (by decide) ?_
  refine lv_iushr hx hb dJ6_bitCount_0f7a4_45 rfl ?_
  refine lv_topi (fun x_13 ex_13 => ?_)
  refine lv_iadd hx hb dJ6_bitCount_0f7a4_46 ?_
  refine lv_topi (fun x_14 ex_14 => ?_)
  refine lv_istore_n (lv' := [(0, .int x_14)]) hx hb dJ6_bitCount_0f7a4_47 rfl hl (by decide) rfl (fun ls hl => ?_)
  refine lv_iload_n hx hb dJ6_bitCount_0f7a4_48 rfl (lv_at hl 0 rfl) ?_
  refine lv_bipush (v := 63) hx hb dJ6_bitCount_0f7a4_49 (by decide) ?_
  refine lv_iand hx hb dJ6_bitCount_0f7a4_51 ?_
  refine lv_topi (fun x_15 ex_15 => ?_)
  have bx_15 := i_and 6 ex_15 (by decide) (by decide)
  exact hQ _ _ _ _ _ _ hw rfl rfl dJ6_bitCount_0f7a4_52
set_option maxHeartbeats 4000000 in
set_option maxRecDepth 100000 in
theorem s_X6_knownBy (l : Launch) (D : va_G) (A : Nat → Nat → Nat) (cy : Nat → ClassId) (hJ : ti_inj ti_LT A) (M : ti_M) (hI : cI Tc M)  : ti_Ki l yX6_knownBy cX6_knownBy 1 (some .int) 0 ti_LT D A cy M [.ref (A 50 0)] (fun r M2 => M2 = M ∧ 0 ≤ r.toInt ∧ r.toInt ≤ 24) := by
  refine ti_eI yp_X6_knownBy hJ ti_LT_nd (Nat.le_of_ble_eq_true rfl) ?_
  intro p e s m args below meth c Q H0 C hQ hw ls hl
  have hx := C.1
  have hb := C.2.1
  have hl : lv_has ls 1 [(0, .ref (A 50 0))] := hl
  refine lv_aload_n hx hb dX6_knownBy_0 rfl (lv_at hl 0 rfl) ?_
  refine ti_get (ci := 6) (k := 6) (N := 13) (T := TX6) C hw iw_6 rfl ob_50 (by decide) (by decide) fl_X6_31 rfl rfl dX6_knownBy_1 ?_
  refine lv_topi (fun x_1 ex_1 => ?_)
  have bx_1 : (-1) ≤ x_1.toInt ∧ x_1.toInt ≤ 24 := cI_rd hI ob_50.1 ex_1
  have ux_1 : (tI M 50 6).toInt = x_1.toInt := by rw [ex_1]
  refine lv_iconst (v := (-1)) hx hb dX6_knownBy_4 (by decide) ?_
  refine sb_icmp_ne (tgt := 15) hx hb rfl (by decide : ((-1) : Int32).toInt = (-1)) dX6_knownBy_5 (by decide) (fun c_5_1 => ?_) (fun c_5_1 => ?_)
  · refine lv_aload_n hx hb dX6_knownBy_15 rfl (lv_at hl 0 rfl) ?_
    refine ti_get (ci := 6) (k := 6) (N := 13) (T := TX6) C hw iw_6 rfl ob_50 (by decide) (by decide) fl_X6_31 rfl rfl dX6_knownBy_16 ?_
    refine ti_top (y := x_1) (ex_1.symm) ?_
    have u_4 : (tI M 50 6).toInt = (x_1 : Int32).toInt := by rw [(ex_1.symm)]
    exact hQ _ _ _ _ _ _ hw rfl (⟨rfl, by first | omega | decide, by first | omega | decide⟩) dX6_knownBy_19
  · refine lv_aload_n hx hb dX6_knownBy_8 rfl (lv_at hl 0 rfl) ?_
    refine ti_get (ci := 6) (k := 5) (N := 13) (T := TX6) C hw iw_6 rfl ob_50 (by decide) (by decide) fl_X6_28 rfl rfl dX6_knownBy_9 ?_
    refine lv_topi (fun x_3 ex_3 => ?_)
    have bx_3 : 0 ≤ x_3.toInt ∧ x_3.toInt ≤ 24 := cI_rd hI ob_50.1 ex_3
    have ux_3 : (tI M 50 5).toInt = x_3.toInt := by rw [ex_3]
    refine lv_goto (tgt := 19) hx hb dX6_knownBy_12 (by decide) ?_
    exact hQ _ _ _ _ _ _ hw rfl (⟨rfl, by first | omega | decide, by first | omega | decide⟩) dX6_knownBy_19
set_option maxHeartbeats 4000000 in
set_option maxRecDepth 100000 in
theorem s_X6_tells (l : Launch) (D : va_G) (A : Nat → Nat → Nat) (cy : Nat → ClassId) (hJ : ti_inj ti_LT A) (M : ti_M) (hI : cI Tc M) (sn : Int32) (h1 : 0 ≤ sn.toInt) (h2 : sn.toInt ≤ 23) : ti_Ki l yX6_tells cX6_tells 2 (some .boolean) 0 ti_LT D A cy M [.ref (A 50 0), .int sn] (fun r M2 => M2 = M) := by
  refine ti_eI yp_X6_tells hJ ti_LT_nd (Nat.le_of_ble_eq_true rfl) ?_
  intro p e s m args below meth c Q H0 C hQ hw ls hl
  have hx := C.1
  have hb := C.2.1
  have hl : lv_has ls 2 [(0, .ref (A 50 0)), (1, .int sn)] := hl
  refine lv_aload_n hx hb dX6_tells_0 rfl (lv_at hl 0 rfl) ?_
  refine ti_get (ci := 6) (k := 4) (N := 13) (T := TX6) C hw iw_6 rfl ob_50 (by decide) (by decide) fl_X6_24 rfl rfl dX6_tells_1 ?_
  refine lv_topi (fun x_1 ex_1 => ?_)
  refine lv_iload_n hx hb dX6_tells_4 rfl (lv_at hl 1 rfl) ?_
  refine lv_ishr hx hb dX6_tells_5 ?_
  refine lv_topi (fun x_2 ex_2 => ?_)
  refine lv_iconst (v := 1) hx hb dX6_tells_6 (by decide) ?_
  refine lv_iand hx hb dX6_tells_7 ?_
  refine lv_topi (fun x_3 ex_3 => ?_)
  have bx_3 := i_and 1 ex_3 (by decide) (by decide)
  have hj_25_6 : ∀  (H : Heap) (locs : List Loc) (ls : Array Slot), ti_H ti_LT D A cy H0 M H locs → lv_has ls 2 [(0, .ref (A 50 0)), (1, .int sn)] → W p l e (ti_rm 0) s m args below meth c H locs 0 0 Q (F0 m 25 ls []) := by
    intro  H locs ls  hw hl
    refine lv_iconst (v := 0) hx hb dX6_tells_25 (by decide) ?_
    exact hQ _ _ _ _ _ _ hw rfl rfl dX6_tells_26
  refine sb_if_ne (tgt := 25) hx hb rfl dX6_tells_8 (by decide) (fun c_8_3 => ?_) (fun c_8_3 => ?_)
  · exact hj_25_6  _ _ _  hw (lv_sub hl [0, 1] rfl)
  · refine lv_aload_n hx hb dX6_tells_11 rfl (lv_at hl 0 rfl) ?_
    refine ti_get (ci := 6) (k := 3) (N := 13) (T := TX6) (v := .ref (A 50 4)) C hw iw_6 rfl ob_50 (by decide) (by decide) fl_X6_21 rfl rfl dX6_tells_12 ?_
    refine lv_iload_n hx hb dX6_tells_15 rfl (lv_at hl 1 rfl) ?_
    refine ti_iald (ci := 6) (k := 3) (n := 24) C hw ob_50 (by decide) (fun _ _ => rfl) (vp_in_iff.mpr (by omega)) dX6_tells_16 ?_
    refine lv_topi (fun x_5 ex_5 => ?_)
    refine lv_iconst (v := (-1)) hx hb dX6_tells_17 (by decide) ?_
    refine sb_icmp_ne (tgt := 25) hx hb rfl (by decide : ((-1) : Int32).toInt = (-1)) dX6_tells_18 (by decide) (fun c_18_5 => ?_) (fun c_18_5 => ?_)
    · exact hj_25_6  _ _ _  hw (lv_sub hl [0, 1] rfl)
    · refine lv_iconst (v := 1) hx hb dX6_tells_21 (by decide) ?_
      refine lv_goto (tgt := 26) hx hb dX6_tells_22 (by decide) ?_
      exact hQ _ _ _ _ _ _ hw rfl rfl dX6_tells_26
set_option maxHeartbeats 4000000 in
set_option maxRecDepth 100000 in
theorem s_X6_lastMinute (l : Launch) (D : va_G) (A : Nat → Nat → Nat) (cy : Nat → ClassId) (hJ : ti_inj ti_LT A) (M : ti_M) (hI : cI Tc M)  : ti_Ki l yX6_lastMinute cX6_lastMinute 4 (some .int) 1 ti_LT D A cy M [.ref (A 50 0)] (fun r M2 => M2 = M ∧ (-1) ≤ r.toInt ∧ r.toInt ≤ 59) := by
  refine ti_eI yp_X6_lastMinute hJ ti_LT_nd (Nat.le_of_ble_eq_true rfl) ?_
  intro p e s m args below meth c Q H0 C hQ hw ls hl
  have hx := C.1
  have hb := C.2.1
  have hl : lv_has ls 4 [(0, .ref (A 50 0))] := hl
  refine lv_iconst (v := (-1)) hx hb dX6_lastMinute_0 (by decide) ?_
  refine lv_istore_n (lv' := [(1, .int (-1)), (0, .ref (A 50 0))]) hx hb dX6_lastMinute_1 rfl hl (by decide) rfl (fun ls hl => ?_)
  refine lv_aload_n hx hb dX6_lastMinute_2 rfl (lv_at hl 1 rfl) ?_
  refine ti_callVi (ci := 6) (av := []) C hw (s_X6_knownBy l D A cy hJ M hI ) ⟨ml_X6_98, ym_X6_knownBy, yv_X6_knownBy, yi_X6_knownBy, yc_X6_knownBy⟩ yd_X6_knownBy ob_50 (by decide) rfl rfl hl.1 (Nat.le_of_ble_eq_true rfl) ⟨by decide, by decide⟩ ⟨Nat.zero_le _, Nat.zero_le _⟩ dX6_lastMinute_3 (fun r_1 M_2 H locs hp_2 hw => ?_)
  obtain ⟨hm, b0r_1, b1r_1⟩ := hp_2
  have hw := hw.to hm
  refine lv_istore_n (lv' := [(2, .int r_1), (1, .int (-1)), (0, .ref (A 50 0))]) hx hb dX6_lastMinute_6 rfl hl (by decide) rfl (fun ls hl => ?_)
  refine lv_iconst (v := 0) hx hb dX6_lastMinute_7 (by decide) ?_
  refine lv_istore_n (lv' := [(3, .int 0), (2, .int r_1), (1, .int (-1)), (0, .ref (A 50 0))]) hx hb dX6_lastMinute_8 rfl hl (by decide) rfl (fun ls hl => ?_)
  have hl_9_8 : ∀ (n_9 : Nat) (x_3 : Int32) (x_6 : Int32) (H : Heap) (locs : List Loc) (ls : Array Slot), (24 - x_3.toInt : Int).toNat < n_9 → (0 ≤ x_3.toInt) → (x_3.toInt ≤ 24) → ((-1) ≤ x_6.toInt) → (x_6.toInt ≤ 59) → ti_H ti_LT D A cy H0 M H locs → lv_has ls 4 [(3, .int x_3), (2, .int r_1), (1, .int x_6), (0, .ref (A 50 0))] → W p l e (ti_rm 1) s m args below meth c H locs 0 0 Q (F0 m 9 ls []) := by
    intro n_9
    induction n_9 with
    | zero => intro x_3 x_6 H locs ls hf_9; exact absurd hf_9 (Nat.not_lt_zero _)
    | succ n_9 ih_9 =>
      intro x_3 x_6 H locs ls hf_9 b_4 b_5 b_7 b_8 hw hl
      refine lv_iload_n hx hb dX6_lastMinute_9 rfl (lv_at hl 0 rfl) ?_
      refine lv_iload_n hx hb dX6_lastMinute_10 rfl (lv_at hl 1 rfl) ?_
      refine sb_icmp_ge (tgt := 39) hx hb rfl rfl dX6_lastMinute_11 (by decide) (fun c_11_9 => ?_) (fun c_11_9 => ?_)
      · refine lv_iload_n hx hb dX6_lastMinute_39 rfl (lv_at hl 2 rfl) ?_
        exact hQ _ _ _ _ _ _ hw rfl (⟨rfl, by first | omega | decide, by first | omega | decide⟩) dX6_lastMinute_40
      · refine lv_aload_n hx hb dX6_lastMinute_14 rfl (lv_at hl 3 rfl) ?_
        refine lv_iload_n hx hb dX6_lastMinute_15 rfl (lv_at hl 0 rfl) ?_
        refine ti_callVi (ci := 6) (av := [.int x_3]) C hw (s_X6_tells l D A cy hJ M hI x_3 (by first | omega | decide) (by first | omega | decide)) ⟨ml_X6_101, ym_X6_tells, yv_X6_tells, yi_X6_tells, yc_X6_tells⟩ yd_X6_tells ob_50 (by decide) rfl rfl hl.1 (Nat.le_of_ble_eq_true rfl) ⟨by decide, by decide⟩ ⟨Nat.zero_le _, Nat.zero_le _⟩ dX6_lastMinute_16 (fun r_11 M_12 H locs hp_12 hw => ?_)
        have hm := hp_12
        have hw := hw.to hm
        have hj_33_18 : ∀ (x_16 : Int32) (H : Heap) (locs : List Loc) (ls : Array Slot), ((-1) ≤ x_16.toInt) → (x_16.toInt ≤ 59) → ti_H ti_LT D A cy H0 M H locs → lv_has ls 4 [(3, .int x_3), (2, .int r_1), (1, .int x_16), (0, .ref (A 50 0))] → W p l e (ti_rm 1) s m args below meth c H locs 0 0 Q (F0 m 33 ls []) := by
          intro x_16 H locs ls b_17 b_18 hw hl
          obtain ⟨x_19, ex_19⟩ : ∃ z : Int32, z = x_3 + 1 := ⟨_, rfl⟩
          have tx_19 : x_19.toInt = x_3.toInt + 1 := i_add ex_19 rfl (by decide) (by omega) (by omega)
          refine lv_iinc (v := x_19) (lv' := [(3, .int x_19), (2, .int r_1), (1, .int x_16), (0, .ref (A 50 0))]) hx hb dX6_lastMinute_33 hl (k := 0) rfl (by rw [ex_19]; rfl) (by decide) rfl (fun ls hl => ?_)
          refine lv_goto (tgt := 9) hx hb dX6_lastMinute_36 (by decide) ?_
          exact ih_9 x_19 x_16 _ _ _ (by omega) (by first | omega | decide) (by first | omega | decide) (by first | omega | decide) (by first | omega | decide) hw (lv_sub hl [0, 1, 2, 3] rfl)
        refine sb_if_eq (tgt := 33) hx hb rfl dX6_lastMinute_19 (by decide) (fun c_19_12 => ?_) (fun c_19_12 => ?_)
        · exact hj_33_18 x_6 _ _ _ (by first | omega | decide) (by first | omega | decide) hw (lv_sub hl [0, 1, 2, 3] rfl)
        · refine lv_iload_n hx hb dX6_lastMinute_22 rfl (lv_at hl 2 rfl) ?_
          refine lv_aload_n hx hb dX6_lastMinute_23 rfl (lv_at hl 3 rfl) ?_
          refine ti_get (ci := 6) (k := 0) (N := 13) (T := TX6) (v := .ref (A 50 1)) C hw iw_6 rfl ob_50 (by decide) (by decide) fl_X6_9 rfl rfl dX6_lastMinute_24 ?_
          refine lv_iload_n hx hb dX6_lastMinute_27 rfl (lv_at hl 0 rfl) ?_
          refine ti_iald (ci := 6) (k := 0) (n := 24) C hw ob_50 (by decide) (fun _ _ => rfl) (vp_in_iff.mpr (by omega)) dX6_lastMinute_28 ?_
          refine lv_topi (fun x_14 ex_14 => ?_)
          have bx_14 : 0 ≤ x_14.toInt ∧ x_14.toInt ≤ 59 := cI_ry hI ob_50.1 ex_14
          refine ti_max C ml_X6_104 hl.1 (by decide) (Nat.le_of_ble_eq_true rfl) ⟨Nat.zero_le _, Nat.zero_le _⟩ dX6_lastMinute_29 ?_
          refine lv_topi (fun x_15 ex_15 => ?_)
          have bx_15 := i_max ex_15 rfl rfl
          refine lv_istore_n (lv' := [(1, .int x_15), (3, .int x_3), (2, .int r_1), (0, .ref (A 50 0))]) hx hb dX6_lastMinute_32 rfl hl (by decide) rfl (fun ls hl => ?_)
          exact hj_33_18 x_15 _ _ _ (by first | omega | decide) (by first | omega | decide) hw (lv_sub hl [1, 2, 0, 3] rfl)
  exact hl_9_8 ((24 - 0 : Int).toNat + 1) 0 (-1) _ _ _ (Nat.lt_succ_self _) (by have lt0 : ((-1) : Int32).toInt = (-1) := (by decide); have lt1 : (0 : Int32).toInt = 0 := (by decide); first | omega | decide) (by have lt0 : ((-1) : Int32).toInt = (-1) := (by decide); have lt1 : (0 : Int32).toInt = 0 := (by decide); first | omega | decide) (by have lt0 : ((-1) : Int32).toInt = (-1) := (by decide); have lt1 : (0 : Int32).toInt = 0 := (by decide); first | omega | decide) (by have lt0 : ((-1) : Int32).toInt = (-1) := (by decide); have lt1 : (0 : Int32).toInt = 0 := (by decide); first | omega | decide) hw (lv_sub hl [0, 1, 2, 3] rfl)
set_option maxHeartbeats 4000000 in
set_option maxRecDepth 100000 in
theorem s_X6_fitsBehindLast (l : Launch) (D : va_G) (A : Nat → Nat → Nat) (cy : Nat → ClassId) (hJ : ti_inj ti_LT A) (M : ti_M) (hI : cI Tc M) (q : Nat) (hq : ti_ob ti_LT q 3) : ti_Ki l yX6_fitsBehindLast cX6_fitsBehindLast 4 (some .boolean) 1 ti_LT D A cy M [.ref (A 50 0), .ref (A q 0)] (fun r M2 => M2 = M) := by
  refine ti_eI yp_X6_fitsBehindLast hJ ti_LT_nd (Nat.le_of_ble_eq_true rfl) ?_
  intro p e s m args below meth c Q H0 C hQ hw ls hl
  have hx := C.1
  have hb := C.2.1
  have hl : lv_has ls 4 [(0, .ref (A 50 0)), (1, .ref (A q 0))] := hl
  refine lv_aload_n hx hb dX6_fitsBehindLast_0 rfl (lv_at hl 0 rfl) ?_
  refine ti_callVi (ci := 6) (av := []) C hw (s_X6_knownBy l D A cy hJ M hI ) ⟨ml_X6_98, ym_X6_knownBy, yv_X6_knownBy, yi_X6_knownBy, yc_X6_knownBy⟩ yd_X6_knownBy ob_50 (by decide) rfl rfl hl.1 (Nat.le_of_ble_eq_true rfl) ⟨by decide, by decide⟩ ⟨Nat.zero_le _, Nat.zero_le _⟩ dX6_fitsBehindLast_1 (fun r_1 M_2 H locs hp_2 hw => ?_)
  obtain ⟨hm, b0r_1, b1r_1⟩ := hp_2
  have hw := hw.to hm
  refine lv_istore_n (lv' := [(2, .int r_1), (0, .ref (A 50 0)), (1, .ref (A q 0))]) hx hb dX6_fitsBehindLast_4 rfl hl (by decide) rfl (fun ls hl => ?_)
  refine lv_iconst (v := 0) hx hb dX6_fitsBehindLast_5 (by decide) ?_
  refine lv_istore_n (lv' := [(3, .int 0), (2, .int r_1), (0, .ref (A 50 0)), (1, .ref (A q 0))]) hx hb dX6_fitsBehindLast_6 rfl hl (by decide) rfl (fun ls hl => ?_)
  have hl_7_5 : ∀ (n_6 : Nat) (x_3 : Int32) (H : Heap) (locs : List Loc) (ls : Array Slot), (24 - x_3.toInt : Int).toNat < n_6 → (0 ≤ x_3.toInt) → (x_3.toInt ≤ 24) → ti_H ti_LT D A cy H0 M H locs → lv_has ls 4 [(3, .int x_3), (2, .int r_1), (0, .ref (A 50 0)), (1, .ref (A q 0))] → W p l e (ti_rm 1) s m args below meth c H locs 0 0 Q (F0 m 7 ls []) := by
    intro n_6
    induction n_6 with
    | zero => intro x_3 H locs ls hf_6; exact absurd hf_6 (Nat.not_lt_zero _)
    | succ n_6 ih_6 =>
      intro x_3 H locs ls hf_6 b_4 b_5 hw hl
      refine lv_iload_n hx hb dX6_fitsBehindLast_7 rfl (lv_at hl 0 rfl) ?_
      refine lv_iload_n hx hb dX6_fitsBehindLast_8 rfl (lv_at hl 1 rfl) ?_
      refine sb_icmp_ge (tgt := 62) hx hb rfl rfl dX6_fitsBehindLast_9 (by decide) (fun c_9_6 => ?_) (fun c_9_6 => ?_)
      · refine lv_iconst (v := 1) hx hb dX6_fitsBehindLast_62 (by decide) ?_
        exact hQ _ _ _ _ _ _ hw rfl rfl dX6_fitsBehindLast_63
      · refine lv_aload_n hx hb dX6_fitsBehindLast_12 rfl (lv_at hl 2 rfl) ?_
        refine lv_iload_n hx hb dX6_fitsBehindLast_13 rfl (lv_at hl 0 rfl) ?_
        refine ti_callVi (ci := 6) (av := [.int x_3]) C hw (s_X6_tells l D A cy hJ M hI x_3 (by first | omega | decide) (by first | omega | decide)) ⟨ml_X6_101, ym_X6_tells, yv_X6_tells, yi_X6_tells, yc_X6_tells⟩ yd_X6_tells ob_50 (by decide) rfl rfl hl.1 (Nat.le_of_ble_eq_true rfl) ⟨by decide, by decide⟩ ⟨Nat.zero_le _, Nat.zero_le _⟩ dX6_fitsBehindLast_14 (fun r_8 M_9 H locs hp_9 hw => ?_)
        have hm := hp_9
        have hw := hw.to hm
        have hj_56_19 : ∀  (H : Heap) (locs : List Loc) (ls : Array Slot), ti_H ti_LT D A cy H0 M H locs → lv_has ls 4 [(3, .int x_3), (2, .int r_1), (0, .ref (A 50 0)), (1, .ref (A q 0))] → W p l e (ti_rm 1) s m args below meth c H locs 0 0 Q (F0 m 56 ls []) := by
          intro  H locs ls  hw hl
          obtain ⟨x_20, ex_20⟩ : ∃ z : Int32, z = x_3 + 1 := ⟨_, rfl⟩
          have tx_20 : x_20.toInt = x_3.toInt + 1 := i_add ex_20 rfl (by decide) (by omega) (by omega)
          refine lv_iinc (v := x_20) (lv' := [(3, .int x_20), (2, .int r_1), (0, .ref (A 50 0)), (1, .ref (A q 0))]) hx hb dX6_fitsBehindLast_56 hl (k := 0) rfl (by rw [ex_20]; rfl) (by decide) rfl (fun ls hl => ?_)
          refine lv_goto (tgt := 7) hx hb dX6_fitsBehindLast_59 (by decide) ?_
          exact ih_6 x_20 _ _ _ (by omega) (by first | omega | decide) (by first | omega | decide) hw (lv_sub hl [0, 1, 2, 3] rfl)
        refine sb_if_eq (tgt := 56) hx hb rfl dX6_fitsBehindLast_17 (by decide) (fun c_17_9 => ?_) (fun c_17_9 => ?_)
        · exact hj_56_19  _ _ _  hw (lv_sub hl [0, 1, 2, 3] rfl)
        · refine lv_aload_n hx hb dX6_fitsBehindLast_20 rfl (lv_at hl 2 rfl) ?_
          refine ti_get (ci := 6) (k := 0) (N := 13) (T := TX6) (v := .ref (A 50 1)) C hw iw_6 rfl ob_50 (by decide) (by decide) fl_X6_9 rfl rfl dX6_fitsBehindLast_21 ?_
          refine lv_iload_n hx hb dX6_fitsBehindLast_24 rfl (lv_at hl 0 rfl) ?_
          refine ti_iald (ci := 6) (k := 0) (n := 24) C hw ob_50 (by decide) (fun _ _ => rfl) (vp_in_iff.mpr (by omega)) dX6_fitsBehindLast_25 ?_
          refine lv_topi (fun x_11 ex_11 => ?_)
          have bx_11 : 0 ≤ x_11.toInt ∧ x_11.toInt ≤ 59 := cI_ry hI ob_50.1 ex_11
          refine lv_aload_n hx hb dX6_fitsBehindLast_26 rfl (lv_at hl 3 rfl) ?_
          refine ti_get (ci := 3) (k := 2) (N := 17) (T := TX3) C hw iw_3 rfl hq (by decide) (by decide) fl_X6_110 rfl rfl dX6_fitsBehindLast_27 ?_
          refine lv_topi (fun x_12 ex_12 => ?_)
          refine lv_iconst (v := 1) hx hb dX6_fitsBehindLast_30 (by decide) ?_
          refine lv_isub hx hb dX6_fitsBehindLast_31 ?_
          refine lv_topi (fun x_13 ex_13 => ?_)
          refine sb_icmp_ne (tgt := 56) hx hb rfl rfl dX6_fitsBehindLast_32 (by decide) (fun c_32_13 => ?_) (fun c_32_13 => ?_)
          · exact hj_56_19  _ _ _  hw (lv_sub hl [0, 1, 2, 3] rfl)
          · refine lv_aload_n hx hb dX6_fitsBehindLast_35 rfl (lv_at hl 3 rfl) ?_
            refine lv_aload_n hx hb dX6_fitsBehindLast_36 rfl (lv_at hl 2 rfl) ?_
            refine ti_get (ci := 6) (k := 1) (N := 13) (T := TX6) (v := .ref (A 50 2)) C hw iw_6 rfl ob_50 (by decide) (by decide) fl_X6_15 rfl rfl dX6_fitsBehindLast_37 ?_
            refine lv_iload_n hx hb dX6_fitsBehindLast_40 rfl (lv_at hl 0 rfl) ?_
            refine ti_iald (ci := 6) (k := 1) (n := 24) C hw ob_50 (by decide) (fun _ _ => rfl) (vp_in_iff.mpr (by omega)) dX6_fitsBehindLast_41 ?_
            refine lv_topi (fun x_15 ex_15 => ?_)
            refine ti_callVi (ci := 3) (av := [.int x_15]) C hw (s_X3_manAt l D A cy hJ M hI q hq x_15) ⟨ml_X6_113, ym_X3_manAt, yv_X3_manAt, yi_X3_manAt, yc_X3_manAt⟩ yd_X3_manAt hq (by decide) rfl rfl hl.1 (Nat.le_of_ble_eq_true rfl) ⟨by decide, by decide⟩ ⟨Nat.zero_le _, Nat.zero_le _⟩ dX6_fitsBehindLast_42 (fun r_16 M_17 H locs hp_17 hw => ?_)
            obtain ⟨hm, b0r_16, b1r_16, p0r_16⟩ := hp_17
            have hw := hw.to hm
            refine lv_aload_n hx hb dX6_fitsBehindLast_45 rfl (lv_at hl 2 rfl) ?_
            refine ti_get (ci := 6) (k := 2) (N := 13) (T := TX6) (v := .ref (A 50 3)) C hw iw_6 rfl ob_50 (by decide) (by decide) fl_X6_18 rfl rfl dX6_fitsBehindLast_46 ?_
            refine lv_iload_n hx hb dX6_fitsBehindLast_49 rfl (lv_at hl 0 rfl) ?_
            refine ti_iald (ci := 6) (k := 2) (n := 24) C hw ob_50 (by decide) (fun _ _ => rfl) (vp_in_iff.mpr (by omega)) dX6_fitsBehindLast_50 ?_
            refine lv_topi (fun x_18 ex_18 => ?_)
            refine sb_icmp_eq (tgt := 56) hx hb rfl rfl dX6_fitsBehindLast_51 (by decide) (fun c_51_18 => ?_) (fun c_51_18 => ?_)
            · exact hj_56_19  _ _ _  hw (lv_sub hl [0, 1, 2, 3] rfl)
            · refine lv_iconst (v := 0) hx hb dX6_fitsBehindLast_54 (by decide) ?_
              exact hQ _ _ _ _ _ _ hw rfl rfl dX6_fitsBehindLast_55
  exact hl_7_5 ((24 - 0 : Int).toNat + 1) 0 _ _ _ (Nat.lt_succ_self _) (by have lt0 : (0 : Int32).toInt = 0 := (by decide); first | omega | decide) (by have lt0 : (0 : Int32).toInt = 0 := (by decide); first | omega | decide) hw (lv_sub hl [0, 1, 2, 3] rfl)
set_option maxHeartbeats 4000000 in
set_option maxRecDepth 100000 in
theorem s_X0_price (l : Launch) (D : va_G) (A : Nat → Nat → Nat) (cy : Nat → ClassId) (hJ : ti_inj ti_LT A) (M : ti_M) (hI : cI Tc M) (t : Nat) (ht : t = 3 ∨ t = 4) (mn : Int32) : ti_Ki l yX0_price cX0_price 4 (some .int) 0 ti_LT D A cy M [.ref (A t 0), .int mn] (fun r M2 => M2 = M) := by
  refine ti_eI yp_X0_price hJ ti_LT_nd (Nat.le_of_ble_eq_true rfl) ?_
  intro p e s m args below meth c Q H0 C hQ hw ls hl
  have hx := C.1
  have hb := C.2.1
  have hl : lv_has ls 4 [(0, .ref (A t 0)), (1, .int mn)] := hl
  refine lv_iconst (v := 0) hx hb dX0_price_0 (by decide) ?_
  refine lv_istore_n (lv' := [(2, .int 0), (0, .ref (A t 0)), (1, .int mn)]) hx hb dX0_price_1 rfl hl (by decide) rfl (fun ls hl => ?_)
  refine lv_iconst (v := 0) hx hb dX0_price_2 (by decide) ?_
  refine lv_istore_n (lv' := [(3, .int 0), (2, .int 0), (0, .ref (A t 0)), (1, .int mn)]) hx hb dX0_price_3 rfl hl (by decide) rfl (fun ls hl => ?_)
  have hl_4_4 : ∀ (n_5 : Nat) (x_1 : Int32) (x_4 : Int32) (H : Heap) (locs : List Loc) (ls : Array Slot), (8 - x_1.toInt : Int).toNat < n_5 → (0 ≤ x_1.toInt) → (x_1.toInt ≤ 8) → ti_H ti_LT D A cy H0 M H locs → lv_has ls 4 [(3, .int x_1), (2, .int x_4), (0, .ref (A t 0)), (1, .int mn)] → W p l e (ti_rm 0) s m args below meth c H locs 0 0 Q (F0 m 4 ls []) := by
    intro n_5
    induction n_5 with
    | zero => intro x_1 x_4 H locs ls hf_5; exact absurd hf_5 (Nat.not_lt_zero _)
    | succ n_5 ih_5 =>
      intro x_1 x_4 H locs ls hf_5 b_2 b_3 hw hl
      refine lv_iload_n hx hb dX0_price_4 rfl (lv_at hl 0 rfl) ?_
      refine lv_aload_n hx hb dX0_price_5 rfl (lv_at hl 2 rfl) ?_
      refine ti_get (ci := 8) (k := 4) (N := 12) (T := TX8) C hw iw_8 rfl (ob_t ht) (by decide) (by decide) fl_X0_106 rfl rfl dX0_price_6 ?_
      refine lv_topi (fun x_6 ex_6 => ?_)
      have bx_6 : 0 ≤ x_6.toInt ∧ x_6.toInt ≤ 8 := cI_rd hI (ob_t ht).1 ex_6
      have ux_6 : (tI M t 4).toInt = x_6.toInt := by rw [ex_6]
      refine sb_icmp_ge (tgt := 38) hx hb rfl rfl dX0_price_9 (by decide) (fun c_9_6 => ?_) (fun c_9_6 => ?_)
      · refine lv_iload_n hx hb dX0_price_38 rfl (lv_at hl 1 rfl) ?_
        exact hQ _ _ _ _ _ _ hw rfl rfl dX0_price_39
      · refine lv_iload_n hx hb dX0_price_12 rfl (lv_at hl 3 rfl) ?_
        refine lv_iload_n hx hb dX0_price_13 rfl (lv_at hl 0 rfl) ?_
        refine lv_ishr hx hb dX0_price_14 ?_
        refine lv_topi (fun x_8 ex_8 => ?_)
        refine lv_iconst (v := 1) hx hb dX0_price_15 (by decide) ?_
        refine lv_iand hx hb dX0_price_16 ?_
        refine lv_topi (fun x_9 ex_9 => ?_)
        have bx_9 := i_and 1 ex_9 (by decide) (by decide)
        have hj_32_14 : ∀ (x_14 : Int32) (H : Heap) (locs : List Loc) (ls : Array Slot), ti_H ti_LT D A cy H0 M H locs → lv_has ls 4 [(3, .int x_1), (2, .int x_14), (0, .ref (A t 0)), (1, .int mn)] → W p l e (ti_rm 0) s m args below meth c H locs 0 0 Q (F0 m 32 ls []) := by
          intro x_14 H locs ls  hw hl
          obtain ⟨x_15, ex_15⟩ : ∃ z : Int32, z = x_1 + 1 := ⟨_, rfl⟩
          have tx_15 : x_15.toInt = x_1.toInt + 1 := i_add ex_15 rfl (by decide) (by omega) (by omega)
          refine lv_iinc (v := x_15) (lv' := [(3, .int x_15), (2, .int x_14), (0, .ref (A t 0)), (1, .int mn)]) hx hb dX0_price_32 hl (k := 0) rfl (by rw [ex_15]; rfl) (by decide) rfl (fun ls hl => ?_)
          refine lv_goto (tgt := 4) hx hb dX0_price_35 (by decide) ?_
          exact ih_5 x_15 x_14 _ _ _ (by omega) (by first | omega | decide) (by first | omega | decide) hw (lv_sub hl [0, 1, 2, 3] rfl)
        refine sb_if_eq (tgt := 32) hx hb rfl dX0_price_17 (by decide) (fun c_17_9 => ?_) (fun c_17_9 => ?_)
        · exact hj_32_14 x_4 _ _ _  hw (lv_sub hl [0, 1, 2, 3] rfl)
        · refine lv_iload_n hx hb dX0_price_20 rfl (lv_at hl 1 rfl) ?_
          refine lv_aload_n hx hb dX0_price_21 rfl (lv_at hl 2 rfl) ?_
          refine ti_get (ci := 8) (k := 0) (N := 12) (T := TX8) (v := .ref (A t 1)) C hw iw_8 rfl (ob_t ht) (by decide) (by decide) fl_X0_84 rfl rfl dX0_price_22 ?_
          refine lv_iload_n hx hb dX0_price_25 rfl (lv_at hl 0 rfl) ?_
          refine ti_aald (ci := 8) (k := 0) (n := 8) (t0 := 5) (Cn := RX2) (gg := (ti_men t)) (j := x_1.toNatClampNeg) C hw (ob_t ht) (by decide) (fun _ _ => rfl) rfl (vp_in_iff.mpr (by omega)) rfl dX0_price_26 ?_
          have ob_11 : ti_ob ti_LT (ti_men t x_1.toNatClampNeg) 2 := ob_m ht (i_nt rfl (by omega) (by omega))
          refine ti_get (ci := 2) (k := 6) (N := 10) (T := TX2) C hw iw_2 rfl ob_11 (by decide) (by decide) fl_X0_109 rfl rfl dX0_price_27 ?_
          refine lv_topi (fun x_12 ex_12 => ?_)
          refine lv_iadd hx hb dX0_price_30 ?_
          refine lv_topi (fun x_13 ex_13 => ?_)
          refine lv_istore_n (lv' := [(2, .int x_13), (3, .int x_1), (0, .ref (A t 0)), (1, .int mn)]) hx hb dX0_price_31 rfl hl (by decide) rfl (fun ls hl => ?_)
          exact hj_32_14 x_13 _ _ _  hw (lv_sub hl [1, 0, 2, 3] rfl)
  exact hl_4_4 ((8 - 0 : Int).toNat + 1) 0 0 _ _ _ (Nat.lt_succ_self _) (by have lt0 : (0 : Int32).toInt = 0 := (by decide); first | omega | decide) (by have lt0 : (0 : Int32).toInt = 0 := (by decide); first | omega | decide) hw (lv_sub hl [0, 1, 2, 3] rfl)
set_option maxHeartbeats 4000000 in
set_option maxRecDepth 100000 in
theorem s_X0_bribes (l : Launch) (D : va_G) (A : Nat → Nat → Nat) (cy : Nat → ClassId) (hJ : ti_inj ti_LT A) (M : ti_M) (hI : cI Tc M) (t : Nat) (ht : t = 3 ∨ t = 4) (hT : tT M 27 0 = some t) (kk mm wh : Int32) : ti_Ki l yX0_bribes cX0_bribes 12 (some .int) 2 ti_LT D A cy M [.ref (A 53 0), .ref (A 27 0), .int kk, .int mm, .int wh] (fun r M2 => M2 = M) := by
  refine ti_eI yp_X0_bribes hJ ti_LT_nd (Nat.le_of_ble_eq_true rfl) ?_
  intro p e s m args below meth c Q H0 C hQ hw ls hl
  have hx := C.1
  have hb := C.2.1
  have hl : lv_has ls 12 [(0, .ref (A 53 0)), (1, .ref (A 27 0)), (2, .int kk), (3, .int mm), (4, .int wh)] := hl
  refine lv_iload_n hx hb dX0_bribes_0 rfl (lv_at hl 2 rfl) ?_
  refine lv_aload_n hx hb dX0_bribes_1 rfl (lv_at hl 1 rfl) ?_
  refine ti_get (ci := 3) (k := 3) (N := 17) (T := TX3) C hw iw_3 rfl ob_27 (by decide) (by decide) fl_X0_68 rfl rfl dX0_bribes_2 ?_
  refine lv_topi (fun x_1 ex_1 => ?_)
  have bx_1 : 0 ≤ x_1.toInt ∧ x_1.toInt ≤ 8 := cI_rd hI ob_27.1 ex_1
  have ux_1 : (tI M 27 3).toInt = x_1.toInt := by rw [ex_1]
  refine ti_min C ml_X0_71 hl.1 (by decide) (Nat.le_of_ble_eq_true rfl) ⟨Nat.zero_le _, Nat.zero_le _⟩ dX0_bribes_5 ?_
  refine lv_topi (fun x_2 ex_2 => ?_)
  have bx_2 := i_min ex_2 rfl rfl
  refine lv_istore (lv' := [(5, .int x_2), (0, .ref (A 53 0)), (1, .ref (A 27 0)), (2, .int kk), (3, .int mm), (4, .int wh)]) hx hb dX0_bribes_8 hl (by decide) rfl (fun ls hl => ?_)
  refine lv_iload hx hb dX0_bribes_10 (lv_at hl 0 rfl) ?_
  refine lv_iload_n hx hb dX0_bribes_12 rfl (lv_at hl 4 rfl) ?_
  refine sb_icmp_ge (tgt := 19) hx hb rfl rfl dX0_bribes_13 (by decide) (fun c_13_2 => ?_) (fun c_13_2 => ?_)
  · refine lv_iconst (v := 0) hx hb dX0_bribes_19 (by decide) ?_
    refine lv_istore (lv' := [(6, .int 0), (5, .int x_2), (0, .ref (A 53 0)), (1, .ref (A 27 0)), (2, .int kk), (3, .int mm), (4, .int wh)]) hx hb dX0_bribes_20 hl (by decide) rfl (fun ls hl => ?_)
    refine lv_iconst (v := 0) hx hb dX0_bribes_22 (by decide) ?_
    refine lv_istore (lv' := [(7, .int 0), (6, .int 0), (5, .int x_2), (0, .ref (A 53 0)), (1, .ref (A 27 0)), (2, .int kk), (3, .int mm), (4, .int wh)]) hx hb dX0_bribes_23 hl (by decide) rfl (fun ls hl => ?_)
    have hl_25_7 : ∀ (n_8 : Nat) (x_4 : Int32) (x_7 : Int32) (H : Heap) (locs : List Loc) (ls : Array Slot), (8 - x_4.toInt : Int).toNat < n_8 → (0 ≤ x_4.toInt) → (x_4.toInt ≤ 8) → ti_H ti_LT D A cy H0 M H locs → lv_has ls 12 [(7, .int x_4), (6, .int x_7), (5, .int x_2), (0, .ref (A 53 0)), (1, .ref (A 27 0)), (2, .int kk), (3, .int mm), (4, .int wh)] → W p l e (ti_rm 2) s m args below meth c H locs 0 0 Q (F0 m 25 ls []) := by
      intro n_8
      induction n_8 with
      | zero => intro x_4 x_7 H locs ls hf_8; exact absurd hf_8 (Nat.not_lt_zero _)
      | succ n_8 ih_8 =>
        intro x_4 x_7 H locs ls hf_8 b_5 b_6 hw hl
        refine lv_iload hx hb dX0_bribes_25 (lv_at hl 0 rfl) ?_
        refine lv_iload hx hb dX0_bribes_27 (lv_at hl 2 rfl) ?_
        refine sb_icmp_ge (tgt := 76) hx hb rfl rfl dX0_bribes_29 (by decide) (fun c_29_8 => ?_) (fun c_29_8 => ?_)
        · refine lv_iload_n hx hb dX0_bribes_76 rfl (lv_at hl 6 rfl) ?_
          refine lv_iload hx hb dX0_bribes_77 (lv_at hl 2 rfl) ?_
          refine lv_iload hx hb dX0_bribes_79 (lv_at hl 1 rfl) ?_
          refine ti_callSi (av := [.int x_7]) C hw (s_J6_bitCount_0f7a4 l D A cy hJ M hI x_7) ⟨ml_X0_96, ys_J6_bitCount_0f7a4, yi_J6_bitCount_0f7a4, yc_J6_bitCount_0f7a4⟩ yd_J6_bitCount_0f7a4 rfl hl.1 (Nat.le_of_ble_eq_true rfl) ⟨by decide, by decide⟩ ⟨Nat.zero_le _, Nat.zero_le _⟩ dX0_bribes_81 (fun r_18 M_19 H locs hp_19 hw => ?_)
          have hm := hp_19
          have hw := hw.to hm
          refine lv_isub hx hb dX0_bribes_84 ?_
          refine lv_topi (fun x_20 ex_20 => ?_)
          refine lv_isub hx hb dX0_bribes_85 ?_
          refine lv_topi (fun x_21 ex_21 => ?_)
          refine lv_istore (lv' := [(7, .int x_21), (6, .int x_7), (5, .int x_2), (0, .ref (A 53 0)), (1, .ref (A 27 0)), (2, .int kk), (3, .int mm), (4, .int wh)]) hx hb dX0_bribes_86 hl (by decide) rfl (fun ls hl => ?_)
          refine lv_ldc (v := 2147483647) hx hb C.2.2.2.1 (C.2.2.1 _ cn_X0_101) dX0_bribes_88 ?_
          refine lv_istore (lv' := [(8, .int 2147483647), (7, .int x_21), (6, .int x_7), (5, .int x_2), (0, .ref (A 53 0)), (1, .ref (A 27 0)), (2, .int kk), (3, .int mm), (4, .int wh)]) hx hb dX0_bribes_90 hl (by decide) rfl (fun ls hl => ?_)
          refine lv_iconst (v := 0) hx hb dX0_bribes_92 (by decide) ?_
          refine lv_istore (lv' := [(9, .int 0), (8, .int 2147483647), (7, .int x_21), (6, .int x_7), (5, .int x_2), (0, .ref (A 53 0)), (1, .ref (A 27 0)), (2, .int kk), (3, .int mm), (4, .int wh)]) hx hb dX0_bribes_93 hl (by decide) rfl (fun ls hl => ?_)
          refine lv_iconst (v := 0) hx hb dX0_bribes_95 (by decide) ?_
          refine lv_istore (lv' := [(10, .int 0), (9, .int 0), (8, .int 2147483647), (7, .int x_21), (6, .int x_7), (5, .int x_2), (0, .ref (A 53 0)), (1, .ref (A 27 0)), (2, .int kk), (3, .int mm), (4, .int wh)]) hx hb dX0_bribes_96 hl (by decide) rfl (fun ls hl => ?_)
          have hl_98_26 : ∀ (n_27 : Nat) (x_22 : Int32) (x_25 : Int32) (x_26 : Int32) (H : Heap) (locs : List Loc) (ls : Array Slot), (256 - x_22.toInt : Int).toNat < n_27 → (0 ≤ x_22.toInt) → (x_22.toInt ≤ 256) → ti_H ti_LT D A cy H0 M H locs → lv_has ls 12 [(10, .int x_22), (9, .int x_25), (8, .int x_26), (7, .int x_21), (6, .int x_7), (5, .int x_2), (0, .ref (A 53 0)), (1, .ref (A 27 0)), (2, .int kk), (3, .int mm), (4, .int wh)] → W p l e (ti_rm 2) s m args below meth c H locs 0 0 Q (F0 m 98 ls []) := by
            intro n_27
            induction n_27 with
            | zero => intro x_22 x_25 x_26 H locs ls hf_27; exact absurd hf_27 (Nat.not_lt_zero _)
            | succ n_27 ih_27 =>
              intro x_22 x_25 x_26 H locs ls hf_27 b_23 b_24 hw hl
              refine lv_iload hx hb dX0_bribes_98 (lv_at hl 0 rfl) ?_
              refine lv_sipush (v := 256) hx hb dX0_bribes_100 (by decide) ?_
              refine sb_icmp_ge (tgt := 158) hx hb rfl (by decide : (256 : Int32).toInt = 256) dX0_bribes_103 (by decide) (fun c_103_27 => ?_) (fun c_103_27 => ?_)
              · refine lv_iload hx hb dX0_bribes_158 (lv_at hl 10 rfl) ?_
                refine sb_if_ne (tgt := 168) hx hb rfl dX0_bribes_160 (by decide) (fun c_160_40 => ?_) (fun c_160_40 => ?_)
                · refine lv_iload hx hb dX0_bribes_168 (lv_at hl 1 rfl) ?_
                  exact hQ _ _ _ _ _ _ hw rfl rfl dX0_bribes_170
                · refine lv_iload hx hb dX0_bribes_163 (lv_at hl 2 rfl) ?_
                  refine lv_goto (tgt := 170) hx hb dX0_bribes_165 (by decide) ?_
                  exact hQ _ _ _ _ _ _ hw rfl rfl dX0_bribes_170
              · refine lv_iload hx hb dX0_bribes_106 (lv_at hl 0 rfl) ?_
                refine lv_iload hx hb dX0_bribes_108 (lv_at hl 4 rfl) ?_
                refine lv_iconst (v := (-1)) hx hb dX0_bribes_110 (by decide) ?_
                refine lv_ixor hx hb dX0_bribes_111 ?_
                refine lv_topi (fun x_29 ex_29 => ?_)
                refine lv_iand hx hb dX0_bribes_112 ?_
                refine lv_topi (fun x_30 ex_30 => ?_)
                have hj_152_39 : ∀ (x_38 : Int32) (x_39 : Int32) (H : Heap) (locs : List Loc) (ls : Array Slot), ti_H ti_LT D A cy H0 M H locs → lv_has ls 12 [(10, .int x_22), (9, .int x_38), (8, .int x_39), (7, .int x_21), (6, .int x_7), (5, .int x_2), (0, .ref (A 53 0)), (1, .ref (A 27 0)), (2, .int kk), (3, .int mm), (4, .int wh)] → W p l e (ti_rm 2) s m args below meth c H locs 0 0 Q (F0 m 152 ls []) := by
                  intro x_38 x_39 H locs ls  hw hl
                  obtain ⟨x_40, ex_40⟩ : ∃ z : Int32, z = x_22 + 1 := ⟨_, rfl⟩
                  have tx_40 : x_40.toInt = x_22.toInt + 1 := i_add ex_40 rfl (by decide) (by omega) (by omega)
                  refine lv_iinc (v := x_40) (lv' := [(10, .int x_40), (9, .int x_38), (8, .int x_39), (7, .int x_21), (6, .int x_7), (5, .int x_2), (0, .ref (A 53 0)), (1, .ref (A 27 0)), (2, .int kk), (3, .int mm), (4, .int wh)]) hx hb dX0_bribes_152 hl (k := 0) rfl (by rw [ex_40]; rfl) (by decide) rfl (fun ls hl => ?_)
                  refine lv_goto (tgt := 98) hx hb dX0_bribes_155 (by decide) ?_
                  exact ih_27 x_40 x_38 x_39 _ _ _ (by omega) (by first | omega | decide) (by first | omega | decide) hw (lv_sub hl [0, 1, 2, 3, 4, 5, 6, 7, 8, 9, 10] rfl)
                refine sb_if_ne (tgt := 152) hx hb rfl dX0_bribes_113 (by decide) (fun c_113_30 => ?_) (fun c_113_30 => ?_)
                · exact hj_152_39 x_25 x_26 _ _ _  hw (lv_sub hl [0, 1, 2, 3, 4, 5, 6, 7, 8, 9, 10] rfl)
                · refine lv_iload hx hb dX0_bribes_116 (lv_at hl 0 rfl) ?_
                  refine ti_callSi (av := [.int x_22]) C hw (s_J6_bitCount_0f7a4 l D A cy hJ M hI x_22) ⟨ml_X0_96, ys_J6_bitCount_0f7a4, yi_J6_bitCount_0f7a4, yc_J6_bitCount_0f7a4⟩ yd_J6_bitCount_0f7a4 rfl hl.1 (Nat.le_of_ble_eq_true rfl) ⟨by decide, by decide⟩ ⟨Nat.zero_le _, Nat.zero_le _⟩ dX0_bribes_118 (fun r_32 M_33 H locs hp_33 hw => ?_)
                  have hm := hp_33
                  have hw := hw.to hm
                  refine lv_iload hx hb dX0_bribes_121 (lv_at hl 3 rfl) ?_
                  refine sb_icmp_lt (tgt := 152) hx hb rfl rfl dX0_bribes_123 (by decide) (fun c_123_33 => ?_) (fun c_123_33 => ?_)
                  · exact hj_152_39 x_25 x_26 _ _ _  hw (lv_sub hl [0, 1, 2, 3, 4, 5, 6, 7, 8, 9, 10] rfl)
                  · refine lv_aload_n hx hb dX0_bribes_126 rfl (lv_at hl 7 rfl) ?_
                    refine ti_get (ci := 3) (k := 0) (N := 17) (T := TX3) (v := .ref (A t 0)) C hw iw_3 rfl ob_27 (by decide) (by decide) fl_X0_80 rfl (ti_Tv (hT)) dX0_bribes_127 ?_
                    refine lv_iload hx hb dX0_bribes_130 (lv_at hl 0 rfl) ?_
                    refine ti_callSi (av := [.ref (A t 0), .int x_22]) C hw (s_X0_price l D A cy hJ M hI t ht x_22) ⟨ml_X0_102, ys_X0_price, yi_X0_price, yc_X0_price⟩ yd_X0_price rfl hl.1 (Nat.le_of_ble_eq_true rfl) ⟨by decide, by decide⟩ ⟨Nat.zero_le _, Nat.zero_le _⟩ dX0_bribes_132 (fun r_35 M_36 H locs hp_36 hw => ?_)
                    have hm := hp_36
                    have hw := hw.to hm
                    refine lv_istore (lv' := [(11, .int r_35), (10, .int x_22), (9, .int x_25), (8, .int x_26), (7, .int x_21), (6, .int x_7), (5, .int x_2), (0, .ref (A 53 0)), (1, .ref (A 27 0)), (2, .int kk), (3, .int mm), (4, .int wh)]) hx hb dX0_bribes_135 hl (by decide) rfl (fun ls hl => ?_)
                    refine lv_iload hx hb dX0_bribes_137 (lv_at hl 0 rfl) ?_
                    refine lv_iload hx hb dX0_bribes_139 (lv_at hl 3 rfl) ?_
                    refine sb_icmp_ge (tgt := 152) hx hb rfl rfl dX0_bribes_141 (by decide) (fun c_141_36 => ?_) (fun c_141_36 => ?_)
                    · exact hj_152_39 x_25 x_26 _ _ _  hw (lv_sub hl [1, 2, 3, 4, 5, 6, 7, 8, 9, 10, 11] rfl)
                    · refine lv_iload hx hb dX0_bribes_144 (lv_at hl 0 rfl) ?_
                      refine lv_istore (lv' := [(8, .int r_35), (11, .int r_35), (10, .int x_22), (9, .int x_25), (7, .int x_21), (6, .int x_7), (5, .int x_2), (0, .ref (A 53 0)), (1, .ref (A 27 0)), (2, .int kk), (3, .int mm), (4, .int wh)]) hx hb dX0_bribes_146 hl (by decide) rfl (fun ls hl => ?_)
                      refine lv_iload hx hb dX0_bribes_148 (lv_at hl 2 rfl) ?_
                      refine lv_istore (lv' := [(9, .int x_22), (8, .int r_35), (11, .int r_35), (10, .int x_22), (7, .int x_21), (6, .int x_7), (5, .int x_2), (0, .ref (A 53 0)), (1, .ref (A 27 0)), (2, .int kk), (3, .int mm), (4, .int wh)]) hx hb dX0_bribes_150 hl (by decide) rfl (fun ls hl => ?_)
                      exact hj_152_39 x_22 r_35 _ _ _  hw (lv_sub hl [3, 0, 1, 4, 5, 6, 7, 8, 9, 10, 11] rfl)
          exact hl_98_26 ((256 - 0 : Int).toNat + 1) 0 0 2147483647 _ _ _ (Nat.lt_succ_self _) (by have lt0 : (0 : Int32).toInt = 0 := (by decide); have lt1 : (2147483647 : Int32).toInt = 2147483647 := (by decide); first | omega | decide) (by have lt0 : (0 : Int32).toInt = 0 := (by decide); have lt1 : (2147483647 : Int32).toInt = 2147483647 := (by decide); first | omega | decide) hw (lv_sub hl [0, 1, 2, 3, 4, 5, 6, 7, 8, 9, 10] rfl)
        · refine lv_aload_n hx hb dX0_bribes_32 rfl (lv_at hl 4 rfl) ?_
          refine ti_get (ci := 3) (k := 6) (N := 17) (T := TX3) (v := .ref (A 27 7)) C hw iw_3 rfl ob_27 (by decide) (by decide) fl_X0_77 rfl rfl dX0_bribes_33 ?_
          refine lv_iload hx hb dX0_bribes_36 (lv_at hl 0 rfl) ?_
          refine ti_iald (ci := 3) (k := 6) (n := 8) C hw ob_27 (by decide) (fun _ _ => rfl) (vp_in_iff.mpr (by omega)) dX0_bribes_38 ?_
          refine lv_topi (fun x_10 ex_10 => ?_)
          have bx_10 : 0 ≤ x_10.toInt ∧ x_10.toInt ≤ 7 := cI_ry hI ob_27.1 ex_10
          refine lv_istore (lv' := [(8, .int x_10), (7, .int x_4), (6, .int x_7), (5, .int x_2), (0, .ref (A 53 0)), (1, .ref (A 27 0)), (2, .int kk), (3, .int mm), (4, .int wh)]) hx hb dX0_bribes_39 hl (by decide) rfl (fun ls hl => ?_)
          refine lv_iload hx hb dX0_bribes_41 (lv_at hl 2 rfl) ?_
          refine lv_aload_n hx hb dX0_bribes_43 rfl (lv_at hl 5 rfl) ?_
          refine ti_get (ci := 3) (k := 0) (N := 17) (T := TX3) (v := .ref (A t 0)) C hw iw_3 rfl ob_27 (by decide) (by decide) fl_X0_80 rfl (ti_Tv (hT)) dX0_bribes_44 ?_
          refine ti_get (ci := 8) (k := 0) (N := 12) (T := TX8) (v := .ref (A t 1)) C hw iw_8 rfl (ob_t ht) (by decide) (by decide) fl_X0_84 rfl rfl dX0_bribes_47 ?_
          refine lv_iload hx hb dX0_bribes_50 (lv_at hl 0 rfl) ?_
          refine ti_aald (ci := 8) (k := 0) (n := 8) (t0 := 5) (Cn := RX2) (gg := (ti_men t)) (j := x_10.toNatClampNeg) C hw (ob_t ht) (by decide) (fun _ _ => rfl) rfl (vp_in_iff.mpr (by omega)) rfl dX0_bribes_52 ?_
          have ob_11 : ti_ob ti_LT (ti_men t x_10.toNatClampNeg) 2 := ob_m ht (i_nt rfl (by omega) (by omega))
          refine ti_get (ci := 2) (k := 8) (N := 10) (T := TX2) C hw iw_2 rfl ob_11 (by decide) (by decide) fl_X0_90 rfl rfl dX0_bribes_53 ?_
          refine lv_topi (fun x_12 ex_12 => ?_)
          have hj_67_15 : ∀ (x_15 : Int32) (H : Heap) (locs : List Loc) (ls : Array Slot), ti_H ti_LT D A cy H0 M H locs → lv_has ls 12 [(8, .int x_10), (7, .int x_4), (6, .int x_7), (5, .int x_2), (0, .ref (A 53 0)), (1, .ref (A 27 0)), (2, .int kk), (3, .int mm), (4, .int wh)] → W p l e (ti_rm 2) s m args below meth c H locs 0 0 Q (F0 m 67 ls [.int x_15, .int x_7]) := by
            intro x_15 H locs ls  hw hl
            refine lv_ior hx hb dX0_bribes_67 ?_
            refine lv_topi (fun x_16 ex_16 => ?_)
            refine lv_istore (lv' := [(6, .int x_16), (8, .int x_10), (7, .int x_4), (5, .int x_2), (0, .ref (A 53 0)), (1, .ref (A 27 0)), (2, .int kk), (3, .int mm), (4, .int wh)]) hx hb dX0_bribes_68 hl (by decide) rfl (fun ls hl => ?_)
            obtain ⟨x_17, ex_17⟩ : ∃ z : Int32, z = x_4 + 1 := ⟨_, rfl⟩
            have tx_17 : x_17.toInt = x_4.toInt + 1 := i_add ex_17 rfl (by decide) (by omega) (by omega)
            refine lv_iinc (v := x_17) (lv' := [(7, .int x_17), (6, .int x_16), (8, .int x_10), (5, .int x_2), (0, .ref (A 53 0)), (1, .ref (A 27 0)), (2, .int kk), (3, .int mm), (4, .int wh)]) hx hb dX0_bribes_70 hl (k := 2) rfl (by rw [ex_17]; rfl) (by decide) rfl (fun ls hl => ?_)
            refine lv_goto (tgt := 25) hx hb dX0_bribes_73 (by decide) ?_
            exact ih_8 x_17 x_16 _ _ _ (by omega) (by first | omega | decide) (by first | omega | decide) hw (lv_sub hl [0, 1, 3, 4, 5, 6, 7, 8] rfl)
          refine sb_if_eq (tgt := 63) hx hb rfl dX0_bribes_56 (by decide) (fun c_56_12 => ?_) (fun c_56_12 => ?_)
          · refine lv_iconst (v := 1) hx hb dX0_bribes_63 (by decide) ?_
            refine lv_iload hx hb dX0_bribes_64 (lv_at hl 0 rfl) ?_
            refine lv_ishl hx hb dX0_bribes_66 ?_
            refine lv_topi (fun x_14 ex_14 => ?_)
            exact hj_67_15 x_14 _ _ _  hw (lv_sub hl [0, 1, 2, 3, 4, 5, 6, 7, 8] rfl)
          · refine lv_iconst (v := 0) hx hb dX0_bribes_59 (by decide) ?_
            refine lv_goto (tgt := 67) hx hb dX0_bribes_60 (by decide) ?_
            exact hj_67_15 0 _ _ _  hw (lv_sub hl [0, 1, 2, 3, 4, 5, 6, 7, 8] rfl)
    exact hl_25_7 ((8 - 0 : Int).toNat + 1) 0 0 _ _ _ (Nat.lt_succ_self _) (by have lt0 : (0 : Int32).toInt = 0 := (by decide); first | omega | decide) (by have lt0 : (0 : Int32).toInt = 0 := (by decide); first | omega | decide) hw (lv_sub hl [0, 1, 2, 3, 4, 5, 6, 7] rfl)
  · refine lv_bipush (v := (-2)) hx hb dX0_bribes_16 (by decide) ?_
    exact hQ _ _ _ _ _ _ hw rfl rfl dX0_bribes_18
set_option maxHeartbeats 4000000 in
set_option maxRecDepth 100000 in
theorem s_X0_worth (l : Launch) (D : va_G) (A : Nat → Nat → Nat) (cy : Nat → ClassId) (hJ : ti_inj ti_LT A) (M : ti_M) (hI : cI Tc M)  (mn : Int32) (h1 : 0 ≤ mn.toInt) (h2 : mn.toInt ≤ 7) : ti_Ki l yX0_worth cX0_worth 2 (some .int) 1 ti_LT D A cy M [.ref (A 53 0), .int mn] (fun r M2 => M2 = M) := by
  refine ti_eI yp_X0_worth hJ ti_LT_nd (Nat.le_of_ble_eq_true rfl) ?_
  intro p e s m args below meth c Q H0 C hQ hw ls hl
  have hx := C.1
  have hb := C.2.1
  have hl : lv_has ls 2 [(0, .ref (A 53 0)), (1, .int mn)] := hl
  refine lv_aload_n hx hb dX0_worth_0 rfl (lv_at hl 0 rfl) ?_
  refine ti_get (ci := 0) (k := 0) (N := 6) (T := TX0) (v := .ref (A 54 0)) C hw iw_0 rfl ob_53 (by decide) (by decide) fl_X0_12 rfl rfl dX0_worth_1 ?_
  refine ti_get (ci := 3) (k := 8) (N := 17) (T := TX3) (v := .ref (A 54 9)) C hw iw_3 rfl ob_54 (by decide) (by decide) fl_X0_48 rfl rfl dX0_worth_4 ?_
  refine lv_iload_n hx hb dX0_worth_7 rfl (lv_at hl 1 rfl) ?_
  refine ti_iald (ci := 3) (k := 8) (n := 8) C hw ob_54 (by decide) (fun _ _ => rfl) (vp_in_iff.mpr (by omega)) dX0_worth_8 ?_
  refine lv_topi (fun x_1 ex_1 => ?_)
  by_cases s_2_1 : x_1 = 1
  · refine lv_lookup (tgt := 50) hx hb dX0_worth_9 (by decide) (off := 41) (by rw [s_2_1]; decide) (by decide) ?_
    refine lv_bipush (v := 100) hx hb dX0_worth_50 (by decide) ?_
    refine lv_aload_n hx hb dX0_worth_52 rfl (lv_at hl 0 rfl) ?_
    refine ti_get (ci := 0) (k := 0) (N := 6) (T := TX0) (v := .ref (A 54 0)) C hw iw_0 rfl ob_53 (by decide) (by decide) fl_X0_12 rfl rfl dX0_worth_53 ?_
    refine lv_iload_n hx hb dX0_worth_56 rfl (lv_at hl 1 rfl) ?_
    refine ti_callVi (ci := 3) (av := [.int mn]) C hw (s_X3_placeOf l D A cy hJ M hI 54 ob_54 mn) ⟨ml_X0_130, ym_X3_placeOf, yv_X3_placeOf, yi_X3_placeOf, yc_X3_placeOf⟩ yd_X3_placeOf ob_54 (by decide) rfl rfl hl.1 (Nat.le_of_ble_eq_true rfl) ⟨by decide, by decide⟩ ⟨Nat.zero_le _, Nat.zero_le _⟩ dX0_worth_57 (fun r_5 M_6 H locs hp_6 hw => ?_)
    obtain ⟨hm, b0r_5, b1r_5⟩ := hp_6
    have hw := hw.to hm
    refine lv_isub hx hb dX0_worth_60 ?_
    refine lv_topi (fun x_7 ex_7 => ?_)
    have tx_7 : x_7.toInt = 100 - r_5.toInt := i_sub ex_7 (by decide : (100 : Int32).toInt = 100) rfl (by omega) (by omega)
    exact hQ _ _ _ _ _ _ hw rfl rfl dX0_worth_61
  · by_cases s_2_2 : x_1 = 2
    · refine lv_lookup (tgt := 36) hx hb dX0_worth_9 (by decide) (off := 27) (by rw [s_2_2]; decide) (by decide) ?_
      refine lv_sipush (v := 1000) hx hb dX0_worth_36 (by decide) ?_
      refine lv_aload_n hx hb dX0_worth_39 rfl (lv_at hl 0 rfl) ?_
      refine ti_get (ci := 0) (k := 0) (N := 6) (T := TX0) (v := .ref (A 54 0)) C hw iw_0 rfl ob_53 (by decide) (by decide) fl_X0_12 rfl rfl dX0_worth_40 ?_
      refine ti_get (ci := 3) (k := 14) (N := 17) (T := TX3) (v := .ref (A 54 15)) C hw iw_3 rfl ob_54 (by decide) (by decide) fl_X0_54 rfl rfl dX0_worth_43 ?_
      refine lv_iload_n hx hb dX0_worth_46 rfl (lv_at hl 1 rfl) ?_
      refine ti_iald (ci := 3) (k := 14) (n := 8) C hw ob_54 (by decide) (fun _ _ => rfl) (vp_in_iff.mpr (by omega)) dX0_worth_47 ?_
      refine lv_topi (fun x_3 ex_3 => ?_)
      refine lv_isub hx hb dX0_worth_48 ?_
      refine lv_topi (fun x_4 ex_4 => ?_)
      exact hQ _ _ _ _ _ _ hw rfl rfl dX0_worth_49
    · refine lv_lookup (tgt := 62) hx hb dX0_worth_9 (by decide) (off := 53) (ti_lk _ x_1.toInt _ (by intro q hq; simp only [List.mem_cons, List.not_mem_nil, or_false] at hq; rcases hq with rfl | rfl <;> first | exact ti_nev 1 s_2_1 (by decide) | exact ti_nev 2 s_2_2 (by decide))) (by decide) ?_
      refine lv_iconst (v := 0) hx hb dX0_worth_62 (by decide) ?_
      exact hQ _ _ _ _ _ _ hw rfl rfl dX0_worth_63
set_option maxHeartbeats 4000000 in
set_option maxRecDepth 100000 in
theorem s_X0_isRest (l : Launch) (D : va_G) (A : Nat → Nat → Nat) (cy : Nat → ClassId) (hJ : ti_inj ti_LT A) (M : ti_M) (hI : cI Tc M) (aa bb ch : Int32) (h1 : 0 ≤ aa.toInt) (h2 : aa.toInt ≤ 3) (h3 : 0 ≤ bb.toInt) (h4 : bb.toInt ≤ 3) (h5 : ch.toInt ≤ 4) : ti_Ki l yX0_isRest cX0_isRest 6 (some .boolean) 0 ti_LT D A cy M [.ref (A 53 0), .int aa, .int bb, .int ch] (fun r M2 => M2 = M) := by
  refine ti_eI yp_X0_isRest hJ ti_LT_nd (Nat.le_of_ble_eq_true rfl) ?_
  intro p e s m args below meth c Q H0 C hQ hw ls hl
  have hx := C.1
  have hb := C.2.1
  have hl : lv_has ls 6 [(0, .ref (A 53 0)), (1, .int aa), (2, .int bb), (3, .int ch)] := hl
  refine lv_iload_n hx hb dX0_isRest_0 rfl (lv_at hl 1 rfl) ?_
  refine lv_iconst (v := 4) hx hb dX0_isRest_1 (by decide) ?_
  refine lv_imul hx hb dX0_isRest_2 ?_
  refine lv_topi (fun x_1 ex_1 => ?_)
  have tx_1 : x_1.toInt = aa.toInt * 4 := i_mul ex_1 rfl (by decide : (4 : Int32).toInt = 4) (by omega) (by omega)
  refine lv_iload_n hx hb dX0_isRest_3 rfl (lv_at hl 2 rfl) ?_
  refine lv_iadd hx hb dX0_isRest_4 ?_
  refine lv_topi (fun x_2 ex_2 => ?_)
  have tx_2 : x_2.toInt = x_1.toInt + bb.toInt := i_add ex_2 rfl rfl (by omega) (by omega)
  refine lv_istore (lv' := [(4, .int x_2), (0, .ref (A 53 0)), (1, .int aa), (2, .int bb), (3, .int ch)]) hx hb dX0_isRest_5 hl (by decide) rfl (fun ls hl => ?_)
  refine lv_iconst (v := 0) hx hb dX0_isRest_7 (by decide) ?_
  refine lv_istore (lv' := [(5, .int 0), (4, .int x_2), (0, .ref (A 53 0)), (1, .int aa), (2, .int bb), (3, .int ch)]) hx hb dX0_isRest_8 hl (by decide) rfl (fun ls hl => ?_)
  have hl_10_5 : ∀ (n_6 : Nat) (x_3 : Int32) (H : Heap) (locs : List Loc) (ls : Array Slot), (4 - x_3.toInt : Int).toNat < n_6 → (0 ≤ x_3.toInt) → (x_3.toInt ≤ 4) → ti_H ti_LT D A cy H0 M H locs → lv_has ls 6 [(5, .int x_3), (4, .int x_2), (0, .ref (A 53 0)), (1, .int aa), (2, .int bb), (3, .int ch)] → W p l e (ti_rm 0) s m args below meth c H locs 0 0 Q (F0 m 10 ls []) := by
    intro n_6
    induction n_6 with
    | zero => intro x_3 H locs ls hf_6; exact absurd hf_6 (Nat.not_lt_zero _)
    | succ n_6 ih_6 =>
      intro x_3 H locs ls hf_6 b_4 b_5 hw hl
      refine lv_iload hx hb dX0_isRest_10 (lv_at hl 0 rfl) ?_
      refine lv_iload_n hx hb dX0_isRest_12 rfl (lv_at hl 5 rfl) ?_
      refine sb_icmp_ge (tgt := 66) hx hb rfl rfl dX0_isRest_13 (by decide) (fun c_13_6 => ?_) (fun c_13_6 => ?_)
      · refine lv_iconst (v := 1) hx hb dX0_isRest_66 (by decide) ?_
        exact hQ _ _ _ _ _ _ hw rfl rfl dX0_isRest_67
      · refine lv_aload_n hx hb dX0_isRest_16 rfl (lv_at hl 2 rfl) ?_
        refine ti_get (ci := 0) (k := 2) (N := 6) (T := TX0) (v := .ref (A 53 3)) C hw iw_0 rfl ob_53 (by decide) (by decide) fl_X0_21 rfl rfl dX0_isRest_17 ?_
        refine lv_iload hx hb dX0_isRest_20 (lv_at hl 0 rfl) ?_
        refine lv_iconst (v := 4) hx hb dX0_isRest_22 (by decide) ?_
        refine lv_imul hx hb dX0_isRest_23 ?_
        refine lv_topi (fun x_8 ex_8 => ?_)
        have tx_8 : x_8.toInt = x_3.toInt * 4 := i_mul ex_8 rfl (by decide : (4 : Int32).toInt = 4) (by omega) (by omega)
        refine lv_iload_n hx hb dX0_isRest_24 rfl (lv_at hl 4 rfl) ?_
        refine lv_iadd hx hb dX0_isRest_25 ?_
        refine lv_topi (fun x_9 ex_9 => ?_)
        have tx_9 : x_9.toInt = x_8.toInt + bb.toInt := i_add ex_9 rfl rfl (by omega) (by omega)
        refine ti_iald (ci := 0) (k := 2) (n := 16) C hw ob_53 (by decide) (fun _ _ => rfl) (vp_in_iff.mpr (by omega)) dX0_isRest_26 ?_
        refine lv_topi (fun x_10 ex_10 => ?_)
        refine lv_aload_n hx hb dX0_isRest_27 rfl (lv_at hl 2 rfl) ?_
        refine ti_get (ci := 0) (k := 2) (N := 6) (T := TX0) (v := .ref (A 53 3)) C hw iw_0 rfl ob_53 (by decide) (by decide) fl_X0_21 rfl rfl dX0_isRest_28 ?_
        refine lv_iload hx hb dX0_isRest_31 (lv_at hl 1 rfl) ?_
        refine ti_iald (ci := 0) (k := 2) (n := 16) C hw ob_53 (by decide) (fun _ _ => rfl) (vp_in_iff.mpr (by omega)) dX0_isRest_33 ?_
        refine lv_topi (fun x_11 ex_11 => ?_)
        have hj_58_17 : ∀  (H : Heap) (locs : List Loc) (ls : Array Slot), ti_H ti_LT D A cy H0 M H locs → lv_has ls 6 [(5, .int x_3), (4, .int x_2), (0, .ref (A 53 0)), (1, .int aa), (2, .int bb), (3, .int ch)] → W p l e (ti_rm 0) s m args below meth c H locs 0 0 Q (F0 m 58 ls []) := by
          intro  H locs ls  hw hl
          refine lv_iconst (v := 0) hx hb dX0_isRest_58 (by decide) ?_
          exact hQ _ _ _ _ _ _ hw rfl rfl dX0_isRest_59
        refine sb_icmp_gt (tgt := 58) hx hb rfl rfl dX0_isRest_34 (by decide) (fun c_34_11 => ?_) (fun c_34_11 => ?_)
        · exact hj_58_17  _ _ _  hw (lv_sub hl [0, 1, 2, 3, 4, 5] rfl)
        · refine lv_aload_n hx hb dX0_isRest_37 rfl (lv_at hl 2 rfl) ?_
          refine ti_get (ci := 0) (k := 3) (N := 6) (T := TX0) (v := .ref (A 53 4)) C hw iw_0 rfl ob_53 (by decide) (by decide) fl_X0_25 rfl rfl dX0_isRest_38 ?_
          refine lv_iload_n hx hb dX0_isRest_41 rfl (lv_at hl 3 rfl) ?_
          refine lv_iconst (v := 4) hx hb dX0_isRest_42 (by decide) ?_
          refine lv_imul hx hb dX0_isRest_43 ?_
          refine lv_topi (fun x_13 ex_13 => ?_)
          have tx_13 : x_13.toInt = aa.toInt * 4 := i_mul ex_13 rfl (by decide : (4 : Int32).toInt = 4) (by omega) (by omega)
          refine lv_iload hx hb dX0_isRest_44 (lv_at hl 0 rfl) ?_
          refine lv_iadd hx hb dX0_isRest_46 ?_
          refine lv_topi (fun x_14 ex_14 => ?_)
          have tx_14 : x_14.toInt = x_13.toInt + x_3.toInt := i_add ex_14 rfl rfl (by omega) (by omega)
          refine ti_iald (ci := 0) (k := 3) (n := 16) C hw ob_53 (by decide) (fun _ _ => rfl) (vp_in_iff.mpr (by omega)) dX0_isRest_47 ?_
          refine lv_topi (fun x_15 ex_15 => ?_)
          refine lv_aload_n hx hb dX0_isRest_48 rfl (lv_at hl 2 rfl) ?_
          refine ti_get (ci := 0) (k := 3) (N := 6) (T := TX0) (v := .ref (A 53 4)) C hw iw_0 rfl ob_53 (by decide) (by decide) fl_X0_25 rfl rfl dX0_isRest_49 ?_
          refine lv_iload hx hb dX0_isRest_52 (lv_at hl 1 rfl) ?_
          refine ti_iald (ci := 0) (k := 3) (n := 16) C hw ob_53 (by decide) (fun _ _ => rfl) (vp_in_iff.mpr (by omega)) dX0_isRest_54 ?_
          refine lv_topi (fun x_16 ex_16 => ?_)
          refine sb_icmp_le (tgt := 60) hx hb rfl rfl dX0_isRest_55 (by decide) (fun c_55_16 => ?_) (fun c_55_16 => ?_)
          · obtain ⟨x_18, ex_18⟩ : ∃ z : Int32, z = x_3 + 1 := ⟨_, rfl⟩
            have tx_18 : x_18.toInt = x_3.toInt + 1 := i_add ex_18 rfl (by decide) (by omega) (by omega)
            refine lv_iinc (v := x_18) (lv' := [(5, .int x_18), (4, .int x_2), (0, .ref (A 53 0)), (1, .int aa), (2, .int bb), (3, .int ch)]) hx hb dX0_isRest_60 hl (k := 0) rfl (by rw [ex_18]; rfl) (by decide) rfl (fun ls hl => ?_)
            refine lv_goto (tgt := 10) hx hb dX0_isRest_63 (by decide) ?_
            exact ih_6 x_18 _ _ _ (by omega) (by first | omega | decide) (by first | omega | decide) hw (lv_sub hl [0, 1, 2, 3, 4, 5] rfl)
          · exact hj_58_17  _ _ _  hw (lv_sub hl [0, 1, 2, 3, 4, 5] rfl)
  exact hl_10_5 ((4 - 0 : Int).toNat + 1) 0 _ _ _ (Nat.lt_succ_self _) (by have lt0 : (0 : Int32).toInt = 0 := (by decide); first | omega | decide) (by have lt0 : (0 : Int32).toInt = 0 := (by decide); first | omega | decide) hw (lv_sub hl [0, 1, 2, 3, 4, 5] rfl)
end
section
variable {Tc : gC} {Tm : gM}
def tx_s (a v n : Nat) (f : Nat → Int32) (A : Nat → Prop) (U : State) (H : Heap) : Prop := va_O RJ0 a A U H ∧ va_OF RJ0 "coder" "B" (.int 0) a A U H ∧ va_OF RJ0 "value" "[B" (.ref v) a A U H ∧ va_T .byte v n (fun j => .int (f j)) A U H
def tx_g (A : Nat → Prop) (U : State) (H : Heap) : Prop := va_Z RJ0 "COMPACT_STRINGS" "Z" (.int 1) A U H ∧ va_Zq RJ3 "SIOOBE_FORMATTER" "Ljava/util/function/BiFunction;" A U H
theorem tx_s.moved {a v n : Nat} {f : Nat → Int32} {A : Nat → Prop} {u U : State} {H : Heap} (hvm : u.vm.Alike U.vm) (h : tx_s a v n f A u H) : tx_s a v n f A U H := ⟨va_O.moved hvm h.1, va_OF.moved hvm h.2.1, va_OF.moved hvm h.2.2.1, va_T.moved hvm h.2.2.2⟩
theorem tx_s.kept {a v n : Nat} {f : Nat → Int32} {A : Nat → Prop} {U : State} {H H1 : Heap} (h : tx_s a v n f A U H) (hq : ∀ a : Nat, a < H.size → ¬ A a → H1[a]? = H[a]?) : tx_s a v n f A U H1 := ⟨h.1.kept hq, h.2.1.kept hq, h.2.2.1.kept hq, h.2.2.2.kept hq⟩
theorem tx_s.narrow {a v n : Nat} {f : Nat → Int32} {A B : Nat → Prop} {U : State} {H : Heap} (h : tx_s a v n f A U H) (hAB : ∀ q, B q → A q) : tx_s a v n f B U H := ⟨h.1.narrow hAB, h.2.1.narrow hAB, h.2.2.1.narrow hAB, h.2.2.2.narrow hAB⟩
theorem tx_g.moved {A : Nat → Prop} {u U : State} {H : Heap} (hvm : u.vm.Alike U.vm) (h : tx_g A u H) : tx_g A U H := ⟨va_Z.moved hvm h.1, va_Zq.moved hvm h.2⟩
theorem tx_g.kept {A : Nat → Prop} {U : State} {H H1 : Heap} (h : tx_g A U H) (hq : ∀ a : Nat, a < H.size → ¬ A a → H1[a]? = H[a]?) : tx_g A U H1 := ⟨h.1.kept hq, h.2.kept hq⟩
theorem tx_g.narrow {A B : Nat → Prop} {U : State} {H : Heap} (h : tx_g A U H) (hAB : ∀ q, B q → A q) : tx_g B U H := ⟨h.1.narrow hAB, h.2.narrow hAB⟩
/-- a method that leaves the heap as it is -/
def tx_K (l : Launch) (y : MethodName) (cc : ByteArray) (n : Nat) (ret : Option FieldType) (k : Nat) (E : State → Prop) (av : List Value) (post : Int32 → Prop) : Prop :=
  Met l y (.code y cc n ret :: lw_g) (ti_rm k) (va_Pc av E) (va_Qi (fun r (_ : Unit) => post r) (fun _ _ => True) (fun _ => False)) 0 0 (fun _ => False)
def tx_Kv (l : Launch) (y : MethodName) (cc : ByteArray) (n : Nat) (k : Nat) (E : State → Prop) (av : List Value) : Prop :=
  Met l y (.code y cc n none :: lw_g) (ti_rm k) (va_Pc av E) (va_Qv (fun (_ : Unit) => True) (fun _ _ => True) (fun _ => False)) 0 0 (fun _ => False)
def tx_C (p : Program) (s : State) (m : MethodId) (c : Code) (args : Array Value) (cc : ByteArray) (own : String) (nL : Nat) : Prop := p.tables.exec = Jvm.exec ∧ c.code = cc ∧ (∀ w ∈ lw_g, w.before args s = true) ∧ s.vm.findClass own = some m.cls ∧ c.maxLocals = nL
section
variable {p : Program} {l : Launch} {e : Env} {R : Room} {s : State} {m : MethodId} {args : Array Value} {below : List Frame} {meth : Method} {c : Code} {H : Heap} {locs : List Loc} {cells slots : Nat} {Q : State → Prop} {pc : Nat} {ls : Array Slot} {rest : List Value} {cc : ByteArray} {own : String} {nL : Nat} {E : State → Prop}
theorem tx_enter {y : MethodName} {n k : Nat} {ret : Option FieldType} {av : List Value} {post : Int32 → Prop} (hy : plainName y.cls = true) (hav : (lg_sl av).length ≤ n)
    (body : ∀ (p : Program) (e : Env) (s : State) (m : MethodId) (below : List Frame) (meth : Method) (c : Code), tx_C p s m c av.toArray cc y.cls n → meth.sig.returnType = ret → meth.locks = false → E s → ∀ ls : Array Slot, lv_has ls n (lv_args 0 av) →
      W p l e (ti_rm k) s m av.toArray below meth c s.heap [] 0 0 (MQ below (va_Qi (fun r (_ : Unit) => post r) (fun _ _ => True) (fun _ => False)) av.toArray s 0 0 (fun _ => False)) (F0 m 0 ls [])) : tx_K l y cc n ret k E av post := by
  refine Met.ofW (cc := cc) (maxL := n) (ret := ret) hy rfl ?_
  intro p e s m args below meth c s₁ B hml hv
  obtain ⟨rfl, hE⟩ := hv
  rw [lg_entry_eq]
  exact body p e s m below meth c ⟨B.exec, B.bytes, fun w h => atoms_spec (ws := .code y cc n ret :: lw_g) B.pre w (List.mem_cons_of_mem _ h), findClass_of_methodNamed B.named, hml⟩ B.returns B.notSynchronized hE _ (lv_entry av hav)
theorem tx_enterv {y : MethodName} {n k : Nat} {av : List Value} (hy : plainName y.cls = true) (hav : (lg_sl av).length ≤ n)
    (body : ∀ (p : Program) (e : Env) (s : State) (m : MethodId) (below : List Frame) (meth : Method) (c : Code), tx_C p s m c av.toArray cc y.cls n → meth.sig.returnType = none → meth.locks = false → E s → ∀ ls : Array Slot, lv_has ls n (lv_args 0 av) →
      W p l e (ti_rm k) s m av.toArray below meth c s.heap [] 0 0 (MQ below (va_Qv (fun (_ : Unit) => True) (fun _ _ => True) (fun _ => False)) av.toArray s 0 0 (fun _ => False)) (F0 m 0 ls [])) : tx_Kv l y cc n k E av := by
  refine Met.ofW (cc := cc) (maxL := n) (ret := none) hy rfl ?_
  intro p e s m args below meth c s₁ B hml hv
  obtain ⟨rfl, hE⟩ := hv
  rw [lg_entry_eq]
  exact body p e s m below meth c ⟨B.exec, B.bytes, fun w h => atoms_spec (ws := .code y cc n none :: lw_g) B.pre w (List.mem_cons_of_mem _ h), findClass_of_methodNamed B.named, hml⟩ B.returns B.notSynchronized hE _ (lv_entry av hav)
theorem tx_ret {post : Int32 → Prop} {v : Int32} {ty : FieldType} (C : tx_C p s m c args cc own nL) (hr : meth.sig.returnType = some ty) (hlk : meth.locks = false) (hS : va_S (fun _ => False) s.heap H locs) (hn : narrow ty (.int v) = .int v) (hq : post v) (hdg : decode cc pc = .ok (.ireturn, 1)) :
    W p l e R s m args below meth c H locs 0 0 (MQ below (va_Qi (fun r (_ : Unit) => post r) (fun _ _ => True) (fun _ => False)) args s 0 0 (fun _ => False)) (F0 m pc ls [.int v]) :=
  W.zret C.1 C.2.1 hr hn (fun t ht _ => ⟨⟨v, (), rfl, hq, trivial⟩, hS.F ht⟩) hS.2.2 hdg hlk
theorem tx_retv (C : tx_C p s m c args cc own nL) (hr : meth.sig.returnType = none) (hlk : meth.locks = false) (hS : va_S (fun _ => False) s.heap H locs) (hdg : decode cc pc = .ok (.return_, 1)) :
    W p l e R s m args below meth c H locs 0 0 (MQ below (va_Qv (fun (_ : Unit) => True) (fun _ _ => True) (fun _ => False)) args s 0 0 (fun _ => False)) (F0 m pc ls []) :=
  W.vret C.1 C.2.1 hr (fun t ht _ => ⟨⟨(), rfl, trivial, trivial⟩, hS.F ht⟩) hS.2.2 hdg hlk
theorem tx_gV {y : MethodName} {cc2 : ByteArray} {n2 idx : Nat} {ret : Option FieldType} (hV : ti_V own idx y cc2 n2 ret) : GoodIn lw_g (wsV own idx y.cls y (.code y cc2 n2 ret :: lw_g)) := by
  refine lw_g_good ?_
  intro w hw
  simp only [wsV, List.cons_append, List.nil_append, List.mem_cons] at hw
  rcases hw with rfl | rfl | rfl | rfl | rfl | hw
  · exact hV.1
  · exact hV.2.1
  · exact hV.2.2.1
  · exact hV.2.2.2.1
  · exact hV.2.2.2.2
  · exact hw
theorem tx_gS {y : MethodName} {cc2 : ByteArray} {n2 idx : Nat} {ret : Option FieldType} (hV : ti_Vs own idx y cc2 n2 ret) : GoodIn lw_g (.code y cc2 n2 ret :: lw_g) := lw_g_good (fun w hw => (List.mem_cons.mp hw).elim (fun h => h ▸ hV.2.2.2) (fun h => h))
end
def tx_Fb (E : State → Prop) : Prop := ∀ (U : State) (g : JFrame) (mk : MethodId) (a : Array Value), E U → E (U.calling g mk a)
theorem tx_fb {E : State → Prop} (h : tx_Fb E) {av : List Value} : FrameBlind (va_Pc av E) := fun a U g mk q => ⟨q.1, h U g mk a q.2⟩
set_option maxHeartbeats 4000000 in
theorem x_J3_checkIndex (l : Launch) (i n : Int32) (z : Value) (hz : z.category = 1) (h1 : 0 ≤ i.toInt) (h2 : i.toInt < n.toInt) : tx_K l yJ3_checkIndex_8e157 cJ3_checkIndex_8e157 3 (some .int) 0 (fun _ => True) [.int i, .int n, z] (fun r => r = i) := by
  have hlen : (lg_sl [.int i, .int n, z]).length ≤ 3 := by
    cases z <;> first | exact Nat.le_of_ble_eq_true rfl | cases hz
  refine tx_enter yp_J3_checkIndex_8e157 hlen ?_
  intro p e s m below meth c C hr hlk _ ls hl
  have hx := C.1
  have hb := C.2.1
  have hl : lv_has ls 3 [(0, .int i), (1, .int n), (2, z)] := by cases z <;> first | exact hl | cases hz
  refine lv_iload_n hx hb dJ3_checkIndex_8e157_0 rfl (lv_at hl 0 rfl) ?_
  refine sb_if_lt (tgt := 9) hx hb rfl dJ3_checkIndex_8e157_1 (by decide) (fun h => by omega) (fun _ => ?_)
  refine lv_iload_n hx hb dJ3_checkIndex_8e157_4 rfl (lv_at hl 0 rfl) ?_
  refine lv_iload_n hx hb dJ3_checkIndex_8e157_5 rfl (lv_at hl 1 rfl) ?_
  refine sb_icmp_lt (tgt := 16) hx hb rfl rfl dJ3_checkIndex_8e157_6 (by decide) (fun _ => ?_) (fun h => by omega)
  refine lv_iload_n hx hb dJ3_checkIndex_8e157_16 rfl (lv_at hl 0 rfl) ?_
  exact tx_ret C hr hlk va_S.rf rfl rfl dJ3_checkIndex_8e157_17
def tx_G (U : State) : Prop := tx_g (fun _ => False) U U.heap
theorem tx_Gb : tx_Fb tx_G := fun U _ _ _ h => tx_g.moved (u := U) (Vm.Alike.refl U.vm) h
set_option maxHeartbeats 4000000 in
theorem x_J0_checkIndex (l : Launch) (i n : Int32) (h1 : 0 ≤ i.toInt) (h2 : i.toInt < n.toInt) : tx_Kv l yJ0_checkIndex_df160 cJ0_checkIndex_df160 2 1 tx_G [.int i, .int n] := by
  refine tx_enterv yp_J0_checkIndex_df160 (Nat.le_of_ble_eq_true rfl) ?_
  intro p e s m below meth c C hr hlk hG ls hl
  have hx := C.1
  have hb := C.2.1
  have hl : lv_has ls 2 [(0, .int i), (1, .int n)] := hl
  have go : ∀ z : Value, z.category = 1 → W p l e (ti_rm 1) s m [Value.int i, Value.int n].toArray below meth c s.heap [] 0 0 (MQ below (va_Qv (fun (_ : Unit) => True) (fun _ _ => True) (fun _ => False)) [Value.int i, Value.int n].toArray s 0 0 (fun _ => False)) (F0 m 5 ls [z, .int n, .int i]) := by
    intro z hz
    refine va_calli (va_runS (As := [.int i, .int n, z]) (rest := []) ⟨hx, hb, C.2.2.2.2, C.2.2.2.1, C.2.2.1⟩ (x_J3_checkIndex l i n z hz h1 h2) ⟨callB_of 3 C.2.2.1 (tx_gS (own := RJ0) (idx := 1059) ⟨ml_J0_1059, ys_J3_checkIndex_8e157, yi_J3_checkIndex_8e157, yc_J3_checkIndex_8e157⟩) rfl rfl rfl (C.2.2.1 _ yi_J3_checkIndex_8e157) (C.2.2.1 _ ml_J0_1059) yd_J3_checkIndex_8e157 ⟨by decide, by decide⟩, C.2.2.1 _ ys_J3_checkIndex_8e157⟩ ⟨tx_fb (fun _ _ _ _ _ => trivial), fun U hU hW => ⟨rfl, trivial⟩⟩ rfl rfl hl.1 rfl (lv_room (Nat.le_of_ble_eq_true rfl)) dJ0_checkIndex_df160_5 ⟨Nat.zero_le _, Nat.zero_le _⟩) (va_S.rf (A := fun _ => False)) (fun q _ h => h) (fun q h => h) ?_
    intro r u t H1 locs1 ht hvm hpo hB hz1 hk hS
    refine lv_pop hx hb dJ0_checkIndex_df160_8 rfl ?_
    exact tx_retv C hr hlk hS dJ0_checkIndex_df160_9
  refine lv_iload_n hx hb dJ0_checkIndex_df160_0 rfl (lv_at hl 0 rfl) ?_
  refine lv_iload_n hx hb dJ0_checkIndex_df160_1 rfl (lv_at hl 1 rfl) ?_
  rcases hG.2 with hZ | ⟨t, hZ⟩
  · refine va_gets hx hb hZ va_S.rf C.2.2.2.1 (C.2.2.1 _ fl_J0_1053) (fun _ h => h) dJ0_checkIndex_df160_2 ?_
    exact go .null rfl
  · refine va_gets hx hb hZ va_S.rf C.2.2.2.1 (C.2.2.1 _ fl_J0_1053) (fun _ h => h) dJ0_checkIndex_df160_2 ?_
    exact go (.ref t) rfl
def tx_T (v n : Nat) (f : Nat → Int32) (U : State) : Prop := tx_G U ∧ va_T .byte v n (fun j => .int (f j)) (fun _ => False) U U.heap
theorem tx_Tb {v n : Nat} {f : Nat → Int32} : tx_Fb (tx_T v n f) := fun U g mk a h => ⟨tx_Gb U g mk a h.1, va_T.moved (u := U) (Vm.Alike.refl U.vm) h.2⟩
set_option maxHeartbeats 4000000 in
theorem x_J1_charAt (l : Launch) (v n : Nat) (f : Nat → Int32) (hn : n < 2 ^ 31) (i : Int32) (h1 : 0 ≤ i.toInt) (h2 : i.toInt < n) : tx_K l yJ1_charAt_3b067 cJ1_charAt_3b067 2 (some .char) 2 (tx_T v n f) [.ref v, .int i] (fun r => r = f i.toNatClampNeg &&& 255) := by
  refine tx_enter yp_J1_charAt_3b067 (Nat.le_of_ble_eq_true rfl) ?_
  intro p e s m below meth c C hr hlk hE ls hl
  have hx := C.1
  have hb := C.2.1
  have hl : lv_has ls 2 [(0, .ref v), (1, .int i)] := hl
  have hnI : (Int32.ofNat n).toInt = n := nI_toInt hn
  refine lv_iload_n hx hb dJ1_charAt_3b067_0 rfl (lv_at hl 1 rfl) ?_
  refine lv_aload_n hx hb dJ1_charAt_3b067_1 rfl (lv_at hl 0 rfl) ?_
  refine va_tlen hx hb hE.2 va_S.rf rfl dJ1_charAt_3b067_2 ?_
  refine va_callv (va_runS (As := [.int i, .int (Int32.ofNat n)]) (rest := []) ⟨hx, hb, C.2.2.2.2, C.2.2.2.1, C.2.2.1⟩ (x_J0_checkIndex l i (Int32.ofNat n) h1 (by rw [hnI]; exact h2)) ⟨callB_of 2 C.2.2.1 (tx_gS (own := RJ1) (idx := 9) ⟨ml_J1_9, ys_J0_checkIndex_df160, yi_J0_checkIndex_df160, yc_J0_checkIndex_df160⟩) rfl rfl rfl (C.2.2.1 _ yi_J0_checkIndex_df160) (C.2.2.1 _ ml_J1_9) yd_J0_checkIndex_df160 ⟨by decide, by decide⟩, C.2.2.1 _ ys_J0_checkIndex_df160⟩ ⟨tx_fb tx_Gb, fun U hU hW => ⟨rfl, by unfold tx_G; rw [hU]; exact tx_g.moved hW.alike hE.1⟩⟩ rfl rfl hl.1 rfl (lv_room (Nat.le_of_ble_eq_true rfl)) dJ1_charAt_3b067_3 ⟨Nat.zero_le _, Nat.zero_le _⟩) (va_S.rf (A := fun _ => False)) (fun q _ h => h) (fun q h => h) ?_
  intro u t H1 locs1 ht hvm hpo hB hz hk hS
  refine lv_aload_n hx hb dJ1_charAt_3b067_6 rfl (lv_at hl 0 rfl) ?_
  refine lv_iload_n hx hb dJ1_charAt_3b067_7 rfl (lv_at hl 1 rfl) ?_
  refine va_tb hx hb hE.2 hS (vp_in_iff.mpr ⟨h1, h2⟩) rfl dJ1_charAt_3b067_8 ?_
  refine lv_sipush (v := 255) hx hb dJ1_charAt_3b067_9 (by decide) ?_
  refine lv_iand hx hb dJ1_charAt_3b067_12 ?_
  refine lv_i2c (v := f i.toNatClampNeg &&& 255) hx hb dJ1_charAt_3b067_13 (sc_c2 _) ?_
  exact tx_ret C hr hlk hS (sc_nar _) rfl dJ1_charAt_3b067_14
def tx_Q (a v n : Nat) (f : Nat → Int32) (U : State) : Prop := tx_G U ∧ tx_s a v n f (fun _ => False) U U.heap
theorem tx_Qb {a v n : Nat} {f : Nat → Int32} : tx_Fb (tx_Q a v n f) := fun U g mk b h => ⟨tx_Gb U g mk b h.1, tx_s.moved (u := U) (Vm.Alike.refl U.vm) h.2⟩
set_option maxHeartbeats 4000000 in
theorem x_J0_isLatin1 (l : Launch) (a v n : Nat) (f : Nat → Int32) : tx_K l yJ0_isLatin1_aae02 cJ0_isLatin1_aae02 1 (some .boolean) 0 (tx_Q a v n f) [.ref a] (fun r => r = 1) := by
  refine tx_enter yp_J0_isLatin1_aae02 (Nat.le_of_ble_eq_true rfl) ?_
  intro p e s m below meth c C hr hlk hE ls hl
  have hx := C.1
  have hb := C.2.1
  have hl : lv_has ls 1 [(0, .ref a)] := hl
  refine va_gets hx hb hE.1.1 va_S.rf C.2.2.2.1 (C.2.2.1 _ fl_J0_38) (fun _ h => h) dJ0_isLatin1_aae02_0 ?_
  refine sb_if_eq (tgt := 17) hx hb (by decide : (1 : Int32).toInt = 1) dJ0_isLatin1_aae02_3 (by decide) (fun h => absurd h (by decide)) (fun _ => ?_)
  refine lv_aload_n hx hb dJ0_isLatin1_aae02_6 rfl (lv_at hl 0 rfl) ?_
  refine vk_getf hx hb hE.2.2.1 va_S.rf C.2.2.2.1 (C.2.2.1 _ fl_J0_15) (fun _ h => h) dJ0_isLatin1_aae02_7 ?_
  refine sb_if_ne (tgt := 17) hx hb (by decide : (0 : Int32).toInt = 0) dJ0_isLatin1_aae02_10 (by decide) (fun h => absurd rfl h) (fun _ => ?_)
  refine lv_iconst (v := 1) hx hb dJ0_isLatin1_aae02_13 (by decide) ?_
  refine lv_goto (tgt := 18) hx hb dJ0_isLatin1_aae02_14 (by decide) ?_
  exact tx_ret C hr hlk va_S.rf rfl rfl dJ0_isLatin1_aae02_18
set_option maxHeartbeats 4000000 in
theorem x_J0_charAt (l : Launch) (a v n : Nat) (f : Nat → Int32) (hn : n < 2 ^ 31) (i : Int32) (h1 : 0 ≤ i.toInt) (h2 : i.toInt < n) : tx_K l yJ0_charAt_5068e cJ0_charAt_5068e 2 (some .char) 3 (tx_Q a v n f) [.ref a, .int i] (fun r => r = f i.toNatClampNeg &&& 255) := by
  refine tx_enter yp_J0_charAt_5068e (Nat.le_of_ble_eq_true rfl) ?_
  intro p e s m below meth c C hr hlk hE ls hl
  have hx := C.1
  have hb := C.2.1
  have hl : lv_has ls 2 [(0, .ref a), (1, .int i)] := hl
  refine lv_aload_n hx hb dJ0_charAt_5068e_0 rfl (lv_at hl 0 rfl) ?_
  refine va_calli (va_runV (As := []) (rest := []) ⟨hx, hb, C.2.2.2.2, C.2.2.2.1, C.2.2.1⟩ (x_J0_isLatin1 l a v n f) (cwV 0 C.2.2.1 (tx_gV (own := RJ0) (idx := 492) ⟨ml_J0_492, ym_J0_isLatin1_aae02, yv_J0_isLatin1_aae02, yi_J0_isLatin1_aae02, yc_J0_isLatin1_aae02⟩) rfl rfl rfl ⟨rfl, yd_J0_isLatin1_aae02⟩ ⟨by decide, by decide⟩) ⟨tx_fb tx_Qb, (by obtain ⟨cell, q1, q2, q3, -⟩ := hE.2.1; exact ⟨cell, q1, q2, q3⟩), fun U hU hW => ⟨rfl, by unfold tx_Q tx_G; rw [hU]; exact ⟨tx_g.moved hW.alike hE.1, tx_s.moved hW.alike hE.2⟩⟩⟩ rfl rfl hl.1 rfl (lv_room (Nat.le_of_ble_eq_true rfl)) dJ0_charAt_5068e_1 ⟨Nat.zero_le _, Nat.zero_le _⟩) (va_S.rf (A := fun _ => False)) (fun q _ h => h) (fun q h => h) ?_
  intro r u t H1 locs1 ht hvm hpo hB hz hk hS
  obtain rfl : r = 1 := hpo
  refine sb_if_eq (tgt := 16) hx hb (by decide : (1 : Int32).toInt = 1) dJ0_charAt_5068e_4 (by decide) (fun h => absurd h (by decide)) (fun _ => ?_)
  refine lv_aload_n hx hb dJ0_charAt_5068e_7 rfl (lv_at hl 0 rfl) ?_
  refine vk_getf hx hb hE.2.2.2.1 hS C.2.2.2.1 (C.2.2.1 _ fl_J0_9) (fun _ h => h) dJ0_charAt_5068e_8 ?_
  refine lv_iload_n hx hb dJ0_charAt_5068e_11 rfl (lv_at hl 1 rfl) ?_
  refine va_calli (va_runS (As := [.ref v, .int i]) (rest := []) ⟨hx, hb, C.2.2.2.2, C.2.2.2.1, C.2.2.1⟩ (x_J1_charAt l v n f hn i h1 h2) ⟨callB_of 2 C.2.2.1 (tx_gS (own := RJ0) (idx := 495) ⟨ml_J0_495, ys_J1_charAt_3b067, yi_J1_charAt_3b067, yc_J1_charAt_3b067⟩) rfl rfl rfl (C.2.2.1 _ yi_J1_charAt_3b067) (C.2.2.1 _ ml_J0_495) yd_J1_charAt_3b067 ⟨by decide, by decide⟩, C.2.2.1 _ ys_J1_charAt_3b067⟩ ⟨tx_fb tx_Tb, fun U hU hW => ⟨rfl, by unfold tx_T tx_G; rw [hU]; exact ⟨tx_g.kept (tx_g.moved hW.alike hE.1) hS.2.1, (va_T.moved hW.alike hE.2.2.2.2).kept hS.2.1⟩⟩⟩ rfl rfl hl.1 rfl (lv_room (Nat.le_of_ble_eq_true rfl)) dJ0_charAt_5068e_12 ⟨Nat.zero_le _, Nat.zero_le _⟩) hS (fun q _ h => h) (fun q h => h) ?_
  intro r2 u2 t2 H2 locs2 ht2 hvm2 hpo2 hB2 hz2 hk2 hS2
  obtain rfl : r2 = f i.toNatClampNeg &&& 255 := hpo2
  exact tx_ret C hr hlk hS2 (sc_nar _) rfl dJ0_charAt_5068e_15
abbrev tx_c : String := "man   guard power well  leviesear   mutterseed  law   crown judge tax   levy  wear  need  yes   age   far   bucketcoin  place wait  and   or    not   "
abbrev tx_m : String := "man guard power well levies ear mutter seed law yes crown judge tax levy wear need or and not age far bucket coin place wait "
def tx_cb : List Int32 := [109, 97, 110, 32, 32, 32, 103, 117, 97, 114, 100, 32, 112, 111, 119, 101, 114, 32, 119, 101, 108, 108, 32, 32, 108, 101, 118, 105, 101, 115, 101, 97, 114, 32, 32, 32, 109, 117, 116, 116, 101, 114, 115, 101, 101, 100, 32, 32, 108, 97, 119, 32, 32, 32, 99, 114, 111, 119, 110, 32, 106, 117, 100, 103, 101, 32, 116, 97, 120, 32, 32, 32, 108, 101, 118, 121, 32, 32, 119, 101, 97, 114, 32, 32, 110, 101, 101, 100, 32, 32, 121, 101, 115, 32, 32, 32, 97, 103, 101, 32, 32, 32, 102, 97, 114, 32, 32, 32, 98, 117, 99, 107, 101, 116, 99, 111, 105, 110, 32, 32, 112, 108, 97, 99, 101, 32, 119, 97, 105, 116, 32, 32, 97, 110, 100, 32, 32, 32, 111, 114, 32, 32, 32, 32, 110, 111, 116, 32, 32, 32]
def tx_mb : List Int32 := [109, 97, 110, 32, 103, 117, 97, 114, 100, 32, 112, 111, 119, 101, 114, 32, 119, 101, 108, 108, 32, 108, 101, 118, 105, 101, 115, 32, 101, 97, 114, 32, 109, 117, 116, 116, 101, 114, 32, 115, 101, 101, 100, 32, 108, 97, 119, 32, 121, 101, 115, 32, 99, 114, 111, 119, 110, 32, 106, 117, 100, 103, 101, 32, 116, 97, 120, 32, 108, 101, 118, 121, 32, 119, 101, 97, 114, 32, 110, 101, 101, 100, 32, 111, 114, 32, 97, 110, 100, 32, 110, 111, 116, 32, 97, 103, 101, 32, 102, 97, 114, 32, 98, 117, 99, 107, 101, 116, 32, 99, 111, 105, 110, 32, 112, 108, 97, 99, 101, 32, 119, 97, 105, 116, 32]
/-- the two texts that are asked sign by sign -/
def tx_E (A : Nat → Prop) (U : State) (H : Heap) : Prop := (∃ a v : Nat, vk_R RX7 68 tx_c a U ∧ tx_s a v 150 (fun j => tx_cb.getD j 0) A U H) ∧ (∃ a v : Nat, vk_R RX10 197 tx_m a U ∧ tx_s a v 125 (fun j => tx_mb.getD j 0) A U H) ∧ tx_g A U H
theorem tx_E.moved {A : Nat → Prop} {s U : State} {H H1 : Heap} (hW : s.WarmedH U.vm) (hq : ∀ a : Nat, a < H.size → ¬ A a → H1[a]? = H[a]?) (h : tx_E A s H) : tx_E A U H1 := by
  obtain ⟨⟨a, v, h1, h2⟩, ⟨b, w, h3, h4⟩, h5⟩ := h
  exact ⟨⟨a, v, h1.warm hW, (h2.moved hW.alike).kept hq⟩, ⟨b, w, h3.warm hW, (h4.moved hW.alike).kept hq⟩, (h5.moved hW.alike).kept hq⟩
theorem tx_E.call {A : Nat → Prop} {U : State} {H : Heap} {g : JFrame} {mk : MethodId} {a : Array Value} (h : tx_E A U H) : tx_E A (U.calling g mk a) H := by
  obtain ⟨⟨a, v, h1, h2⟩, ⟨b, w, h3, h4⟩, h5⟩ := h
  exact ⟨⟨a, v, vk_R.same (u := U) rfl h1, tx_s.moved (u := U) (Vm.Alike.refl U.vm) h2⟩, ⟨b, w, vk_R.same (u := U) rfl h3, tx_s.moved (u := U) (Vm.Alike.refl U.vm) h4⟩, tx_g.moved (u := U) (Vm.Alike.refl U.vm) h5⟩
theorem tx_E.narrow {A B : Nat → Prop} {U : State} {H : Heap} (h : tx_E A U H) (hAB : ∀ q, B q → A q) : tx_E B U H := by
  obtain ⟨⟨a, v, h1, h2⟩, ⟨b, w, h3, h4⟩, h5⟩ := h
  exact ⟨⟨a, v, h1, h2.narrow hAB⟩, ⟨b, w, h3, h4.narrow hAB⟩, h5.narrow hAB⟩
def ti_PcE (Ls : List (Nat × Nat)) (D : va_G) (A : Nat → Nat → Nat) (cy : Nat → ClassId) (M : ti_M) (av : List Value) : Array Value → State → Prop := va_Pc av (fun U => va_P D vwCl (ti_W Ls A cy M) U.heap ∧ va_K D vwCl (ti_ty cy) U ∧ tx_E (ti_As Ls A) U U.heap)
def ti_KiE (l : Launch) (y : MethodName) (cc : ByteArray) (n : Nat) (ret : Option FieldType) (k : Nat) (Ls : List (Nat × Nat)) (D : va_G) (A : Nat → Nat → Nat) (cy : Nat → ClassId) (M : ti_M) (av : List Value) (post : Int32 → ti_M → Prop) : Prop :=
  Met l y (.code y cc n ret :: lw_g) (ti_rm k) (ti_PcE Ls D A cy M av) (va_Qi post (ti_B Ls D A cy) (ti_As Ls A)) 0 0 (ti_As Ls A)
def ti_KvE (l : Launch) (y : MethodName) (cc : ByteArray) (n : Nat) (k : Nat) (Ls : List (Nat × Nat)) (D : va_G) (A : Nat → Nat → Nat) (cy : Nat → ClassId) (M : ti_M) (av : List Value) (post : ti_M → Prop) : Prop :=
  Met l y (.code y cc n none :: lw_g) (ti_rm k) (ti_PcE Ls D A cy M av) (va_Qv post (ti_B Ls D A cy) (ti_As Ls A)) 0 0 (ti_As Ls A)
section
variable {p : Program} {l : Launch} {e : Env} {R : Room} {s : State} {m : MethodId} {args : Array Value} {below : List Frame} {meth : Method} {c : Code} {H H0 : Heap} {locs : List Loc} {cells slots : Nat} {Q : State → Prop} {pc : Nat} {ls : Array Slot} {rest : List Value} {cc : ByteArray} {own : String} {nL : Nat} {D : va_G} {cy : Nat → ClassId} {Ls : List (Nat × Nat)} {A : Nat → Nat → Nat} {M : ti_M}
theorem ti_blindE {av : List Value} : FrameBlind (ti_PcE Ls D A cy M av) := fun a U g mk q => ⟨q.1, q.2.1, va_K.moved (u := U) (U := U.calling g mk a) (Vm.Alike.refl U.vm) q.2.2.1, q.2.2.2.call⟩
theorem ti_preE {av : List Value} (C : ti_C p s m c args cc own nL D cy Ls A) (hE : tx_E (ti_As Ls A) s H0) (hw : ti_H Ls D A cy H0 M H locs) : ∀ U : State, U.heap = H → s.WarmedH U.vm → ti_PcE Ls D A cy M av av.toArray U := fun U hU hW => ⟨rfl, by rw [hU]; exact hw.1, va_K.moved hW.alike C.2.2.2.2.1, by rw [hU]; exact hE.moved hW hw.2.2.1⟩
theorem ti_eIE {y : MethodName} {n k : Nat} {ty : FieldType} {av : List Value} {post : Int32 → ti_M → Prop} (hy : plainName y.cls = true) (hJ : ti_inj Ls A) (hN : Ls.Nodup) (hav : (lg_sl av).length ≤ n)
    (body : ∀ (p : Program) (e : Env) (s : State) (m : MethodId) (args : Array Value) (below : List Frame) (meth : Method) (c : Code) (Q : State → Prop) (H0 : Heap), ti_C p s m c args cc y.cls n D cy Ls A → tx_E (ti_As Ls A) s H0 →
      (∀ (v : Int32) (M2 : ti_M) (H2 : Heap) (locs2 : List Loc) (pc : Nat) (ls : Array Slot), ti_H Ls D A cy H0 M2 H2 locs2 → narrow ty (.int v) = .int v → post v M2 → decode cc pc = .ok (.ireturn, 1) → W p l e (ti_rm k) s m args below meth c H2 locs2 0 0 Q (F0 m pc ls [.int v])) →
      ti_H Ls D A cy H0 M H0 [] → ∀ ls : Array Slot, lv_has ls n (lv_args 0 av) → W p l e (ti_rm k) s m args below meth c H0 [] 0 0 Q (F0 m 0 ls [])) : ti_KiE l y cc n (some ty) k Ls D A cy M av post := by
  refine Met.ofW (cc := cc) (maxL := n) (ret := some ty) hy rfl ?_
  intro p e s m args below meth c s₁ B hml hv
  obtain ⟨rfl, hP, hK, hE⟩ := hv
  rw [lg_entry_eq]
  have C : ti_C p s m c av.toArray cc y.cls n D cy Ls A := ti_entC B hml hK hJ hN
  exact body p e s m av.toArray below meth c _ s.heap C hE (fun v M2 H2 locs2 pc ls hw2 hn hq hdg => ti_iret C B.returns B.notSynchronized hw2 hn hq hdg) ⟨hP, va_S.rf⟩ _ (lv_entry av hav)
theorem ti_eVE {y : MethodName} {n k : Nat} {av : List Value} {post : ti_M → Prop} (hy : plainName y.cls = true) (hJ : ti_inj Ls A) (hN : Ls.Nodup) (hav : (lg_sl av).length ≤ n)
    (body : ∀ (p : Program) (e : Env) (s : State) (m : MethodId) (args : Array Value) (below : List Frame) (meth : Method) (c : Code) (Q : State → Prop) (H0 : Heap), ti_C p s m c args cc y.cls n D cy Ls A → tx_E (ti_As Ls A) s H0 →
      (∀ (M2 : ti_M) (H2 : Heap) (locs2 : List Loc) (pc : Nat) (ls : Array Slot), ti_H Ls D A cy H0 M2 H2 locs2 → post M2 → decode cc pc = .ok (.return_, 1) → W p l e (ti_rm k) s m args below meth c H2 locs2 0 0 Q (F0 m pc ls [])) →
      ti_H Ls D A cy H0 M H0 [] → ∀ ls : Array Slot, lv_has ls n (lv_args 0 av) → W p l e (ti_rm k) s m args below meth c H0 [] 0 0 Q (F0 m 0 ls [])) : ti_KvE l y cc n  k Ls D A cy M av post := by
  refine Met.ofW (cc := cc) (maxL := n) (ret := none) hy rfl ?_
  intro p e s m args below meth c s₁ B hml hv
  obtain ⟨rfl, hP, hK, hE⟩ := hv
  rw [lg_entry_eq]
  have C : ti_C p s m c av.toArray cc y.cls n D cy Ls A := ti_entC B hml hK hJ hN
  exact body p e s m av.toArray below meth c _ s.heap C hE (fun M2 H2 locs2 pc ls hw2 hq hdg => ti_vret C B.returns B.notSynchronized hw2 hq hdg) ⟨hP, va_S.rf⟩ _ (lv_entry av hav)
theorem ti_callViE {y : MethodName} {cc2 : ByteArray} {n2 k2 idx o ci : Nat} {ret : Option FieldType} {av st : List Value} {post : Int32 → ti_M → Prop} {T : u_T} {N : Nat} (C : ti_C p s m c args cc own nL D cy Ls A) (hE : tx_E (ti_As Ls A) s H0) (hw : ti_H Ls D A cy H0 M H locs)
    (hM : ti_KiE l y cc2 n2 ret k2 Ls D A cy M (.ref (A o 0) :: av) post) (hV : ti_V own idx y cc2 n2 ret) (hd : ti_Vd y av.length) (hob : ti_ob Ls o ci) (hj : 0 ∈ ti_parts ci) (hcl : vwCl[ci]? = some (y.cls, T, N)) (hst : st = av.reverse ++ .ref (A o 0) :: rest) (hsz : ls.size = nL) (hrs : (rest.map fun v => v.category).sum ≤ 8) (hR : k2 + 1 ≤ R.frames ∧ 8 + (n2 + 11) + 60 * k2 ≤ R.locals) (hcs : cells ≤ R.cells ∧ slots ≤ R.slots) (hdg : decode cc pc = .ok (.invokevirtual idx, 3))
    (kk : ∀ (r : Int32) (M2 : ti_M) (H1 : Heap) (locs1 : List Loc), post r M2 → ti_H Ls D A cy H0 M2 H1 locs1 → W p l e R s m args below meth c H1 locs1 cells slots Q (F0 m (pc + 3) ls (.int r :: rest))) : W p l e R s m args below meth c H locs cells slots Q (F0 m pc ls st) := by
  subst hst
  refine va_calli (va_runV (As := av) (rest := rest) ⟨C.1, C.2.1, C.2.2.2.2.2.1, C.2.2.2.1, C.2.2.1⟩ hM (ti_cwV C hV hd hR) ⟨ti_blindE, ti_recv C hw hob hj hcl, ti_preE C hE hw⟩ rfl rfl hsz rfl (lv_room hrs) hdg ⟨hcs.1, hcs.2⟩) hw.2 (fun q _ h => h) (fun q h => h) ?_
  intro r u t H1 locs1 ht hvm hpo hB hz hk hS
  exact kk r u H1 locs1 hpo ⟨by rw [← ht]; exact hB, hS⟩
theorem ti_callVvE {y : MethodName} {cc2 : ByteArray} {n2 k2 idx o ci : Nat} {av st : List Value} {post : ti_M → Prop} {T : u_T} {N : Nat} (C : ti_C p s m c args cc own nL D cy Ls A) (hE : tx_E (ti_As Ls A) s H0) (hw : ti_H Ls D A cy H0 M H locs)
    (hM : ti_KvE l y cc2 n2 k2 Ls D A cy M (.ref (A o 0) :: av) post) (hV : ti_V own idx y cc2 n2 none) (hd : ti_Vd y av.length) (hob : ti_ob Ls o ci) (hj : 0 ∈ ti_parts ci) (hcl : vwCl[ci]? = some (y.cls, T, N)) (hst : st = av.reverse ++ .ref (A o 0) :: rest) (hsz : ls.size = nL) (hrs : (rest.map fun v => v.category).sum ≤ 8) (hR : k2 + 1 ≤ R.frames ∧ 8 + (n2 + 11) + 60 * k2 ≤ R.locals) (hcs : cells ≤ R.cells ∧ slots ≤ R.slots) (hdg : decode cc pc = .ok (.invokevirtual idx, 3))
    (kk : ∀ (M2 : ti_M) (H1 : Heap) (locs1 : List Loc), post M2 → ti_H Ls D A cy H0 M2 H1 locs1 → W p l e R s m args below meth c H1 locs1 cells slots Q (F0 m (pc + 3) ls rest)) : W p l e R s m args below meth c H locs cells slots Q (F0 m pc ls st) := by
  subst hst
  refine va_callv (va_runV (As := av) (rest := rest) ⟨C.1, C.2.1, C.2.2.2.2.2.1, C.2.2.2.1, C.2.2.1⟩ hM (ti_cwV C hV hd hR) ⟨ti_blindE, ti_recv C hw hob hj hcl, ti_preE C hE hw⟩ rfl rfl hsz rfl (lv_room hrs) hdg ⟨hcs.1, hcs.2⟩) hw.2 (fun q _ h => h) (fun q h => h) ?_
  intro u t H1 locs1 ht hvm hpo hB hz hk hS
  exact kk u H1 locs1 hpo ⟨by rw [← ht]; exact hB, hS⟩
end
section
variable {p : Program} {l : Launch} {e : Env} {R : Room} {s : State} {m : MethodId} {args : Array Value} {below : List Frame} {meth : Method} {c : Code} {H H0 : Heap} {locs : List Loc} {cells slots : Nat} {Q : State → Prop} {pc : Nat} {ls : Array Slot} {rest : List Value} {cc : ByteArray} {own : String} {nL : Nat} {D : va_G} {cy : Nat → ClassId} {Ls : List (Nat × Nat)} {A : Nat → Nat → Nat} {M : ti_M}
theorem ti_charAt {idx a v n : Nat} {f : Nat → Int32} (C : ti_C p s m c args cc own nL D cy Ls A) (hs : tx_s a v n f (ti_As Ls A) s H0) (hg : tx_g (ti_As Ls A) s H0) (hw : ti_H Ls D A cy H0 M H locs) (hm : Cond.methodLink own idx yJ0_charAt_5068e ∈ lw_g) (hsz : ls.size = nL) (hrs : (rest.map fun v => v.category).sum ≤ 8) (hR : 3 + 1 ≤ R.frames ∧ 8 + (2 + 11) + 60 * 3 ≤ R.locals) (hcs : cells ≤ R.cells ∧ slots ≤ R.slots) (hn : n < 2 ^ 31) {i : Int32} (h1 : 0 ≤ i.toInt) (h2 : i.toInt < n) (hdg : decode cc pc = .ok (.invokevirtual idx, 3))
    (kk : ∀ (H1 : Heap) (locs1 : List Loc), ti_H Ls D A cy H0 M H1 locs1 → W p l e R s m args below meth c H1 locs1 cells slots Q (F0 m (pc + 3) ls (.int (f i.toNatClampNeg &&& 255) :: rest))) : W p l e R s m args below meth c H locs cells slots Q (F0 m pc ls (.int i :: .ref a :: rest)) := by
  refine va_calli (va_runV (As := [.int i]) (rest := rest) ⟨C.1, C.2.1, C.2.2.2.2.2.1, C.2.2.2.1, C.2.2.1⟩ (x_J0_charAt l a v n f hn i h1 h2) (cwV 1 C.2.2.1 (tx_gV ⟨hm, ym_J0_charAt_5068e, yv_J0_charAt_5068e, yi_J0_charAt_5068e, yc_J0_charAt_5068e⟩) rfl rfl rfl ⟨rfl, yd_J0_charAt_5068e⟩ hR) ⟨tx_fb tx_Qb, ?_, ?_⟩ rfl rfl hsz rfl (lv_room hrs) hdg ⟨hcs.1, hcs.2⟩) hw.2 (fun q _ h => h.elim) (fun q h => h.elim) ?_
  · obtain ⟨cell, q1, q2, q3, -⟩ := hs.1.kept hw.2.2.1
    exact ⟨cell, q1, q2, q3⟩
  · intro U hU hW
    refine ⟨rfl, ?_⟩
    unfold tx_Q tx_G
    rw [hU]
    exact ⟨((hg.moved hW.alike).kept hw.2.2.1).narrow (fun _ h => h.elim), ((hs.moved hW.alike).kept hw.2.2.1).narrow (fun _ h => h.elim)⟩
  · intro r u t H1 locs1 ht hvm hpo hB hz hk hS
    obtain rfl : r = f i.toNatClampNeg &&& 255 := hpo
    exact kk H1 locs1 ⟨hw.1.kept (fun k q hq => hk q.1 ((hw.1 k q hq).lt) (fun h => h)), hS⟩
end
end
section
variable {Tc : gC} {Tm : gM}
set_option maxHeartbeats 4000000 in
set_option maxRecDepth 100000 in
theorem s_X7_peek (l : Launch) (D : va_G) (A : Nat → Nat → Nat) (cy : Nat → ClassId) (hJ : ti_inj ti_LT A) (M : ti_M) (hI : cI Tc M)  : ti_Ki l yX7_peek cX7_peek 1 (some .int) 0 ti_LT D A cy M [.ref (A 2 0)] (fun r M2 => M2 = M ∧ (-1) ≤ r.toInt ∧ r.toInt ≤ 255 ∧ (r.toInt = -1 ∨ (tI M 2 3).toInt < 700) ∧ r.toInt = (s_pk M).toInt) := by
  refine ti_eI yp_X7_peek hJ ti_LT_nd (Nat.le_of_ble_eq_true rfl) ?_
  intro p e s m args below meth c Q H0 C hQ hw ls hl
  have hx := C.1
  have hb := C.2.1
  have hl : lv_has ls 1 [(0, .ref (A 2 0))] := hl
  refine lv_aload_n hx hb dX7_peek_0 rfl (lv_at hl 0 rfl) ?_
  refine ti_get (ci := 7) (k := 3) (N := 7) (T := TX7) C hw iw_7 rfl ob_2 (by decide) (by decide) fl_X7_22 rfl rfl dX7_peek_1 ?_
  refine lv_topi (fun x_1 ex_1 => ?_)
  have bx_1 : 0 ≤ x_1.toInt ∧ x_1.toInt ≤ 700 := cI_rd hI ob_2.1 ex_1
  have ux_1 : (tI M 2 3).toInt = x_1.toInt := by rw [ex_1]
  refine lv_aload_n hx hb dX7_peek_4 rfl (lv_at hl 0 rfl) ?_
  refine ti_get (ci := 7) (k := 2) (N := 7) (T := TX7) C hw iw_7 rfl ob_2 (by decide) (by decide) fl_X7_19 rfl rfl dX7_peek_5 ?_
  refine lv_topi (fun x_2 ex_2 => ?_)
  have bx_2 : 0 ≤ x_2.toInt ∧ x_2.toInt ≤ 700 := cI_rd hI ob_2.1 ex_2
  have ux_2 : (tI M 2 2).toInt = x_2.toInt := by rw [ex_2]
  refine sb_icmp_ge (tgt := 27) hx hb rfl rfl dX7_peek_8 (by decide) (fun c_8_2 => ?_) (fun c_8_2 => ?_)
  · refine lv_iconst (v := (-1)) hx hb dX7_peek_27 (by decide) ?_
    exact hQ _ _ _ _ _ _ hw rfl (⟨rfl, by decide, by decide, Or.inl (by decide), by unfold s_pk; rw [if_neg (by omega)]⟩) dX7_peek_28
  · refine lv_aload_n hx hb dX7_peek_11 rfl (lv_at hl 0 rfl) ?_
    refine ti_get (ci := 7) (k := 0) (N := 7) (T := TX7) (v := .ref (A 2 1)) C hw iw_7 rfl ob_2 (by decide) (by decide) fl_X7_9 rfl rfl dX7_peek_12 ?_
    refine lv_aload_n hx hb dX7_peek_15 rfl (lv_at hl 0 rfl) ?_
    refine ti_get (ci := 7) (k := 3) (N := 7) (T := TX7) C hw iw_7 rfl ob_2 (by decide) (by decide) fl_X7_22 rfl rfl dX7_peek_16 ?_
    refine ti_top (y := x_1) (ex_1.symm) ?_
    have u_4 : (tI M 2 3).toInt = (x_1 : Int32).toInt := by rw [(ex_1.symm)]
    refine ti_bald (ci := 7) (k := 0) (n := 700) C hw ob_2 (by decide) (fun _ _ => rfl) (vp_in_iff.mpr (by omega)) dX7_peek_19 ?_
    refine lv_topi (fun x_5 ex_5 => ?_)
    refine lv_sipush (v := 255) hx hb dX7_peek_20 (by decide) ?_
    refine lv_iand hx hb dX7_peek_23 ?_
    refine lv_topi (fun x_6 ex_6 => ?_)
    have bx_6 := i_and 8 ex_6 (by decide) (by decide)
    refine lv_goto (tgt := 28) hx hb dX7_peek_24 (by decide) ?_
    exact hQ _ _ _ _ _ _ hw rfl (⟨rfl, by omega, by omega, by omega, by unfold s_pk; rw [if_pos (by omega), ex_6, ex_5, (ex_1.symm)]⟩) dX7_peek_28
end
section
variable {Tc : gC} {Tm : gM}
def cV (M : ti_M) (o k : Nat) : Prop := ∃ t : Nat, (t = 3 ∨ t = 4) ∧ tT M o k = some t
def cS (M : ti_M) : Prop := ∀ f n : Nat, (tI M 28 1).toInt = f → (tI M 28 2).toInt = n → ∀ j : Nat, j < n → cV M (29 + (f + j) % 20) 0
def cF (Tc : gC) (M : ti_M) : Prop := cI Tc M ∧ cV M 0 1 ∧ cV M 0 2 ∧ cV M 27 0 ∧ cS M ∧ (¬ (tI M 0 7).toInt = 0 → cV M 49 0)
theorem cV.to {M N : ti_M} {o k : Nat} (h : cV M o k) (e : tT N o k = tT M o k) : cV N o k := by obtain ⟨t, h1, h2⟩ := h; exact ⟨t, h1, e.trans h2⟩
theorem cS.to {M N : ti_M} (h : cS M) (h1 : tI N 28 1 = tI M 28 1) (h2 : tI N 28 2 = tI M 28 2) (hT : ∀ i : Nat, i < 20 → tT N (29 + i) 0 = tT M (29 + i) 0) : cS N := by
  intro f n hf hn j hj
  rw [h1] at hf
  rw [h2] at hn
  exact (h f n hf hn j hj).to (hT _ (Nat.mod_lt _ (by decide)))
theorem cF_fr {M N : ti_M} (h : cF Tc M) (hI : cI Tc N) (r : rT N M) (x : fX N M) : cF Tc N := by
  obtain ⟨-, h1, h2, h3, h4, h5⟩ := h
  refine ⟨hI, h1.to (r 0 1 (by decide)), h2.to (r 0 2 (by decide)), h3.to (r 27 0 (by decide)), h4.to (x 1).2.2.1 (x 2).2.2.1 (fun i hi => r _ _ (by omega)), fun q => (h5 ?_).to (r 49 0 (by decide))⟩
  rwa [(x 7).1] at q
theorem cF_rr {M N : ti_M} (h : cF Tc M) (hI : cI Tc N) (r : rR N M) (x : f0 N M) : cF Tc N := by
  obtain ⟨-, h1, h2, h3, h4, h5⟩ := h
  refine ⟨hI, h1.to (r 0 1 (by decide)), h2.to (r 0 2 (by decide)), h3.to (r 27 0 (by decide)), h4.to (x 1).2 (x 2).2 (fun i hi => r _ _ (by omega)), fun q => (h5 ?_).to (r 49 0 (by decide))⟩
  rwa [(x 7).1] at q
theorem cF_mk {N : ti_M} (hI : cI Tc N) (h1 : cV N 0 1) (h2 : cV N 0 2) (h3 : cV N 27 0) (h4 : (tI N 28 2).toInt = 0) (h5 : (tI N 0 7).toInt = 0) : cF Tc N :=
  ⟨hI, h1, h2, h3, fun f n _ hn j hj => by rw [h4] at hn; omega, fun q => absurd h5 q⟩
theorem cF_clear {M N : ti_M} (h : cF Tc M) (hI : cI Tc N) (e : N = uI M 28 2 0) : cF Tc N := by
  obtain ⟨-, h1, h2, h3, h4, h5⟩ := h
  subst e
  refine ⟨hI, h1, h2, h3, fun f n _ hn j hj => ?_, fun q => h5 (by rwa [tI_n _ _ _ _ (by decide)] at q)⟩
  rw [tI_u] at hn
  have h0 : (0 : Int32).toInt = 0 := by decide
  omega
/-- what remember leaves: the ring's place is new, and either many or first goes on -/
theorem cF_rem {M N : ti_M} {t i : Nat} {f n f2 n2 : Int32} (h : cF Tc M) (hI : cI Tc N) (ht : t = 3 ∨ t = 4) (eT : N.2.2.2 = (uT M (29 + i) 0 (some t)).2.2.2) (hf : tI M 28 1 = f) (hn : tI M 28 2 = n) (b1 : 0 ≤ f.toInt) (b2 : f.toInt ≤ 19) (b3 : 0 ≤ n.toInt) (b4 : n.toInt ≤ 20) (hi : (i : Int) = (f.toInt + n.toInt) % 20) (h0 : ∀ k, tI N 0 k = tI M 0 k) (hf2 : tI N 28 1 = f2) (hn2 : tI N 28 2 = n2)
    (hh : (f2.toInt = f.toInt ∧ n2.toInt = n.toInt + 1) ∨ (n.toInt = 20 ∧ n2.toInt = 20 ∧ f2.toInt = (f.toInt + 1) % 20)) : cF Tc N := by
  obtain ⟨-, h1, h2, h3, h4, h5⟩ := h
  have hi20 : i < 20 := by omega
  have keep : ∀ o k : Nat, ¬ (k = 0 ∧ o = 29 + i) → tT N o k = tT M o k := fun o k q => (tT_fr eT).trans (tT_n _ _ _ _ q)
  have new : tT N (29 + i) 0 = some t := (tT_fr eT).trans (tT_u _ _ _ _)
  refine ⟨hI, h1.to (keep 0 1 (by omega)), h2.to (keep 0 2 (by omega)), h3.to (keep 27 0 (by omega)), ?_, fun q => (h5 (by rwa [h0] at q)).to (keep 49 0 (by omega))⟩
  intro a b ha hb j hj
  rw [hf2] at ha
  rw [hn2] at hb
  by_cases hq : (a + j) % 20 = i
  · rw [hq]; exact ⟨t, ht, new⟩
  · refine cV.to ?_ (keep _ _ (by omega))
    have hs := h4 f.toInt.toNat n.toInt.toNat (by rw [hf]; omega) (by rw [hn]; omega)
    rcases hh with ⟨e1, e2⟩ | ⟨e0, e1, e2⟩
    · have := hs j (by omega)
      rwa [show f.toInt.toNat = a by omega] at this
    · have := hs ((j + 1) % 20) (by omega)
      rwa [show (f.toInt.toNat + (j + 1) % 20) % 20 = (a + j) % 20 by omega] at this
/-- going back one step -/
theorem cF_back {M N : ti_M} {t : Nat} {n n2 : Int32} (h : cF Tc M) (hI : cI Tc N) (ht : t = 3 ∨ t = 4) (eT : N.2.2.2 = (uT M 27 0 (some t)).2.2.2) (hn : tI M 28 2 = n) (h0 : ∀ k, tI N 0 k = tI M 0 k) (hf2 : tI N 28 1 = tI M 28 1) (hn2 : tI N 28 2 = n2) (hle : n2.toInt ≤ n.toInt) (b : 0 ≤ n.toInt) : cF Tc N := by
  obtain ⟨-, h1, h2, h3, h4, h5⟩ := h
  have keep : ∀ o k : Nat, ¬ (k = 0 ∧ o = 27) → tT N o k = tT M o k := fun o k q => (tT_fr eT).trans (tT_n _ _ _ _ q)
  refine ⟨hI, h1.to (keep 0 1 (by omega)), h2.to (keep 0 2 (by omega)), ⟨t, ht, (tT_fr eT).trans (tT_u _ _ _ _)⟩, ?_, fun q => (h5 (by rwa [h0] at q)).to (keep 49 0 (by omega))⟩
  intro a c ha hc j hj
  rw [hf2] at ha
  rw [hn2] at hc
  exact (h4 a n.toInt.toNat ha (by rw [hn]; omega) j (by omega)).to (keep _ _ (by omega))
theorem cF_now {M N : ti_M} {t : Nat} (h : cF Tc M) (hI : cI Tc N) (ht : t = 3 ∨ t = 4) (eT : N.2.2.2 = (uT M 27 0 (some t)).2.2.2) (x : fX N M) : cF Tc N := by
  have hb : 0 ≤ (tI M 28 2).toInt ∧ (tI M 28 2).toInt ≤ 20 := cI_rd (x := tI M 28 2) (k := 2) h.1 ob_28.1 rfl
  exact cF_back h hI ht eT rfl (fun k => (x k).1) (x 1).2.2.1 (x 2).2.2.1 (Int.le_refl _) hb.1
theorem cF_keep {M N : ti_M} {t : Nat} (h : cF Tc M) (hI : cI Tc N) (ht : t = 3 ∨ t = 4) (eT : N.2.2.2 = (uT M 49 0 (some t)).2.2.2) (h28 : ∀ k, tI N 28 k = tI M 28 k) : cF Tc N := by
  obtain ⟨-, h1, h2, h3, h4, h5⟩ := h
  have keep : ∀ o k : Nat, ¬ (k = 0 ∧ o = 49) → tT N o k = tT M o k := fun o k q => (tT_fr eT).trans (tT_n _ _ _ _ q)
  exact ⟨hI, h1.to (keep 0 1 (by omega)), h2.to (keep 0 2 (by omega)), h3.to (keep 27 0 (by omega)), h4.to (h28 1) (h28 2) (fun i hi => keep _ _ (by omega)), fun _ => ⟨t, ht, (tT_fr eT).trans (tT_u _ _ _ _)⟩⟩
theorem cF_self {M : ti_M} (h : cF Tc M) : cF (cG M) M := ⟨cI_self h.1, h.2⟩
end
section
variable {Tc : gC} {Tm : gM}
set_option maxHeartbeats 4000000 in
set_option maxRecDepth 100000 in
theorem s_X5_clear (l : Launch) (D : va_G) (A : Nat → Nat → Nat) (cy : Nat → ClassId) (hJ : ti_inj ti_LT A) (M : ti_M) (hI : cI Tc M)  : ti_Kv l yX5_clear cX5_clear 1 0 ti_LT D A cy M [.ref (A 28 0)] (fun M2 => M2 = uI M 28 2 0) := by
  refine ti_eV yp_X5_clear hJ ti_LT_nd (Nat.le_of_ble_eq_true rfl) ?_
  intro p e s m args below meth c Q H0 C hQ hw ls hl
  have hx := C.1
  have hb := C.2.1
  have hl : lv_has ls 1 [(0, .ref (A 28 0))] := hl
  refine lv_aload_n hx hb dX5_clear_0 rfl (lv_at hl 0 rfl) ?_
  refine lv_iconst (v := 0) hx hb dX5_clear_1 (by decide) ?_
  refine ti_putI (ci := 5) (k := 2) (N := 3) (T := TX5) C hw iw_5 tyX5 tyX5_ok nmX5 rfl ob_28 (by decide) (by decide) fl_X5_21 rfl rfl rfl rfl (fn_5 A _) fs_5_2 dX5_clear_2 (fun H locs hw => ?_)
  obtain ⟨M_1, hM_1⟩ : ∃ z : ti_M, z = uI M 28 2 0 := ⟨_, rfl⟩
  have hw := hw.to hM_1.symm
  have iM_1 : cI Tc M_1 := cI_uI hI hM_1 ob_28.1 (ib_mk (lo := 0) (hi := 20) (by decide) (by decide))
  have vM_1 : (tI M_1 28 2).toInt = 0 := by rw [tI_uE hM_1]; decide
  exact hQ _ _ _ _ _ hw hM_1 dX5_clear_5
set_option maxHeartbeats 4000000 in
set_option maxRecDepth 100000 in
theorem s_X9_isMan (l : Launch) (D : va_G) (A : Nat → Nat → Nat) (cy : Nat → ClassId) (hJ : ti_inj ti_LT A) (M : ti_M) (hI : cI Tc M) (t1 : Nat) (ht1 : t1 = 3 ∨ t1 = 4) (hT1 : tT M 0 1 = some t1) (mn : Int32) : ti_Ki l yX9_isMan cX9_isMan 2 (some .boolean) 0 ti_LT D A cy M [.ref (A 0 0), .int mn] (fun r M2 => M2 = M ∧ ((r = 1 ∧ 0 ≤ mn.toInt ∧ mn.toInt ≤ 7) ∨ r = 0)) := by
  refine ti_eI yp_X9_isMan hJ ti_LT_nd (Nat.le_of_ble_eq_true rfl) ?_
  intro p e s m args below meth c Q H0 C hQ hw ls hl
  have hx := C.1
  have hb := C.2.1
  have hl : lv_has ls 2 [(0, .ref (A 0 0)), (1, .int mn)] := hl
  refine lv_iload_n hx hb dX9_isMan_0 rfl (lv_at hl 1 rfl) ?_
  have hj_19_3 : ∀  (H : Heap) (locs : List Loc) (ls : Array Slot), ti_H ti_LT D A cy H0 M H locs → lv_has ls 2 [(0, .ref (A 0 0)), (1, .int mn)] → W p l e (ti_rm 0) s m args below meth c H locs 0 0 Q (F0 m 19 ls []) := by
    intro  H locs ls  hw hl
    refine lv_iconst (v := 0) hx hb dX9_isMan_19 (by decide) ?_
    exact hQ _ _ _ _ _ _ hw rfl (⟨rfl, Or.inr rfl⟩) dX9_isMan_20
  refine sb_if_lt (tgt := 19) hx hb rfl dX9_isMan_1 (by decide) (fun c_1_0 => ?_) (fun c_1_0 => ?_)
  · exact hj_19_3  _ _ _  hw (lv_sub hl [0, 1] rfl)
  · refine lv_iload_n hx hb dX9_isMan_4 rfl (lv_at hl 1 rfl) ?_
    refine lv_aload_n hx hb dX9_isMan_5 rfl (lv_at hl 0 rfl) ?_
    refine ti_get (ci := 9) (k := 1) (N := 10) (T := TX9) (v := .ref (A t1 0)) C hw iw_9 rfl ob_0 (by decide) (by decide) fl_X9_19 rfl (ti_Tv (hT1)) dX9_isMan_6 ?_
    refine ti_get (ci := 8) (k := 4) (N := 12) (T := TX8) C hw iw_8 rfl (ob_t ht1) (by decide) (by decide) fl_X9_301 rfl rfl dX9_isMan_9 ?_
    refine lv_topi (fun x_2 ex_2 => ?_)
    have bx_2 : 0 ≤ x_2.toInt ∧ x_2.toInt ≤ 8 := cI_rd hI (ob_t ht1).1 ex_2
    have ux_2 : (tI M t1 4).toInt = x_2.toInt := by rw [ex_2]
    refine sb_icmp_ge (tgt := 19) hx hb rfl rfl dX9_isMan_12 (by decide) (fun c_12_2 => ?_) (fun c_12_2 => ?_)
    · exact hj_19_3  _ _ _  hw (lv_sub hl [0, 1] rfl)
    · refine lv_iconst (v := 1) hx hb dX9_isMan_15 (by decide) ?_
      refine lv_goto (tgt := 20) hx hb dX9_isMan_16 (by decide) ?_
      exact hQ _ _ _ _ _ _ hw rfl (⟨rfl, Or.inl ⟨rfl, by omega, by omega⟩⟩) dX9_isMan_20
set_option maxHeartbeats 4000000 in
set_option maxRecDepth 100000 in
theorem s_X9_isPower (l : Launch) (D : va_G) (A : Nat → Nat → Nat) (cy : Nat → ClassId) (hJ : ti_inj ti_LT A) (M : ti_M) (hI : cI Tc M)  (mn : Int32) : ti_Ki l yX9_isPower cX9_isPower 2 (some .boolean) 0 ti_LT D A cy M [.ref (A 0 0), .int mn] (fun r M2 => M2 = M ∧ ((r = 1 ∧ 0 ≤ mn.toInt ∧ mn.toInt ≤ 2) ∨ r = 0)) := by
  refine ti_eI yp_X9_isPower hJ ti_LT_nd (Nat.le_of_ble_eq_true rfl) ?_
  intro p e s m args below meth c Q H0 C hQ hw ls hl
  have hx := C.1
  have hb := C.2.1
  have hl : lv_has ls 2 [(0, .ref (A 0 0)), (1, .int mn)] := hl
  refine lv_iload_n hx hb dX9_isPower_0 rfl (lv_at hl 1 rfl) ?_
  have hj_13_2 : ∀  (H : Heap) (locs : List Loc) (ls : Array Slot), ti_H ti_LT D A cy H0 M H locs → lv_has ls 2 [(0, .ref (A 0 0)), (1, .int mn)] → W p l e (ti_rm 0) s m args below meth c H locs 0 0 Q (F0 m 13 ls []) := by
    intro  H locs ls  hw hl
    refine lv_iconst (v := 0) hx hb dX9_isPower_13 (by decide) ?_
    exact hQ _ _ _ _ _ _ hw rfl (⟨rfl, Or.inr rfl⟩) dX9_isPower_14
  refine sb_if_lt (tgt := 13) hx hb rfl dX9_isPower_1 (by decide) (fun c_1_0 => ?_) (fun c_1_0 => ?_)
  · exact hj_13_2  _ _ _  hw (lv_sub hl [0, 1] rfl)
  · refine lv_iload_n hx hb dX9_isPower_4 rfl (lv_at hl 1 rfl) ?_
    refine lv_iconst (v := 3) hx hb dX9_isPower_5 (by decide) ?_
    refine sb_icmp_ge (tgt := 13) hx hb rfl (by decide : (3 : Int32).toInt = 3) dX9_isPower_6 (by decide) (fun c_6_1 => ?_) (fun c_6_1 => ?_)
    · exact hj_13_2  _ _ _  hw (lv_sub hl [0, 1] rfl)
    · refine lv_iconst (v := 1) hx hb dX9_isPower_9 (by decide) ?_
      refine lv_goto (tgt := 14) hx hb dX9_isPower_10 (by decide) ?_
      exact hQ _ _ _ _ _ _ hw rfl (⟨rfl, Or.inl ⟨rfl, by omega, by omega⟩⟩) dX9_isPower_14
set_option maxHeartbeats 4000000 in
set_option maxRecDepth 100000 in
theorem s_X9_isPlace (l : Launch) (D : va_G) (A : Nat → Nat → Nat) (cy : Nat → ClassId) (hJ : ti_inj ti_LT A) (M : ti_M) (hI : cI Tc M)  (mn : Int32) : ti_Ki l yX9_isPlace cX9_isPlace 2 (some .boolean) 0 ti_LT D A cy M [.ref (A 0 0), .int mn] (fun r M2 => M2 = M ∧ ((r = 1 ∧ 0 ≤ mn.toInt ∧ mn.toInt ≤ 7) ∨ r = 0)) := by
  refine ti_eI yp_X9_isPlace hJ ti_LT_nd (Nat.le_of_ble_eq_true rfl) ?_
  intro p e s m args below meth c Q H0 C hQ hw ls hl
  have hx := C.1
  have hb := C.2.1
  have hl : lv_has ls 2 [(0, .ref (A 0 0)), (1, .int mn)] := hl
  refine lv_iload_n hx hb dX9_isPlace_0 rfl (lv_at hl 1 rfl) ?_
  have hj_14_2 : ∀  (H : Heap) (locs : List Loc) (ls : Array Slot), ti_H ti_LT D A cy H0 M H locs → lv_has ls 2 [(0, .ref (A 0 0)), (1, .int mn)] → W p l e (ti_rm 0) s m args below meth c H locs 0 0 Q (F0 m 14 ls []) := by
    intro  H locs ls  hw hl
    refine lv_iconst (v := 0) hx hb dX9_isPlace_14 (by decide) ?_
    exact hQ _ _ _ _ _ _ hw rfl (⟨rfl, Or.inr rfl⟩) dX9_isPlace_15
  refine sb_if_lt (tgt := 14) hx hb rfl dX9_isPlace_1 (by decide) (fun c_1_0 => ?_) (fun c_1_0 => ?_)
  · exact hj_14_2  _ _ _  hw (lv_sub hl [0, 1] rfl)
  · refine lv_iload_n hx hb dX9_isPlace_4 rfl (lv_at hl 1 rfl) ?_
    refine lv_bipush (v := 8) hx hb dX9_isPlace_5 (by decide) ?_
    refine sb_icmp_ge (tgt := 14) hx hb rfl (by decide : (8 : Int32).toInt = 8) dX9_isPlace_7 (by decide) (fun c_7_1 => ?_) (fun c_7_1 => ?_)
    · exact hj_14_2  _ _ _  hw (lv_sub hl [0, 1] rfl)
    · refine lv_iconst (v := 1) hx hb dX9_isPlace_10 (by decide) ?_
      refine lv_goto (tgt := 15) hx hb dX9_isPlace_11 (by decide) ?_
      exact hQ _ _ _ _ _ _ hw rfl (⟨rfl, Or.inl ⟨rfl, by omega, by omega⟩⟩) dX9_isPlace_15
set_option maxHeartbeats 4000000 in
set_option maxRecDepth 100000 in
theorem s_X9_isToCome (l : Launch) (D : va_G) (A : Nat → Nat → Nat) (cy : Nat → ClassId) (hJ : ti_inj ti_LT A) (M : ti_M) (hI : cI Tc M) (t1 : Nat) (ht1 : t1 = 3 ∨ t1 = 4) (hT1 : tT M 0 1 = some t1) (mn : Int32) : ti_Ki l yX9_isToCome cX9_isToCome 2 (some .boolean) 1 ti_LT D A cy M [.ref (A 0 0), .int mn] (fun r M2 => M2 = M ∧ ((r = 1 ∧ 0 ≤ mn.toInt ∧ mn.toInt ≤ 7) ∨ r = 0)) := by
  refine ti_eI yp_X9_isToCome hJ ti_LT_nd (Nat.le_of_ble_eq_true rfl) ?_
  intro p e s m args below meth c Q H0 C hQ hw ls hl
  have hx := C.1
  have hb := C.2.1
  have hl : lv_has ls 2 [(0, .ref (A 0 0)), (1, .int mn)] := hl
  refine lv_aload_n hx hb dX9_isToCome_0 rfl (lv_at hl 0 rfl) ?_
  refine lv_iload_n hx hb dX9_isToCome_1 rfl (lv_at hl 1 rfl) ?_
  refine ti_callVi (ci := 9) (av := [.int mn]) C hw (s_X9_isMan l D A cy hJ M hI t1 ht1 (hT1) mn) ⟨ml_X9_104, ym_X9_isMan, yv_X9_isMan, yi_X9_isMan, yc_X9_isMan⟩ yd_X9_isMan ob_0 (by decide) rfl rfl hl.1 (Nat.le_of_ble_eq_true rfl) ⟨by decide, by decide⟩ ⟨Nat.zero_le _, Nat.zero_le _⟩ dX9_isToCome_2 (fun r_1 M_2 H locs hp_2 hw => ?_)
  obtain ⟨hm, hz⟩ := hp_2
  have hw := hw.to hm
  have hj_24_7 : ∀  (H : Heap) (locs : List Loc) (ls : Array Slot), ti_H ti_LT D A cy H0 M H locs → lv_has ls 2 [(0, .ref (A 0 0)), (1, .int mn)] → W p l e (ti_rm 1) s m args below meth c H locs 0 0 Q (F0 m 24 ls []) := by
    intro  H locs ls  hw hl
    refine lv_iconst (v := 0) hx hb dX9_isToCome_24 (by decide) ?_
    exact hQ _ _ _ _ _ _ hw rfl (⟨rfl, Or.inr rfl⟩) dX9_isToCome_25
  rcases hz with ⟨rfl, d1_3, d2_3⟩ | rfl
  · refine sb_if_eq (tgt := 24) hx hb (by decide : (1 : Int32).toInt = 1) dX9_isToCome_5 (by decide) (fun h => absurd h (by decide)) (fun c_5_3 => ?_)
    refine lv_aload_n hx hb dX9_isToCome_8 rfl (lv_at hl 0 rfl) ?_
    refine ti_get (ci := 9) (k := 3) (N := 10) (T := TX9) (v := .ref (A 27 0)) C hw iw_9 rfl ob_0 (by decide) (by decide) fl_X9_29 rfl rfl dX9_isToCome_9 ?_
    refine ti_get (ci := 3) (k := 8) (N := 17) (T := TX3) (v := .ref (A 27 9)) C hw iw_3 rfl ob_27 (by decide) (by decide) fl_X9_139 rfl rfl dX9_isToCome_12 ?_
    refine lv_iload_n hx hb dX9_isToCome_15 rfl (lv_at hl 1 rfl) ?_
    refine ti_iald (ci := 3) (k := 8) (n := 8) C hw ob_27 (by decide) (fun _ _ => rfl) (vp_in_iff.mpr (by omega)) dX9_isToCome_16 ?_
    refine lv_topi (fun x_6 ex_6 => ?_)
    refine sb_if_ne (tgt := 24) hx hb rfl dX9_isToCome_17 (by decide) (fun c_17_6 => ?_) (fun c_17_6 => ?_)
    · exact hj_24_7  _ _ _  hw (lv_sub hl [0, 1] rfl)
    · refine lv_iconst (v := 1) hx hb dX9_isToCome_20 (by decide) ?_
      refine lv_goto (tgt := 25) hx hb dX9_isToCome_21 (by decide) ?_
      exact hQ _ _ _ _ _ _ hw rfl (⟨rfl, Or.inl ⟨rfl, by omega, by omega⟩⟩) dX9_isToCome_25
  · refine sb_if_eq (tgt := 24) hx hb (by decide : (0 : Int32).toInt = 0) dX9_isToCome_5 (by decide) (fun c_5_4 => ?_) (fun h => absurd h (by decide))
    exact hj_24_7  _ _ _  hw (lv_sub hl [0, 1] rfl)
set_option maxHeartbeats 4000000 in
set_option maxRecDepth 100000 in
theorem s_X9_isZeroOrOne (l : Launch) (D : va_G) (A : Nat → Nat → Nat) (cy : Nat → ClassId) (hJ : ti_inj ti_LT A) (M : ti_M) (hI : cI Tc M) (mn : Int32) : ti_Ki l yX9_isZeroOrOne cX9_isZeroOrOne 2 (some .boolean) 0 ti_LT D A cy M [.ref (A 0 0), .int mn] (fun r M2 => M2 = M) := by
  refine ti_eI yp_X9_isZeroOrOne hJ ti_LT_nd (Nat.le_of_ble_eq_true rfl) ?_
  intro p e s m args below meth c Q H0 C hQ hw ls hl
  have hx := C.1
  have hb := C.2.1
  have hl : lv_has ls 2 [(0, .ref (A 0 0)), (1, .int mn)] := hl
  refine lv_iload_n hx hb dX9_isZeroOrOne_0 rfl (lv_at hl 1 rfl) ?_
  have hj_9_2 : ∀  (H : Heap) (locs : List Loc) (ls : Array Slot), ti_H ti_LT D A cy H0 M H locs → lv_has ls 2 [(0, .ref (A 0 0)), (1, .int mn)] → W p l e (ti_rm 0) s m args below meth c H locs 0 0 Q (F0 m 9 ls []) := by
    intro  H locs ls  hw hl
    refine lv_iconst (v := 1) hx hb dX9_isZeroOrOne_9 (by decide) ?_
    refine lv_goto (tgt := 14) hx hb dX9_isZeroOrOne_10 (by decide) ?_
    exact hQ _ _ _ _ _ _ hw rfl rfl dX9_isZeroOrOne_14
  refine sb_if_eq (tgt := 9) hx hb rfl dX9_isZeroOrOne_1 (by decide) (fun c_1_0 => ?_) (fun c_1_0 => ?_)
  · exact hj_9_2  _ _ _  hw (lv_sub hl [0, 1] rfl)
  · refine lv_iload_n hx hb dX9_isZeroOrOne_4 rfl (lv_at hl 1 rfl) ?_
    refine lv_iconst (v := 1) hx hb dX9_isZeroOrOne_5 (by decide) ?_
    refine sb_icmp_ne (tgt := 13) hx hb rfl (by decide : (1 : Int32).toInt = 1) dX9_isZeroOrOne_6 (by decide) (fun c_6_1 => ?_) (fun c_6_1 => ?_)
    · refine lv_iconst (v := 0) hx hb dX9_isZeroOrOne_13 (by decide) ?_
      exact hQ _ _ _ _ _ _ hw rfl rfl dX9_isZeroOrOne_14
    · exact hj_9_2  _ _ _  hw (lv_sub hl [0, 1] rfl)
set_option maxHeartbeats 4000000 in
set_option maxRecDepth 100000 in
theorem s_X9_isAhead (l : Launch) (D : va_G) (A : Nat → Nat → Nat) (cy : Nat → ClassId) (hJ : ti_inj ti_LT A) (M : ti_M) (hI : cI Tc M) (n1 n2 : Int32) : ti_Ki l yX9_isAhead cX9_isAhead 3 (some .boolean) 0 ti_LT D A cy M [.ref (A 0 0), .int n1, .int n2] (fun r M2 => M2 = M) := by
  refine ti_eI yp_X9_isAhead hJ ti_LT_nd (Nat.le_of_ble_eq_true rfl) ?_
  intro p e s m args below meth c Q H0 C hQ hw ls hl
  have hx := C.1
  have hb := C.2.1
  have hl : lv_has ls 3 [(0, .ref (A 0 0)), (1, .int n1), (2, .int n2)] := hl
  refine lv_iload_n hx hb dX9_isAhead_0 rfl (lv_at hl 1 rfl) ?_
  refine lv_iload_n hx hb dX9_isAhead_1 rfl (lv_at hl 2 rfl) ?_
  have hj_29_5 : ∀  (H : Heap) (locs : List Loc) (ls : Array Slot), ti_H ti_LT D A cy H0 M H locs → lv_has ls 3 [(0, .ref (A 0 0)), (1, .int n1), (2, .int n2)] → W p l e (ti_rm 0) s m args below meth c H locs 0 0 Q (F0 m 29 ls []) := by
    intro  H locs ls  hw hl
    refine lv_iconst (v := 0) hx hb dX9_isAhead_29 (by decide) ?_
    exact hQ _ _ _ _ _ _ hw rfl rfl dX9_isAhead_30
  refine sb_icmp_lt (tgt := 29) hx hb rfl rfl dX9_isAhead_2 (by decide) (fun c_2_0 => ?_) (fun c_2_0 => ?_)
  · exact hj_29_5  _ _ _  hw (lv_sub hl [0, 1, 2] rfl)
  · refine lv_iload_n hx hb dX9_isAhead_5 rfl (lv_at hl 1 rfl) ?_
    refine lv_bipush (v := 60) hx hb dX9_isAhead_6 (by decide) ?_
    refine sb_icmp_gt (tgt := 29) hx hb rfl (by decide : (60 : Int32).toInt = 60) dX9_isAhead_8 (by decide) (fun c_8_1 => ?_) (fun c_8_1 => ?_)
    · exact hj_29_5  _ _ _  hw (lv_sub hl [0, 1, 2] rfl)
    · refine lv_iload_n hx hb dX9_isAhead_11 rfl (lv_at hl 1 rfl) ?_
      refine lv_bipush (v := 120) hx hb dX9_isAhead_12 (by decide) ?_
      refine lv_aload_n hx hb dX9_isAhead_14 rfl (lv_at hl 0 rfl) ?_
      refine ti_get (ci := 9) (k := 3) (N := 10) (T := TX9) (v := .ref (A 27 0)) C hw iw_9 rfl ob_0 (by decide) (by decide) fl_X9_29 rfl rfl dX9_isAhead_15 ?_
      refine ti_get (ci := 3) (k := 2) (N := 17) (T := TX3) C hw iw_3 rfl ob_27 (by decide) (by decide) fl_X9_186 rfl rfl dX9_isAhead_18 ?_
      refine lv_topi (fun x_3 ex_3 => ?_)
      have bx_3 : 0 ≤ x_3.toInt ∧ x_3.toInt ≤ 120 := cI_rd hI ob_27.1 ex_3 (Or.inl rfl)
      have ux_3 : (tI M 27 2).toInt = x_3.toInt := by rw [ex_3]
      refine lv_isub hx hb dX9_isAhead_21 ?_
      refine lv_topi (fun x_4 ex_4 => ?_)
      have tx_4 : x_4.toInt = 120 - x_3.toInt := i_sub ex_4 (by decide : (120 : Int32).toInt = 120) rfl (by omega) (by omega)
      refine sb_icmp_gt (tgt := 29) hx hb rfl rfl dX9_isAhead_22 (by decide) (fun c_22_4 => ?_) (fun c_22_4 => ?_)
      · exact hj_29_5  _ _ _  hw (lv_sub hl [0, 1, 2] rfl)
      · refine lv_iconst (v := 1) hx hb dX9_isAhead_25 (by decide) ?_
        refine lv_goto (tgt := 30) hx hb dX9_isAhead_26 (by decide) ?_
        exact hQ _ _ _ _ _ _ hw rfl rfl dX9_isAhead_30
set_option maxHeartbeats 4000000 in
set_option maxRecDepth 100000 in
theorem s_X9_isGame (l : Launch) (D : va_G) (A : Nat → Nat → Nat) (cy : Nat → ClassId) (hJ : ti_inj ti_LT A) (M : ti_M) (hI : cI Tc M) (t1 : Nat) (ht1 : t1 = 3 ∨ t1 = 4) (hT1 : tT M 0 1 = some t1) (m1 m2 nn : Int32) : ti_Ki l yX9_isGame cX9_isGame 4 (some .boolean) 2 ti_LT D A cy M [.ref (A 0 0), .int m1, .int m2, .int nn] (fun r M2 => M2 = M ∧ ((r = 1 ∧ 0 ≤ m1.toInt ∧ m1.toInt ≤ 7 ∧ 0 ≤ m2.toInt ∧ m2.toInt ≤ 7) ∨ r = 0)) := by
  refine ti_eI yp_X9_isGame hJ ti_LT_nd (Nat.le_of_ble_eq_true rfl) ?_
  intro p e s m args below meth c Q H0 C hQ hw ls hl
  have hx := C.1
  have hb := C.2.1
  have hl : lv_has ls 4 [(0, .ref (A 0 0)), (1, .int m1), (2, .int m2), (3, .int nn)] := hl
  refine lv_aload_n hx hb dX9_isGame_0 rfl (lv_at hl 0 rfl) ?_
  refine lv_iload_n hx hb dX9_isGame_1 rfl (lv_at hl 1 rfl) ?_
  refine ti_callVi (ci := 9) (av := [.int m1]) C hw (s_X9_isToCome l D A cy hJ M hI t1 ht1 (hT1) m1) ⟨ml_X9_195, ym_X9_isToCome, yv_X9_isToCome, yi_X9_isToCome, yc_X9_isToCome⟩ yd_X9_isToCome ob_0 (by decide) rfl rfl hl.1 (Nat.le_of_ble_eq_true rfl) ⟨by decide, by decide⟩ ⟨Nat.zero_le _, Nat.zero_le _⟩ dX9_isGame_2 (fun r_1 M_2 H locs hp_2 hw => ?_)
  obtain ⟨hm, hz⟩ := hp_2
  have hw := hw.to hm
  have hj_46_16 : ∀  (H : Heap) (locs : List Loc) (ls : Array Slot), ti_H ti_LT D A cy H0 M H locs → lv_has ls 4 [(0, .ref (A 0 0)), (1, .int m1), (2, .int m2), (3, .int nn)] → W p l e (ti_rm 2) s m args below meth c H locs 0 0 Q (F0 m 46 ls []) := by
    intro  H locs ls  hw hl
    refine lv_iconst (v := 0) hx hb dX9_isGame_46 (by decide) ?_
    exact hQ _ _ _ _ _ _ hw rfl (⟨rfl, Or.inr rfl⟩) dX9_isGame_47
  rcases hz with ⟨rfl, d1_3, d2_3⟩ | rfl
  · refine sb_if_eq (tgt := 46) hx hb (by decide : (1 : Int32).toInt = 1) dX9_isGame_5 (by decide) (fun h => absurd h (by decide)) (fun c_5_3 => ?_)
    refine lv_aload_n hx hb dX9_isGame_8 rfl (lv_at hl 0 rfl) ?_
    refine lv_iload_n hx hb dX9_isGame_9 rfl (lv_at hl 2 rfl) ?_
    refine ti_callVi (ci := 9) (av := [.int m2]) C hw (s_X9_isToCome l D A cy hJ M hI t1 ht1 (hT1) m2) ⟨ml_X9_195, ym_X9_isToCome, yv_X9_isToCome, yi_X9_isToCome, yc_X9_isToCome⟩ yd_X9_isToCome ob_0 (by decide) rfl rfl hl.1 (Nat.le_of_ble_eq_true rfl) ⟨by decide, by decide⟩ ⟨Nat.zero_le _, Nat.zero_le _⟩ dX9_isGame_10 (fun r_6 M_7 H locs hp_7 hw => ?_)
    obtain ⟨hm, hz⟩ := hp_7
    have hw := hw.to hm
    rcases hz with ⟨rfl, d1_8, d2_8⟩ | rfl
    · refine sb_if_eq (tgt := 46) hx hb (by decide : (1 : Int32).toInt = 1) dX9_isGame_13 (by decide) (fun h => absurd h (by decide)) (fun c_13_8 => ?_)
      refine lv_iload_n hx hb dX9_isGame_16 rfl (lv_at hl 1 rfl) ?_
      refine lv_iload_n hx hb dX9_isGame_17 rfl (lv_at hl 2 rfl) ?_
      refine sb_icmp_eq (tgt := 46) hx hb rfl rfl dX9_isGame_18 (by decide) (fun c_18_10 => ?_) (fun c_18_10 => ?_)
      · exact hj_46_16  _ _ _  hw (lv_sub hl [0, 1, 2, 3] rfl)
      · refine lv_aload_n hx hb dX9_isGame_21 rfl (lv_at hl 0 rfl) ?_
        refine ti_get (ci := 9) (k := 3) (N := 10) (T := TX9) (v := .ref (A 27 0)) C hw iw_9 rfl ob_0 (by decide) (by decide) fl_X9_29 rfl rfl dX9_isGame_22 ?_
        refine ti_get (ci := 3) (k := 2) (N := 17) (T := TX3) C hw iw_3 rfl ob_27 (by decide) (by decide) fl_X9_186 rfl rfl dX9_isGame_25 ?_
        refine lv_topi (fun x_12 ex_12 => ?_)
        have bx_12 : 0 ≤ x_12.toInt ∧ x_12.toInt ≤ 120 := cI_rd hI ob_27.1 ex_12 (Or.inl rfl)
        have ux_12 : (tI M 27 2).toInt = x_12.toInt := by rw [ex_12]
        refine lv_bipush (v := 59) hx hb dX9_isGame_28 (by decide) ?_
        refine sb_icmp_gt (tgt := 46) hx hb rfl (by decide : (59 : Int32).toInt = 59) dX9_isGame_30 (by decide) (fun c_30_12 => ?_) (fun c_30_12 => ?_)
        · exact hj_46_16  _ _ _  hw (lv_sub hl [0, 1, 2, 3] rfl)
        · refine lv_aload_n hx hb dX9_isGame_33 rfl (lv_at hl 0 rfl) ?_
          refine lv_iload_n hx hb dX9_isGame_34 rfl (lv_at hl 3 rfl) ?_
          refine lv_iconst (v := 1) hx hb dX9_isGame_35 (by decide) ?_
          refine ti_callVi (ci := 9) (av := [.int nn, .int 1]) C hw (s_X9_isAhead l D A cy hJ M hI nn 1) ⟨ml_X9_247, ym_X9_isAhead, yv_X9_isAhead, yi_X9_isAhead, yc_X9_isAhead⟩ yd_X9_isAhead ob_0 (by decide) rfl rfl hl.1 (Nat.le_of_ble_eq_true rfl) ⟨by decide, by decide⟩ ⟨Nat.zero_le _, Nat.zero_le _⟩ dX9_isGame_36 (fun r_14 M_15 H locs hp_15 hw => ?_)
          have hm := hp_15
          have hw := hw.to hm
          refine sb_if_eq (tgt := 46) hx hb rfl dX9_isGame_39 (by decide) (fun c_39_15 => ?_) (fun c_39_15 => ?_)
          · exact hj_46_16  _ _ _  hw (lv_sub hl [0, 1, 2, 3] rfl)
          · refine lv_iconst (v := 1) hx hb dX9_isGame_42 (by decide) ?_
            refine lv_goto (tgt := 47) hx hb dX9_isGame_43 (by decide) ?_
            exact hQ _ _ _ _ _ _ hw rfl (⟨rfl, Or.inl ⟨rfl, by omega, by omega, by omega, by omega⟩⟩) dX9_isGame_47
    · refine sb_if_eq (tgt := 46) hx hb (by decide : (0 : Int32).toInt = 0) dX9_isGame_13 (by decide) (fun c_13_9 => ?_) (fun h => absurd h (by decide))
      exact hj_46_16  _ _ _  hw (lv_sub hl [0, 1, 2, 3] rfl)
  · refine sb_if_eq (tgt := 46) hx hb (by decide : (0 : Int32).toInt = 0) dX9_isGame_5 (by decide) (fun c_5_4 => ?_) (fun h => absurd h (by decide))
    exact hj_46_16  _ _ _  hw (lv_sub hl [0, 1, 2, 3] rfl)
end
section
variable {Tc : gC} {Tm : gM}
def mBI (k : Nat) (v : Int32) : Prop := match k with
  | 2 => ib 0 700 v
  | 20 => ib 0 700 v
  | 21 => ib 0 700 v
  | 22 => ib 0 700 v
  | 29 => ib 0 8 v
  | 30 => ib 0 64 v
  | 33 => ib 0 64 v
  | 52 => ib 0 20 v
  | 56 => ib 0 4 v
  | 58 => ib 0 24 v
  | 59 => ib (-1) 24 v
  | _ => True
def mBN (i : Nat) (v : Int32) : Prop := match i with
  | 0 => ib 0 8 v
  | 3 => ib 1 30 v
  | 7 => ib 0 64 v
  | 8 => ib 0 7 v
  | 9 => ib 0 7 v
  | 10 => ib 0 7 v
  | 11 => ib 0 8 v
  | 14 => ib 1 30 v
  | 18 => ib 0 64 v
  | 19 => ib 0 7 v
  | 20 => ib 0 7 v
  | 21 => ib 0 7 v
  | _ => True
def mBY (k i : Nat) (v : Int32) : Prop := match k with
  | 1 => ib 0 255 v
  | 3 => mBN i v
  | 14 => ib 0 64 v
  | 15 => ib 0 64 v
  | 34 => i ≠ 1 → ib 0 120 v
  | 38 => ib 0 8 v
  | 39 => ib 0 7 v
  | 49 => ib 0 7 v
  | 60 => ib 0 59 v
  | 61 => ib 0 7 v
  | 63 => ib (-1) 23 v
  | _ => True
def mG (M : ti_M) : gM := (tY M 60 1, tI M 60 27, tI M 60 28, tI M 60 58, tI M 60 59, tY M 60 60, tY M 60 61, tY M 60 62, tY M 60 63)
theorem mG_I {M : ti_M} {k : Nat} {v : Int32} (h : k ≠ 27 ∧ k ≠ 28 ∧ k ≠ 58 ∧ k ≠ 59) : mG (uI M 60 k v) = mG M := by
  unfold mG
  rw [tI_n _ _ _ _ (nk (Ne.symm h.1)), tI_n _ _ _ _ (nk (Ne.symm h.2.1)), tI_n _ _ _ _ (nk (Ne.symm h.2.2.1)), tI_n _ _ _ _ (nk (Ne.symm h.2.2.2))]; rfl
theorem mG_Y {M : ti_M} {k : Nat} {f : Nat → Int32} (h : k ≠ 1 ∧ (k < 60 ∨ 63 < k)) : mG (uY M 60 k f) = mG M := by
  unfold mG
  rw [tY_n _ _ _ _ (nk (Ne.symm h.1)), tY_n _ _ _ _ (nk (by omega)), tY_n _ _ _ _ (nk (by omega)), tY_n _ _ _ _ (nk (by omega)), tY_n _ _ _ _ (nk (by omega))]; rfl
def mI (Tm : gM) (M : ti_M) : Prop := (∀ k, mBI k (tI M 60 k)) ∧ (∀ k i, mBY k i (tY M 60 k i)) ∧ (tI M 60 23 = 0 → (tI M 60 24).toInt ≤ 24) ∧ mG M = Tm
theorem mI_self {M : ti_M} (h : mI Tm M) : mI (mG M) M := ⟨h.1, h.2.1, h.2.2.1, rfl⟩
theorem mI_mk {M N : ti_M} (h : mI Tm M) (e1 : ∀ k, mBI k (tI N 60 k)) (e2 : ∀ k i, mBY k i (tY N 60 k i)) (e3 : tI N 60 23 = tI M 60 23) (e4 : tI N 60 24 = tI M 60 24) : mI (mG N) N := ⟨e1, e2, by rw [e3, e4]; exact h.2.2.1, rfl⟩
/-- the last fault and its place may change -/
theorem mI_lf {M N : ti_M} {k : Nat} {v : Int32} (h : mI Tm M) (e : N = uI M 60 k v) (hk : k = 27 ∨ k = 28) (hb : mBI k v) : mI (mG N) N := by
  refine mI_mk h (fun k2 => ?_) (fun k2 i => by rw [tY_uIE e]; exact h.2.1 k2 i) (tI_nE e (nk (by omega))) (tI_nE e (nk (by omega)))
  by_cases q : k2 = k
  · subst q; rw [tI_uE e]; exact hb
  · rw [tI_nE e (nk q)]; exact h.1 k2
/-- stones may change -/
theorem mI_ls {M N : ti_M} {k : Nat} {v : Int32} (h : mI Tm M) (e : N = uI M 60 k v) (hk : k = 58 ∨ k = 59) (hb : mBI k v) : mI (mG N) N := by
  refine mI_mk h (fun k2 => ?_) (fun k2 i => by rw [tY_uIE e]; exact h.2.1 k2 i) (tI_nE e (nk (by omega))) (tI_nE e (nk (by omega)))
  by_cases q : k2 = k
  · subst q; rw [tI_uE e]; exact hb
  · rw [tI_nE e (nk q)]; exact h.1 k2
theorem mI_ry2 {M N : ti_M} {k i : Nat} {v : Int32} (h : mI Tm M) (e : N = uY M 60 k (upd (tY M 60 k) i v)) (hb : mBY k i v) : mI (mG N) N := by
  refine mI_mk h (fun k2 => by rw [tI_uYE e]; exact h.1 k2) (fun k2 j => ?_) (tI_uYE e) (tI_uYE e)
  by_cases q : k2 = k
  · subst q; rw [tY_uE e]
    by_cases r : j = i
    · subst r; rw [pk_us]; exact hb
    · rw [pk_un r]; exact h.2.1 _ j
  · rw [tY_nE e (nk q)]; exact h.2.1 k2 j
theorem mI_uI {M N : ti_M} {k : Nat} {v : Int32} (h : mI Tm M) (e : N = uI M 60 k v) (h3 : k ≠ 23) (h4 : k ≠ 24) (hb : mBI k v) (h5 : k ≠ 27 ∧ k ≠ 28 ∧ k ≠ 58 ∧ k ≠ 59 := by decide) : mI Tm N := by
  subst e
  refine ⟨fun k2 => ?_, fun k2 i => h.2.1 k2 i, ?_, (mG_I h5).trans h.2.2.2⟩
  · by_cases q : k2 = k
    · subst q; rw [tI_u]; exact hb
    · rw [tI_n _ _ _ _ (nk q)]; exact h.1 k2
  · rw [tI_n _ _ _ _ (nk (Ne.symm h3)), tI_n _ _ _ _ (nk (Ne.symm h4))]; exact h.2.2.1
theorem mI_so {M N : ti_M} {v : Int32} (h : mI Tm M) (e : N = uI M 60 23 v) (hb : v = 0 → (tI M 60 24).toInt ≤ 24) : mI Tm N := by
  subst e
  refine ⟨fun k2 => ?_, fun k2 i => h.2.1 k2 i, ?_, (mG_I (by decide)).trans h.2.2.2⟩
  · by_cases q : k2 = 23
    · subst q; rw [tI_u]; trivial
    · rw [tI_n _ _ _ _ (nk q)]; exact h.1 k2
  · rw [tI_u, tI_n _ _ _ _ (nk (by decide))]; exact hb
theorem mI_va {M N : ti_M} {v : Int32} (h : mI Tm M) (e : N = uI M 60 24 v) (hb : tI M 60 23 = 0 → v.toInt ≤ 24) : mI Tm N := by
  subst e
  refine ⟨fun k2 => ?_, fun k2 i => h.2.1 k2 i, ?_, (mG_I (by decide)).trans h.2.2.2⟩
  · by_cases q : k2 = 24
    · subst q; rw [tI_u]; trivial
    · rw [tI_n _ _ _ _ (nk q)]; exact h.1 k2
  · rw [tI_u, tI_n _ _ _ _ (nk (by decide))]; exact hb
theorem mI_up {M N : ti_M} {k i : Nat} {v : Int32} (h : mI Tm M) (e : N = uY M 60 k (upd (tY M 60 k) i v)) (hb : mBY k i v) (h1 : k ≠ 1 ∧ (k < 60 ∨ 63 < k) := by decide) : mI Tm N := by
  subst e
  refine ⟨fun k2 => h.1 k2, fun k2 j => ?_, h.2.2.1, (mG_Y h1).trans h.2.2.2⟩
  by_cases q : k2 = k
  · subst q; rw [tY_u]
    by_cases r : j = i
    · subst r; rw [pk_us]; exact hb
    · rw [pk_un r]; exact h.2.1 _ j
  · rw [tY_n _ _ _ _ (nk q)]; exact h.2.1 k2 j
theorem mI_uZ {M N : ti_M} {k : Nat} {f : Nat → Int64} (h : mI Tm M) (e : N = uZ M 60 k f) : mI Tm N := by subst e; exact h
theorem mI_rd {M : ti_M} {k : Nat} {x : Int32} (h : mI Tm M) (e : x = tI M 60 k) : mBI k x := by rw [e]; exact h.1 k
theorem mI_ry {M : ti_M} {k i : Nat} {x : Int32} (h : mI Tm M) (e : x = tY M 60 k i) : mBY k i x := by rw [e]; exact h.2.1 k i
theorem mI_rn {M : ti_M} {i : Nat} {x : Int32} {lo hi : Int} (h : mI Tm M) (e : x = tY M 60 3 i) (hd : ∀ v, mBN i v → ib lo hi v) : ib lo hi x := by rw [e]; exact hd _ (h.2.1 3 i)
theorem cg {f g : Nat → Int32} (e : f = g) (i : Nat) : f i = g i := by rw [e]
def z1 (f : Nat → Int32) (i : Nat) : Nat := if (f i).toInt = 0 then 1 else 0
def zc (f : Nat → Int32) (b : Nat) : Nat := z1 f b + z1 f (b + 1) + z1 f (b + 2) + z1 f (b + 3) + z1 f (b + 4) + z1 f (b + 5) + z1 f (b + 6) + z1 f (b + 7)
def mC (M : ti_M) (q : Nat) : Prop := (tY M 60 38 q).toInt + (zc (tY M 60 40) (8 * q) : Int) ≤ 8
def mP (M : ti_M) (q : Nat) : Prop := ∀ m : Nat, m < 8 → (m : Int) < (tY M 60 3 0).toInt → (tY M 60 40 (8 * q + m)).toInt = 1 → ∃ p : Nat, (p : Int) < (tY M 60 38 q).toInt ∧ (tY M 60 39 (8 * q + p)).toInt = m
theorem z1_le (f : Nat → Int32) (i j : Nat) (v : Int32) (hv : v.toInt ≠ 0) : z1 (upd f i v) j ≤ z1 f j := by
  by_cases q : j = i
  · subst q; unfold z1; rw [pk_us, if_neg hv]; exact Nat.zero_le _
  · unfold z1; rw [pk_un q]; exact Nat.le_refl _
theorem z1_s (f : Nat → Int32) (i : Nat) (v : Int32) (hv : v.toInt ≠ 0) : z1 (upd f i v) i = 0 := by unfold z1; rw [pk_us, if_neg hv]
theorem z1_n (f : Nat → Int32) (i j : Nat) (v : Int32) (q : j ≠ i) : z1 (upd f i v) j = z1 f j := by unfold z1; rw [pk_un q]
theorem zc_le (f : Nat → Int32) (i b : Nat) (v : Int32) (hv : v.toInt ≠ 0) : zc (upd f i v) b ≤ zc f b := by
  have h := fun j => z1_le f i j v hv
  have h0 := h b; have h1 := h (b + 1); have h2 := h (b + 2); have h3 := h (b + 3); have h4 := h (b + 4); have h5 := h (b + 5); have h6 := h (b + 6); have h7 := h (b + 7)
  unfold zc; omega
theorem zc_out (f : Nat → Int32) (i b : Nat) (v : Int32) (q : i < b ∨ b + 8 ≤ i) : zc (upd f i v) b = zc f b := by
  unfold zc
  rw [z1_n f i b v (by omega), z1_n f i (b + 1) v (by omega), z1_n f i (b + 2) v (by omega), z1_n f i (b + 3) v (by omega), z1_n f i (b + 4) v (by omega), z1_n f i (b + 5) v (by omega), z1_n f i (b + 6) v (by omega), z1_n f i (b + 7) v (by omega)]
theorem zc_one (f : Nat → Int32) (i b : Nat) (v : Int32) (hv : v.toInt ≠ 0) (h0 : (f i).toInt = 0) (q1 : b ≤ i) (q2 : i < b + 8) : zc (upd f i v) b + 1 ≤ zc f b := by
  have h := fun j => z1_le f i j v hv
  have g0 := h b; have g1 := h (b + 1); have g2 := h (b + 2); have g3 := h (b + 3); have g4 := h (b + 4); have g5 := h (b + 5); have g6 := h (b + 6); have g7 := h (b + 7)
  have hs := z1_s f i v hv
  have hi : z1 f i = 1 := by unfold z1; rw [if_pos h0]
  have hj : i = b ∨ i = b + 1 ∨ i = b + 2 ∨ i = b + 3 ∨ i = b + 4 ∨ i = b + 5 ∨ i = b + 6 ∨ i = b + 7 := by omega
  unfold zc
  rcases hj with rfl | rfl | rfl | rfl | rfl | rfl | rfl | rfl <;> omega
theorem zc_pos (f : Nat → Int32) (i b : Nat) (h0 : (f i).toInt = 0) (q1 : b ≤ i) (q2 : i < b + 8) : 1 ≤ zc f b := by
  have hi : z1 f i = 1 := by unfold z1; rw [if_pos h0]
  have hj : i = b ∨ i = b + 1 ∨ i = b + 2 ∨ i = b + 3 ∨ i = b + 4 ∨ i = b + 5 ∨ i = b + 6 ∨ i = b + 7 := by omega
  unfold zc
  rcases hj with rfl | rfl | rfl | rfl | rfl | rfl | rfl | rfl <;> omega
theorem z1_8 (f : Nat → Int32) (i : Nat) : z1 f i ≤ 1 := by unfold z1; split <;> omega
theorem zc_8 (f : Nat → Int32) (b : Nat) : zc f b ≤ 8 := by
  have h := z1_8 f
  have g0 := h b; have g1 := h (b + 1); have g2 := h (b + 2); have g3 := h (b + 3); have g4 := h (b + 4); have g5 := h (b + 5); have g6 := h (b + 6); have g7 := h (b + 7)
  unfold zc; omega
theorem zc_eq {f g : Nat → Int32} {b c : Nat} (h : ∀ j, j < 8 → f (b + j) = g (c + j)) : zc f b = zc g c := by
  have e : ∀ j, j < 8 → z1 f (b + j) = z1 g (c + j) := fun j hj => by unfold z1; rw [h j hj]
  have e0 := e 0 (by omega)
  unfold zc
  rw [e 1 (by omega), e 2 (by omega), e 3 (by omega), e 4 (by omega), e 5 (by omega), e 6 (by omega), e 7 (by omega)]
  simp only [Nat.add_zero] at e0
  rw [e0]
def dp (s v : Nat → Int32) (a : Nat) : Nat → Option Nat
  | 0 => some 0
  | n + 1 => (dp s v a n).bind fun d => if (s (a + n)).toInt = 2 then (if (v (a + n)).toInt = 260 then (if 1 ≤ d then some d else none) else if 2 ≤ d then some (d - 1) else none) else if (s (a + n)).toInt = 0 ∨ (0 ≤ (v (a + n)).toInt ∧ (v (a + n)).toInt ≤ 5) then some (d + 1) else none
theorem dp_le {s v : Nat → Int32} {a : Nat} : ∀ (n d : Nat), dp s v a n = some d → d ≤ n := by
  intro n
  induction n with
  | zero => intro d h; simp only [dp, Option.some.injEq] at h; omega
  | succ n ih =>
    intro d h
    simp only [dp] at h
    obtain ⟨d0, h0, h1⟩ := Option.bind_eq_some_iff.mp h
    have := ih d0 h0
    split at h1
    · split at h1
      · split at h1
        · cases h1; omega
        · cases h1
      · split at h1
        · cases h1; omega
        · cases h1
    · split at h1
      · cases h1; omega
      · cases h1
def mL (M : ti_M) : Prop := ∀ j : Nat, j < 3 → ∀ a n : Nat, (tY M 60 14 j).toInt = a → (tY M 60 15 j).toInt = a + n → ∃ d, dp (tY M 60 16) (tY M 60 17) a n = some d
def lw (N M : ti_M) : Prop := ∀ k, 3 ≤ k → k ≤ 17 → tY N 60 k = tY M 60 k
def ik (N M : ti_M) : Prop := tI N 60 2 = tI M 60 2 ∧ tI N 60 51 = tI M 60 51 ∧ tI N 60 52 = tI M 60 52
/-- queues' rows stay -/
def qw (N M : ti_M) : Prop := lw N M ∧ ik N M ∧ tY N 60 38 = tY M 60 38 ∧ tY N 60 39 = tY M 60 39 ∧ tY N 60 40 = tY M 60 40
theorem qw.refl {M : ti_M} : qw M M := ⟨fun _ _ _ => rfl, ⟨rfl, rfl, rfl⟩, rfl, rfl, rfl⟩
theorem qw.trans {K N M : ti_M} (a : qw K N) (b : qw N M) : qw K M := ⟨fun k h1 h2 => (a.1 k h1 h2).trans (b.1 k h1 h2), ⟨a.2.1.1.trans b.2.1.1, a.2.1.2.1.trans b.2.1.2.1, a.2.1.2.2.trans b.2.1.2.2⟩, a.2.2.1.trans b.2.2.1, a.2.2.2.1.trans b.2.2.2.1, a.2.2.2.2.trans b.2.2.2.2⟩
theorem qw_I {M N : ti_M} {k : Nat} {v : Int32} (e : N = uI M 60 k v) (h : k ≠ 2 ∧ k ≠ 51 ∧ k ≠ 52) : qw N M :=
  ⟨fun _ _ _ => tY_uIE e, ⟨tI_nE e (nk (Ne.symm h.1)), tI_nE e (nk (Ne.symm h.2.1)), tI_nE e (nk (Ne.symm h.2.2))⟩, tY_uIE e, tY_uIE e, tY_uIE e⟩
theorem qw_Y {M N : ti_M} {k : Nat} {v : Nat → Int32} (e : N = uY M 60 k v) (h : (k < 3 ∨ 17 < k) ∧ k ≠ 38 ∧ k ≠ 39 ∧ k ≠ 40) : qw N M :=
  ⟨fun k2 h1 h2 => tY_nE e (nk (by omega)), ⟨tI_uYE e, tI_uYE e, tI_uYE e⟩, tY_nE e (nk (Ne.symm h.2.1)), tY_nE e (nk (Ne.symm h.2.2.1)), tY_nE e (nk (Ne.symm h.2.2.2))⟩
theorem qw_Z {M N : ti_M} {k : Nat} {v : Nat → Int64} (e : N = uZ M 60 k v) : qw N M := ⟨fun _ _ _ => tY_uZE e, ⟨tI_uZE e, tI_uZE e, tI_uZE e⟩, tY_uZE e, tY_uZE e, tY_uZE e⟩
/-- but of the queue q nothing is worse -/
def rq (q : Nat) (N M : ti_M) : Prop := lw N M ∧ ik N M ∧ (∀ q2, (q2 ≠ q → mC M q2 → mC N q2) ∧ (mP M q2 → mP N q2)) ∧ (q ≠ 0 → tY N 60 38 0 = tY M 60 38 0)
theorem mC_qw {N M : ti_M} {q : Nat} (h : qw N M) (c : mC M q) : mC N q := by unfold mC at *; rw [h.2.2.1, h.2.2.2.2]; exact c
theorem mP_qw {N M : ti_M} {q : Nat} (h : qw N M) (c : mP M q) : mP N q := by unfold mP at *; rw [h.2.2.1, h.2.2.2.1, h.2.2.2.2, h.1 3 (by decide) (by decide)]; exact c
theorem mL_lw {N M : ti_M} (h : lw N M) (c : mL M) : mL N := by unfold mL at *; rw [h 14 (by decide) (by decide), h 15 (by decide) (by decide), h 16 (by decide) (by decide), h 17 (by decide) (by decide)]; exact c
theorem rq_qw {q : Nat} {N M : ti_M} (h : qw N M) : rq q N M := ⟨h.1, h.2.1, fun _ => ⟨fun _ c => mC_qw h c, fun c => mP_qw h c⟩, fun _ => by rw [h.2.2.1]⟩
theorem rq.refl {q : Nat} {M : ti_M} : rq q M M := rq_qw qw.refl
theorem rq.trans {q : Nat} {K N M : ti_M} (a : rq q K N) (b : rq q N M) : rq q K M :=
  ⟨fun k h1 h2 => (a.1 k h1 h2).trans (b.1 k h1 h2), ⟨a.2.1.1.trans b.2.1.1, a.2.1.2.1.trans b.2.1.2.1, a.2.1.2.2.trans b.2.1.2.2⟩, fun q2 => ⟨fun h c => (a.2.2.1 q2).1 h ((b.2.2.1 q2).1 h c), fun c => (a.2.2.1 q2).2 ((b.2.2.1 q2).2 c)⟩, fun h => (a.2.2.2 h).trans (b.2.2.2 h)⟩
theorem lw_t {K N M : ti_M} (x : lw K N) (y : lw N M) : lw K M := fun k a b => (x k a b).trans (y k a b)
end
section
variable {Tc : gC} {Tm : gM}
theorem tY_fr {M N : ti_M} (e : N.2.1 = M.2.1) {o k : Nat} : tY N o k = tY M o k := congrFun (congrFun e o) k
theorem ry_I {M N : ti_M} {o k : Nat} {v : Int32} (e : N = uI M o k v) : N.2.1 = M.2.1 := by subst e; rfl
theorem ry_Z {M N : ti_M} {o k : Nat} {v : Nat → Int64} (e : N = uZ M o k v) : N.2.1 = M.2.1 := by subst e; rfl
theorem upl {f : Nat → Int32} {i n : Nat} {v : Int32} (h : i = n) : upd f i v n = v := by subst h; rw [pk_us]
set_option maxHeartbeats 4000000 in
set_option maxRecDepth 100000 in
theorem s_X10_isPlace (l : Launch) (D : va_G) (A : Nat → Nat → Nat) (cy : Nat → ClassId) (hJ : ti_inj ti_LM A) (M : ti_M) (hI : mI Tm M)  (a : Int32) : ti_Ki l yX10_isPlace cX10_isPlace 1 (some .boolean) 0 ti_LM D A cy M [.int a] (fun r M2 => M2 = M ∧ ((r = 1 ∧ 0 ≤ a.toInt ∧ a.toInt ≤ 7) ∨ r = 0)) := by
  refine ti_eI yp_X10_isPlace hJ ti_LM_nd (Nat.le_of_ble_eq_true rfl) ?_
  intro p e s m args below meth c Q H0 C hQ hw ls hl
  have hx := C.1
  have hb := C.2.1
  have hl : lv_has ls 1 [(0, .int a)] := hl
  refine lv_iload_n hx hb dX10_isPlace_0 rfl (lv_at hl 0 rfl) ?_
  have hj_14_2 : ∀  (H : Heap) (locs : List Loc) (ls : Array Slot), ti_H ti_LM D A cy H0 M H locs → lv_has ls 1 [(0, .int a)] → W p l e (ti_rm 0) s m args below meth c H locs 0 0 Q (F0 m 14 ls []) := by
    intro  H locs ls  hw hl
    refine lv_iconst (v := 0) hx hb dX10_isPlace_14 (by decide) ?_
    exact hQ _ _ _ _ _ _ hw rfl (⟨rfl, Or.inr rfl⟩) dX10_isPlace_15
  refine sb_if_lt (tgt := 14) hx hb rfl dX10_isPlace_1 (by decide) (fun c_1_0 => ?_) (fun c_1_0 => ?_)
  · exact hj_14_2  _ _ _  hw (lv_sub hl [0] rfl)
  · refine lv_iload_n hx hb dX10_isPlace_4 rfl (lv_at hl 0 rfl) ?_
    refine lv_bipush (v := 8) hx hb dX10_isPlace_5 (by decide) ?_
    refine sb_icmp_ge (tgt := 14) hx hb rfl (by decide : (8 : Int32).toInt = 8) dX10_isPlace_7 (by decide) (fun c_7_1 => ?_) (fun c_7_1 => ?_)
    · exact hj_14_2  _ _ _  hw (lv_sub hl [0] rfl)
    · refine lv_iconst (v := 1) hx hb dX10_isPlace_10 (by decide) ?_
      refine lv_goto (tgt := 15) hx hb dX10_isPlace_11 (by decide) ?_
      exact hQ _ _ _ _ _ _ hw rfl (⟨rfl, Or.inl ⟨rfl, by omega, by omega⟩⟩) dX10_isPlace_15
set_option maxHeartbeats 4000000 in
set_option maxRecDepth 100000 in
theorem s_X10_isPower (l : Launch) (D : va_G) (A : Nat → Nat → Nat) (cy : Nat → ClassId) (hJ : ti_inj ti_LM A) (M : ti_M) (hI : mI Tm M)  (a : Int32) : ti_Ki l yX10_isPower cX10_isPower 1 (some .boolean) 0 ti_LM D A cy M [.int a] (fun r M2 => M2 = M ∧ ((r = 1 ∧ 0 ≤ a.toInt ∧ a.toInt ≤ 2) ∨ r = 0)) := by
  refine ti_eI yp_X10_isPower hJ ti_LM_nd (Nat.le_of_ble_eq_true rfl) ?_
  intro p e s m args below meth c Q H0 C hQ hw ls hl
  have hx := C.1
  have hb := C.2.1
  have hl : lv_has ls 1 [(0, .int a)] := hl
  refine lv_iload_n hx hb dX10_isPower_0 rfl (lv_at hl 0 rfl) ?_
  have hj_13_2 : ∀  (H : Heap) (locs : List Loc) (ls : Array Slot), ti_H ti_LM D A cy H0 M H locs → lv_has ls 1 [(0, .int a)] → W p l e (ti_rm 0) s m args below meth c H locs 0 0 Q (F0 m 13 ls []) := by
    intro  H locs ls  hw hl
    refine lv_iconst (v := 0) hx hb dX10_isPower_13 (by decide) ?_
    exact hQ _ _ _ _ _ _ hw rfl (⟨rfl, Or.inr rfl⟩) dX10_isPower_14
  refine sb_if_lt (tgt := 13) hx hb rfl dX10_isPower_1 (by decide) (fun c_1_0 => ?_) (fun c_1_0 => ?_)
  · exact hj_13_2  _ _ _  hw (lv_sub hl [0] rfl)
  · refine lv_iload_n hx hb dX10_isPower_4 rfl (lv_at hl 0 rfl) ?_
    refine lv_iconst (v := 3) hx hb dX10_isPower_5 (by decide) ?_
    refine sb_icmp_ge (tgt := 13) hx hb rfl (by decide : (3 : Int32).toInt = 3) dX10_isPower_6 (by decide) (fun c_6_1 => ?_) (fun c_6_1 => ?_)
    · exact hj_13_2  _ _ _  hw (lv_sub hl [0] rfl)
    · refine lv_iconst (v := 1) hx hb dX10_isPower_9 (by decide) ?_
      refine lv_goto (tgt := 14) hx hb dX10_isPower_10 (by decide) ?_
      exact hQ _ _ _ _ _ _ hw rfl (⟨rfl, Or.inl ⟨rfl, by omega, by omega⟩⟩) dX10_isPower_14
set_option maxHeartbeats 4000000 in
set_option maxRecDepth 100000 in
theorem s_X10_isMan (l : Launch) (D : va_G) (A : Nat → Nat → Nat) (cy : Nat → ClassId) (hJ : ti_inj ti_LM A) (M : ti_M) (hI : mI Tm M)  (a : Int32) : ti_Ki l yX10_isMan cX10_isMan 2 (some .boolean) 0 ti_LM D A cy M [.ref (A 60 0), .int a] (fun r M2 => M2 = M ∧ ((r = 1 ∧ 0 ≤ a.toInt ∧ a.toInt ≤ 7 ∧ a.toInt < (tY M 60 3 0).toInt) ∨ r = 0)) := by
  refine ti_eI yp_X10_isMan hJ ti_LM_nd (Nat.le_of_ble_eq_true rfl) ?_
  intro p e s m args below meth c Q H0 C hQ hw ls hl
  have hx := C.1
  have hb := C.2.1
  have hl : lv_has ls 2 [(0, .ref (A 60 0)), (1, .int a)] := hl
  refine lv_iload_n hx hb dX10_isMan_0 rfl (lv_at hl 1 rfl) ?_
  have hj_18_3 : ∀  (H : Heap) (locs : List Loc) (ls : Array Slot), ti_H ti_LM D A cy H0 M H locs → lv_has ls 2 [(0, .ref (A 60 0)), (1, .int a)] → W p l e (ti_rm 0) s m args below meth c H locs 0 0 Q (F0 m 18 ls []) := by
    intro  H locs ls  hw hl
    refine lv_iconst (v := 0) hx hb dX10_isMan_18 (by decide) ?_
    exact hQ _ _ _ _ _ _ hw rfl (⟨rfl, Or.inr rfl⟩) dX10_isMan_19
  refine sb_if_lt (tgt := 18) hx hb rfl dX10_isMan_1 (by decide) (fun c_1_0 => ?_) (fun c_1_0 => ?_)
  · exact hj_18_3  _ _ _  hw (lv_sub hl [0, 1] rfl)
  · refine lv_iload_n hx hb dX10_isMan_4 rfl (lv_at hl 1 rfl) ?_
    refine lv_aload_n hx hb dX10_isMan_5 rfl (lv_at hl 0 rfl) ?_
    refine ti_get (ci := 10) (k := 3) (N := 67) (T := TX10) (v := .ref (A 60 4)) C hw iw_10 rfl ob_60 (by decide) (by decide) fl_X10_13 rfl rfl dX10_isMan_6 ?_
    refine lv_iconst (v := 0) hx hb dX10_isMan_9 (by decide) ?_
    refine ti_iald (ci := 10) (k := 3) (n := 22) C hw ob_60 (by decide) (fun _ _ => rfl) (by unfold vp_in; decide) dX10_isMan_10 ?_
    refine lv_topi (fun x_2 ex_2 => ?_)
    have yx_2 : tY M 60 3 0 = x_2 := ((congrArg _ (by decide)).symm.trans ex_2.symm)
    have bx_2 : 0 ≤ x_2.toInt ∧ x_2.toInt ≤ 8 := mI_rn (i := 0) hI yx_2.symm (fun _ h => h)
    have zx_2 : (tY M 60 3 0).toInt = x_2.toInt := by rw [yx_2]
    refine sb_icmp_ge (tgt := 18) hx hb rfl rfl dX10_isMan_11 (by decide) (fun c_11_2 => ?_) (fun c_11_2 => ?_)
    · exact hj_18_3  _ _ _  hw (lv_sub hl [0, 1] rfl)
    · refine lv_iconst (v := 1) hx hb dX10_isMan_14 (by decide) ?_
      refine lv_goto (tgt := 19) hx hb dX10_isMan_15 (by decide) ?_
      exact hQ _ _ _ _ _ _ hw rfl (⟨rfl, Or.inl ⟨rfl, by omega, by omega, by rw [(yx_2)]; omega⟩⟩) dX10_isMan_19
set_option maxHeartbeats 4000000 in
set_option maxRecDepth 100000 in
theorem s_X10_isIn (l : Launch) (D : va_G) (A : Nat → Nat → Nat) (cy : Nat → ClassId) (hJ : ti_inj ti_LM A) (M : ti_M) (hI : mI Tm M)  (a : Int32) : ti_Ki l yX10_isIn cX10_isIn 2 (some .boolean) 1 ti_LM D A cy M [.ref (A 60 0), .int a] (fun r M2 => M2 = M ∧ ((r = 1 ∧ 0 ≤ a.toInt ∧ a.toInt ≤ 7 ∧ a.toInt < (tY M 60 3 0).toInt ∧ (tY M 60 40 a.toNatClampNeg).toInt = 1) ∨ r = 0)) := by
  refine ti_eI yp_X10_isIn hJ ti_LM_nd (Nat.le_of_ble_eq_true rfl) ?_
  intro p e s m args below meth c Q H0 C hQ hw ls hl
  have hx := C.1
  have hb := C.2.1
  have hl : lv_has ls 2 [(0, .ref (A 60 0)), (1, .int a)] := hl
  refine lv_aload_n hx hb dX10_isIn_0 rfl (lv_at hl 0 rfl) ?_
  refine lv_iload_n hx hb dX10_isIn_1 rfl (lv_at hl 1 rfl) ?_
  refine ti_callVi (ci := 10) (av := [.int a]) C hw (s_X10_isMan l D A cy hJ M hI a) ⟨ml_X10_356, ym_X10_isMan, yv_X10_isMan, yi_X10_isMan, yc_X10_isMan⟩ yd_X10_isMan ob_60 (by decide) rfl rfl hl.1 (Nat.le_of_ble_eq_true rfl) ⟨by decide, by decide⟩ ⟨Nat.zero_le _, Nat.zero_le _⟩ dX10_isIn_2 (fun r_1 M_2 H locs hp_2 hw => ?_)
  obtain ⟨hm, hz⟩ := hp_2
  have hw := hw.to hm
  have hj_22_7 : ∀  (H : Heap) (locs : List Loc) (ls : Array Slot), ti_H ti_LM D A cy H0 M H locs → lv_has ls 2 [(0, .ref (A 60 0)), (1, .int a)] → W p l e (ti_rm 1) s m args below meth c H locs 0 0 Q (F0 m 22 ls []) := by
    intro  H locs ls  hw hl
    refine lv_iconst (v := 0) hx hb dX10_isIn_22 (by decide) ?_
    exact hQ _ _ _ _ _ _ hw rfl (⟨rfl, Or.inr rfl⟩) dX10_isIn_23
  rcases hz with ⟨rfl, d0_3, d1_3, d2_3⟩ | rfl
  · refine sb_if_eq (tgt := 22) hx hb (by decide : (1 : Int32).toInt = 1) dX10_isIn_5 (by decide) (fun h => absurd h (by decide)) (fun c_5_3 => ?_)
    refine lv_aload_n hx hb dX10_isIn_8 rfl (lv_at hl 0 rfl) ?_
    refine ti_get (ci := 10) (k := 40) (N := 67) (T := TX10) (v := .ref (A 60 41)) C hw iw_10 rfl ob_60 (by decide) (by decide) fl_X10_87 rfl rfl dX10_isIn_9 ?_
    refine lv_iload_n hx hb dX10_isIn_12 rfl (lv_at hl 1 rfl) ?_
    refine ti_iald (ci := 10) (k := 40) (n := 184) C hw ob_60 (by decide) (fun _ _ => rfl) (vp_in_iff.mpr (by omega)) dX10_isIn_13 ?_
    refine lv_topi (fun x_6 ex_6 => ?_)
    have yx_6 : tY M 60 40 a.toNatClampNeg = x_6 := (ex_6.symm)
    have zx_6 : (tY M 60 40 a.toNatClampNeg).toInt = x_6.toInt := by rw [yx_6]
    refine lv_iconst (v := 1) hx hb dX10_isIn_14 (by decide) ?_
    refine sb_icmp_ne (tgt := 22) hx hb rfl (by decide : (1 : Int32).toInt = 1) dX10_isIn_15 (by decide) (fun c_15_6 => ?_) (fun c_15_6 => ?_)
    · exact hj_22_7  _ _ _  hw (lv_sub hl [0, 1] rfl)
    · refine lv_iconst (v := 1) hx hb dX10_isIn_18 (by decide) ?_
      refine lv_goto (tgt := 23) hx hb dX10_isIn_19 (by decide) ?_
      exact hQ _ _ _ _ _ _ hw rfl (⟨rfl, Or.inl ⟨rfl, by omega, by omega, by omega, by rw [(yx_6)]; omega⟩⟩) dX10_isIn_23
  · refine sb_if_eq (tgt := 22) hx hb (by decide : (0 : Int32).toInt = 0) dX10_isIn_5 (by decide) (fun c_5_4 => ?_) (fun h => absurd h (by decide))
    exact hj_22_7  _ _ _  hw (lv_sub hl [0, 1] rfl)
set_option maxHeartbeats 4000000 in
set_option maxRecDepth 100000 in
theorem s_X10_isToCome (l : Launch) (D : va_G) (A : Nat → Nat → Nat) (cy : Nat → ClassId) (hJ : ti_inj ti_LM A) (M : ti_M) (hI : mI Tm M)  (a : Int32) : ti_Ki l yX10_isToCome cX10_isToCome 2 (some .boolean) 1 ti_LM D A cy M [.ref (A 60 0), .int a] (fun r M2 => M2 = M ∧ ((r = 1 ∧ 0 ≤ a.toInt ∧ a.toInt ≤ 7 ∧ a.toInt < (tY M 60 3 0).toInt ∧ (tY M 60 40 a.toNatClampNeg).toInt = 0) ∨ r = 0)) := by
  refine ti_eI yp_X10_isToCome hJ ti_LM_nd (Nat.le_of_ble_eq_true rfl) ?_
  intro p e s m args below meth c Q H0 C hQ hw ls hl
  have hx := C.1
  have hb := C.2.1
  have hl : lv_has ls 2 [(0, .ref (A 60 0)), (1, .int a)] := hl
  refine lv_aload_n hx hb dX10_isToCome_0 rfl (lv_at hl 0 rfl) ?_
  refine lv_iload_n hx hb dX10_isToCome_1 rfl (lv_at hl 1 rfl) ?_
  refine ti_callVi (ci := 10) (av := [.int a]) C hw (s_X10_isMan l D A cy hJ M hI a) ⟨ml_X10_356, ym_X10_isMan, yv_X10_isMan, yi_X10_isMan, yc_X10_isMan⟩ yd_X10_isMan ob_60 (by decide) rfl rfl hl.1 (Nat.le_of_ble_eq_true rfl) ⟨by decide, by decide⟩ ⟨Nat.zero_le _, Nat.zero_le _⟩ dX10_isToCome_2 (fun r_1 M_2 H locs hp_2 hw => ?_)
  obtain ⟨hm, hz⟩ := hp_2
  have hw := hw.to hm
  have hj_21_7 : ∀  (H : Heap) (locs : List Loc) (ls : Array Slot), ti_H ti_LM D A cy H0 M H locs → lv_has ls 2 [(0, .ref (A 60 0)), (1, .int a)] → W p l e (ti_rm 1) s m args below meth c H locs 0 0 Q (F0 m 21 ls []) := by
    intro  H locs ls  hw hl
    refine lv_iconst (v := 0) hx hb dX10_isToCome_21 (by decide) ?_
    exact hQ _ _ _ _ _ _ hw rfl (⟨rfl, Or.inr rfl⟩) dX10_isToCome_22
  rcases hz with ⟨rfl, d0_3, d1_3, d2_3⟩ | rfl
  · refine sb_if_eq (tgt := 21) hx hb (by decide : (1 : Int32).toInt = 1) dX10_isToCome_5 (by decide) (fun h => absurd h (by decide)) (fun c_5_3 => ?_)
    refine lv_aload_n hx hb dX10_isToCome_8 rfl (lv_at hl 0 rfl) ?_
    refine ti_get (ci := 10) (k := 40) (N := 67) (T := TX10) (v := .ref (A 60 41)) C hw iw_10 rfl ob_60 (by decide) (by decide) fl_X10_87 rfl rfl dX10_isToCome_9 ?_
    refine lv_iload_n hx hb dX10_isToCome_12 rfl (lv_at hl 1 rfl) ?_
    refine ti_iald (ci := 10) (k := 40) (n := 184) C hw ob_60 (by decide) (fun _ _ => rfl) (vp_in_iff.mpr (by omega)) dX10_isToCome_13 ?_
    refine lv_topi (fun x_6 ex_6 => ?_)
    have yx_6 : tY M 60 40 a.toNatClampNeg = x_6 := (ex_6.symm)
    have zx_6 : (tY M 60 40 a.toNatClampNeg).toInt = x_6.toInt := by rw [yx_6]
    refine sb_if_ne (tgt := 21) hx hb rfl dX10_isToCome_14 (by decide) (fun c_14_6 => ?_) (fun c_14_6 => ?_)
    · exact hj_21_7  _ _ _  hw (lv_sub hl [0, 1] rfl)
    · refine lv_iconst (v := 1) hx hb dX10_isToCome_17 (by decide) ?_
      refine lv_goto (tgt := 22) hx hb dX10_isToCome_18 (by decide) ?_
      exact hQ _ _ _ _ _ _ hw rfl (⟨rfl, Or.inl ⟨rfl, by omega, by omega, by omega, by rw [(yx_6)]; omega⟩⟩) dX10_isToCome_22
  · refine sb_if_eq (tgt := 21) hx hb (by decide : (0 : Int32).toInt = 0) dX10_isToCome_5 (by decide) (fun c_5_4 => ?_) (fun h => absurd h (by decide))
    exact hj_21_7  _ _ _  hw (lv_sub hl [0, 1] rfl)
set_option maxHeartbeats 4000000 in
set_option maxRecDepth 100000 in
theorem s_X10_minutesLeft (l : Launch) (D : va_G) (A : Nat → Nat → Nat) (cy : Nat → ClassId) (hJ : ti_inj ti_LM A) (M : ti_M) (hI : mI Tm M)  : ti_Ki l yX10_minutesLeft cX10_minutesLeft 1 (some .int) 0 ti_LM D A cy M [.ref (A 60 0)] (fun r M2 => M2 = M ∧ 0 ≤ r.toInt ∧ r.toInt ≤ 120 ∧ r.toInt = 120 - (tY M 60 34 0).toInt) := by
  refine ti_eI yp_X10_minutesLeft hJ ti_LM_nd (Nat.le_of_ble_eq_true rfl) ?_
  intro p e s m args below meth c Q H0 C hQ hw ls hl
  have hx := C.1
  have hb := C.2.1
  have hl : lv_has ls 1 [(0, .ref (A 60 0))] := hl
  refine lv_bipush (v := 120) hx hb dX10_minutesLeft_0 (by decide) ?_
  refine lv_aload_n hx hb dX10_minutesLeft_2 rfl (lv_at hl 0 rfl) ?_
  refine ti_get (ci := 10) (k := 34) (N := 67) (T := TX10) (v := .ref (A 60 35)) C hw iw_10 rfl ob_60 (by decide) (by decide) fl_X10_69 rfl rfl dX10_minutesLeft_3 ?_
  refine lv_iconst (v := 0) hx hb dX10_minutesLeft_6 (by decide) ?_
  refine ti_iald (ci := 10) (k := 34) (n := 23) C hw ob_60 (by decide) (fun _ _ => rfl) (by unfold vp_in; decide) dX10_minutesLeft_7 ?_
  refine lv_topi (fun x_1 ex_1 => ?_)
  have yx_1 : tY M 60 34 0 = x_1 := ((congrArg _ (by decide)).symm.trans ex_1.symm)
  have bx_1 : 0 ≤ x_1.toInt ∧ x_1.toInt ≤ 120 := mI_ry (k := 34) (i := 0) hI yx_1.symm (by decide)
  have zx_1 : (tY M 60 34 0).toInt = x_1.toInt := by rw [yx_1]
  refine lv_isub hx hb dX10_minutesLeft_8 ?_
  refine lv_topi (fun x_2 ex_2 => ?_)
  have tx_2 : x_2.toInt = 120 - x_1.toInt := i_sub ex_2 (by decide : (120 : Int32).toInt = 120) rfl (by omega) (by omega)
  exact hQ _ _ _ _ _ _ hw rfl (⟨rfl, by omega, by omega, by rw [(yx_1)]; omega⟩) dX10_minutesLeft_9
set_option maxHeartbeats 4000000 in
set_option maxRecDepth 100000 in
theorem s_X10_isLong (l : Launch) (D : va_G) (A : Nat → Nat → Nat) (cy : Nat → ClassId) (hJ : ti_inj ti_LM A) (M : ti_M) (hI : mI Tm M)  (a : Int32) : ti_Ki l yX10_isLong cX10_isLong 2 (some .boolean) 1 ti_LM D A cy M [.ref (A 60 0), .int a] (fun r M2 => M2 = M ∧ ((r = 1 ∧ 1 ≤ a.toInt ∧ a.toInt ≤ 60) ∨ r = 0)) := by
  refine ti_eI yp_X10_isLong hJ ti_LM_nd (Nat.le_of_ble_eq_true rfl) ?_
  intro p e s m args below meth c Q H0 C hQ hw ls hl
  have hx := C.1
  have hb := C.2.1
  have hl : lv_has ls 2 [(0, .ref (A 60 0)), (1, .int a)] := hl
  refine lv_iload_n hx hb dX10_isLong_0 rfl (lv_at hl 1 rfl) ?_
  refine lv_iconst (v := 1) hx hb dX10_isLong_1 (by decide) ?_
  have hj_23_5 : ∀  (H : Heap) (locs : List Loc) (ls : Array Slot), ti_H ti_LM D A cy H0 M H locs → lv_has ls 2 [(0, .ref (A 60 0)), (1, .int a)] → W p l e (ti_rm 1) s m args below meth c H locs 0 0 Q (F0 m 23 ls []) := by
    intro  H locs ls  hw hl
    refine lv_iconst (v := 0) hx hb dX10_isLong_23 (by decide) ?_
    exact hQ _ _ _ _ _ _ hw rfl (⟨rfl, Or.inr rfl⟩) dX10_isLong_24
  refine sb_icmp_lt (tgt := 23) hx hb rfl (by decide : (1 : Int32).toInt = 1) dX10_isLong_2 (by decide) (fun c_2_0 => ?_) (fun c_2_0 => ?_)
  · exact hj_23_5  _ _ _  hw (lv_sub hl [0, 1] rfl)
  · refine lv_iload_n hx hb dX10_isLong_5 rfl (lv_at hl 1 rfl) ?_
    refine lv_bipush (v := 60) hx hb dX10_isLong_6 (by decide) ?_
    refine sb_icmp_gt (tgt := 23) hx hb rfl (by decide : (60 : Int32).toInt = 60) dX10_isLong_8 (by decide) (fun c_8_1 => ?_) (fun c_8_1 => ?_)
    · exact hj_23_5  _ _ _  hw (lv_sub hl [0, 1] rfl)
    · refine lv_iload_n hx hb dX10_isLong_11 rfl (lv_at hl 1 rfl) ?_
      refine lv_aload_n hx hb dX10_isLong_12 rfl (lv_at hl 0 rfl) ?_
      refine ti_callVi (ci := 10) (av := []) C hw (s_X10_minutesLeft l D A cy hJ M hI ) ⟨ml_X10_430, ym_X10_minutesLeft, yv_X10_minutesLeft, yi_X10_minutesLeft, yc_X10_minutesLeft⟩ yd_X10_minutesLeft ob_60 (by decide) rfl rfl hl.1 (Nat.le_of_ble_eq_true rfl) ⟨by decide, by decide⟩ ⟨Nat.zero_le _, Nat.zero_le _⟩ dX10_isLong_13 (fun r_3 M_4 H locs hp_4 hw => ?_)
      obtain ⟨hm, b0r_3, b1r_3, p0r_3⟩ := hp_4
      have hw := hw.to hm
      refine sb_icmp_gt (tgt := 23) hx hb rfl rfl dX10_isLong_16 (by decide) (fun c_16_4 => ?_) (fun c_16_4 => ?_)
      · exact hj_23_5  _ _ _  hw (lv_sub hl [0, 1] rfl)
      · refine lv_iconst (v := 1) hx hb dX10_isLong_19 (by decide) ?_
        refine lv_goto (tgt := 24) hx hb dX10_isLong_20 (by decide) ?_
        exact hQ _ _ _ _ _ _ hw rfl (⟨rfl, Or.inl ⟨rfl, by omega, by omega⟩⟩) dX10_isLong_24
set_option maxHeartbeats 4000000 in
set_option maxRecDepth 100000 in
theorem s_X10_isGame (l : Launch) (D : va_G) (A : Nat → Nat → Nat) (cy : Nat → ClassId) (hJ : ti_inj ti_LM A) (M : ti_M) (hI : mI Tm M)  (a : Int32) (b : Int32) (n : Int32) : ti_Ki l yX10_isGame cX10_isGame 4 (some .boolean) 2 ti_LM D A cy M [.ref (A 60 0), .int a, .int b, .int n] (fun r M2 => M2 = M ∧ ((r = 1 ∧ 0 ≤ a.toInt ∧ a.toInt ≤ 7 ∧ 0 ≤ b.toInt ∧ b.toInt ≤ 7 ∧ (tY M 60 34 0).toInt ≤ 59 ∧ 1 ≤ n.toInt ∧ n.toInt ≤ 60) ∨ r = 0)) := by
  refine ti_eI yp_X10_isGame hJ ti_LM_nd (Nat.le_of_ble_eq_true rfl) ?_
  intro p e s m args below meth c Q H0 C hQ hw ls hl
  have hx := C.1
  have hb := C.2.1
  have hl : lv_has ls 4 [(0, .ref (A 60 0)), (1, .int a), (2, .int b), (3, .int n)] := hl
  refine lv_aload_n hx hb dX10_isGame_0 rfl (lv_at hl 0 rfl) ?_
  refine lv_iload_n hx hb dX10_isGame_1 rfl (lv_at hl 1 rfl) ?_
  refine ti_callVi (ci := 10) (av := [.int a]) C hw (s_X10_isToCome l D A cy hJ M hI a) ⟨ml_X10_433, ym_X10_isToCome, yv_X10_isToCome, yi_X10_isToCome, yc_X10_isToCome⟩ yd_X10_isToCome ob_60 (by decide) rfl rfl hl.1 (Nat.le_of_ble_eq_true rfl) ⟨by decide, by decide⟩ ⟨Nat.zero_le _, Nat.zero_le _⟩ dX10_isGame_2 (fun r_1 M_2 H locs hp_2 hw => ?_)
  obtain ⟨hm, hz⟩ := hp_2
  have hw := hw.to hm
  have hj_44_18 : ∀  (H : Heap) (locs : List Loc) (ls : Array Slot), ti_H ti_LM D A cy H0 M H locs → lv_has ls 4 [(0, .ref (A 60 0)), (1, .int a), (2, .int b), (3, .int n)] → W p l e (ti_rm 2) s m args below meth c H locs 0 0 Q (F0 m 44 ls []) := by
    intro  H locs ls  hw hl
    refine lv_iconst (v := 0) hx hb dX10_isGame_44 (by decide) ?_
    exact hQ _ _ _ _ _ _ hw rfl (⟨rfl, Or.inr rfl⟩) dX10_isGame_45
  rcases hz with ⟨rfl, d0_3, d1_3, d2_3, d3_3⟩ | rfl
  · refine sb_if_eq (tgt := 44) hx hb (by decide : (1 : Int32).toInt = 1) dX10_isGame_5 (by decide) (fun h => absurd h (by decide)) (fun c_5_3 => ?_)
    refine lv_aload_n hx hb dX10_isGame_8 rfl (lv_at hl 0 rfl) ?_
    refine lv_iload_n hx hb dX10_isGame_9 rfl (lv_at hl 2 rfl) ?_
    refine ti_callVi (ci := 10) (av := [.int b]) C hw (s_X10_isToCome l D A cy hJ M hI b) ⟨ml_X10_433, ym_X10_isToCome, yv_X10_isToCome, yi_X10_isToCome, yc_X10_isToCome⟩ yd_X10_isToCome ob_60 (by decide) rfl rfl hl.1 (Nat.le_of_ble_eq_true rfl) ⟨by decide, by decide⟩ ⟨Nat.zero_le _, Nat.zero_le _⟩ dX10_isGame_10 (fun r_6 M_7 H locs hp_7 hw => ?_)
    obtain ⟨hm, hz⟩ := hp_7
    have hw := hw.to hm
    rcases hz with ⟨rfl, d0_8, d1_8, d2_8, d3_8⟩ | rfl
    · refine sb_if_eq (tgt := 44) hx hb (by decide : (1 : Int32).toInt = 1) dX10_isGame_13 (by decide) (fun h => absurd h (by decide)) (fun c_13_8 => ?_)
      refine lv_iload_n hx hb dX10_isGame_16 rfl (lv_at hl 1 rfl) ?_
      refine lv_iload_n hx hb dX10_isGame_17 rfl (lv_at hl 2 rfl) ?_
      refine sb_icmp_eq (tgt := 44) hx hb rfl rfl dX10_isGame_18 (by decide) (fun c_18_10 => ?_) (fun c_18_10 => ?_)
      · exact hj_44_18  _ _ _  hw (lv_sub hl [0, 1, 2, 3] rfl)
      · refine lv_aload_n hx hb dX10_isGame_21 rfl (lv_at hl 0 rfl) ?_
        refine ti_get (ci := 10) (k := 34) (N := 67) (T := TX10) (v := .ref (A 60 35)) C hw iw_10 rfl ob_60 (by decide) (by decide) fl_X10_69 rfl rfl dX10_isGame_22 ?_
        refine lv_iconst (v := 0) hx hb dX10_isGame_25 (by decide) ?_
        refine ti_iald (ci := 10) (k := 34) (n := 23) C hw ob_60 (by decide) (fun _ _ => rfl) (by unfold vp_in; decide) dX10_isGame_26 ?_
        refine lv_topi (fun x_12 ex_12 => ?_)
        have yx_12 : tY M 60 34 0 = x_12 := ((congrArg _ (by decide)).symm.trans ex_12.symm)
        have bx_12 : 0 ≤ x_12.toInt ∧ x_12.toInt ≤ 120 := mI_ry (k := 34) (i := 0) hI yx_12.symm (by decide)
        have zx_12 : (tY M 60 34 0).toInt = x_12.toInt := by rw [yx_12]
        refine lv_bipush (v := 59) hx hb dX10_isGame_27 (by decide) ?_
        refine sb_icmp_gt (tgt := 44) hx hb rfl (by decide : (59 : Int32).toInt = 59) dX10_isGame_29 (by decide) (fun c_29_12 => ?_) (fun c_29_12 => ?_)
        · exact hj_44_18  _ _ _  hw (lv_sub hl [0, 1, 2, 3] rfl)
        · refine lv_aload_n hx hb dX10_isGame_32 rfl (lv_at hl 0 rfl) ?_
          refine lv_iload_n hx hb dX10_isGame_33 rfl (lv_at hl 3 rfl) ?_
          refine ti_callVi (ci := 10) (av := [.int n]) C hw (s_X10_isLong l D A cy hJ M hI n) ⟨ml_X10_461, ym_X10_isLong, yv_X10_isLong, yi_X10_isLong, yc_X10_isLong⟩ yd_X10_isLong ob_60 (by decide) rfl rfl hl.1 (Nat.le_of_ble_eq_true rfl) ⟨by decide, by decide⟩ ⟨Nat.zero_le _, Nat.zero_le _⟩ dX10_isGame_34 (fun r_14 M_15 H locs hp_15 hw => ?_)
          obtain ⟨hm, hz⟩ := hp_15
          have hw := hw.to hm
          rcases hz with ⟨rfl, d0_16, d1_16⟩ | rfl
          · refine sb_if_eq (tgt := 44) hx hb (by decide : (1 : Int32).toInt = 1) dX10_isGame_37 (by decide) (fun h => absurd h (by decide)) (fun c_37_16 => ?_)
            refine lv_iconst (v := 1) hx hb dX10_isGame_40 (by decide) ?_
            refine lv_goto (tgt := 45) hx hb dX10_isGame_41 (by decide) ?_
            exact hQ _ _ _ _ _ _ hw rfl (⟨rfl, Or.inl ⟨rfl, by omega, by omega, by omega, by omega, by rw [(yx_12)]; omega, by omega, by omega⟩⟩) dX10_isGame_45
          · refine sb_if_eq (tgt := 44) hx hb (by decide : (0 : Int32).toInt = 0) dX10_isGame_37 (by decide) (fun c_37_17 => ?_) (fun h => absurd h (by decide))
            exact hj_44_18  _ _ _  hw (lv_sub hl [0, 1, 2, 3] rfl)
    · refine sb_if_eq (tgt := 44) hx hb (by decide : (0 : Int32).toInt = 0) dX10_isGame_13 (by decide) (fun c_13_9 => ?_) (fun h => absurd h (by decide))
      exact hj_44_18  _ _ _  hw (lv_sub hl [0, 1, 2, 3] rfl)
  · refine sb_if_eq (tgt := 44) hx hb (by decide : (0 : Int32).toInt = 0) dX10_isGame_5 (by decide) (fun c_5_4 => ?_) (fun h => absurd h (by decide))
    exact hj_44_18  _ _ _  hw (lv_sub hl [0, 1, 2, 3] rfl)
set_option maxHeartbeats 4000000 in
set_option maxRecDepth 100000 in
theorem s_X10_bitsOf (l : Launch) (D : va_G) (A : Nat → Nat → Nat) (cy : Nat → ClassId) (hJ : ti_inj ti_LM A) (M : ti_M) (hI : mI Tm M)  (a : Int32) : ti_Ki l yX10_bitsOf cX10_bitsOf 3 (some .int) 0 ti_LM D A cy M [.int a] (fun r M2 => M2 = M) := by
  refine ti_eI yp_X10_bitsOf hJ ti_LM_nd (Nat.le_of_ble_eq_true rfl) ?_
  intro p e s m args below meth c Q H0 C hQ hw ls hl
  have hx := C.1
  have hb := C.2.1
  have hl : lv_has ls 3 [(0, .int a)] := hl
  refine lv_iconst (v := 0) hx hb dX10_bitsOf_0 (by decide) ?_
  refine lv_istore_n (lv' := [(1, .int 0), (0, .int a)]) hx hb dX10_bitsOf_1 rfl hl (by decide) rfl (fun ls hl => ?_)
  refine lv_iconst (v := 0) hx hb dX10_bitsOf_2 (by decide) ?_
  refine lv_istore_n (lv' := [(2, .int 0), (1, .int 0), (0, .int a)]) hx hb dX10_bitsOf_3 rfl hl (by decide) rfl (fun ls hl => ?_)
  have hl_4_4 : ∀ (n_5 : Nat) (x_1 : Int32) (x_4 : Int32) (H : Heap) (locs : List Loc) (ls : Array Slot), (8 - x_1.toInt : Int).toNat < n_5 → (0 ≤ x_1.toInt) → (x_1.toInt ≤ 8) → ti_H ti_LM D A cy H0 M H locs → lv_has ls 3 [(2, .int x_1), (1, .int x_4), (0, .int a)] → W p l e (ti_rm 0) s m args below meth c H locs 0 0 Q (F0 m 4 ls []) := by
    intro n_5
    induction n_5 with
    | zero => intro x_1 x_4 H locs ls hf_5; exact absurd hf_5 (Nat.not_lt_zero _)
    | succ n_5 ih_5 =>
      intro x_1 x_4 H locs ls hf_5 b_2 b_3 hw hl
      refine lv_iload_n hx hb dX10_bitsOf_4 rfl (lv_at hl 0 rfl) ?_
      refine lv_bipush (v := 8) hx hb dX10_bitsOf_5 (by decide) ?_
      refine sb_icmp_ge (tgt := 24) hx hb rfl (by decide : (8 : Int32).toInt = 8) dX10_bitsOf_7 (by decide) (fun c_7_5 => ?_) (fun c_7_5 => ?_)
      · refine lv_iload_n hx hb dX10_bitsOf_24 rfl (lv_at hl 1 rfl) ?_
        exact hQ _ _ _ _ _ _ hw rfl rfl dX10_bitsOf_25
      · refine lv_iload_n hx hb dX10_bitsOf_10 rfl (lv_at hl 1 rfl) ?_
        refine lv_iload_n hx hb dX10_bitsOf_11 rfl (lv_at hl 2 rfl) ?_
        refine lv_iload_n hx hb dX10_bitsOf_12 rfl (lv_at hl 0 rfl) ?_
        refine lv_ishr hx hb dX10_bitsOf_13 ?_
        refine lv_topi (fun x_7 ex_7 => ?_)
        refine lv_iconst (v := 1) hx hb dX10_bitsOf_14 (by decide) ?_
        refine lv_iand hx hb dX10_bitsOf_15 ?_
        refine lv_topi (fun x_8 ex_8 => ?_)
        have bx_8 := i_and 1 ex_8 (by decide) (by decide)
        refine lv_iadd hx hb dX10_bitsOf_16 ?_
        refine lv_topi (fun x_9 ex_9 => ?_)
        refine lv_istore_n (lv' := [(1, .int x_9), (2, .int x_1), (0, .int a)]) hx hb dX10_bitsOf_17 rfl hl (by decide) rfl (fun ls hl => ?_)
        obtain ⟨x_10, ex_10⟩ : ∃ z : Int32, z = x_1 + 1 := ⟨_, rfl⟩
        have tx_10 : x_10.toInt = x_1.toInt + 1 := i_add ex_10 rfl (by decide) (by omega) (by omega)
        refine lv_iinc (v := x_10) (lv' := [(2, .int x_10), (1, .int x_9), (0, .int a)]) hx hb dX10_bitsOf_18 hl (k := 1) rfl (by rw [ex_10]; rfl) (by decide) rfl (fun ls hl => ?_)
        refine lv_goto (tgt := 4) hx hb dX10_bitsOf_21 (by decide) ?_
        exact ih_5 x_10 x_9 _ _ _ (by omega) (by first | omega | decide) (by first | omega | decide) hw (lv_sub hl [0, 1, 2] rfl)
  exact hl_4_4 ((8 - 0 : Int).toNat + 1) 0 0 _ _ _ (Nat.lt_succ_self _) (by have lt0 : (0 : Int32).toInt = 0 := (by decide); first | omega | decide) (by have lt0 : (0 : Int32).toInt = 0 := (by decide); first | omega | decide) hw (lv_sub hl [0, 1, 2] rfl)
set_option maxHeartbeats 4000000 in
set_option maxRecDepth 100000 in
theorem s_X10_knownMany (l : Launch) (D : va_G) (A : Nat → Nat → Nat) (cy : Nat → ClassId) (hJ : ti_inj ti_LM A) (M : ti_M) (hI : mI Tm M)  : ti_Ki l yX10_knownMany cX10_knownMany 1 (some .int) 0 ti_LM D A cy M [.ref (A 60 0)] (fun r M2 => M2 = M ∧ 0 ≤ r.toInt ∧ r.toInt ≤ 24) := by
  refine ti_eI yp_X10_knownMany hJ ti_LM_nd (Nat.le_of_ble_eq_true rfl) ?_
  intro p e s m args below meth c Q H0 C hQ hw ls hl
  have hx := C.1
  have hb := C.2.1
  have hl : lv_has ls 1 [(0, .ref (A 60 0))] := hl
  refine lv_aload_n hx hb dX10_knownMany_0 rfl (lv_at hl 0 rfl) ?_
  refine ti_get (ci := 10) (k := 59) (N := 67) (T := TX10) C hw iw_10 rfl ob_60 (by decide) (by decide) fl_X10_132 rfl rfl dX10_knownMany_1 ?_
  refine lv_topi (fun x_1 ex_1 => ?_)
  have bx_1 : (-1) ≤ x_1.toInt ∧ x_1.toInt ≤ 24 := mI_rd hI ex_1
  have ux_1 : (tI M 60 59).toInt = x_1.toInt := by rw [ex_1]
  refine lv_iconst (v := (-1)) hx hb dX10_knownMany_4 (by decide) ?_
  refine sb_icmp_ne (tgt := 15) hx hb rfl (by decide : ((-1) : Int32).toInt = (-1)) dX10_knownMany_5 (by decide) (fun c_5_1 => ?_) (fun c_5_1 => ?_)
  · refine lv_aload_n hx hb dX10_knownMany_15 rfl (lv_at hl 0 rfl) ?_
    refine ti_get (ci := 10) (k := 59) (N := 67) (T := TX10) C hw iw_10 rfl ob_60 (by decide) (by decide) fl_X10_132 rfl rfl dX10_knownMany_16 ?_
    refine ti_top (y := x_1) (ex_1.symm) ?_
    have u_4 : (tI M 60 59).toInt = (x_1 : Int32).toInt := by rw [(ex_1.symm)]
    exact hQ _ _ _ _ _ _ hw rfl (⟨rfl, by omega, by omega⟩) dX10_knownMany_19
  · refine lv_aload_n hx hb dX10_knownMany_8 rfl (lv_at hl 0 rfl) ?_
    refine ti_get (ci := 10) (k := 58) (N := 67) (T := TX10) C hw iw_10 rfl ob_60 (by decide) (by decide) fl_X10_310 rfl rfl dX10_knownMany_9 ?_
    refine lv_topi (fun x_3 ex_3 => ?_)
    have bx_3 : 0 ≤ x_3.toInt ∧ x_3.toInt ≤ 24 := mI_rd hI ex_3
    have ux_3 : (tI M 60 58).toInt = x_3.toInt := by rw [ex_3]
    refine lv_goto (tgt := 19) hx hb dX10_knownMany_12 (by decide) ?_
    exact hQ _ _ _ _ _ _ hw rfl (⟨rfl, by omega, by omega⟩) dX10_knownMany_19
set_option maxHeartbeats 4000000 in
set_option maxRecDepth 100000 in
theorem s_X10_is (l : Launch) (D : va_G) (A : Nat → Nat → Nat) (cy : Nat → ClassId) (hJ : ti_inj ti_LM A) (M : ti_M) (hI : mI Tm M)  (a : Int32) : ti_Kl l yX10_is cX10_is 1 (some .long) 0 ti_LM D A cy M [.int a] (fun r M2 => M2 = M) := by
  refine ti_eL yp_X10_is hJ ti_LM_nd (Nat.le_of_ble_eq_true rfl) ?_
  intro p e s m args below meth c Q H0 C hQ hw ls hl
  have hx := C.1
  have hb := C.2.1
  have hl : lv_has ls 1 [(0, .int a)] := hl
  refine lv_iload_n hx hb dX10_is_0 rfl (lv_at hl 0 rfl) ?_
  refine sb_if_eq (tgt := 8) hx hb rfl dX10_is_1 (by decide) (fun c_1_0 => ?_) (fun c_1_0 => ?_)
  · refine lv_lconst (v := 0) hx hb dX10_is_8 (by decide) ?_
    exact hQ _ _ _ _ _ _ hw rfl dX10_is_9
  · refine lv_lconst (v := 1) hx hb dX10_is_4 (by decide) ?_
    refine lv_goto (tgt := 9) hx hb dX10_is_5 (by decide) ?_
    exact hQ _ _ _ _ _ _ hw rfl dX10_is_9
set_option maxHeartbeats 4000000 in
set_option maxRecDepth 100000 in
theorem s_X10_hasLaw (l : Launch) (D : va_G) (A : Nat → Nat → Nat) (cy : Nat → ClassId) (hJ : ti_inj ti_LM A) (M : ti_M) (hI : mI Tm M) (a : Int32) (h1 : 0 ≤ a.toInt) (h2 : a.toInt ≤ 2) : ti_Ki l yX10_hasLaw cX10_hasLaw 2 (some .boolean) 0 ti_LM D A cy M [.ref (A 60 0), .int a] (fun r M2 => M2 = M) := by
  refine ti_eI yp_X10_hasLaw hJ ti_LM_nd (Nat.le_of_ble_eq_true rfl) ?_
  intro p e s m args below meth c Q H0 C hQ hw ls hl
  have hx := C.1
  have hb := C.2.1
  have hl : lv_has ls 2 [(0, .ref (A 60 0)), (1, .int a)] := hl
  refine lv_aload_n hx hb dX10_hasLaw_0 rfl (lv_at hl 0 rfl) ?_
  refine ti_get (ci := 10) (k := 15) (N := 67) (T := TX10) (v := .ref (A 60 16)) C hw iw_10 rfl ob_60 (by decide) (by decide) fl_X10_49 rfl rfl dX10_hasLaw_1 ?_
  refine lv_iload_n hx hb dX10_hasLaw_4 rfl (lv_at hl 1 rfl) ?_
  refine ti_iald (ci := 10) (k := 15) (n := 6) C hw ob_60 (by decide) (fun _ _ => rfl) (vp_in_iff.mpr (by omega)) dX10_hasLaw_5 ?_
  refine lv_topi (fun x_1 ex_1 => ?_)
  have yx_1 : tY M 60 15 a.toNatClampNeg = x_1 := (ex_1.symm)
  have bx_1 : 0 ≤ x_1.toInt ∧ x_1.toInt ≤ 64 := mI_ry (k := 15) (i := a.toNatClampNeg) hI yx_1.symm
  refine lv_aload_n hx hb dX10_hasLaw_6 rfl (lv_at hl 0 rfl) ?_
  refine ti_get (ci := 10) (k := 14) (N := 67) (T := TX10) (v := .ref (A 60 15)) C hw iw_10 rfl ob_60 (by decide) (by decide) fl_X10_46 rfl rfl dX10_hasLaw_7 ?_
  refine lv_iload_n hx hb dX10_hasLaw_10 rfl (lv_at hl 1 rfl) ?_
  refine ti_iald (ci := 10) (k := 14) (n := 6) C hw ob_60 (by decide) (fun _ _ => rfl) (vp_in_iff.mpr (by omega)) dX10_hasLaw_11 ?_
  refine lv_topi (fun x_2 ex_2 => ?_)
  have yx_2 : tY M 60 14 a.toNatClampNeg = x_2 := (ex_2.symm)
  have bx_2 : 0 ≤ x_2.toInt ∧ x_2.toInt ≤ 64 := mI_ry (k := 14) (i := a.toNatClampNeg) hI yx_2.symm
  refine sb_icmp_le (tgt := 19) hx hb rfl rfl dX10_hasLaw_12 (by decide) (fun c_12_2 => ?_) (fun c_12_2 => ?_)
  · refine lv_iconst (v := 0) hx hb dX10_hasLaw_19 (by decide) ?_
    exact hQ _ _ _ _ _ _ hw rfl rfl dX10_hasLaw_20
  · refine lv_iconst (v := 1) hx hb dX10_hasLaw_15 (by decide) ?_
    refine lv_goto (tgt := 20) hx hb dX10_hasLaw_16 (by decide) ?_
    exact hQ _ _ _ _ _ _ hw rfl rfl dX10_hasLaw_20
end
section
variable {Tc : gC} {Tm : gM}
theorem dp_sp {s v : Nat → Int32} {a n d d2 : Nat} (h : dp s v a n = some d) (h2 : dp s v a (n + 1) = some d2) : ((s (a + n)).toInt = 2 ∧ (v (a + n)).toInt = 260 ∧ 1 ≤ d ∧ d2 = d) ∨ ((s (a + n)).toInt = 2 ∧ (v (a + n)).toInt ≠ 260 ∧ 2 ≤ d ∧ d2 = d - 1) ∨ ((s (a + n)).toInt ≠ 2 ∧ ((s (a + n)).toInt = 0 ∨ (0 ≤ (v (a + n)).toInt ∧ (v (a + n)).toInt ≤ 5)) ∧ d2 = d + 1) := by
  simp only [dp, h, Option.bind_some] at h2
  split at h2
  · split at h2
    · split at h2
      · cases h2; exact Or.inl ⟨by assumption, by assumption, by assumption, rfl⟩
      · cases h2
    · split at h2
      · cases h2; exact Or.inr (Or.inl ⟨by assumption, by assumption, by assumption, rfl⟩)
      · cases h2
  · split at h2
    · cases h2; exact Or.inr (Or.inr ⟨by assumption, by assumption, rfl⟩)
    · cases h2
theorem dp_pre {s v : Nat → Int32} {a : Nat} : ∀ (j n D : Nat), dp s v a (n + j) = some D → ∃ d, dp s v a n = some d := by
  intro j
  induction j with
  | zero => intro n D h; exact ⟨D, h⟩
  | succ j ih =>
    intro n D h
    have h : dp s v a ((n + j) + 1) = some D := h
    simp only [dp] at h
    obtain ⟨d0, h0, -⟩ := Option.bind_eq_some_iff.mp h
    exact ih n d0 h0
/-- so deep is the pile ahead of the knot k -/
def gd (M : ti_M) (a : Int32) (k : Int) (d : Nat) : Prop := dp (tY M 60 16) (tY M 60 17) (tY M 60 14 a.toNatClampNeg).toInt.toNat (k.toNat - (tY M 60 14 a.toNatClampNeg).toInt.toNat) = some d
theorem gd_0 {M : ti_M} {a x : Int32} (e : tY M 60 14 a.toNatClampNeg = x) : gd M a x.toInt 0 := by unfold gd; rw [e, Nat.sub_self]; rfl
theorem mL_go {M : ti_M} (hI : mI Tm M) (hL : mL M) {a k : Int32} (h1 : 0 ≤ a.toInt) (h2 : a.toInt ≤ 2) {d : Nat} (hk1 : (tY M 60 14 a.toNatClampNeg).toInt ≤ k.toInt) (hk2 : k.toInt < (tY M 60 15 a.toNatClampNeg).toInt) (h : gd M a k.toInt d) :
    ∃ d2, gd M a (k.toInt + 1) d2 ∧ (((tY M 60 16 k.toNatClampNeg).toInt = 2 ∧ (tY M 60 17 k.toNatClampNeg).toInt = 260 ∧ 1 ≤ d ∧ d2 = d) ∨ ((tY M 60 16 k.toNatClampNeg).toInt = 2 ∧ (tY M 60 17 k.toNatClampNeg).toInt ≠ 260 ∧ 2 ≤ d ∧ d2 = d - 1) ∨ ((tY M 60 16 k.toNatClampNeg).toInt ≠ 2 ∧ ((tY M 60 16 k.toNatClampNeg).toInt = 0 ∨ (0 ≤ (tY M 60 17 k.toNatClampNeg).toInt ∧ (tY M 60 17 k.toNatClampNeg).toInt ≤ 5)) ∧ d2 = d + 1)) := by
  have b1 : 0 ≤ (tY M 60 14 a.toNatClampNeg).toInt ∧ (tY M 60 14 a.toNatClampNeg).toInt ≤ 64 := hI.2.1 14 _
  unfold gd at h ⊢
  have ha : a.toNatClampNeg < 3 := i_nt rfl h1 (by omega)
  generalize hA : tY M 60 14 a.toNatClampNeg = A at *
  obtain ⟨D, hD⟩ := hL _ ha A.toInt.toNat ((tY M 60 15 a.toNatClampNeg).toInt.toNat - A.toInt.toNat) (by rw [hA]; omega) (by omega)
  obtain ⟨n, hn⟩ : ∃ n : Nat, k.toInt.toNat = A.toInt.toNat + n := ⟨k.toInt.toNat - A.toInt.toNat, by omega⟩
  have hk : k.toNatClampNeg = A.toInt.toNat + n := hn
  rw [show k.toInt.toNat - A.toInt.toNat = n by omega] at h
  rw [show (k.toInt + 1).toNat - A.toInt.toNat = n + 1 by omega, hk]
  obtain ⟨d2, h3⟩ := dp_pre ((tY M 60 15 a.toNatClampNeg).toInt.toNat - A.toInt.toNat - (n + 1)) (n + 1) D (by rw [show n + 1 + ((tY M 60 15 a.toNatClampNeg).toInt.toNat - A.toInt.toNat - (n + 1)) = (tY M 60 15 a.toNatClampNeg).toInt.toNat - A.toInt.toNat by omega]; exact hD)
  exact ⟨d2, h3, dp_sp h h3⟩
theorem gd_le {M : ti_M} {a : Int32} {k : Int} {d : Nat} (h : gd M a k d) : d ≤ k.toNat := Nat.le_trans (dp_le _ _ h) (Nat.sub_le _ _)
section
variable {p : Program} {l : Launch} {e : Env} {R : Room} {s : State} {m : MethodId} {args : Array Value} {below : List Frame} {meth : Method} {c : Code} {H : Heap} {locs : List Loc} {cells slots : Nat} {Q : State → Prop} {pc : Nat} {ls : Array Slot} {rest : List Value} {cc : ByteArray} {own : String} {nL : Nat} {D : va_G} {cy : Nat → ClassId} {Ls : List (Nat × Nat)} {A : Nat → Nat → Nat}
theorem ti_absl {idx : Nat} (C : ti_C p s m c args cc own nL D cy Ls A) (hm : Cond.methodLink own idx yJ9_abs_067f4 ∈ lw_g) (hsz : ls.size = nL) (hfr : 1 ≤ R.frames) (hlo : (rest.map fun v => v.category).sum + 13 ≤ R.locals) (hcs : cells ≤ R.cells ∧ slots ≤ R.slots) {x : Int64} (hdg : decode cc pc = .ok (.invokestatic idx, 3)) (kk : W p l e R s m args below meth c H locs cells slots Q (F0 m (pc + 3) ls (.long (if 0 < x then x else -x) :: rest))) : W p l e R s m args below meth c H locs cells slots Q (F0 m pc ls (.long x :: rest)) :=
  va_mabs_long C.1 C.2.1 (by rw [C.2.2.2.2.2.1, hsz]) C.2.2.2.1 (C.2.2.1 _ hm) (C.2.2.1 _ ys_J9_abs_067f4) (C.2.2.1 _ yi_J9_abs_067f4) (C.2.2.1 _ yc_J9_abs_067f4) hfr hlo hcs.1 hcs.2 hdg kk
end
theorem ab0 {z x : Int64} (e : z = if 0 < x then x else -x) (h : ¬ x = 0) : ¬ z = 0 := by
  rw [e]
  split
  · exact h
  · exact ln0 rfl h
set_option maxHeartbeats 4000000 in
set_option maxRecDepth 100000 in
theorem s_X10_standsAt_1 (l : Launch) (D : va_G) (A : Nat → Nat → Nat) (cy : Nat → ClassId) (hJ : ti_inj ti_LM A) (M : ti_M) (hI : mI Tm M) (a : Int32) (h1 : 0 ≤ a.toInt) (h2 : a.toInt ≤ 7) : ti_Ki l yX10_standsAt cX10_standsAt 3 (some .int) 0 ti_LM D A cy M [.ref (A 60 0), .int 1, .int a] (fun r M2 => M2 = M ∧ -2 ≤ r.toInt ∧ r.toInt ≤ 7) := by
  refine ti_eI yp_X10_standsAt hJ ti_LM_nd (Nat.le_of_ble_eq_true rfl) ?_
  intro p e s m args below meth c Q H0 C hQ hw ls hl
  have hx := C.1
  have hb := C.2.1
  have hl : lv_has ls 3 [(0, .ref (A 60 0)), (1, .int 1), (2, .int a)] := hl
  refine lv_iload_n hx hb dX10_standsAt_0 rfl (lv_at hl 2 rfl) ?_
  refine lv_aload_n hx hb dX10_standsAt_1 rfl (lv_at hl 0 rfl) ?_
  refine ti_get (ci := 10) (k := 38) (N := 67) (T := TX10) (v := .ref (A 60 39)) C hw iw_10 rfl ob_60 (by decide) (by decide) fl_X10_81 rfl rfl dX10_standsAt_2 ?_
  refine lv_iload_n hx hb dX10_standsAt_5 rfl (lv_at hl 1 rfl) ?_
  refine ti_iald (ci := 10) (k := 38) (n := 23) C hw ob_60 (by decide) (fun _ _ => rfl) (by unfold vp_in; decide) dX10_standsAt_6 ?_
  refine lv_topi (fun x_1 ex_1 => ?_)
  have yx_1 : tY M 60 38 1 = x_1 := ((congrArg _ (by decide)).symm.trans ex_1.symm)
  have bx_1 : 0 ≤ x_1.toInt ∧ x_1.toInt ≤ 8 := mI_ry (k := 38) (i := 1) hI yx_1.symm
  have zx_1 : (tY M 60 38 1).toInt = x_1.toInt := by rw [yx_1]
  refine sb_icmp_ge (tgt := 24) hx hb rfl rfl dX10_standsAt_7 (by decide) (fun c_7_1 => ?_) (fun c_7_1 => ?_)
  · refine lv_bipush (v := (-2)) hx hb dX10_standsAt_24 (by decide) ?_
    exact hQ _ _ _ _ _ _ hw rfl (⟨rfl, by first | omega | decide, by first | omega | decide⟩) dX10_standsAt_26
  · refine lv_aload_n hx hb dX10_standsAt_10 rfl (lv_at hl 0 rfl) ?_
    refine ti_get (ci := 10) (k := 39) (N := 67) (T := TX10) (v := .ref (A 60 40)) C hw iw_10 rfl ob_60 (by decide) (by decide) fl_X10_84 rfl rfl dX10_standsAt_11 ?_
    refine lv_bipush (v := 8) hx hb dX10_standsAt_14 (by decide) ?_
    refine lv_iload_n hx hb dX10_standsAt_16 rfl (lv_at hl 1 rfl) ?_
    refine lv_imul hx hb dX10_standsAt_17 ?_
    refine ti_top (y := 8) (by decide) ?_
    refine lv_iload_n hx hb dX10_standsAt_18 rfl (lv_at hl 2 rfl) ?_
    refine lv_iadd hx hb dX10_standsAt_19 ?_
    refine lv_topi (fun x_3 ex_3 => ?_)
    have tx_3 : x_3.toInt = 8 + a.toInt := i_add ex_3 (by decide : (8 : Int32).toInt = 8) rfl (by omega) (by omega)
    refine ti_iald (ci := 10) (k := 39) (n := 184) C hw ob_60 (by decide) (fun _ _ => rfl) (vp_in_iff.mpr (by omega)) dX10_standsAt_20 ?_
    refine lv_topi (fun x_4 ex_4 => ?_)
    have yx_4 : tY M 60 39 x_3.toNatClampNeg = x_4 := (ex_4.symm)
    have bx_4 : 0 ≤ x_4.toInt ∧ x_4.toInt ≤ 7 := mI_ry (k := 39) (i := x_3.toNatClampNeg) hI yx_4.symm
    refine lv_goto (tgt := 26) hx hb dX10_standsAt_21 (by decide) ?_
    exact hQ _ _ _ _ _ _ hw rfl (⟨rfl, by first | omega | decide, by first | omega | decide⟩) dX10_standsAt_26
set_option maxHeartbeats 4000000 in
set_option maxRecDepth 100000 in
theorem s_X10_placeOf_0 (l : Launch) (D : va_G) (A : Nat → Nat → Nat) (cy : Nat → ClassId) (hJ : ti_inj ti_LM A) (M : ti_M) (hI : mI Tm M)  (a : Int32) : ti_Ki l yX10_placeOf cX10_placeOf 4 (some .int) 0 ti_LM D A cy M [.ref (A 60 0), .int 0, .int a] (fun r M2 => M2 = M ∧ ((r = -1 ∧ ∀ j : Nat, (j : Int) < (tY M 60 38 0).toInt → (tY M 60 39 (0 + j)).toInt ≠ a.toInt) ∨ (0 ≤ r.toInt ∧ r.toInt < (tY M 60 38 0).toInt ∧ r.toInt ≤ 7 ∧ (tY M 60 39 (0 + r.toInt.toNat)).toInt = a.toInt))) := by
  refine ti_eI yp_X10_placeOf hJ ti_LM_nd (Nat.le_of_ble_eq_true rfl) ?_
  intro p e s m args below meth c Q H0 C hQ hw ls hl
  have hx := C.1
  have hb := C.2.1
  have hl : lv_has ls 4 [(0, .ref (A 60 0)), (1, .int 0), (2, .int a)] := hl
  refine lv_iconst (v := 0) hx hb dX10_placeOf_0 (by decide) ?_
  refine lv_istore_n (lv' := [(3, .int 0), (0, .ref (A 60 0)), (1, .int 0), (2, .int a)]) hx hb dX10_placeOf_1 rfl hl (by decide) rfl (fun ls hl => ?_)
  have hl_2_4 : ∀ (n_5 : Nat) (x_1 : Int32) (H : Heap) (locs : List Loc) (ls : Array Slot), (8 - x_1.toInt : Int).toNat < n_5 → (0 ≤ x_1.toInt) → (x_1.toInt ≤ 8) → (∀ j : Nat, (j : Int) < x_1.toInt → (tY M 60 39 (0 + j)).toInt ≠ a.toInt) → ti_H ti_LM D A cy H0 M H locs → lv_has ls 4 [(3, .int x_1), (0, .ref (A 60 0)), (1, .int 0), (2, .int a)] → W p l e (ti_rm 0) s m args below meth c H locs 0 0 Q (F0 m 2 ls []) := by
    intro n_5
    induction n_5 with
    | zero => intro x_1 H locs ls hf_5; exact absurd hf_5 (Nat.not_lt_zero _)
    | succ n_5 ih_5 =>
      intro x_1 H locs ls hf_5 b_2 b_3 j_4 hw hl
      refine lv_iload_n hx hb dX10_placeOf_2 rfl (lv_at hl 0 rfl) ?_
      refine lv_aload_n hx hb dX10_placeOf_3 rfl (lv_at hl 1 rfl) ?_
      refine ti_get (ci := 10) (k := 38) (N := 67) (T := TX10) (v := .ref (A 60 39)) C hw iw_10 rfl ob_60 (by decide) (by decide) fl_X10_81 rfl rfl dX10_placeOf_4 ?_
      refine lv_iload_n hx hb dX10_placeOf_7 rfl (lv_at hl 2 rfl) ?_
      refine ti_iald (ci := 10) (k := 38) (n := 23) C hw ob_60 (by decide) (fun _ _ => rfl) (by unfold vp_in; decide) dX10_placeOf_8 ?_
      refine lv_topi (fun x_6 ex_6 => ?_)
      have yx_6 : tY M 60 38 0 = x_6 := ((congrArg _ (by decide)).symm.trans ex_6.symm)
      have bx_6 : 0 ≤ x_6.toInt ∧ x_6.toInt ≤ 8 := mI_ry (k := 38) (i := 0) hI yx_6.symm
      have zx_6 : (tY M 60 38 0).toInt = x_6.toInt := by rw [yx_6]
      refine sb_icmp_ge (tgt := 35) hx hb rfl rfl dX10_placeOf_9 (by decide) (fun c_9_6 => ?_) (fun c_9_6 => ?_)
      · refine lv_iconst (v := (-1)) hx hb dX10_placeOf_35 (by decide) ?_
        exact hQ _ _ _ _ _ _ hw rfl (⟨rfl, Or.inl ⟨rfl, fun j hj => j_4 j (by rw [(yx_6)] at hj; omega)⟩⟩) dX10_placeOf_36
      · refine lv_aload_n hx hb dX10_placeOf_12 rfl (lv_at hl 1 rfl) ?_
        refine ti_get (ci := 10) (k := 39) (N := 67) (T := TX10) (v := .ref (A 60 40)) C hw iw_10 rfl ob_60 (by decide) (by decide) fl_X10_84 rfl rfl dX10_placeOf_13 ?_
        refine lv_bipush (v := 8) hx hb dX10_placeOf_16 (by decide) ?_
        refine lv_iload_n hx hb dX10_placeOf_18 rfl (lv_at hl 2 rfl) ?_
        refine lv_imul hx hb dX10_placeOf_19 ?_
        refine ti_top (y := 0) (by decide) ?_
        refine lv_iload_n hx hb dX10_placeOf_20 rfl (lv_at hl 0 rfl) ?_
        refine lv_iadd hx hb dX10_placeOf_21 ?_
        refine lv_topi (fun x_8 ex_8 => ?_)
        have tx_8 : x_8.toInt = 0 + x_1.toInt := i_add ex_8 (by decide : (0 : Int32).toInt = 0) rfl (by omega) (by omega)
        refine ti_iald (ci := 10) (k := 39) (n := 184) C hw ob_60 (by decide) (fun _ _ => rfl) (vp_in_iff.mpr (by omega)) dX10_placeOf_22 ?_
        refine lv_topi (fun x_9 ex_9 => ?_)
        have yx_9 : tY M 60 39 x_8.toNatClampNeg = x_9 := (ex_9.symm)
        have bx_9 : 0 ≤ x_9.toInt ∧ x_9.toInt ≤ 7 := mI_ry (k := 39) (i := x_8.toNatClampNeg) hI yx_9.symm
        have n9 : x_8.toNatClampNeg = 0 + x_1.toInt.toNat := by show (x_8).toInt.toNat = _; omega
        have k9 : (tY M 60 39 (0 + x_1.toInt.toNat)).toInt = x_9.toInt := by rw [← n9, (yx_9)]
        refine lv_iload_n hx hb dX10_placeOf_23 rfl (lv_at hl 3 rfl) ?_
        refine sb_icmp_ne (tgt := 29) hx hb rfl rfl dX10_placeOf_24 (by decide) (fun c_24_9 => ?_) (fun c_24_9 => ?_)
        · obtain ⟨x_11, ex_11⟩ : ∃ z : Int32, z = x_1 + 1 := ⟨_, rfl⟩
          have tx_11 : x_11.toInt = x_1.toInt + 1 := i_add ex_11 rfl (by decide) (by omega) (by omega)
          refine lv_iinc (v := x_11) (lv' := [(3, .int x_11), (0, .ref (A 60 0)), (1, .int 0), (2, .int a)]) hx hb dX10_placeOf_29 hl (k := 0) rfl (by rw [ex_11]; rfl) (by decide) rfl (fun ls hl => ?_)
          refine lv_goto (tgt := 2) hx hb dX10_placeOf_32 (by decide) ?_
          exact ih_5 x_11 _ _ _ (by omega) (by first | omega | decide) (by first | omega | decide) (fun j hj => (show (j : Int) < x_1.toInt ∨ j = (x_1.toInt.toNat) by omega).elim (fun h => j_4 j h) (fun h => by subst h; intro h; omega)) hw (lv_sub hl [0, 1, 2, 3] rfl)
        · refine lv_iload_n hx hb dX10_placeOf_27 rfl (lv_at hl 0 rfl) ?_
          exact hQ _ _ _ _ _ _ hw rfl (⟨rfl, Or.inr ⟨by omega, by rw [(yx_6)]; omega, by omega, by rw [k9]; omega⟩⟩) dX10_placeOf_28
  exact hl_2_4 ((8 - 0 : Int).toNat + 1) 0 _ _ _ (Nat.lt_succ_self _) (by have lt0 : (0 : Int32).toInt = 0 := (by decide); first | omega | decide) (by have lt0 : (0 : Int32).toInt = 0 := (by decide); first | omega | decide) (fun j hj => absurd hj (by have h0 : (0 : Int32).toInt = 0 := (by decide); omega)) hw (lv_sub hl [0, 1, 2, 3] rfl)
set_option maxHeartbeats 4000000 in
set_option maxRecDepth 100000 in
theorem s_X10_placeOf_1 (l : Launch) (D : va_G) (A : Nat → Nat → Nat) (cy : Nat → ClassId) (hJ : ti_inj ti_LM A) (M : ti_M) (hI : mI Tm M)  (a : Int32) : ti_Ki l yX10_placeOf cX10_placeOf 4 (some .int) 0 ti_LM D A cy M [.ref (A 60 0), .int 1, .int a] (fun r M2 => M2 = M ∧ ((r = -1 ∧ ∀ j : Nat, (j : Int) < (tY M 60 38 1).toInt → (tY M 60 39 (8 + j)).toInt ≠ a.toInt) ∨ (0 ≤ r.toInt ∧ r.toInt < (tY M 60 38 1).toInt ∧ r.toInt ≤ 7 ∧ (tY M 60 39 (8 + r.toInt.toNat)).toInt = a.toInt))) := by
  refine ti_eI yp_X10_placeOf hJ ti_LM_nd (Nat.le_of_ble_eq_true rfl) ?_
  intro p e s m args below meth c Q H0 C hQ hw ls hl
  have hx := C.1
  have hb := C.2.1
  have hl : lv_has ls 4 [(0, .ref (A 60 0)), (1, .int 1), (2, .int a)] := hl
  refine lv_iconst (v := 0) hx hb dX10_placeOf_0 (by decide) ?_
  refine lv_istore_n (lv' := [(3, .int 0), (0, .ref (A 60 0)), (1, .int 1), (2, .int a)]) hx hb dX10_placeOf_1 rfl hl (by decide) rfl (fun ls hl => ?_)
  have hl_2_4 : ∀ (n_5 : Nat) (x_1 : Int32) (H : Heap) (locs : List Loc) (ls : Array Slot), (8 - x_1.toInt : Int).toNat < n_5 → (0 ≤ x_1.toInt) → (x_1.toInt ≤ 8) → (∀ j : Nat, (j : Int) < x_1.toInt → (tY M 60 39 (8 + j)).toInt ≠ a.toInt) → ti_H ti_LM D A cy H0 M H locs → lv_has ls 4 [(3, .int x_1), (0, .ref (A 60 0)), (1, .int 1), (2, .int a)] → W p l e (ti_rm 0) s m args below meth c H locs 0 0 Q (F0 m 2 ls []) := by
    intro n_5
    induction n_5 with
    | zero => intro x_1 H locs ls hf_5; exact absurd hf_5 (Nat.not_lt_zero _)
    | succ n_5 ih_5 =>
      intro x_1 H locs ls hf_5 b_2 b_3 j_4 hw hl
      refine lv_iload_n hx hb dX10_placeOf_2 rfl (lv_at hl 0 rfl) ?_
      refine lv_aload_n hx hb dX10_placeOf_3 rfl (lv_at hl 1 rfl) ?_
      refine ti_get (ci := 10) (k := 38) (N := 67) (T := TX10) (v := .ref (A 60 39)) C hw iw_10 rfl ob_60 (by decide) (by decide) fl_X10_81 rfl rfl dX10_placeOf_4 ?_
      refine lv_iload_n hx hb dX10_placeOf_7 rfl (lv_at hl 2 rfl) ?_
      refine ti_iald (ci := 10) (k := 38) (n := 23) C hw ob_60 (by decide) (fun _ _ => rfl) (by unfold vp_in; decide) dX10_placeOf_8 ?_
      refine lv_topi (fun x_6 ex_6 => ?_)
      have yx_6 : tY M 60 38 1 = x_6 := ((congrArg _ (by decide)).symm.trans ex_6.symm)
      have bx_6 : 0 ≤ x_6.toInt ∧ x_6.toInt ≤ 8 := mI_ry (k := 38) (i := 1) hI yx_6.symm
      have zx_6 : (tY M 60 38 1).toInt = x_6.toInt := by rw [yx_6]
      refine sb_icmp_ge (tgt := 35) hx hb rfl rfl dX10_placeOf_9 (by decide) (fun c_9_6 => ?_) (fun c_9_6 => ?_)
      · refine lv_iconst (v := (-1)) hx hb dX10_placeOf_35 (by decide) ?_
        exact hQ _ _ _ _ _ _ hw rfl (⟨rfl, Or.inl ⟨rfl, fun j hj => j_4 j (by rw [(yx_6)] at hj; omega)⟩⟩) dX10_placeOf_36
      · refine lv_aload_n hx hb dX10_placeOf_12 rfl (lv_at hl 1 rfl) ?_
        refine ti_get (ci := 10) (k := 39) (N := 67) (T := TX10) (v := .ref (A 60 40)) C hw iw_10 rfl ob_60 (by decide) (by decide) fl_X10_84 rfl rfl dX10_placeOf_13 ?_
        refine lv_bipush (v := 8) hx hb dX10_placeOf_16 (by decide) ?_
        refine lv_iload_n hx hb dX10_placeOf_18 rfl (lv_at hl 2 rfl) ?_
        refine lv_imul hx hb dX10_placeOf_19 ?_
        refine ti_top (y := 8) (by decide) ?_
        refine lv_iload_n hx hb dX10_placeOf_20 rfl (lv_at hl 0 rfl) ?_
        refine lv_iadd hx hb dX10_placeOf_21 ?_
        refine lv_topi (fun x_8 ex_8 => ?_)
        have tx_8 : x_8.toInt = 8 + x_1.toInt := i_add ex_8 (by decide : (8 : Int32).toInt = 8) rfl (by omega) (by omega)
        refine ti_iald (ci := 10) (k := 39) (n := 184) C hw ob_60 (by decide) (fun _ _ => rfl) (vp_in_iff.mpr (by omega)) dX10_placeOf_22 ?_
        refine lv_topi (fun x_9 ex_9 => ?_)
        have yx_9 : tY M 60 39 x_8.toNatClampNeg = x_9 := (ex_9.symm)
        have bx_9 : 0 ≤ x_9.toInt ∧ x_9.toInt ≤ 7 := mI_ry (k := 39) (i := x_8.toNatClampNeg) hI yx_9.symm
        have n9 : x_8.toNatClampNeg = 8 + x_1.toInt.toNat := by show (x_8).toInt.toNat = _; omega
        have k9 : (tY M 60 39 (8 + x_1.toInt.toNat)).toInt = x_9.toInt := by rw [← n9, (yx_9)]
        refine lv_iload_n hx hb dX10_placeOf_23 rfl (lv_at hl 3 rfl) ?_
        refine sb_icmp_ne (tgt := 29) hx hb rfl rfl dX10_placeOf_24 (by decide) (fun c_24_9 => ?_) (fun c_24_9 => ?_)
        · obtain ⟨x_11, ex_11⟩ : ∃ z : Int32, z = x_1 + 1 := ⟨_, rfl⟩
          have tx_11 : x_11.toInt = x_1.toInt + 1 := i_add ex_11 rfl (by decide) (by omega) (by omega)
          refine lv_iinc (v := x_11) (lv' := [(3, .int x_11), (0, .ref (A 60 0)), (1, .int 1), (2, .int a)]) hx hb dX10_placeOf_29 hl (k := 0) rfl (by rw [ex_11]; rfl) (by decide) rfl (fun ls hl => ?_)
          refine lv_goto (tgt := 2) hx hb dX10_placeOf_32 (by decide) ?_
          exact ih_5 x_11 _ _ _ (by omega) (by first | omega | decide) (by first | omega | decide) (fun j hj => (show (j : Int) < x_1.toInt ∨ j = (x_1.toInt.toNat) by omega).elim (fun h => j_4 j h) (fun h => by subst h; intro h; omega)) hw (lv_sub hl [0, 1, 2, 3] rfl)
        · refine lv_iload_n hx hb dX10_placeOf_27 rfl (lv_at hl 0 rfl) ?_
          exact hQ _ _ _ _ _ _ hw rfl (⟨rfl, Or.inr ⟨by omega, by rw [(yx_6)]; omega, by omega, by rw [k9]; omega⟩⟩) dX10_placeOf_28
  exact hl_2_4 ((8 - 0 : Int).toNat + 1) 0 _ _ _ (Nat.lt_succ_self _) (by have lt0 : (0 : Int32).toInt = 0 := (by decide); first | omega | decide) (by have lt0 : (0 : Int32).toInt = 0 := (by decide); first | omega | decide) (fun j hj => absurd hj (by have h0 : (0 : Int32).toInt = 0 := (by decide); omega)) hw (lv_sub hl [0, 1, 2, 3] rfl)
end
section
variable {Tc : gC} {Tm : gM}
def lk (N M : ti_M) : Prop := lw N M ∧ ik N M
theorem lk_of {N M : ti_M} (a : lw N M) (b : ik N M) : lk N M := ⟨a, b⟩
theorem lk.refl {M : ti_M} : lk M M := ⟨fun _ _ _ => rfl, rfl, rfl, rfl⟩
theorem lk.trans {K N M : ti_M} (a : lk K N) (b : lk N M) : lk K M := ⟨fun k h1 h2 => (a.1 k h1 h2).trans (b.1 k h1 h2), a.2.1.trans b.2.1, a.2.2.1.trans b.2.2.1, a.2.2.2.trans b.2.2.2⟩
theorem lk_I {M N : ti_M} {k : Nat} {v : Int32} (e : N = uI M 60 k v) (h : k ≠ 2 ∧ k ≠ 51 ∧ k ≠ 52) : lk N M := ⟨(qw_I e h).1, (qw_I e h).2.1⟩
theorem lk_Y {M N : ti_M} {k : Nat} {v : Nat → Int32} (e : N = uY M 60 k v) (h : k < 3 ∨ 17 < k) : lk N M := ⟨fun k2 h1 h2 => tY_nE e (nk (by omega)), tI_uYE e, tI_uYE e, tI_uYE e⟩
set_option maxHeartbeats 4000000 in
set_option maxRecDepth 100000 in
theorem s_X10_isGuarded_0 (l : Launch) (D : va_G) (A : Nat → Nat → Nat) (cy : Nat → ClassId) (hJ : ti_inj ti_LM A) (M : ti_M) (hI : mI Tm M)  : ti_Ki l yX10_isGuarded cX10_isGuarded 2 (some .boolean) 0 ti_LM D A cy M [.ref (A 60 0), .int 0] (fun r M2 => M2 = M ∧ 0 ≤ r.toInt ∧ r.toInt ≤ 1) := by
  refine ti_eI yp_X10_isGuarded hJ ti_LM_nd (Nat.le_of_ble_eq_true rfl) ?_
  intro p e s m args below meth c Q H0 C hQ hw ls hl
  have hx := C.1
  have hb := C.2.1
  have hl : lv_has ls 2 [(0, .ref (A 60 0)), (1, .int 0)] := hl
  refine lv_aload_n hx hb dX10_isGuarded_0 rfl (lv_at hl 0 rfl) ?_
  refine ti_get (ci := 10) (k := 38) (N := 67) (T := TX10) (v := .ref (A 60 39)) C hw iw_10 rfl ob_60 (by decide) (by decide) fl_X10_81 rfl rfl dX10_isGuarded_1 ?_
  refine lv_iload_n hx hb dX10_isGuarded_4 rfl (lv_at hl 1 rfl) ?_
  refine ti_iald (ci := 10) (k := 38) (n := 23) C hw ob_60 (by decide) (fun _ _ => rfl) (by unfold vp_in; decide) dX10_isGuarded_5 ?_
  refine lv_topi (fun x_1 ex_1 => ?_)
  have yx_1 : tY M 60 38 0 = x_1 := ((congrArg _ (by decide)).symm.trans ex_1.symm)
  have bx_1 : 0 ≤ x_1.toInt ∧ x_1.toInt ≤ 8 := mI_ry (k := 38) (i := 0) hI yx_1.symm
  have zx_1 : (tY M 60 38 0).toInt = x_1.toInt := by rw [yx_1]
  refine lv_iconst (v := 1) hx hb dX10_isGuarded_6 (by decide) ?_
  have hj_44_7 : ∀  (H : Heap) (locs : List Loc) (ls : Array Slot), ti_H ti_LM D A cy H0 M H locs → lv_has ls 2 [(0, .ref (A 60 0)), (1, .int 0)] → W p l e (ti_rm 0) s m args below meth c H locs 0 0 Q (F0 m 44 ls []) := by
    intro  H locs ls  hw hl
    refine lv_iconst (v := 0) hx hb dX10_isGuarded_44 (by decide) ?_
    exact hQ _ _ _ _ _ _ hw rfl (⟨rfl, by first | omega | decide, by first | omega | decide⟩) dX10_isGuarded_45
  refine sb_icmp_le (tgt := 44) hx hb rfl (by decide : (1 : Int32).toInt = 1) dX10_isGuarded_7 (by decide) (fun c_7_1 => ?_) (fun c_7_1 => ?_)
  · exact hj_44_7  _ _ _  hw (lv_sub hl [0, 1] rfl)
  · refine lv_aload_n hx hb dX10_isGuarded_10 rfl (lv_at hl 0 rfl) ?_
    refine ti_get (ci := 10) (k := 13) (N := 67) (T := TX10) (v := .ref (A 60 14)) C hw iw_10 rfl ob_60 (by decide) (by decide) fl_X10_43 rfl rfl dX10_isGuarded_11 ?_
    refine lv_aload_n hx hb dX10_isGuarded_14 rfl (lv_at hl 0 rfl) ?_
    refine ti_get (ci := 10) (k := 39) (N := 67) (T := TX10) (v := .ref (A 60 40)) C hw iw_10 rfl ob_60 (by decide) (by decide) fl_X10_84 rfl rfl dX10_isGuarded_15 ?_
    refine lv_bipush (v := 8) hx hb dX10_isGuarded_18 (by decide) ?_
    refine lv_iload_n hx hb dX10_isGuarded_20 rfl (lv_at hl 1 rfl) ?_
    refine lv_imul hx hb dX10_isGuarded_21 ?_
    refine ti_top (y := 0) (by decide) ?_
    refine lv_iconst (v := 1) hx hb dX10_isGuarded_22 (by decide) ?_
    refine lv_iadd hx hb dX10_isGuarded_23 ?_
    refine ti_top (y := 1) (by decide) ?_
    refine ti_iald (ci := 10) (k := 39) (n := 184) C hw ob_60 (by decide) (fun _ _ => rfl) (by unfold vp_in; decide) dX10_isGuarded_24 ?_
    refine lv_topi (fun x_3 ex_3 => ?_)
    have yx_3 : tY M 60 39 1 = x_3 := ((congrArg _ (by decide)).symm.trans ex_3.symm)
    have bx_3 : 0 ≤ x_3.toInt ∧ x_3.toInt ≤ 7 := mI_ry (k := 39) (i := 1) hI yx_3.symm
    refine ti_iald (ci := 10) (k := 13) (n := 16) C hw ob_60 (by decide) (fun _ _ => rfl) (vp_in_iff.mpr (by omega)) dX10_isGuarded_25 ?_
    refine lv_topi (fun x_4 ex_4 => ?_)
    have yx_4 : tY M 60 13 x_3.toNatClampNeg = x_4 := (ex_4.symm)
    refine lv_iconst (v := 1) hx hb dX10_isGuarded_26 (by decide) ?_
    refine lv_isub hx hb dX10_isGuarded_27 ?_
    refine lv_topi (fun x_5 ex_5 => ?_)
    refine lv_aload_n hx hb dX10_isGuarded_28 rfl (lv_at hl 0 rfl) ?_
    refine ti_get (ci := 10) (k := 39) (N := 67) (T := TX10) (v := .ref (A 60 40)) C hw iw_10 rfl ob_60 (by decide) (by decide) fl_X10_84 rfl rfl dX10_isGuarded_29 ?_
    refine lv_bipush (v := 8) hx hb dX10_isGuarded_32 (by decide) ?_
    refine lv_iload_n hx hb dX10_isGuarded_34 rfl (lv_at hl 1 rfl) ?_
    refine lv_imul hx hb dX10_isGuarded_35 ?_
    refine ti_top (y := 0) (by decide) ?_
    refine ti_iald (ci := 10) (k := 39) (n := 184) C hw ob_60 (by decide) (fun _ _ => rfl) (by unfold vp_in; decide) dX10_isGuarded_36 ?_
    refine lv_topi (fun x_6 ex_6 => ?_)
    have yx_6 : tY M 60 39 0 = x_6 := ((congrArg _ (by decide)).symm.trans ex_6.symm)
    have bx_6 : 0 ≤ x_6.toInt ∧ x_6.toInt ≤ 7 := mI_ry (k := 39) (i := 0) hI yx_6.symm
    refine sb_icmp_ne (tgt := 44) hx hb rfl rfl dX10_isGuarded_37 (by decide) (fun c_37_6 => ?_) (fun c_37_6 => ?_)
    · exact hj_44_7  _ _ _  hw (lv_sub hl [0, 1] rfl)
    · refine lv_iconst (v := 1) hx hb dX10_isGuarded_40 (by decide) ?_
      refine lv_goto (tgt := 45) hx hb dX10_isGuarded_41 (by decide) ?_
      exact hQ _ _ _ _ _ _ hw rfl (⟨rfl, by first | omega | decide, by first | omega | decide⟩) dX10_isGuarded_45
set_option maxHeartbeats 4000000 in
set_option maxRecDepth 100000 in
theorem s_X10_isGuarded_1 (l : Launch) (D : va_G) (A : Nat → Nat → Nat) (cy : Nat → ClassId) (hJ : ti_inj ti_LM A) (M : ti_M) (hI : mI Tm M)  : ti_Ki l yX10_isGuarded cX10_isGuarded 2 (some .boolean) 0 ti_LM D A cy M [.ref (A 60 0), .int 1] (fun r M2 => M2 = M ∧ 0 ≤ r.toInt ∧ r.toInt ≤ 1) := by
  refine ti_eI yp_X10_isGuarded hJ ti_LM_nd (Nat.le_of_ble_eq_true rfl) ?_
  intro p e s m args below meth c Q H0 C hQ hw ls hl
  have hx := C.1
  have hb := C.2.1
  have hl : lv_has ls 2 [(0, .ref (A 60 0)), (1, .int 1)] := hl
  refine lv_aload_n hx hb dX10_isGuarded_0 rfl (lv_at hl 0 rfl) ?_
  refine ti_get (ci := 10) (k := 38) (N := 67) (T := TX10) (v := .ref (A 60 39)) C hw iw_10 rfl ob_60 (by decide) (by decide) fl_X10_81 rfl rfl dX10_isGuarded_1 ?_
  refine lv_iload_n hx hb dX10_isGuarded_4 rfl (lv_at hl 1 rfl) ?_
  refine ti_iald (ci := 10) (k := 38) (n := 23) C hw ob_60 (by decide) (fun _ _ => rfl) (by unfold vp_in; decide) dX10_isGuarded_5 ?_
  refine lv_topi (fun x_1 ex_1 => ?_)
  have yx_1 : tY M 60 38 1 = x_1 := ((congrArg _ (by decide)).symm.trans ex_1.symm)
  have bx_1 : 0 ≤ x_1.toInt ∧ x_1.toInt ≤ 8 := mI_ry (k := 38) (i := 1) hI yx_1.symm
  have zx_1 : (tY M 60 38 1).toInt = x_1.toInt := by rw [yx_1]
  refine lv_iconst (v := 1) hx hb dX10_isGuarded_6 (by decide) ?_
  have hj_44_7 : ∀  (H : Heap) (locs : List Loc) (ls : Array Slot), ti_H ti_LM D A cy H0 M H locs → lv_has ls 2 [(0, .ref (A 60 0)), (1, .int 1)] → W p l e (ti_rm 0) s m args below meth c H locs 0 0 Q (F0 m 44 ls []) := by
    intro  H locs ls  hw hl
    refine lv_iconst (v := 0) hx hb dX10_isGuarded_44 (by decide) ?_
    exact hQ _ _ _ _ _ _ hw rfl (⟨rfl, by first | omega | decide, by first | omega | decide⟩) dX10_isGuarded_45
  refine sb_icmp_le (tgt := 44) hx hb rfl (by decide : (1 : Int32).toInt = 1) dX10_isGuarded_7 (by decide) (fun c_7_1 => ?_) (fun c_7_1 => ?_)
  · exact hj_44_7  _ _ _  hw (lv_sub hl [0, 1] rfl)
  · refine lv_aload_n hx hb dX10_isGuarded_10 rfl (lv_at hl 0 rfl) ?_
    refine ti_get (ci := 10) (k := 13) (N := 67) (T := TX10) (v := .ref (A 60 14)) C hw iw_10 rfl ob_60 (by decide) (by decide) fl_X10_43 rfl rfl dX10_isGuarded_11 ?_
    refine lv_aload_n hx hb dX10_isGuarded_14 rfl (lv_at hl 0 rfl) ?_
    refine ti_get (ci := 10) (k := 39) (N := 67) (T := TX10) (v := .ref (A 60 40)) C hw iw_10 rfl ob_60 (by decide) (by decide) fl_X10_84 rfl rfl dX10_isGuarded_15 ?_
    refine lv_bipush (v := 8) hx hb dX10_isGuarded_18 (by decide) ?_
    refine lv_iload_n hx hb dX10_isGuarded_20 rfl (lv_at hl 1 rfl) ?_
    refine lv_imul hx hb dX10_isGuarded_21 ?_
    refine ti_top (y := 8) (by decide) ?_
    refine lv_iconst (v := 1) hx hb dX10_isGuarded_22 (by decide) ?_
    refine lv_iadd hx hb dX10_isGuarded_23 ?_
    refine ti_top (y := 9) (by decide) ?_
    refine ti_iald (ci := 10) (k := 39) (n := 184) C hw ob_60 (by decide) (fun _ _ => rfl) (by unfold vp_in; decide) dX10_isGuarded_24 ?_
    refine lv_topi (fun x_3 ex_3 => ?_)
    have yx_3 : tY M 60 39 9 = x_3 := ((congrArg _ (by decide)).symm.trans ex_3.symm)
    have bx_3 : 0 ≤ x_3.toInt ∧ x_3.toInt ≤ 7 := mI_ry (k := 39) (i := 9) hI yx_3.symm
    refine ti_iald (ci := 10) (k := 13) (n := 16) C hw ob_60 (by decide) (fun _ _ => rfl) (vp_in_iff.mpr (by omega)) dX10_isGuarded_25 ?_
    refine lv_topi (fun x_4 ex_4 => ?_)
    have yx_4 : tY M 60 13 x_3.toNatClampNeg = x_4 := (ex_4.symm)
    refine lv_iconst (v := 1) hx hb dX10_isGuarded_26 (by decide) ?_
    refine lv_isub hx hb dX10_isGuarded_27 ?_
    refine lv_topi (fun x_5 ex_5 => ?_)
    refine lv_aload_n hx hb dX10_isGuarded_28 rfl (lv_at hl 0 rfl) ?_
    refine ti_get (ci := 10) (k := 39) (N := 67) (T := TX10) (v := .ref (A 60 40)) C hw iw_10 rfl ob_60 (by decide) (by decide) fl_X10_84 rfl rfl dX10_isGuarded_29 ?_
    refine lv_bipush (v := 8) hx hb dX10_isGuarded_32 (by decide) ?_
    refine lv_iload_n hx hb dX10_isGuarded_34 rfl (lv_at hl 1 rfl) ?_
    refine lv_imul hx hb dX10_isGuarded_35 ?_
    refine ti_top (y := 8) (by decide) ?_
    refine ti_iald (ci := 10) (k := 39) (n := 184) C hw ob_60 (by decide) (fun _ _ => rfl) (by unfold vp_in; decide) dX10_isGuarded_36 ?_
    refine lv_topi (fun x_6 ex_6 => ?_)
    have yx_6 : tY M 60 39 8 = x_6 := ((congrArg _ (by decide)).symm.trans ex_6.symm)
    have bx_6 : 0 ≤ x_6.toInt ∧ x_6.toInt ≤ 7 := mI_ry (k := 39) (i := 8) hI yx_6.symm
    refine sb_icmp_ne (tgt := 44) hx hb rfl rfl dX10_isGuarded_37 (by decide) (fun c_37_6 => ?_) (fun c_37_6 => ?_)
    · exact hj_44_7  _ _ _  hw (lv_sub hl [0, 1] rfl)
    · refine lv_iconst (v := 1) hx hb dX10_isGuarded_40 (by decide) ?_
      refine lv_goto (tgt := 45) hx hb dX10_isGuarded_41 (by decide) ?_
      exact hQ _ _ _ _ _ _ hw rfl (⟨rfl, by first | omega | decide, by first | omega | decide⟩) dX10_isGuarded_45
end
section
variable {Tc : gC} {Tm : gM}
theorem mC_7 {M : ti_M} {q i : Nat} (hC : mC M q) (h0 : (tY M 60 40 i).toInt = 0) (q1 : 8 * q ≤ i) (q2 : i < 8 * q + 8) : (tY M 60 38 q).toInt ≤ 7 := by
  have := zc_pos (tY M 60 40) i (8 * q) h0 q1 q2
  unfold mC at hC; omega
theorem q_join {M N : ti_M} {q i8 i9 i0 mn : Nat} {v w o : Int32} (hI : mI Tm M) (hC : mC M q) (h38 : tY N 60 38 = upd (tY M 60 38) i8 v) (h39 : tY N 60 39 = upd (tY M 60 39) i9 w) (h40 : tY N 60 40 = upd (tY M 60 40) i0 o) (hl : lk N M) (e8 : i8 = q) (hv : v.toInt = (tY M 60 38 q).toInt + 1) (e9 : (i9 : Int) = 8 * q + (tY M 60 38 q).toInt) (hw : w.toInt = mn) (e0 : i0 = 8 * q + mn) (hm : mn < 8) (ho : o.toInt = 1) (h0 : (tY M 60 40 i0).toInt = 0) : rq q N M ∧ mC N q ∧ zc (tY N 60 40) (8 * q) < zc (tY M 60 40) (8 * q) := by
  subst e8
  have hb : ∀ x, 0 ≤ (tY M 60 38 x).toInt ∧ (tY M 60 38 x).toInt ≤ 8 := fun x => hI.2.1 38 x
  have m7 := mC_7 hC h0 (by omega) (by omega)
  have z0 : zc (tY N 60 40) (8 * i8) + 1 ≤ zc (tY M 60 40) (8 * i8) := by rw [h40]; exact zc_one _ _ _ _ (by omega) h0 (by omega) (by omega)
  have b8 := hb i8
  unfold mC at hC
  refine ⟨⟨hl.1, hl.2, fun q2 => ⟨fun hne c => ?_, fun c => ?_⟩, fun hne => ?_⟩, ?_, by omega⟩
  · unfold mC at c ⊢; rw [h38, pk_un hne, h40, zc_out _ _ _ _ (by omega)]; exact c
  · intro m hm2 hmn hws
    rw [hl.1 3 (by decide) (by decide)] at hmn
    rw [h40] at hws
    have hbq := hb q2
    by_cases hq : 8 * q2 + m = i0
    · have e : q2 = i8 := by omega
      subst e
      refine ⟨(tY M 60 38 q2).toInt.toNat, ?_, ?_⟩
      · rw [h38, pk_us]; omega
      · rw [h39, show 8 * q2 + (tY M 60 38 q2).toInt.toNat = i9 by omega, pk_us]; omega
    · rw [pk_un hq] at hws
      obtain ⟨p, hp, hpq⟩ := c m hm2 hmn hws
      by_cases e : q2 = i8
      · subst e
        exact ⟨p, by rw [h38, pk_us]; omega, by rw [h39, pk_un (by omega)]; exact hpq⟩
      · exact ⟨p, by rw [h38, pk_un e]; exact hp, by rw [h39, pk_un (by omega)]; exact hpq⟩
  · rw [h38, pk_un (Ne.symm hne)]
  · unfold mC; rw [h38, pk_us]; omega
/-- the row from a place on moved up -/
def sh (M N : ti_M) (b pl : Nat) (p : Int) : Prop := ∀ i : Nat, tY N 60 39 i = if b + pl ≤ i ∧ (i : Int) < b + p then tY M 60 39 (i + 1) else tY M 60 39 i
theorem sh_0 {M : ti_M} {b pl : Nat} {p : Int} (h : p = pl) : sh M M b pl p := by intro i; rw [if_neg (by omega)]
theorem sh_s {M N K : ti_M} {b pl i : Nat} {p p2 : Int} {v : Int32} (h : sh M N b pl p) (e : K = uY N 60 39 (upd (tY N 60 39) i v)) (hi : (i : Int) = b + p) (hp : pl ≤ p) {j : Nat} (hv : tY N 60 39 j = v) (hj : j = i + 1) (h2 : p2 = p + 1) : sh M K b pl p2 := by
  intro x
  rw [tY_uE e]
  by_cases q : x = i
  · subst q
    rw [pk_us, if_pos (by omega), ← hv, hj, h (x + 1), if_neg (by omega)]
  · rw [pk_un q, h x]
    by_cases c : b + pl ≤ x ∧ (x : Int) < b + p
    · rw [if_pos c, if_pos (by omega)]
    · rw [if_neg c, if_neg (by omega)]
theorem q_leave {M N : ti_M} {q i8 i0 pl : Nat} {p : Int} {v ho : Int32} (hI : mI Tm M) (hC : mC M q) (h38 : tY N 60 38 = upd (tY M 60 38) i8 v) (h39 : sh M N (8 * q) pl p) (h40 : tY N 60 40 = upd (tY M 60 40) i0 ho) (hl : lk N M) (e8 : i8 = q) (hv : v.toInt = (tY M 60 38 q).toInt - 1) (hp : p = (tY M 60 38 q).toInt - 1) (hpl : (pl : Int) ≤ p) (e0 : (i0 : Int) = 8 * q + (tY M 60 39 (8 * q + pl)).toInt) (ho2 : 2 ≤ ho.toInt) : rq q N M ∧ mC N q ∧ (tY N 60 38 q).toInt = (tY M 60 38 q).toInt - 1 := by
  subst e8
  have hb : ∀ x, 0 ≤ (tY M 60 38 x).toInt ∧ (tY M 60 38 x).toInt ≤ 8 := fun x => hI.2.1 38 x
  have hbq : 0 ≤ (tY M 60 39 (8 * i8 + pl)).toInt ∧ (tY M 60 39 (8 * i8 + pl)).toInt ≤ 7 := hI.2.1 39 _
  have b8 := hb i8
  have z0 : zc (tY N 60 40) (8 * i8) ≤ zc (tY M 60 40) (8 * i8) := by rw [h40]; exact zc_le _ _ _ _ (by omega)
  unfold mC at hC
  refine ⟨⟨hl.1, hl.2, fun q2 => ⟨fun hne c => ?_, fun c => ?_⟩, fun hne => ?_⟩, ?_, by rw [h38, pk_us]; exact hv⟩
  · unfold mC at c ⊢; rw [h38, pk_un hne, h40, zc_out _ _ _ _ (by omega)]; exact c
  · intro m hm2 hmn hws
    rw [hl.1 3 (by decide) (by decide)] at hmn
    rw [h40] at hws
    by_cases hq : 8 * q2 + m = i0
    · rw [hq, pk_us] at hws; omega
    · rw [pk_un hq] at hws
      obtain ⟨p0, hp0, hpq⟩ := c m hm2 hmn hws
      have hb2 := hb q2
      by_cases e : q2 = i8
      · subst e
        have hne : p0 ≠ pl := by intro h; subst h; omega
        by_cases hlt : p0 < pl
        · exact ⟨p0, by rw [h38, pk_us]; omega, by rw [h39, if_neg (by omega)]; exact hpq⟩
        · exact ⟨p0 - 1, by rw [h38, pk_us]; omega, by rw [h39, if_pos (by omega), show 8 * q2 + (p0 - 1) + 1 = 8 * q2 + p0 by omega]; exact hpq⟩
      · exact ⟨p0, by rw [h38, pk_un e]; exact hp0, by rw [h39, if_neg (by omega)]; exact hpq⟩
  · rw [h38, pk_un (Ne.symm hne)]
  · unfold mC; rw [h38, pk_us]; omega
end

section
variable {p : Program} {l : Launch} {e : Env} {R : Room} {s : State} {m : MethodId} {args : Array Value} {below : List Frame} {meth : Method} {c : Code} {H H0 : Heap} {locs : List Loc} {cells slots : Nat} {Q : State → Prop} {pc : Nat} {ls : Array Slot} {rest : List Value} {cc : ByteArray} {own : String} {nL : Nat} {D : va_G} {cy : Nat → ClassId} {Ls : List (Nat × Nat)} {A : Nat → Nat → Nat} {M : ti_M}
theorem ti_eI {y : MethodName} {n k : Nat} {ty : FieldType} {av : List Value} {post : Int32 → ti_M → Prop} (hy : plainName y.cls = true) (hJ : ti_inj Ls A) (hN : Ls.Nodup) (hav : (lg_sl av).length ≤ n)
    (body : ∀ (p : Program) (e : Env) (s : State) (m : MethodId) (args : Array Value) (below : List Frame) (meth : Method) (c : Code) (Q : State → Prop) (H0 : Heap), ti_C p s m c args cc y.cls n D cy Ls A →
      (∀ (v : Int32) (M2 : ti_M) (H2 : Heap) (locs2 : List Loc) (pc : Nat) (ls : Array Slot), ti_H Ls D A cy H0 M2 H2 locs2 → narrow ty (.int v) = .int v → post v M2 → decode cc pc = .ok (.ireturn, 1) → W p l e (ti_rm k) s m args below meth c H2 locs2 0 0 Q (F0 m pc ls [.int v])) →
      ti_H Ls D A cy H0 M H0 [] → ∀ ls : Array Slot, lv_has ls n (lv_args 0 av) → W p l e (ti_rm k) s m args below meth c H0 [] 0 0 Q (F0 m 0 ls [])) : ti_Ki l y cc n (some ty) k Ls D A cy M av post := by
  refine ti_enterI hy hJ hN hav ?_
  intro p e s m below meth c C hr hlk hw ls hl
  exact body p e s m av.toArray below meth c _ s.heap C (fun v M2 H2 locs2 pc ls hw2 hn hq hdg => ti_iret C hr hlk hw2 hn hq hdg) hw ls hl
theorem ti_eL {y : MethodName} {n k : Nat} {av : List Value} {post : Int64 → ti_M → Prop} (hy : plainName y.cls = true) (hJ : ti_inj Ls A) (hN : Ls.Nodup) (hav : (lg_sl av).length ≤ n)
    (body : ∀ (p : Program) (e : Env) (s : State) (m : MethodId) (args : Array Value) (below : List Frame) (meth : Method) (c : Code) (Q : State → Prop) (H0 : Heap), ti_C p s m c args cc y.cls n D cy Ls A →
      (∀ (v : Int64) (M2 : ti_M) (H2 : Heap) (locs2 : List Loc) (pc : Nat) (ls : Array Slot), ti_H Ls D A cy H0 M2 H2 locs2 → post v M2 → decode cc pc = .ok (.lreturn, 1) → W p l e (ti_rm k) s m args below meth c H2 locs2 0 0 Q (F0 m pc ls [.long v])) →
      ti_H Ls D A cy H0 M H0 [] → ∀ ls : Array Slot, lv_has ls n (lv_args 0 av) → W p l e (ti_rm k) s m args below meth c H0 [] 0 0 Q (F0 m 0 ls [])) : ti_Kl l y cc n (some .long) k Ls D A cy M av post := by
  refine ti_enterL hy hJ hN hav ?_
  intro p e s m below meth c C hr hlk hw ls hl
  exact body p e s m av.toArray below meth c _ s.heap C (fun v M2 H2 locs2 pc ls hw2 hq hdg => ti_lret C hr hlk hw2 hq hdg) hw ls hl
theorem ti_eV {y : MethodName} {n k : Nat} {av : List Value} {post : ti_M → Prop} (hy : plainName y.cls = true) (hJ : ti_inj Ls A) (hN : Ls.Nodup) (hav : (lg_sl av).length ≤ n)
    (body : ∀ (p : Program) (e : Env) (s : State) (m : MethodId) (args : Array Value) (below : List Frame) (meth : Method) (c : Code) (Q : State → Prop) (H0 : Heap), ti_C p s m c args cc y.cls n D cy Ls A →
      (∀ (M2 : ti_M) (H2 : Heap) (locs2 : List Loc) (pc : Nat) (ls : Array Slot), ti_H Ls D A cy H0 M2 H2 locs2 → post M2 → decode cc pc = .ok (.return_, 1) → W p l e (ti_rm k) s m args below meth c H2 locs2 0 0 Q (F0 m pc ls [])) →
      ti_H Ls D A cy H0 M H0 [] → ∀ ls : Array Slot, lv_has ls n (lv_args 0 av) → W p l e (ti_rm k) s m args below meth c H0 [] 0 0 Q (F0 m 0 ls [])) : ti_Kv l y cc n k Ls D A cy M av post := by
  refine ti_enterV hy hJ hN hav ?_
  intro p e s m below meth c C hr hlk hw ls hl
  exact body p e s m av.toArray below meth c _ s.heap C (fun M2 H2 locs2 pc ls hw2 hq hdg => ti_vret C hr hlk hw2 hq hdg) hw ls hl
theorem ti_top {x y : Int32} (h : x = y) (kk : W p l e R s m args below meth c H locs cells slots Q (F0 m pc ls (.int y :: rest))) : W p l e R s m args below meth c H locs cells slots Q (F0 m pc ls (.int x :: rest)) := h ▸ kk
theorem ti_topL {x y : Int64} (h : x = y) (kk : W p l e R s m args below meth c H locs cells slots Q (F0 m pc ls (.long y :: rest))) : W p l e R s m args below meth c H locs cells slots Q (F0 m pc ls (.long x :: rest)) := h ▸ kk
theorem ti_topv {x y : Value} (h : x = y) (kk : W p l e R s m args below meth c H locs cells slots Q (F0 m pc ls (y :: rest))) : W p l e R s m args below meth c H locs cells slots Q (F0 m pc ls (x :: rest)) := h ▸ kk
theorem ti_min {idx : Nat} (C : ti_C p s m c args cc own nL D cy Ls A) (hm : Cond.methodLink own idx yJ9_min_7cf53 ∈ lw_g) (hsz : ls.size = nL) (hfr : 1 ≤ R.frames) (hlo : (rest.map fun v => v.category).sum + 13 ≤ R.locals) (hcs : cells ≤ R.cells ∧ slots ≤ R.slots) {x y : Int32} (hdg : decode cc pc = .ok (.invokestatic idx, 3))
    (kk : W p l e R s m args below meth c H locs cells slots Q (F0 m (pc + 3) ls (.int (if y < x then y else x) :: rest))) : W p l e R s m args below meth c H locs cells slots Q (F0 m pc ls (.int y :: .int x :: rest)) :=
  va_mmin C.1 C.2.1 (by rw [C.2.2.2.2.2.1, hsz]) C.2.2.2.1 (C.2.2.1 _ hm) (C.2.2.1 _ ys_J9_min_7cf53) (C.2.2.1 _ yi_J9_min_7cf53) (C.2.2.1 _ yc_J9_min_7cf53) hfr hlo hcs.1 hcs.2 hdg kk
theorem ti_max {idx : Nat} (C : ti_C p s m c args cc own nL D cy Ls A) (hm : Cond.methodLink own idx yJ9_max_7cf53 ∈ lw_g) (hsz : ls.size = nL) (hfr : 1 ≤ R.frames) (hlo : (rest.map fun v => v.category).sum + 13 ≤ R.locals) (hcs : cells ≤ R.cells ∧ slots ≤ R.slots) {x y : Int32} (hdg : decode cc pc = .ok (.invokestatic idx, 3))
    (kk : W p l e R s m args below meth c H locs cells slots Q (F0 m (pc + 3) ls (.int (if x < y then y else x) :: rest))) : W p l e R s m args below meth c H locs cells slots Q (F0 m pc ls (.int y :: .int x :: rest)) :=
  va_mmax C.1 C.2.1 (by rw [C.2.2.2.2.2.1, hsz]) C.2.2.2.1 (C.2.2.1 _ hm) (C.2.2.1 _ ys_J9_max_7cf53) (C.2.2.1 _ yi_J9_max_7cf53) (C.2.2.1 _ yc_J9_max_7cf53) hfr hlo hcs.1 hcs.2 hdg kk
theorem ti_alen {ci o k n : Nat} {t0 : Nat} {ty : FieldType} (C : ti_C p s m c args cc own nL D cy Ls A) (hw : ti_H Ls D A cy H0 M H locs) (hob : ti_ob Ls o ci) (hj : k + 1 ∈ ti_parts ci) (har : ∀ f g, (ti_ar A cy ci o k f g).1 = cy t0 ∧ (ti_ar A cy ci o k f g).2.1 = n) (ht : (ti_ty cy)[t0]? = some (cy t0, ty)) {v : Int32} (hv : Int32.ofNat n = v) (hdg : decode cc pc = .ok (.arraylength, 1))
    (kk : W p l e R s m args below meth c H locs cells slots Q (F0 m (pc + 1) ls (.int v :: rest))) : W p l e R s m args below meth c H locs cells slots Q (F0 m pc ls (.ref (A o (k + 1)) :: rest)) := by
  obtain ⟨q, hq⟩ := ti_obG hob (k + 1) hj
  have h1 := har (tY M o k) (tZ M o k)
  exact va_alen (cA := cy t0) (x := (ti_ar A cy ci o k (tY M o k) (tZ M o k)).2) C.1 C.2.1 C.2.2.2.2.1 hw.1 q t0 (by rw [ti_W_at hq]; simp only [ti_G, hob.1]; rw [← h1.1]) ht (by rw [h1.2]; exact hv) hdg kk
theorem ti_copy {idx o1 k1 c1 n1 o2 k2 c2 n2 : Nat} (C : ti_C p s m c args cc own nL D cy Ls A) (hw : ti_H Ls D A cy H0 M H locs) (hm : Cond.methodLink own idx arraycopyName ∈ lw_g) (hnat : Cond.native arraycopyName ∈ lw_g) (hsta : Cond.static arraycopyName ∈ lw_g) (hini : Cond.initialized "java/lang/System" ∈ lw_g)
    (hob1 : ti_ob Ls o1 c1) (hj1 : k1 + 1 ∈ ti_parts c1) (har1 : ∀ f g, ti_ar A cy c1 o1 k1 f g = (cy 1, n1, .inl f)) (hob2 : ti_ob Ls o2 c2) (hj2 : k2 + 1 ∈ ti_parts c2) (har2 : ∀ f g, ti_ar A cy c2 o2 k2 f g = (cy 1, n2, .inl f)) (hsz : ls.size = nL) {sp dp n : Int32} (h1 : ¬ sp < 0) (h2 : ¬ dp < 0) (h3 : ¬ n < 0) (h4 : sp.toNatClampNeg + n.toNatClampNeg ≤ n1) (h5 : dp.toNatClampNeg + n.toNatClampNeg ≤ n2)
    (hfr : 1 ≤ R.frames) (hlo : (rest.map fun v => v.category).sum + (nativeFrameWords "java/lang/System" "arraycopy" 5 + 11) ≤ R.locals) (hdg : decode cc pc = .ok (.invokestatic idx, 3))
    (kk : ∀ (H1 : Heap) (locs1 : List Loc), ti_H Ls D A cy H0 (uY M o2 k2 (va_cpy (tY M o1 k1) (tY M o2 k2) sp.toNatClampNeg dp.toNatClampNeg n.toNatClampNeg)) H1 locs1 → W p l e R s m args below meth c H1 locs1 cells slots Q (F0 m (pc + 3) ls rest)) : W p l e R s m args below meth c H locs cells slots Q (F0 m pc ls (.int n :: .int dp :: .ref (A o2 (k2 + 1)) :: .int sp :: .ref (A o1 (k1 + 1)) :: rest)) := by
  obtain ⟨q1, hq1⟩ := ti_obG hob1 (k1 + 1) hj1
  obtain ⟨q2, hq2⟩ := ti_obG hob2 (k2 + 1) hj2
  refine va_copyi (c0 := cy 1) (c1 := cy 1) (n0 := n1) (n1 := n2) (f := tY M o1 k1) (g := tY M o2 k2) (ty := .int) C.1 C.2.1 (by rw [C.2.2.2.2.2.1, hsz]) C.2.2.2.1 (C.2.2.1 _ hm) (C.2.2.1 _ hnat) (C.2.2.1 _ hsta) (C.2.2.1 _ hini) C.2.2.2.2.1 hw.1 (ti_W_D C.2.2.2.2.2.2.1 cy M) hw.2 q1 q2 1 1 (by rw [ti_W_at hq1]; simp only [ti_G, hob1.1, har1]) (by rw [ti_W_at hq2]; simp only [ti_G, hob2.1, har2]) rfl rfl rfl h1 h2 h3 h4 h5 (fun _ _ => rfl) hfr hlo hdg ?_
  intro H1 locs1 hP hD hS
  refine kk H1 locs1 ⟨?_, hS⟩
  have e : (ti_W Ls A cy M).set q2 (A o2 (k2 + 1), ti_G A cy (uY M o2 k2 (va_cpy (tY M o1 k1) (tY M o2 k2) sp.toNatClampNeg dp.toNatClampNeg n.toNatClampNeg)) o2 (k2 + 1)) = ti_W Ls A cy (uY M o2 k2 (va_cpy (tY M o1 k1) (tY M o2 k2) sp.toNatClampNeg dp.toNatClampNeg n.toNatClampNeg)) := ti_W_set C.2.2.2.2.2.2.2 hq2 (fun r2 h2 => ti_G_uY r2 h2)
  rw [← e]
  simpa only [ti_G, hob2.1, har2, tY_u] using hP
end
theorem uY_eta (M : ti_M) (o k : Nat) : uY M o k (tY M o k) = M := by
  obtain ⟨a, b, c, d⟩ := M
  simp only [uY, tY, Prod.mk.injEq, true_and, and_true]
  funext o2 k2
  simp only [up2]
  by_cases h : k2 = k ∧ o2 = o
  · rw [if_pos h, h.1, h.2]
  · rw [if_neg h]
theorem uI_eta (M : ti_M) (o k : Nat) : uI M o k (tI M o k) = M := by
  obtain ⟨a, b, c, d⟩ := M
  simp only [uI, tI, Prod.mk.injEq, true_and, and_true]
  funext o2 k2
  simp only [up2]
  by_cases h : k2 = k ∧ o2 = o
  · rw [if_pos h, h.1, h.2]
  · rw [if_neg h]
theorem ti_out {lo hi : Int} (x : Int32) (h : ∀ v : Int, lo ≤ v → v ≤ hi → ¬ x.toInt = v) : x.toInt < lo ∨ hi < x.toInt := by
  rcases Int.lt_or_le x.toInt lo with h1 | h1
  · exact Or.inl h1
  · rcases Int.lt_or_le hi x.toInt with h2 | h2
    · exact Or.inr h2
    · exact absurd rfl (h _ h1 h2)
theorem ti_nev {x : Int32} (n : Int32) {v : Int} (h : ¬ x = n) (hv : n.toInt = v) : ¬ x.toInt = v := fun e => h (Int32.toInt_inj.mp (by rw [e, hv]))
theorem ti_lk (dflt : Int) (x : Int) : ∀ (ps : List (Int × Int)), (∀ q ∈ ps, ¬ x = q.1) → Op.lookupswitch.offset ps dflt x = dflt := by
  intro ps
  induction ps with
  | nil => intro _; rfl
  | cons a l ih =>
    intro h
    have h1 : ¬ a.1 = x := fun e => h a List.mem_cons_self e.symm
    have h2 := ih (fun q hq => h q (List.mem_cons_of_mem _ hq))
    obtain ⟨a1, a2⟩ := a
    show (if a1 = x then a2 else Op.lookupswitch.offset l dflt x) = dflt
    rw [if_neg h1, h2]
theorem ti_l0 : (0 : Int32).toInt = 0 := by decide
theorem ti_l1 : (1 : Int32).toInt = 1 := by decide
theorem ti_l2 : (2 : Int32).toInt = 2 := by decide
theorem ti_l3 : (3 : Int32).toInt = 3 := by decide
theorem ti_l5 : (5 : Int32).toInt = 5 := by decide
theorem ti_l7 : (7 : Int32).toInt = 7 := by decide
theorem ti_l8 : (8 : Int32).toInt = 8 := by decide
theorem ti_l24 : (24 : Int32).toInt = 24 := by decide
theorem ti_l59 : (59 : Int32).toInt = 59 := by decide
theorem ti_l60 : (60 : Int32).toInt = 60 := by decide
theorem ti_l119 : (119 : Int32).toInt = 119 := by decide
theorem ti_l120 : (120 : Int32).toInt = 120 := by decide
theorem ti_lm1 : (-1 : Int32).toInt = -1 := by decide
theorem ti_lm2 : (-2 : Int32).toInt = -2 := by decide

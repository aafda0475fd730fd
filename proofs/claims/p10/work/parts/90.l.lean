theorem tx_E.kept {A : Nat → Prop} {U : State} {H H1 : Heap} (h : tx_E A U H) (hq : ∀ a : Nat, a < H.size → ¬ A a → H1[a]? = H[a]?) : tx_E A U H1 := by
  obtain ⟨⟨a, v, h1, h2⟩, ⟨b, w, h3, h4⟩, h5⟩ := h
  exact ⟨⟨a, v, h1, h2.kept hq⟩, ⟨b, w, h3, h4.kept hq⟩, h5.kept hq⟩
def lq_B (p : Program) (s : State) (m : MethodId) (c : Code) (args : Array Value) (cc : ByteArray) (own : String) (nL : Nat) (D : va_G) (cy : Nat → ClassId) : Prop :=
  p.tables.exec = Jvm.exec ∧ c.code = cc ∧ (∀ w ∈ lw_g, w.before args s = true) ∧ s.vm.findClass own = some m.cls ∧ va_K D vwCl (ti_ty cy) s ∧ c.maxLocals = nL ∧ True ∧ ti_N s
section
variable {p : Program} {l : Launch} {e : Env} {R : Room} {s : State} {m : MethodId} {args : Array Value} {below : List Frame} {meth : Method} {c : Code} {H H0 : Heap} {locs : List Loc} {cells slots : Nat} {Q : State → Prop} {pc : Nat} {ls : Array Slot} {rest : List Value} {cc : ByteArray} {own : String} {nL : Nat} {D : va_G} {cy : Nat → ClassId} {As : Nat → Prop} {ws : va_W}
/-- a new row of a basic type -/
theorem lq_nA {atype : ArrayType} {ty : FieldType} (t0 : Nat) (C : lq_B p s m c args cc own nL D cy) (hac : Cond.arrayClass (newarray.typeOf atype) ∈ lw_g) (hty : newarray.typeOf atype = ty) (hp : ∀ C, ty ≠ .object C) (ht : (ti_ty cy)[t0]? = some (cy t0, ty)) (hP : va_P D vwCl ws H) (hD : va_D As ws) (hS : va_S As H0 H locs) (hA : ∀ q, H0.size ≤ q → As q)
    {n : Int32} {N' : Nat} {a0 : vp_A} (ha : ∀ cA : ClassId, vp_cell cA a0 = arrV cA N' (fun _ => defaultValue ty)) (hn : ¬ n < 0) (hN : n.toNatClampNeg = N') (hbytes : N' * componentBytes ty ≤ 536870912) (k2 n2 : Nat) (hcells : cells + 1 ≤ k2) (hslots : slots + N' ≤ n2) (hR : k2 ≤ R.cells ∧ n2 ≤ R.slots) (hdg : decode cc pc = .ok (.newarray atype, 2))
    (kk : ∀ (q : Nat) (H1 : Heap), va_P D vwCl (ws ++ [(q, .inl (cy t0, a0))]) H1 → va_D As (ws ++ [(q, .inl (cy t0, a0))]) → va_S As H0 H1 locs → W p l e R s m args below meth c H1 locs k2 n2 Q (F0 m (pc + 2) ls (.ref q :: rest))) : W p l e R s m args below meth c H locs cells slots Q (F0 m pc ls (.int n :: rest)) := by
  refine va_newa (atype := atype) (ty := ty) C.1 C.2.1 (C.2.2.1 _ hac) hty C.2.2.2.2.1 hP hD hS hA ha hn hN hbytes (Nat.le_trans hcells hR.1) (Nat.le_trans hslots hR.2) hdg ?_
  intro q cA H1 hK1 hP1 hD1 hS1
  obtain rfl := ti_sameP hp C.2.2.2.2.1 ht hK1
  exact W.widen hcells hslots (kk q H1 hP1 hD1 hS1)
/-- a new object -/
theorem lq_nO {Cn : String} {T : u_T} {N ci idx : Nat} (ty : Nat → FieldType) (hty : ∀ k, k < N → parseFieldDescriptor (T k).2.2.1 = some (ty k)) (C : lq_B p s m c args cc own nL D cy) (hin : ∀ w ∈ u_ws Cn T N, w ∈ lw_g) (hck : Cond.classLink own idx Cn ∈ lw_g) (his : Cond.instantiable Cn N ∈ lw_g) (hini : Cond.initialized Cn ∈ lw_g) (hcl : vwCl[ci]? = some (Cn, T, N)) (hP : va_P D vwCl ws H) (hD : va_D As ws) (hS : va_S As H0 H locs) (hA : ∀ q, H0.size ≤ q → As q)
    {fs : List Value} (hfs : ∀ j, j < N → defaultValue (ty j) = vp_V fs j) (k2 n2 : Nat) (hcells : cells + 1 ≤ k2) (hslots : slots + N ≤ n2) (hR : k2 ≤ R.cells ∧ n2 ≤ R.slots) (hdg : decode cc pc = .ok (.new idx, 3))
    (kk : ∀ (q : Nat) (H1 : Heap), va_P D vwCl (ws ++ [(q, .inr (ci, fs))]) H1 → va_D As (ws ++ [(q, .inr (ci, fs))]) → va_S As H0 H1 locs → W p l e R s m args below meth c H1 locs k2 n2 Q (F0 m (pc + 3) ls (.ref q :: rest))) : W p l e R s m args below meth c H locs cells slots Q (F0 m pc ls rest) := by
  refine va_new (ci := ci) (C := Cn) (T := T) (N := N) C.1 C.2.1 C.2.2.1 hin ty hty C.2.2.2.1 (C.2.2.1 _ hck) (C.2.2.1 _ his) (C.2.2.1 _ hini) C.2.2.2.2.1 hP hD hS hA hcl hfs (Nat.le_trans hcells hR.1) (Nat.le_trans hslots hR.2) hdg ?_
  intro q H1 hP1 hD1 hS1
  exact W.widen hcells hslots (kk q H1 hP1 hD1 hS1)
/-- a constructor's call, of the last cell -/
theorem lq_callCx {y : MethodName} {cc2 : ByteArray} {n2 k2 mc ms q : Nat} {X : va_W} {e0 : va_E} {S : Type} {post : S → Prop} {blk : S → va_W} (C : lq_B p s m c args cc own nL D cy) (hM : ti_Kc l y cc2 n2 k2 mc ms D cy q H.size e0 post blk)
    (hrun : ∀ (hp : PreS s H (ti_PcC D cy q H.size e0) [.ref q]), va_Run p l e R s m args below meth c H locs cells slots mc ms (F0 m pc ls (.ref q :: rest)) rest (va_Qv post (fun u t => va_P D vwCl (blk u) t.heap ∧ va_D (va_A [(q, e0)] H.size) (blk u)) (va_A [(q, e0)] H.size) (Value.ref q :: []).toArray) (va_A [(q, e0)] H.size))
    (hP : va_P D vwCl (X ++ [(q, e0)]) H) (hD : va_D As (X ++ [(q, e0)])) (hS : va_S As H0 H locs) (hA : ∀ q, H0.size ≤ q → As q) (k3 n3 : Nat) (hcells : cells + mc ≤ k3) (hslots : slots + ms ≤ n3)
    (kk : ∀ (u : S) (H1 : Heap) (locs1 : List Loc), post u → va_P D vwCl (X ++ blk u) H1 → va_D As (X ++ blk u) → va_S As H0 H1 locs1 → W p l e R s m args below meth c H1 locs1 k3 n3 Q (F0 m (pc + 3) ls rest)) : W p l e R s m args below meth c H locs cells slots Q (F0 m pc ls (.ref q :: rest)) := by
  have hF : ∀ z, va_A [(q, e0)] H.size z → As z := va_free (wc := [(q, e0)]) hD hS hA [X.length] (by simp)
  have hP0 : va_P D vwCl [(q, e0)] H := hP.sub (ws' := [(q, e0)]) [X.length] (by simp)
  refine va_callv (hrun ⟨ti_blindC, fun U hU hW => ⟨rfl, by rw [hU], by rw [hU]; exact hP0, va_K.moved hW.alike C.2.2.2.2.1, C.2.2.2.2.2.2.2.warm hW⟩⟩) hS (fun z _ h => hF z h) hF ?_
  intro u t H1 locs1 ht hvm hpo hB hz hk hS1
  rw [ht] at hB
  obtain ⟨hP2, hD2⟩ := ti_joinL hP hD hk hF hB.1 hB.2
  exact W.widen hcells hslots (kk u H1 locs1 hpo hP2 hD2 hS1)
theorem lq_callCI {y : MethodName} {cc2 : ByteArray} {n2 k2 mc ms idx q : Nat} {X : va_W} {e0 : va_E} {S : Type} {post : S → Prop} {blk : S → va_W} (C : lq_B p s m c args cc own nL D cy) (hM : ti_Kc l y cc2 n2 k2 mc ms D cy q H.size e0 post blk) (hml : Cond.methodLink own idx y ∈ lw_g) (hy : y.name = "<init>") (hm : Cond.instanceMethod y ∈ lw_g) (hi : Cond.initialized y.cls ∈ lw_g) (hc : Cond.code y cc2 n2 none ∈ lw_g) (hd : ti_Vd y 0)
    (hP : va_P D vwCl (X ++ [(q, e0)]) H) (hD : va_D As (X ++ [(q, e0)])) (hS : va_S As H0 H locs) (hA : ∀ q, H0.size ≤ q → As q) (hsz : ls.size = nL) (hrs : (rest.map fun v => v.category).sum ≤ 8) (hR : k2 + 1 ≤ R.frames ∧ 8 + (n2 + 11) + 60 * k2 ≤ R.locals) (k3 n3 : Nat) (hcells : cells + mc ≤ k3) (hslots : slots + ms ≤ n3) (hR2 : k3 ≤ R.cells ∧ n3 ≤ R.slots) (hdg : decode cc pc = .ok (.invokespecial idx, 3))
    (kk : ∀ (u : S) (H1 : Heap) (locs1 : List Loc), post u → va_P D vwCl (X ++ blk u) H1 → va_D As (X ++ blk u) → va_S As H0 H1 locs1 → W p l e R s m args below meth c H1 locs1 k3 n3 Q (F0 m (pc + 3) ls rest)) : W p l e R s m args below meth c H locs cells slots Q (F0 m pc ls (.ref q :: rest)) :=
  lq_callCx (n2 := n2) (k2 := k2) C hM (fun hp => va_runI (As := []) (rest := rest) ⟨C.1, C.2.1, C.2.2.2.2.2.1, C.2.2.2.1, C.2.2.1⟩ hM (cwI 0 C.2.2.1 (lw_g_good (fun w hw => (List.mem_cons.mp hw).elim (fun h => h ▸ hc) (fun h => h))) rfl rfl rfl (C.2.2.1 _ hi) (C.2.2.1 _ hml) (C.2.2.1 _ hm) hy hd hR) hp rfl rfl hsz rfl (lv_room hrs) hdg ⟨Nat.le_trans hcells hR2.1, Nat.le_trans hslots hR2.2⟩) hP hD hS hA k3 n3 hcells hslots kk
end
def lq_F (s : State) : Nat → Prop := fun q => s.heap.size ≤ q
/-- the two worlds: new cells, apart -/
def lq_A (s : State) (A1 A2 : Nat → Nat → Nat) : Prop := ti_inj ti_LT A1 ∧ ti_inj ti_LM A2 ∧ (∀ q, ti_As ti_LT A1 q → lq_F s q) ∧ (∀ q, ti_As ti_LM A2 q → lq_F s q) ∧ ∀ q, ti_As ti_LT A1 q → ti_As ti_LM A2 q → False
def lq_O (s : State) (D : va_G) (cy : Nat → ClassId) (A1 A2 : Nat → Nat → Nat) (q3 : Nat) (H : Heap) : Prop := lq_F s q3 ∧ ¬ ti_As ti_LT A1 q3 ∧ ¬ ti_As ti_LM A2 q3 ∧ ∃ f : Nat → Int64, va_P D vwCl [(q3, .inl (cy 2, 1, .inr (.inl f)))] H
theorem lq_O.kept {s : State} {D : va_G} {cy : Nat → ClassId} {A1 A2 : Nat → Nat → Nat} {q3 : Nat} {H H1 : Heap} (h : lq_O s D cy A1 A2 q3 H) (hk : q3 < H.size → H1[q3]? = H[q3]?) : lq_O s D cy A1 A2 q3 H1 := by
  obtain ⟨h1, h2, h3, f, hf⟩ := h
  refine ⟨h1, h2, h3, f, hf.kept (fun k q hq => ?_)⟩
  match k, hq with
  | 0, hq => cases hq; exact hk ((hf 0 _ rfl).lt)
  | k + 1, hq => simp at hq
def lq_H (s : State) (D : va_G) (cy : Nat → ClassId) (A1 A2 : Nat → Nat → Nat) (q3 : Nat) (M1 M2 : ti_M) (H : Heap) (locs : List Loc) : Prop := va_P D vwCl (ti_W ti_LT A1 cy M1) H ∧ va_P D vwCl (ti_W ti_LM A2 cy M2) H ∧ va_S (lq_F s) s.heap H locs ∧ lq_O s D cy A1 A2 q3 H
theorem va_P_l {D : va_G} {cl : List vw_C} {a b : va_W} {H : Heap} (h : va_P D cl (a ++ b) H) : va_P D cl a H := fun k q hk => h k q (by rw [List.getElem?_append_left (List.getElem?_eq_some_iff.mp hk).1]; exact hk)
theorem va_P_r {D : va_G} {cl : List vw_C} {a b : va_W} {H : Heap} (h : va_P D cl (a ++ b) H) : va_P D cl b H := fun k q hk => h (a.length + k) q (by rw [List.getElem?_append_right (Nat.le_add_right _ _), Nat.add_sub_cancel_left]; exact hk)
theorem va_D_l {A : Nat → Prop} {a b : va_W} (h : va_D A (a ++ b)) : va_D A a := by
  have e : ∀ (k : Nat) (q : Nat × va_E), a[k]? = some q → (a ++ b)[k]? = some q := fun k q hk => by rw [List.getElem?_append_left (List.getElem?_eq_some_iff.mp hk).1]; exact hk
  exact ⟨fun i j p q hi hj => h.1 i j p q (e i p hi) (e j q hj), fun k q hk => h.2 k q (e k q hk)⟩
theorem va_D_r {A : Nat → Prop} {a b : va_W} (h : va_D A (a ++ b)) : va_D A b := by
  have e : ∀ (k : Nat) (q : Nat × va_E), b[k]? = some q → (a ++ b)[a.length + k]? = some q := fun k q hk => by rw [List.getElem?_append_right (Nat.le_add_right _ _), Nat.add_sub_cancel_left]; exact hk
  exact ⟨fun i j p q hi hj hpq => Nat.add_left_cancel (h.1 _ _ p q (e i p hi) (e j q hj) hpq), fun k q hk => h.2 _ q (e k q hk)⟩
theorem va_D_x {A : Nat → Prop} {a b : va_W} (h : va_D A (a ++ b)) {i j : Nat} {p q : Nat × va_E} (hi : a[i]? = some p) (hj : b[j]? = some q) : p.1 ≠ q.1 := by
  intro e
  have hl := (List.getElem?_eq_some_iff.mp hi).1
  have := h.1 i (a.length + j) p q (by rw [List.getElem?_append_left hl]; exact hi) (by rw [List.getElem?_append_right (Nat.le_add_right _ _), Nat.add_sub_cancel_left]; exact hj) e
  omega
/-- the worlds out of one list -/
theorem lq_mk {s : State} {D : va_G} {cy : Nat → ClassId} {A1 A2 : Nat → Nat → Nat} {q3 : Nat} {M1 M2 : ti_M} {f : Nat → Int64} {H : Heap} {locs : List Loc} (hP : va_P D vwCl ((ti_W ti_LT A1 cy M1 ++ ti_W ti_LM A2 cy M2) ++ [(q3, .inl (cy 2, 1, .inr (.inl f)))]) H) (hD : va_D (lq_F s) ((ti_W ti_LT A1 cy M1 ++ ti_W ti_LM A2 cy M2) ++ [(q3, .inl (cy 2, 1, .inr (.inl f)))])) (hS : va_S (lq_F s) s.heap H locs) : lq_A s A1 A2 ∧ lq_H s D cy A1 A2 q3 M1 M2 H locs := by
  have hP1 := va_P_l hP
  have hD1 := va_D_l hD
  have hD3 := va_D_r hD
  refine ⟨⟨ti_injD (va_D_l hD1), ti_injD (va_D_r hD1), ti_AsD (va_D_l hD1), ti_AsD (va_D_r hD1), ?_⟩, va_P_l hP1, va_P_r hP1, hS, hD3.2 0 _ rfl, ?_, ?_, f, va_P_r hP⟩
  · rintro q ⟨r, hr, rfl⟩ ⟨r2, hr2, e⟩
    obtain ⟨i, hi⟩ := List.getElem?_of_mem hr
    obtain ⟨j, hj⟩ := List.getElem?_of_mem hr2
    exact va_D_x hD1 (ti_W_at hi) (ti_W_at hj) e.symm
  · rintro ⟨r, hr, e⟩
    obtain ⟨i, hi⟩ := List.getElem?_of_mem hr
    have h0 := ti_W_at (A := A1) (cy := cy) (M := M1) hi
    exact va_D_x hD (i := i) (j := 0) (by rw [List.getElem?_append_left (List.getElem?_eq_some_iff.mp h0).1]; exact h0) rfl e
  · rintro ⟨r, hr, e⟩
    obtain ⟨i, hi⟩ := List.getElem?_of_mem hr
    have h0 := ti_W_at (A := A2) (cy := cy) (M := M2) hi
    exact va_D_x hD (i := (ti_W ti_LT A1 cy M1).length + i) (j := 0) (by rw [List.getElem?_append_right (Nat.le_add_right _ _), Nat.add_sub_cancel_left]; exact h0) rfl e
section
variable {p : Program} {l : Launch} {e : Env} {R : Room} {s : State} {m : MethodId} {args : Array Value} {below : List Frame} {meth : Method} {c : Code} {H : Heap} {locs : List Loc} {cells slots : Nat} {Q : State → Prop} {pc : Nat} {ls : Array Slot} {rest : List Value} {cc : ByteArray} {own : String} {nL : Nat} {D : va_G} {cy : Nat → ClassId} {A1 A2 : Nat → Nat → Nat} {q3 : Nat} {M1 M2 : ti_M}
theorem lq_callTi {y : MethodName} {cc2 : ByteArray} {n2 k2 idx : Nat} {ret : Option FieldType} {av st : List Value} {post : Int32 → ti_M → Prop} {T : u_T} {N : Nat} (C : lq_B p s m c args cc own nL D cy) (hA : lq_A s A1 A2) (hw : lq_H s D cy A1 A2 q3 M1 M2 H locs)
    (hM : ti_Ki l y cc2 n2 ret k2 ti_LT D A1 cy M1 (.ref (A1 0 0) :: av) post) (hV : ti_V own idx y cc2 n2 ret) (hd : ti_Vd y av.length) (hcl : vwCl[9]? = some (y.cls, T, N)) (hst : st = av.reverse ++ .ref (A1 0 0) :: rest) (hsz : ls.size = nL) (hrs : (rest.map fun v => v.category).sum ≤ 8) (hR : k2 + 1 ≤ R.frames ∧ 8 + (n2 + 11) + 60 * k2 ≤ R.locals) (hcs : cells ≤ R.cells ∧ slots ≤ R.slots) (hdg : decode cc pc = .ok (.invokevirtual idx, 3))
    (kk : ∀ (r : Int32) (M3 : ti_M) (H1 : Heap) (locs1 : List Loc), post r M3 → lq_H s D cy A1 A2 q3 M3 M2 H1 locs1 → W p l e R s m args below meth c H1 locs1 cells slots Q (F0 m (pc + 3) ls (.int r :: rest))) : W p l e R s m args below meth c H locs cells slots Q (F0 m pc ls st) := by
  have C1 : ti_C p s m c args cc own nL D cy ti_LT A1 := ⟨C.1, C.2.1, C.2.2.1, C.2.2.2.1, C.2.2.2.2.1, C.2.2.2.2.2.1, hA.1, ti_LT_nd⟩
  have hw1 : ti_H ti_LT D A1 cy H M1 H [] := ⟨hw.1, va_S.rf⟩
  subst hst
  refine va_calli (va_runV (As := av) (rest := rest) ⟨C.1, C.2.1, C.2.2.2.2.2.1, C.2.2.2.1, C.2.2.1⟩ hM (ti_cwV C1 hV hd hR) ⟨ti_blind, ti_recv C1 hw1 ob_0 (by decide) hcl, ti_pre C1 hw1⟩ rfl rfl hsz rfl (lv_room hrs) hdg ⟨hcs.1, hcs.2⟩) hw.2.2.1 (fun q _ h => hA.2.2.1 q h) (fun q h => hA.2.2.1 q h) ?_
  intro r u t H1 locs1 ht hvm hpo hB hz hk hS
  have K2 := hw.2.1.kept (H1 := H1) (fun k q hq => by
    have hq2 := (ti_W_D hA.2.1 cy M2).2 k q hq
    exact hk q.1 ((hw.2.1 k q hq).lt) (fun h => hA.2.2.2.2 q.1 h hq2))
  exact kk r u H1 locs1 hpo ⟨by rw [← ht]; exact hB, K2, hS, hw.2.2.2.kept (fun h9 => hk q3 h9 hw.2.2.2.2.1)⟩
theorem lq_callTl {y : MethodName} {cc2 : ByteArray} {n2 k2 idx : Nat} {ret : Option FieldType} {av st : List Value} {post : Int64 → ti_M → Prop} {T : u_T} {N : Nat} (C : lq_B p s m c args cc own nL D cy) (hA : lq_A s A1 A2) (hw : lq_H s D cy A1 A2 q3 M1 M2 H locs)
    (hM : ti_Kl l y cc2 n2 ret k2 ti_LT D A1 cy M1 (.ref (A1 0 0) :: av) post) (hV : ti_V own idx y cc2 n2 ret) (hd : ti_Vd y av.length) (hcl : vwCl[9]? = some (y.cls, T, N)) (hst : st = av.reverse ++ .ref (A1 0 0) :: rest) (hsz : ls.size = nL) (hrs : (rest.map fun v => v.category).sum ≤ 8) (hR : k2 + 1 ≤ R.frames ∧ 8 + (n2 + 11) + 60 * k2 ≤ R.locals) (hcs : cells ≤ R.cells ∧ slots ≤ R.slots) (hdg : decode cc pc = .ok (.invokevirtual idx, 3))
    (kk : ∀ (r : Int64) (M3 : ti_M) (H1 : Heap) (locs1 : List Loc), post r M3 → lq_H s D cy A1 A2 q3 M3 M2 H1 locs1 → W p l e R s m args below meth c H1 locs1 cells slots Q (F0 m (pc + 3) ls (.long r :: rest))) : W p l e R s m args below meth c H locs cells slots Q (F0 m pc ls st) := by
  have C1 : ti_C p s m c args cc own nL D cy ti_LT A1 := ⟨C.1, C.2.1, C.2.2.1, C.2.2.2.1, C.2.2.2.2.1, C.2.2.2.2.2.1, hA.1, ti_LT_nd⟩
  have hw1 : ti_H ti_LT D A1 cy H M1 H [] := ⟨hw.1, va_S.rf⟩
  subst hst
  refine va_calll (va_runV (As := av) (rest := rest) ⟨C.1, C.2.1, C.2.2.2.2.2.1, C.2.2.2.1, C.2.2.1⟩ hM (ti_cwV C1 hV hd hR) ⟨ti_blind, ti_recv C1 hw1 ob_0 (by decide) hcl, ti_pre C1 hw1⟩ rfl rfl hsz rfl (lv_room hrs) hdg ⟨hcs.1, hcs.2⟩) hw.2.2.1 (fun q _ h => hA.2.2.1 q h) (fun q h => hA.2.2.1 q h) ?_
  intro r u t H1 locs1 ht hvm hpo hB hz hk hS
  have K2 := hw.2.1.kept (H1 := H1) (fun k q hq => by
    have hq2 := (ti_W_D hA.2.1 cy M2).2 k q hq
    exact hk q.1 ((hw.2.1 k q hq).lt) (fun h => hA.2.2.2.2 q.1 h hq2))
  exact kk r u H1 locs1 hpo ⟨by rw [← ht]; exact hB, K2, hS, hw.2.2.2.kept (fun h9 => hk q3 h9 hw.2.2.2.2.1)⟩
theorem lq_callMi {y : MethodName} {cc2 : ByteArray} {n2 k2 idx : Nat} {ret : Option FieldType} {av st : List Value} {post : Int32 → ti_M → Prop} {T : u_T} {N : Nat} (C : lq_B p s m c args cc own nL D cy) (hA : lq_A s A1 A2) (hw : lq_H s D cy A1 A2 q3 M1 M2 H locs)
    (hM : ti_Ki l y cc2 n2 ret k2 ti_LM D A2 cy M2 (.ref (A2 60 0) :: av) post) (hV : ti_V own idx y cc2 n2 ret) (hd : ti_Vd y av.length) (hcl : vwCl[10]? = some (y.cls, T, N)) (hst : st = av.reverse ++ .ref (A2 60 0) :: rest) (hsz : ls.size = nL) (hrs : (rest.map fun v => v.category).sum ≤ 8) (hR : k2 + 1 ≤ R.frames ∧ 8 + (n2 + 11) + 60 * k2 ≤ R.locals) (hcs : cells ≤ R.cells ∧ slots ≤ R.slots) (hdg : decode cc pc = .ok (.invokevirtual idx, 3))
    (kk : ∀ (r : Int32) (M3 : ti_M) (H1 : Heap) (locs1 : List Loc), post r M3 → lq_H s D cy A1 A2 q3 M1 M3 H1 locs1 → W p l e R s m args below meth c H1 locs1 cells slots Q (F0 m (pc + 3) ls (.int r :: rest))) : W p l e R s m args below meth c H locs cells slots Q (F0 m pc ls st) := by
  have C1 : ti_C p s m c args cc own nL D cy ti_LM A2 := ⟨C.1, C.2.1, C.2.2.1, C.2.2.2.1, C.2.2.2.2.1, C.2.2.2.2.2.1, hA.2.1, ti_LM_nd⟩
  have hw1 : ti_H ti_LM D A2 cy H M2 H [] := ⟨hw.2.1, va_S.rf⟩
  subst hst
  refine va_calli (va_runV (As := av) (rest := rest) ⟨C.1, C.2.1, C.2.2.2.2.2.1, C.2.2.2.1, C.2.2.1⟩ hM (ti_cwV C1 hV hd hR) ⟨ti_blind, ti_recv C1 hw1 ob_60 (by decide) hcl, ti_pre C1 hw1⟩ rfl rfl hsz rfl (lv_room hrs) hdg ⟨hcs.1, hcs.2⟩) hw.2.2.1 (fun q _ h => hA.2.2.2.1 q h) (fun q h => hA.2.2.2.1 q h) ?_
  intro r u t H1 locs1 ht hvm hpo hB hz hk hS
  have K2 := hw.1.kept (H1 := H1) (fun k q hq => by
    have hq2 := (ti_W_D hA.1 cy M1).2 k q hq
    exact hk q.1 ((hw.1 k q hq).lt) (fun h => hA.2.2.2.2 q.1 hq2 h))
  exact kk r u H1 locs1 hpo ⟨K2, by rw [← ht]; exact hB, hS, hw.2.2.2.kept (fun h9 => hk q3 h9 hw.2.2.2.2.2.1)⟩
theorem lq_callMl {y : MethodName} {cc2 : ByteArray} {n2 k2 idx : Nat} {ret : Option FieldType} {av st : List Value} {post : Int64 → ti_M → Prop} {T : u_T} {N : Nat} (C : lq_B p s m c args cc own nL D cy) (hA : lq_A s A1 A2) (hw : lq_H s D cy A1 A2 q3 M1 M2 H locs)
    (hM : ti_Kl l y cc2 n2 ret k2 ti_LM D A2 cy M2 (.ref (A2 60 0) :: av) post) (hV : ti_V own idx y cc2 n2 ret) (hd : ti_Vd y av.length) (hcl : vwCl[10]? = some (y.cls, T, N)) (hst : st = av.reverse ++ .ref (A2 60 0) :: rest) (hsz : ls.size = nL) (hrs : (rest.map fun v => v.category).sum ≤ 8) (hR : k2 + 1 ≤ R.frames ∧ 8 + (n2 + 11) + 60 * k2 ≤ R.locals) (hcs : cells ≤ R.cells ∧ slots ≤ R.slots) (hdg : decode cc pc = .ok (.invokevirtual idx, 3))
    (kk : ∀ (r : Int64) (M3 : ti_M) (H1 : Heap) (locs1 : List Loc), post r M3 → lq_H s D cy A1 A2 q3 M1 M3 H1 locs1 → W p l e R s m args below meth c H1 locs1 cells slots Q (F0 m (pc + 3) ls (.long r :: rest))) : W p l e R s m args below meth c H locs cells slots Q (F0 m pc ls st) := by
  have C1 : ti_C p s m c args cc own nL D cy ti_LM A2 := ⟨C.1, C.2.1, C.2.2.1, C.2.2.2.1, C.2.2.2.2.1, C.2.2.2.2.2.1, hA.2.1, ti_LM_nd⟩
  have hw1 : ti_H ti_LM D A2 cy H M2 H [] := ⟨hw.2.1, va_S.rf⟩
  subst hst
  refine va_calll (va_runV (As := av) (rest := rest) ⟨C.1, C.2.1, C.2.2.2.2.2.1, C.2.2.2.1, C.2.2.1⟩ hM (ti_cwV C1 hV hd hR) ⟨ti_blind, ti_recv C1 hw1 ob_60 (by decide) hcl, ti_pre C1 hw1⟩ rfl rfl hsz rfl (lv_room hrs) hdg ⟨hcs.1, hcs.2⟩) hw.2.2.1 (fun q _ h => hA.2.2.2.1 q h) (fun q h => hA.2.2.2.1 q h) ?_
  intro r u t H1 locs1 ht hvm hpo hB hz hk hS
  have K2 := hw.1.kept (H1 := H1) (fun k q hq => by
    have hq2 := (ti_W_D hA.1 cy M1).2 k q hq
    exact hk q.1 ((hw.1 k q hq).lt) (fun h => hA.2.2.2.2 q.1 hq2 h))
  exact kk r u H1 locs1 hpo ⟨K2, by rw [← ht]; exact hB, hS, hw.2.2.2.kept (fun h9 => hk q3 h9 hw.2.2.2.2.2.1)⟩
theorem lq_callTiE {y : MethodName} {cc2 : ByteArray} {n2 k2 idx : Nat} {ret : Option FieldType} {av st : List Value} {post : Int32 → ti_M → Prop} {T : u_T} {N : Nat} (C : lq_B p s m c args cc own nL D cy) (hA : lq_A s A1 A2) (hE : tx_E (lq_F s) s s.heap) (hw : lq_H s D cy A1 A2 q3 M1 M2 H locs)
    (hM : ti_KiE l y cc2 n2 ret k2 ti_LT D A1 cy M1 (.ref (A1 0 0) :: av) post) (hV : ti_V own idx y cc2 n2 ret) (hd : ti_Vd y av.length) (hcl : vwCl[9]? = some (y.cls, T, N)) (hst : st = av.reverse ++ .ref (A1 0 0) :: rest) (hsz : ls.size = nL) (hrs : (rest.map fun v => v.category).sum ≤ 8) (hR : k2 + 1 ≤ R.frames ∧ 8 + (n2 + 11) + 60 * k2 ≤ R.locals) (hcs : cells ≤ R.cells ∧ slots ≤ R.slots) (hdg : decode cc pc = .ok (.invokevirtual idx, 3))
    (kk : ∀ (r : Int32) (M3 : ti_M) (H1 : Heap) (locs1 : List Loc), post r M3 → lq_H s D cy A1 A2 q3 M3 M2 H1 locs1 → W p l e R s m args below meth c H1 locs1 cells slots Q (F0 m (pc + 3) ls (.int r :: rest))) : W p l e R s m args below meth c H locs cells slots Q (F0 m pc ls st) := by
  have C1 : ti_C p s m c args cc own nL D cy ti_LT A1 := ⟨C.1, C.2.1, C.2.2.1, C.2.2.2.1, C.2.2.2.2.1, C.2.2.2.2.2.1, hA.1, ti_LT_nd⟩
  have hw1 : ti_H ti_LT D A1 cy H M1 H [] := ⟨hw.1, va_S.rf⟩
  subst hst
  refine va_calli (va_runV (As := av) (rest := rest) ⟨C.1, C.2.1, C.2.2.2.2.2.1, C.2.2.2.1, C.2.2.1⟩ hM (ti_cwV C1 hV hd hR) ⟨ti_blindE, ti_recv C1 hw1 ob_0 (by decide) hcl, ti_preE C1 ((hE.kept hw.2.2.1.2.1).narrow (fun q h => hA.2.2.1 q h)) hw1⟩ rfl rfl hsz rfl (lv_room hrs) hdg ⟨hcs.1, hcs.2⟩) hw.2.2.1 (fun q _ h => hA.2.2.1 q h) (fun q h => hA.2.2.1 q h) ?_
  intro r u t H1 locs1 ht hvm hpo hB hz hk hS
  have K2 := hw.2.1.kept (H1 := H1) (fun k q hq => by
    have hq2 := (ti_W_D hA.2.1 cy M2).2 k q hq
    exact hk q.1 ((hw.2.1 k q hq).lt) (fun h => hA.2.2.2.2 q.1 h hq2))
  exact kk r u H1 locs1 hpo ⟨by rw [← ht]; exact hB, K2, hS, hw.2.2.2.kept (fun h9 => hk q3 h9 hw.2.2.2.2.1)⟩
theorem lq_callMiE {y : MethodName} {cc2 : ByteArray} {n2 k2 idx : Nat} {ret : Option FieldType} {av st : List Value} {post : Int32 → ti_M → Prop} {T : u_T} {N : Nat} (C : lq_B p s m c args cc own nL D cy) (hA : lq_A s A1 A2) (hE : tx_E (lq_F s) s s.heap) (hw : lq_H s D cy A1 A2 q3 M1 M2 H locs)
    (hM : ti_KiE l y cc2 n2 ret k2 ti_LM D A2 cy M2 (.ref (A2 60 0) :: av) post) (hV : ti_V own idx y cc2 n2 ret) (hd : ti_Vd y av.length) (hcl : vwCl[10]? = some (y.cls, T, N)) (hst : st = av.reverse ++ .ref (A2 60 0) :: rest) (hsz : ls.size = nL) (hrs : (rest.map fun v => v.category).sum ≤ 8) (hR : k2 + 1 ≤ R.frames ∧ 8 + (n2 + 11) + 60 * k2 ≤ R.locals) (hcs : cells ≤ R.cells ∧ slots ≤ R.slots) (hdg : decode cc pc = .ok (.invokevirtual idx, 3))
    (kk : ∀ (r : Int32) (M3 : ti_M) (H1 : Heap) (locs1 : List Loc), post r M3 → lq_H s D cy A1 A2 q3 M1 M3 H1 locs1 → W p l e R s m args below meth c H1 locs1 cells slots Q (F0 m (pc + 3) ls (.int r :: rest))) : W p l e R s m args below meth c H locs cells slots Q (F0 m pc ls st) := by
  have C1 : ti_C p s m c args cc own nL D cy ti_LM A2 := ⟨C.1, C.2.1, C.2.2.1, C.2.2.2.1, C.2.2.2.2.1, C.2.2.2.2.2.1, hA.2.1, ti_LM_nd⟩
  have hw1 : ti_H ti_LM D A2 cy H M2 H [] := ⟨hw.2.1, va_S.rf⟩
  subst hst
  refine va_calli (va_runV (As := av) (rest := rest) ⟨C.1, C.2.1, C.2.2.2.2.2.1, C.2.2.2.1, C.2.2.1⟩ hM (ti_cwV C1 hV hd hR) ⟨ti_blindE, ti_recv C1 hw1 ob_60 (by decide) hcl, ti_preE C1 ((hE.kept hw.2.2.1.2.1).narrow (fun q h => hA.2.2.2.1 q h)) hw1⟩ rfl rfl hsz rfl (lv_room hrs) hdg ⟨hcs.1, hcs.2⟩) hw.2.2.1 (fun q _ h => hA.2.2.2.1 q h) (fun q h => hA.2.2.2.1 q h) ?_
  intro r u t H1 locs1 ht hvm hpo hB hz hk hS
  have K2 := hw.1.kept (H1 := H1) (fun k q hq => by
    have hq2 := (ti_W_D hA.1 cy M1).2 k q hq
    exact hk q.1 ((hw.1 k q hq).lt) (fun h => hA.2.2.2.2 q.1 hq2 h))
  exact kk r u H1 locs1 hpo ⟨K2, by rw [← ht]; exact hB, hS, hw.2.2.2.kept (fun h9 => hk q3 h9 hw.2.2.2.2.2.1)⟩
end
theorem lq_in {iv k : Int32} {L : Nat} (hi : 0 ≤ iv.toInt ∧ iv.toInt + 6 ≤ L) (hL : L ≤ 3072) (h0 : 0 ≤ k.toInt) (h5 : k.toInt ≤ 5) : vp_in (iv + k) L := by
  have t : (iv + k).toInt = iv.toInt + k.toInt := i_add rfl rfl rfl (by omega) (by omega)
  exact vp_in_iff.mpr (by omega)
theorem lq_in0 {iv : Int32} {L : Nat} (hi : 0 ≤ iv.toInt ∧ iv.toInt + 6 ≤ L) : vp_in iv L := vp_in_iff.mpr (by omega)
/-- class and reference between two calls of the script -/
def lq_I (M1 M2 : ti_M) : Prop := ∃ (Tc : gC) (Tm : gM), cF Tc M1 ∧ mF Tm M2 ∧ tI M1 2 1 = tI M2 60 2 ∧ (∀ i : Nat, (i : Int) < (tI M1 2 1).toInt → (Tc.1 i &&& 255).toInt = (Tm.1 i).toInt) ∧ (tI M1 1 4).toInt = Tm.2.1.toInt ∧ (tI M1 1 5).toInt = Tm.2.2.1.toInt ∧ Tc.2.1.toInt = Tm.2.2.2.1.toInt ∧ Tc.2.2.1.toInt = Tm.2.2.2.2.1.toInt ∧ ∃ rg : Nat → Int, tdC M1 rg ∧ tdR M2 rg ∧ lE M1 M2
theorem lq_fd {M1 M2 N1 N2 : ti_M} {Tc : gC} {Tm : gM} {r1 r2 z1 z2 z3 z4 z5 : Int32} (h1 : cF Tc M1) (h2 : mF Tm M2) (h : tI M1 2 1 = tI M2 60 2) (hB : ∀ i : Nat, (i : Int) < (tI M1 2 1).toInt → (Tc.1 i &&& 255).toInt = (Tm.1 i).toInt) (hR : (tI M1 1 4).toInt = Tm.2.1.toInt ∧ (tI M1 1 5).toInt = Tm.2.2.1.toInt) (hS : Tc.2.1.toInt = Tm.2.2.2.1.toInt ∧ Tc.2.2.1.toInt = Tm.2.2.2.2.1.toInt) (h5 : ∀ k : Nat, tI N1 50 k = tI M1 50 k) {rg : Nat → Int} (hd1 : tdC N1 rg) (hd2 : tdR N2 rg) (hle : lE N1 N2)
    (p1 : (680 < (tI M1 2 1).toInt ∧ r1.toInt = -1 ∧ cF Tc N1 ∧ tI N1 2 1 = tI M1 2 1 ∧ (∀ k : Nat, tI N1 1 k = tI M1 1 k)) ∨ ((tI M1 2 1).toInt ≤ 680 ∧ r1.toInt = (tI M1 2 1).toInt + 20 ∧ cF (cG N1) N1 ∧ (tI N1 2 1).toInt = (tI M1 2 1).toInt + 20 ∧ (∀ i : Nat, (i : Int) < (tI M1 2 1).toInt → tY N1 2 0 i = tY M1 2 0 i) ∧ (∀ j : Nat, j < 20 → (tY N1 2 0 ((tI M1 2 1).toInt.toNat + j) &&& 255).toInt = pp_fb z1 z2 z3 z4 z5 j) ∧ (∀ k : Nat, tI N1 1 k = tI M1 1 k))) (p2 : (680 < (tI M2 60 2).toInt ∧ r2.toInt = -1 ∧ mF (mG N2) N2 ∧ tI N2 60 2 = tI M2 60 2 ∧ tY N2 60 1 = tY M2 60 1 ∧ tI N2 60 27 = tI M2 60 27 ∧ tI N2 60 28 = tI M2 60 28 ∧ tI N2 60 58 = tI M2 60 58 ∧ tI N2 60 59 = tI M2 60 59) ∨ ((tI M2 60 2).toInt ≤ 680 ∧ r2.toInt = (tI M2 60 2).toInt + 20 ∧ mF (mG N2) N2 ∧ (tI N2 60 2).toInt = (tI M2 60 2).toInt + 20 ∧ (∀ i : Nat, (i : Int) < (tI M2 60 2).toInt → tY N2 60 1 i = tY M2 60 1 i) ∧ (∀ j : Nat, j < 20 → (tY N2 60 1 ((tI M2 60 2).toInt.toNat + j)).toInt = pp_fb z1 z2 z3 z4 z5 j) ∧ tI N2 60 27 = tI M2 60 27 ∧ tI N2 60 28 = tI M2 60 28 ∧ tI N2 60 58 = tI M2 60 58 ∧ tI N2 60 59 = tI M2 60 59)) : r1.toInt = r2.toInt ∧ lq_I N1 N2 := by
  have eT : tY M1 2 0 = Tc.1 := congrArg (fun t => t.1) h1.1.2.2
  have eT5 : tI M1 50 5 = Tc.2.1 := congrArg (fun t => t.2.1) h1.1.2.2
  have eT6 : tI M1 50 6 = Tc.2.2.1 := congrArg (fun t => t.2.2.1) h1.1.2.2
  have eM : tY M2 60 1 = Tm.1 := congrArg (fun t => t.1) h2.1.2.2.2
  have eM7 : tI M2 60 27 = Tm.2.1 := congrArg (fun t => t.2.1) h2.1.2.2.2
  have eM8 : tI M2 60 28 = Tm.2.2.1 := congrArg (fun t => t.2.2.1) h2.1.2.2.2
  have eS5 : tI M2 60 58 = Tm.2.2.2.1 := congrArg (fun t => t.2.2.2.1) h2.1.2.2.2
  have eS6 : tI M2 60 59 = Tm.2.2.2.2.1 := congrArg (fun t => t.2.2.2.2.1) h2.1.2.2.2
  have b1 : 0 ≤ (tI M1 2 1).toInt ∧ (tI M1 2 1).toInt ≤ 700 := cI_rd (x := tI M1 2 1) (k := 1) h1.1 ob_2.1 rfl
  rcases p1 with ⟨a1, a2, a3, a4, a9⟩ | ⟨a1, a2, a3, a4, a5, a6, a9⟩ <;> rcases p2 with ⟨c1, c2, c3, c4, c5, c7, c8, c9, c10⟩ | ⟨c1, c2, c3, c4, c5, c6, c7, c8, c9, c10⟩
  · refine ⟨by omega, Tc, mG N2, a3, c3, a4.trans (h.trans c4.symm), fun i hi => ?_, (congrArg Int32.toInt (a9 4)).trans (hR.1.trans (congrArg Int32.toInt (eM7.symm.trans c7.symm))), (congrArg Int32.toInt (a9 5)).trans (hR.2.trans (congrArg Int32.toInt (eM8.symm.trans c8.symm))), hS.1.trans (congrArg Int32.toInt (eS5.symm.trans c9.symm)), hS.2.trans (congrArg Int32.toInt (eS6.symm.trans c10.symm)), rg, hd1, hd2, hle⟩
    rw [a4] at hi
    show _ = (tY N2 60 1 i).toInt
    rw [c5, eM]; exact hB i hi
  · rw [h] at a1; omega
  · rw [h] at a1; omega
  · rw [h] at a2 a4 a5 a6 b1
    refine ⟨by omega, cG N1, mG N2, a3, c3, Int32.toInt_inj.mp (by omega), fun i hi => ?_, (congrArg Int32.toInt (a9 4)).trans (hR.1.trans (congrArg Int32.toInt (eM7.symm.trans c7.symm))), (congrArg Int32.toInt (a9 5)).trans (hR.2.trans (congrArg Int32.toInt (eM8.symm.trans c8.symm))), (congrArg Int32.toInt ((h5 5).trans eT5)).trans (hS.1.trans (congrArg Int32.toInt (eS5.symm.trans c9.symm))), (congrArg Int32.toInt ((h5 6).trans eT6)).trans (hS.2.trans (congrArg Int32.toInt (eS6.symm.trans c10.symm))), rg, hd1, hd2, hle⟩
    show (tY N1 2 0 i &&& 255).toInt = (tY N2 60 1 i).toInt
    by_cases q : (i : Int) < (tI M2 60 2).toInt
    · rw [a5 i q, c5 i q, eT, eM]; exact hB i (by rw [h]; exact q)
    · have e : (tI M2 60 2).toInt.toNat + (i - (tI M2 60 2).toInt.toNat) = i := by omega
      have g1 := a6 (i - (tI M2 60 2).toInt.toNat) (by omega)
      have g2 := c6 (i - (tI M2 60 2).toInt.toNat) (by omega)
      rw [e] at g1 g2
      rw [g1, g2]
theorem td_0 {M1 M2 : ti_M} (a : tT M1 0 1 = some 3) (b : tT M1 0 2 = some 4) (c : tI M1 3 4 = 0) (d : tY M2 60 3 0 = 0) : ∃ rg : Nat → Int, tdC M1 rg ∧ tdR M2 rg := by
  refine ⟨fun k => if k < 100 then 0 else (tI M1 (ti_men 3 (k - 100)) 0).toInt, ⟨3, Or.inl rfl, a, b, by rw [c]; rfl, fun i hi => ?_⟩, by rw [d]; rfl, fun i hi hl => ?_⟩
  · show (if 100 + i < 100 then (0 : Int) else (tI M1 (ti_men 3 (100 + i - 100)) 0).toInt) = _
    rw [if_neg (by omega), Nat.add_sub_cancel_left]
  · exact absurd hl (by show ¬ (i : Int) < (if 7 < 100 then (0 : Int) else _); rw [if_pos (by decide)]; omega)
/-- the class's text, the reference's: what they leave -/
def lT1 (Tc : gC) (nn r : Int32) (rg J K J2 : Nat → Int) (N1 M1 : ti_M) : Prop := ((nn.toInt < 0 ∨ (tI M1 2 1).toInt < nn.toInt) ∧ r.toInt = -2 ∧ N1 = M1) ∨ (¬ (nn.toInt < 0 ∨ (tI M1 2 1).toInt < nn.toInt) ∧ cF (cG N1) N1 ∧ tI N1 2 1 = 0 ∧ r.toInt = pp_an (pp_tx (fun i => (Tc.1 i &&& 255).toInt) nn.toInt.toNat J) ∧ (tI N1 1 4).toInt = (pp_tx (fun i => (Tc.1 i &&& 255).toInt) nn.toInt.toNat J) 4 ∧ (tI N1 1 5).toInt = (pp_tx (fun i => (Tc.1 i &&& 255).toInt) nn.toInt.toNat J) 5 ∧ ((pp_tx (fun i => (Tc.1 i &&& 255).toInt) nn.toInt.toNat J) 4 ≠ 0 → tdC N1 rg ∧ cG N1 = Tc ∧ rR N1 M1 ∧ (∀ (t0 : Nat) (tx0 : Nat → Int), tT M1 0 1 = some t0 → tC t0 tx0 M1 → tC t0 tx0 N1) ∧ ∀ o k : Nat, (o = 0 ∨ 26 < o) → tI N1 o k = tI M1 o k ∧ tY N1 o k = tY M1 o k) ∧ ((pp_tx (fun i => (Tc.1 i &&& 255).toInt) nn.toInt.toNat J) 4 = 0 → tdC N1 (pp_tx (fun i => (Tc.1 i &&& 255).toInt) nn.toInt.toNat J) ∧ ∃ t : Nat, (t = 3 ∨ t = 4) ∧ tC t (tX (pp_tx (fun i => (Tc.1 i &&& 255).toInt) nn.toInt.toNat J) (qq_tx (fun i => (Tc.1 i &&& 255).toInt) nn.toInt.toNat J K)) N1 ∧ tT N1 0 1 = some t ∧ tT N1 27 0 = some t ∧ qC 27 (bq_s0 (tX (pp_tx (fun i => (Tc.1 i &&& 255).toInt) nn.toInt.toNat J) (qq_tx (fun i => (Tc.1 i &&& 255).toInt) nn.toInt.toNat J K)) J2) N1 ∧ tI N1 28 2 = 0 ∧ tI N1 0 7 = 0 ∧ tI N1 50 5 = 0 ∧ tI N1 50 6 = -1))
def lT2 (Tc : gC) (Tm : gM) (nn r : Int32) (J K J2 : Nat → Int) (N2 M2 : ti_M) : Prop := ((nn.toInt < 0 ∨ (tI M2 60 2).toInt < nn.toInt) ∧ r.toInt = -2 ∧ mF Tm N2 ∧ tI N2 60 2 = tI M2 60 2 ∧ ∃ z : Int32, N2 = uI M2 60 0 z) ∨ (¬ (nn.toInt < 0 ∨ (tI M2 60 2).toInt < nn.toInt) ∧ tI N2 60 2 = 0 ∧ mF (mG N2) N2 ∧ r.toInt = pp_an (pp_tx (fun i => (Tc.1 i &&& 255).toInt) nn.toInt.toNat J) ∧ (tI N2 60 27).toInt = (pp_tx (fun i => (Tc.1 i &&& 255).toInt) nn.toInt.toNat J) 4 ∧ (tI N2 60 28).toInt = (pp_tx (fun i => (Tc.1 i &&& 255).toInt) nn.toInt.toNat J) 5 ∧ ((pp_tx (fun i => (Tc.1 i &&& 255).toInt) nn.toInt.toNat J) 4 ≠ 0 → lx N2 M2 ∧ gU N2 M2) ∧ ((pp_tx (fun i => (Tc.1 i &&& 255).toInt) nn.toInt.toNat J) 4 = 0 → tdR N2 (pp_tx (fun i => (Tc.1 i &&& 255).toInt) nn.toInt.toNat J) ∧ tW (tX (pp_tx (fun i => (Tc.1 i &&& 255).toInt) nn.toInt.toNat J) (qq_tx (fun i => (Tc.1 i &&& 255).toInt) nn.toInt.toNat J K)) ∧ tR (tX (pp_tx (fun i => (Tc.1 i &&& 255).toInt) nn.toInt.toNat J) (qq_tx (fun i => (Tc.1 i &&& 255).toInt) nn.toInt.toNat J K)) N2 ∧ qR ((tX (pp_tx (fun i => (Tc.1 i &&& 255).toInt) nn.toInt.toNat J) (qq_tx (fun i => (Tc.1 i &&& 255).toInt) nn.toInt.toNat J K)) 4).toNat 0 (bq_s0 (tX (pp_tx (fun i => (Tc.1 i &&& 255).toInt) nn.toInt.toNat J) (qq_tx (fun i => (Tc.1 i &&& 255).toInt) nn.toInt.toNat J K)) J2) N2 ∧ qV ((tX (pp_tx (fun i => (Tc.1 i &&& 255).toInt) nn.toInt.toNat J) (qq_tx (fun i => (Tc.1 i &&& 255).toInt) nn.toInt.toNat J K)) 4).toNat 0 (bq_s0 (tX (pp_tx (fun i => (Tc.1 i &&& 255).toInt) nn.toInt.toNat J) (qq_tx (fun i => (Tc.1 i &&& 255).toInt) nn.toInt.toNat J K)) J2) N2 ∧ tI N2 60 51 = 0 ∧ tI N2 60 52 = 0 ∧ tI N2 60 53 = tI M2 60 53 ∧ tI N2 60 58 = 0 ∧ tI N2 60 59 = -1))
theorem lq_tJ {M1 N1 : ti_M} {Tc : gC} {nn r : Int32} {rg : Nat → Int} (p : ((nn.toInt < 0 ∨ (tI M1 2 1).toInt < nn.toInt) ∧ r.toInt = -2 ∧ N1 = M1) ∨ (¬ (nn.toInt < 0 ∨ (tI M1 2 1).toInt < nn.toInt) ∧ cF (cG N1) N1 ∧ tI N1 2 1 = 0 ∧ ∃ J K : Nat → Int, r.toInt = pp_an (pp_tx (fun i => (Tc.1 i &&& 255).toInt) nn.toInt.toNat J) ∧ (tI N1 1 4).toInt = (pp_tx (fun i => (Tc.1 i &&& 255).toInt) nn.toInt.toNat J) 4 ∧ (tI N1 1 5).toInt = (pp_tx (fun i => (Tc.1 i &&& 255).toInt) nn.toInt.toNat J) 5 ∧ ((pp_tx (fun i => (Tc.1 i &&& 255).toInt) nn.toInt.toNat J) 4 ≠ 0 → tdC N1 rg ∧ cG N1 = Tc ∧ rR N1 M1 ∧ (∀ (t0 : Nat) (tx0 : Nat → Int), tT M1 0 1 = some t0 → tC t0 tx0 M1 → tC t0 tx0 N1) ∧ ∀ o k : Nat, (o = 0 ∨ 26 < o) → tI N1 o k = tI M1 o k ∧ tY N1 o k = tY M1 o k) ∧ ((pp_tx (fun i => (Tc.1 i &&& 255).toInt) nn.toInt.toNat J) 4 = 0 → tdC N1 (pp_tx (fun i => (Tc.1 i &&& 255).toInt) nn.toInt.toNat J) ∧ ∃ t : Nat, (t = 3 ∨ t = 4) ∧ tC t (tX (pp_tx (fun i => (Tc.1 i &&& 255).toInt) nn.toInt.toNat J) (qq_tx (fun i => (Tc.1 i &&& 255).toInt) nn.toInt.toNat J K)) N1 ∧ tT N1 0 1 = some t ∧ tT N1 27 0 = some t ∧ (∃ rg2 : Nat → Int, qC 27 (bq_s0 (tX (pp_tx (fun i => (Tc.1 i &&& 255).toInt) nn.toInt.toNat J) (qq_tx (fun i => (Tc.1 i &&& 255).toInt) nn.toInt.toNat J K)) rg2) N1) ∧ tI N1 28 2 = 0 ∧ tI N1 0 7 = 0 ∧ tI N1 50 5 = 0 ∧ tI N1 50 6 = -1))) : ∃ J K J2 : Nat → Int, lT1 Tc nn r rg J K J2 N1 M1 := by
  rcases p with p | ⟨a1, a2, a3, J, K, a4, a5, a6, a7, a8⟩
  · exact ⟨fun _ => 0, fun _ => 0, fun _ => 0, Or.inl p⟩
  · by_cases q : (pp_tx (fun i => (Tc.1 i &&& 255).toInt) nn.toInt.toNat J) 4 = 0
    · obtain ⟨b1, t, b2, b3, b4, b5, ⟨rg2, b6⟩, b7⟩ := a8 q
      exact ⟨J, K, rg2, Or.inr ⟨a1, a2, a3, a4, a5, a6, a7, fun _ => ⟨b1, t, b2, b3, b4, b5, b6, b7⟩⟩⟩
    · exact ⟨J, K, fun _ => 0, Or.inr ⟨a1, a2, a3, a4, a5, a6, a7, fun r => absurd r q⟩⟩
theorem lq_tx {M1 M2 N1 N2 : ti_M} {Tc : gC} {Tm : gM} {r1 r2 nn : Int32} {J K J2 : Nat → Int} (h1 : cF Tc M1) (h2 : mF Tm M2) (h : tI M1 2 1 = tI M2 60 2) (hB : ∀ i : Nat, (i : Int) < (tI M1 2 1).toInt → (Tc.1 i &&& 255).toInt = (Tm.1 i).toInt) (hR : (tI M1 1 4).toInt = Tm.2.1.toInt ∧ (tI M1 1 5).toInt = Tm.2.2.1.toInt) (hS : Tc.2.1.toInt = Tm.2.2.2.1.toInt ∧ Tc.2.2.1.toInt = Tm.2.2.2.2.1.toInt) {rg : Nat → Int} (hd1 : tdC M1 rg) (hd2 : tdR M2 rg) (hle : lE M1 M2)
    (p1 : lT1 Tc nn r1 rg J K J2 N1 M1) (p2 : lT2 Tc Tm nn r2 J K J2 N2 M2) : r1.toInt = r2.toInt ∧ lq_I N1 N2 := by
  have eS5 : tI M2 60 58 = Tm.2.2.2.1 := congrArg (fun t => t.2.2.2.1) h2.1.2.2.2
  have eS6 : tI M2 60 59 = Tm.2.2.2.2.1 := congrArg (fun t => t.2.2.2.2.1) h2.1.2.2.2
  unfold lT1 at p1
  unfold lT2 at p2
  rw [h] at p1
  rcases p1 with ⟨a1, a2, a3⟩ | ⟨a1, a2, a3, a4, a5, a6, a7, a8⟩ <;> rcases p2 with ⟨b1, b2, b3, b4, z, b5⟩ | ⟨b1, b2, b3, b4, b5, b6, b7, b8⟩
  · rw [a3]
    exact ⟨a2.trans b2.symm, Tc, Tm, h1, b3, h.trans b4.symm, hB, hR.1, hR.2, hS.1, hS.2, rg, hd1, tdR_lw hd2 (fun _ _ _ => by rw [b5]; exact tY_uIE rfl), lE_0 hle b5⟩
  · exact absurd a1 b1
  · exact absurd b1 a1
  · have T : ∀ i : Nat, (i : Int) < (tI N1 2 1).toInt → ((cG N1).1 i &&& 255).toInt = ((mG N2).1 i).toInt := fun i hi => by
      rw [a3] at hi
      have z0 : (0 : Int32).toInt = 0 := by decide
      omega
    by_cases q : (pp_tx (fun i => (Tc.1 i &&& 255).toInt) nn.toInt.toNat J) 4 = 0
    · obtain ⟨c1, t, c2, c3, c4, c5, c6, c7, c8, c9, c10⟩ := a8 q
      obtain ⟨d1, d2, d3, d4, d5, d6, d7, d8, d9, d10⟩ := b8 q
      obtain ⟨t7, tx7, s7, p7, si7, u7, c7x, hb7⟩ := id hle
      exact ⟨a4.trans b4.symm, cG N1, mG N2, a2, b3, a3.trans b2.symm, T, a5.trans b5.symm, a6.trans b6.symm, by show (tI N1 50 5).toInt = (tI N2 60 58).toInt; rw [c9, d9], by show (tI N1 50 6).toInt = (tI N2 60 59).toInt; rw [c10, d10], _, c1, d1, lE_new c2 c3 c4 c5 c6 c7 c8 d2 d3 d4 d5 d6 d7 (d8.trans hb7.2.2.1.2.2.2.2.2)⟩
    · obtain ⟨c1, c2, c3, c4, c5⟩ := a7 q
      obtain ⟨d1, d2⟩ := b7 q
      exact ⟨a4.trans b4.symm, cG N1, mG N2, a2, b3, a3.trans b2.symm, T, a5.trans b5.symm, a6.trans b6.symm, (congrArg (fun t => Int32.toInt t.2.1) c2).trans (hS.1.trans (congrArg Int32.toInt (eS5.symm.trans (d1.2.2.2.2 58 (by decide)).symm))), (congrArg (fun t => Int32.toInt t.2.2.1) c2).trans (hS.2.trans (congrArg Int32.toInt (eS6.symm.trans (d1.2.2.2.2 59 (by decide)).symm))), rg, c1, tdR_lx hd2 d1, lE_fl hle h2.1 d1 d2 c4 c5 c3⟩
theorem lq_st {M1 M2 N1 N2 : ti_M} {Tc : gC} {Tm : gM} {r1 r2 : Int32} {a1 a2 k : Int} {B1 B2 X1 X2 : Prop} (h1 : cF Tc M1) (h2 : mF Tm M2) (h : tI M1 2 1 = tI M2 60 2) (hB : ∀ i : Nat, (i : Int) < (tI M1 2 1).toInt → (Tc.1 i &&& 255).toInt = (Tm.1 i).toInt) (hR : (tI M1 1 4).toInt = Tm.2.1.toInt ∧ (tI M1 1 5).toInt = Tm.2.2.1.toInt) (hS : Tc.2.1.toInt = Tm.2.2.2.1.toInt ∧ Tc.2.2.1.toInt = Tm.2.2.2.2.1.toInt) {rg : Nat → Int} (hd1 : tdC M1 rg) (hd2 : tdR M2 rg)
    (hb : B1 ↔ B2) (hx : X1 → X2 → lw N2 M2 → a1 = a2 ∧ (tI N1 50 5).toInt = (tI N2 60 58).toInt ∧ (tI N1 50 6).toInt = (tI N2 60 59).toInt ∧ lE N1 N2) (hle : lE M1 M2)
    (p1 : (B1 ∧ r1.toInt = k ∧ N1 = M1) ∨ (¬ B1 ∧ r1.toInt = a1 ∧ cF (cG N1) N1 ∧ tI N1 2 1 = tI M1 2 1 ∧ tl N1 M1 ∧ tY N1 2 0 = tY M1 2 0 ∧ X1))
    (p2 : (B2 ∧ r2.toInt = k ∧ mF Tm N2 ∧ tI N2 60 2 = tI M2 60 2 ∧ lw N2 M2 ∧ qy N2 M2) ∨ (¬ B2 ∧ r2.toInt = a2 ∧ mF (mG N2) N2 ∧ tI N2 60 2 = tI M2 60 2 ∧ lw N2 M2 ∧ tY N2 60 1 = tY M2 60 1 ∧ tI N2 60 27 = tI M2 60 27 ∧ tI N2 60 28 = tI M2 60 28 ∧ X2)) : r1.toInt = r2.toInt ∧ lq_I N1 N2 := by
  have eT : tY M1 2 0 = Tc.1 := congrArg (fun t => t.1) h1.1.2.2
  have eM : tY M2 60 1 = Tm.1 := congrArg (fun t => t.1) h2.1.2.2.2
  have eM7 : tI M2 60 27 = Tm.2.1 := congrArg (fun t => t.2.1) h2.1.2.2.2
  have eM8 : tI M2 60 28 = Tm.2.2.1 := congrArg (fun t => t.2.2.1) h2.1.2.2.2
  rcases p1 with ⟨a, b, rfl⟩ | ⟨a, b, c, d, e, f, g⟩ <;> rcases p2 with ⟨x, y, z, u, v, v2⟩ | ⟨x, y, z, u, v, w, s, t, o⟩
  · exact ⟨b.trans y.symm, Tc, Tm, h1, z, h.trans u.symm, hB, hR.1, hR.2, hS.1, hS.2, rg, hd1, tdR_lw hd2 v, lE_eo hle (q := 2) eo.refl (Or.inl rfl) rfl v2 v⟩
  · exact absurd (hb.mp a) x
  · exact absurd (hb.mpr x) a
  · obtain ⟨q1, q2, q3, q4⟩ := hx g o v
    refine ⟨b.trans (q1.trans y.symm), cG N1, mG N2, c, z, d.trans (h.trans u.symm), fun i hi => ?_, (congrArg Int32.toInt ((e.1 1 4 (by decide) (by decide)))).trans (hR.1.trans (congrArg Int32.toInt (eM7.symm.trans s.symm))), (congrArg Int32.toInt ((e.1 1 5 (by decide) (by decide)))).trans (hR.2.trans (congrArg Int32.toInt (eM8.symm.trans t.symm))), q2, q3, rg, tdC_tl hd1 e, tdR_lw hd2 v, q4⟩
    show (tY N1 2 0 i &&& 255).toInt = (tY N2 60 1 i).toInt
    rw [f, w, eT, eM]
    rw [d] at hi
    exact hB i hi
/-- steps -/
theorem lq_sp {M1 M2 N1 N2 : ti_M} {Tc : gC} {Tm : gM} {r1 r2 : Int32} {a1 a2 k : Int} {P1 P2 Q1 Q2 X Y Y0 : Prop} (h1 : cF Tc M1) (h : tI M1 2 1 = tI M2 60 2) (hB : ∀ i : Nat, (i : Int) < (tI M1 2 1).toInt → (Tc.1 i &&& 255).toInt = (Tm.1 i).toInt) (hR : (tI M1 1 4).toInt = Tm.2.1.toInt ∧ (tI M1 1 5).toInt = Tm.2.2.1.toInt) (hS : Tc.2.1.toInt = Tm.2.2.2.1.toInt ∧ Tc.2.2.1.toInt = Tm.2.2.2.2.1.toInt) {rg : Nat → Int} (hd1 : tdC M1 rg) (hd2 : tdR M2 rg)
    (p1 : (Q1 ∧ r1.toInt = k ∧ N1 = M1) ∨ (P1 ∧ r1.toInt = a1 ∧ cF Tc N1 ∧ kG N1 M1 ∧ X)) (p2 : ((Q2 ∧ r2.toInt = k ∧ Y0) ∨ (P2 ∧ r2.toInt = a2 ∧ Y)) ∧ iR N2 M2 ∧ mF Tm N2 ∧ tI N2 60 2 = tI M2 60 2 ∧ lw N2 M2) (ha : P1 → a1 = a2) (h12 : Q1 → ¬ P2) (h21 : Q2 → ¬ P1) (h0 : iR N2 M2 → Y0 → lE M1 N2) (hx : P1 → kG N1 M1 → iR N2 M2 → X → Y → lE N1 N2) : r1.toInt = r2.toInt ∧ lq_I N1 N2 := by
  obtain ⟨p2, i, f, e, l⟩ := p2
  rcases p1 with ⟨b1, b2, b3⟩ | ⟨b1, b2, b3, b4, b5⟩ <;> rcases p2 with ⟨d1, d2, d3⟩ | ⟨d1, d2, d3⟩
  · rw [b3]
    exact ⟨b2.trans d2.symm, Tc, Tm, h1, f, h.trans e.symm, hB, hR.1, hR.2, hS.1, hS.2, rg, hd1, tdR_lw hd2 l, h0 i d3⟩
  · exact absurd d1 (h12 b1)
  · exact absurd b1 (h21 d1)
  · have e2 := (b4.1 2 1 (by decide)).1
    exact ⟨b2.trans ((ha b1).trans d2.symm), Tc, Tm, b3, f, e2.trans (h.trans e.symm), fun j hj => hB j (by rw [← e2]; exact hj), (congrArg Int32.toInt (b4.1 1 4 (by decide)).1).trans hR.1, (congrArg Int32.toInt (b4.1 1 5 (by decide)).1).trans hR.2, hS.1, hS.2, rg, tdC_tl hd1 (tl_kG b4), tdR_lw hd2 l, hx b1 b4 i b5 d3⟩
/-- observers -/
theorem lq_ob {M1 M2 N1 N2 : ti_M} {Tc : gC} {Tm : gM} {r1 r2 : Int32} {V1 V2 : Int} {Y0 : Prop} (h1 : cF Tc M1) (h : tI M1 2 1 = tI M2 60 2) (hB : ∀ i : Nat, (i : Int) < (tI M1 2 1).toInt → (Tc.1 i &&& 255).toInt = (Tm.1 i).toInt) (hR : (tI M1 1 4).toInt = Tm.2.1.toInt ∧ (tI M1 1 5).toInt = Tm.2.2.1.toInt) (hS : Tc.2.1.toInt = Tm.2.2.2.1.toInt ∧ Tc.2.2.1.toInt = Tm.2.2.2.2.1.toInt) {rg : Nat → Int} (hd1 : tdC M1 rg) (hd2 : tdR M2 rg)
    (p1 : N1 = M1 ∧ r1.toInt = V1) (p2 : r2.toInt = V2 ∧ Y0 ∧ iR N2 M2 ∧ mF Tm N2 ∧ tI N2 60 2 = tI M2 60 2 ∧ lw N2 M2) (hv : V1 = V2) (h0 : iR N2 M2 → Y0 → lE M1 N2) : r1.toInt = r2.toInt ∧ lq_I N1 N2 := by
  obtain ⟨b3, b2⟩ := p1
  obtain ⟨d2, d3, i, f, e, l⟩ := p2
  rw [b3]
  exact ⟨b2.trans (hv.trans d2.symm), Tc, Tm, h1, f, h.trans e.symm, hB, hR.1, hR.2, hS.1, hS.2, rg, hd1, tdR_lw hd2 l, h0 i d3⟩
theorem lq_kp {M1 M2 N1 N2 : ti_M} {Tc : gC} {Tm : gM} {r1 r2 : Int32} {t : Nat} {tx s p si : Nat → Int} {u : Nat → Nat → Int} {c : Int} (h : tI M1 2 1 = tI M2 60 2) (hB : ∀ i : Nat, (i : Int) < (tI M1 2 1).toInt → (Tc.1 i &&& 255).toInt = (Tm.1 i).toInt) (hR : (tI M1 1 4).toInt = Tm.2.1.toInt ∧ (tI M1 1 5).toInt = Tm.2.2.1.toInt) (hS : Tc.2.1.toInt = Tm.2.2.2.1.toInt ∧ Tc.2.2.1.toInt = Tm.2.2.2.2.1.toInt) {rg : Nat → Int} (hd1 : tdC M1 rg) (hd2 : tdR M2 rg) (hb : lB t tx s p si u c M1 M2)
    (p1 : r1.toInt = s 2 ∧ cF Tc N1 ∧ tI N1 0 7 = 1 ∧ kK N1 M1 ∧ qC 49 s N1 ∧ tT N1 49 0 = some t ∧ kC t tx s u c p N1) (p2 : r2.toInt = s 2 ∧ kR tx s u c p N2 ∧ tI N2 60 51 = 1 ∧ (qR (tx 4).toNat 2 s N2 ∧ qV (tx 4).toNat 2 s N2 ∧ hI3 p (s 2) N2) ∧ mF Tm N2 ∧ tI N2 60 2 = tI M2 60 2 ∧ lw N2 M2) : r1.toInt = r2.toInt ∧ lq_I N1 N2 := by
  obtain ⟨a1, a2, a3, a4, a5, a6, a7⟩ := p1
  obtain ⟨b1, b2, b3, b4, b5, b6, b7⟩ := p2
  have e2 := a4.1 2 1 (by decide) (by decide)
  exact ⟨a1.trans b1.symm, Tc, Tm, a2, b5, e2.trans (h.trans b6.symm), fun j hj => hB j (by rw [← e2]; exact hj), (congrArg Int32.toInt (a4.1 1 4 (by decide) (by decide))).trans hR.1, (congrArg Int32.toInt (a4.1 1 5 (by decide) (by decide))).trans hR.2, hS.1, hS.2, rg, tdC_tl hd1 (tl_kK a4), tdR_lw hd2 b7, t, tx, s, p, s, u, c, lB_kp hb a3 a5 a6 a7 b2 b3 b4⟩

/-! the words that every method here stands on: those of the tables that last -/
def lw_g : List Cond := lw_tbl.filter goodWord
theorem lw_g_in {w : Cond} (h : w ∈ lw_tbl) (hg : goodWord w = true) : w ∈ lw_g := List.mem_filter.mpr ⟨h, hg⟩
theorem lw_g_mem {w : Cond} (i : Nat) (h : lw_tbl[i]? = some w) (hg : goodWord w = true) : w ∈ lw_g := lw_g_in (List.mem_of_getElem? h) hg
theorem lw_g_good {ws : List Cond} (h : ∀ w ∈ ws, w ∈ lw_g) : GoodIn lw_g ws := fun w hw => ⟨h w hw, good_of_word (List.mem_filter.mp (h w hw)).2⟩
theorem lw_g_hts {args : Array Value} {s : State} (h : ∀ w ∈ lw_tbl, w.before args s = true) : ∀ w ∈ lw_g, w.before args s = true := fun w hw => h w (List.mem_filter.mp hw).1
/-! the world -/
def ti_ty (cy : Nat → ClassId) : List (ClassId × FieldType) := [(cy 0, .byte), (cy 1, .int), (cy 2, .long), (cy 3, .boolean), (cy 4, .object RX1), (cy 5, .object RX2), (cy 6, .object RX3)]
def ti_As (Ls : List (Nat × Nat)) (A : Nat → Nat → Nat) : Nat → Prop := fun q => ∃ r ∈ Ls, A r.1 r.2 = q
def ti_inj (Ls : List (Nat × Nat)) (A : Nat → Nat → Nat) : Prop := ∀ (i j : Nat) (r r2 : Nat × Nat), Ls[i]? = some r → Ls[j]? = some r2 → A r.1 r.2 = A r2.1 r2.2 → i = j
theorem ti_W_at {Ls : List (Nat × Nat)} {A : Nat → Nat → Nat} {cy : Nat → ClassId} {M : ti_M} {k : Nat} {r : Nat × Nat} (h : Ls[k]? = some r) : (ti_W Ls A cy M)[k]? = some (A r.1 r.2, ti_G A cy M r.1 r.2) := by simp [ti_W, h]
theorem ti_W_D {Ls : List (Nat × Nat)} {A : Nat → Nat → Nat} (hJ : ti_inj Ls A) (cy : Nat → ClassId) (M : ti_M) : va_D (ti_As Ls A) (ti_W Ls A cy M) := by
  refine ⟨?_, ?_⟩
  · intro i j p q hi hj e
    simp only [ti_W, List.getElem?_map, Option.map_eq_some_iff] at hi hj
    obtain ⟨r, hr, rfl⟩ := hi
    obtain ⟨r2, hr2, rfl⟩ := hj
    exact hJ i j r r2 hr hr2 e
  · intro k q hk
    simp only [ti_W, List.getElem?_map, Option.map_eq_some_iff] at hk
    obtain ⟨r, hr, rfl⟩ := hk
    exact ⟨r, List.mem_of_getElem? hr, rfl⟩
theorem ti_W_set {Ls : List (Nat × Nat)} {A : Nat → Nat → Nat} {cy : Nat → ClassId} {M M2 : ti_M} (hn : Ls.Nodup) {k : Nat} {r : Nat × Nat} (h : Ls[k]? = some r) (hG : ∀ r2 : Nat × Nat, r2 ≠ r → ti_G A cy M2 r2.1 r2.2 = ti_G A cy M r2.1 r2.2) : (ti_W Ls A cy M).set k (A r.1 r.2, ti_G A cy M2 r.1 r.2) = ti_W Ls A cy M2 := by
  apply List.ext_getElem?
  intro i
  have hk := (List.getElem?_eq_some_iff.mp h).1
  simp only [ti_W, List.getElem?_set, List.getElem?_map, List.length_map]
  by_cases e : k = i
  · subst e; rw [if_pos rfl, if_pos hk, h]; rfl
  · simp only [if_neg e]
    cases hi : Ls[i]? with
    | none => rfl
    | some r2 =>
      have hne : r2 ≠ r := fun e2 => e ((List.getElem?_inj hk hn).mp (by rw [h, hi, e2]))
      simp only [Option.map_some, hG r2 hne]
theorem ti_G_uI {A : Nat → Nat → Nat} {cy : Nat → ClassId} {M : ti_M} {o k : Nat} {v : Int32} (r2 : Nat × Nat) (h : r2 ≠ (o, 0)) : ti_G A cy (uI M o k v) r2.1 r2.2 = ti_G A cy M r2.1 r2.2 := by
  obtain ⟨o2, j2⟩ := r2
  cases j2 with
  | zero =>
    have ho : o2 ≠ o := fun e => h (by rw [e])
    have e1 : tI (uI M o k v) o2 = tI M o2 := funext fun q => tI_o M o k v ho
    simp only [ti_G, e1]; rfl
  | succ q => rfl
theorem ti_G_uT {A : Nat → Nat → Nat} {cy : Nat → ClassId} {M : ti_M} {o k : Nat} {v : Option Nat} (r2 : Nat × Nat) (h : r2 ≠ (o, 0)) : ti_G A cy (uT M o k v) r2.1 r2.2 = ti_G A cy M r2.1 r2.2 := by
  obtain ⟨o2, j2⟩ := r2
  cases j2 with
  | zero =>
    have ho : o2 ≠ o := fun e => h (by rw [e])
    have e1 : tT (uT M o k v) o2 = tT M o2 := funext fun q => tT_o M o k v ho
    simp only [ti_G, e1]; rfl
  | succ q => rfl
theorem ti_G_uY {A : Nat → Nat → Nat} {cy : Nat → ClassId} {M : ti_M} {o k : Nat} {v : Nat → Int32} (r2 : Nat × Nat) (h : r2 ≠ (o, k + 1)) : ti_G A cy (uY M o k v) r2.1 r2.2 = ti_G A cy M r2.1 r2.2 := by
  obtain ⟨o2, j2⟩ := r2
  cases j2 with
  | zero => rfl
  | succ q =>
    have hh : ¬ (q = k ∧ o2 = o) := fun e => h (by rw [e.1, e.2])
    simp only [ti_G, tY_n M o k v hh]; rfl
theorem ti_G_uZ {A : Nat → Nat → Nat} {cy : Nat → ClassId} {M : ti_M} {o k : Nat} {v : Nat → Int64} (r2 : Nat × Nat) (h : r2 ≠ (o, k + 1)) : ti_G A cy (uZ M o k v) r2.1 r2.2 = ti_G A cy M r2.1 r2.2 := by
  obtain ⟨o2, j2⟩ := r2
  cases j2 with
  | zero => rfl
  | succ q =>
    have hh : ¬ (q = k ∧ o2 = o) := fun e => h (by rw [e.1, e.2])
    simp only [ti_G, tZ_n M o k v hh]; rfl
def ti_parts (ci : Nat) : List Nat := match ci with
  | 0 => [0, 3, 4, 5] | 1 => [0, 1, 2, 3] | 2 => [0] | 3 => [0, 7, 8, 9, 10, 11, 12, 13, 14, 15, 16, 17] | 4 => [0] | 5 => [0, 1] | 6 => [0, 1, 2, 3, 4, 9, 10] | 7 => [0, 1] | 8 => [0, 1, 2, 3] | 9 => [0, 5]
  | _ => ti_LM.map (fun r => r.2)
def ti_ob (Ls : List (Nat × Nat)) (o ci : Nat) : Prop := ti_cls o = ci ∧ ∀ j ∈ ti_parts ci, (o, j) ∈ Ls
/-- what a method's walk stands on -/
def ti_C (p : Program) (s : State) (m : MethodId) (c : Code) (args : Array Value) (cc : ByteArray) (own : String) (nL : Nat) (D : va_G) (cy : Nat → ClassId) (Ls : List (Nat × Nat)) (A : Nat → Nat → Nat) : Prop :=
  p.tables.exec = Jvm.exec ∧ c.code = cc ∧ (∀ w ∈ lw_g, w.before args s = true) ∧ s.vm.findClass own = some m.cls ∧ va_K D vwCl (ti_ty cy) s ∧ c.maxLocals = nL ∧ ti_inj Ls A ∧ Ls.Nodup
/-- the heap as memory M -/
def ti_H (Ls : List (Nat × Nat)) (D : va_G) (A : Nat → Nat → Nat) (cy : Nat → ClassId) (H0 : Heap) (M : ti_M) (H : Heap) (locs : List Loc) : Prop := va_P D vwCl (ti_W Ls A cy M) H ∧ va_S (ti_As Ls A) H0 H locs
theorem ti_H.to {Ls : List (Nat × Nat)} {D : va_G} {A : Nat → Nat → Nat} {cy : Nat → ClassId} {H0 H : Heap} {M M2 : ti_M} {locs : List Loc} (h : ti_H Ls D A cy H0 M H locs) (e : M = M2) : ti_H Ls D A cy H0 M2 H locs := e ▸ h
def ti_rm (k : Nat) : Room := { frames := k, cells := 0, slots := 0, locals := 60 * k }
def ti_Pc (Ls : List (Nat × Nat)) (D : va_G) (A : Nat → Nat → Nat) (cy : Nat → ClassId) (M : ti_M) (av : List Value) : Array Value → State → Prop := va_Pc av (fun U => va_P D vwCl (ti_W Ls A cy M) U.heap ∧ va_K D vwCl (ti_ty cy) U)
def ti_B (Ls : List (Nat × Nat)) (D : va_G) (A : Nat → Nat → Nat) (cy : Nat → ClassId) : ti_M → State → Prop := fun M t => va_P D vwCl (ti_W Ls A cy M) t.heap
def ti_Ki (l : Launch) (y : MethodName) (cc : ByteArray) (n : Nat) (ret : Option FieldType) (k : Nat) (Ls : List (Nat × Nat)) (D : va_G) (A : Nat → Nat → Nat) (cy : Nat → ClassId) (M : ti_M) (av : List Value) (post : Int32 → ti_M → Prop) : Prop :=
  Met l y (.code y cc n ret :: lw_g) (ti_rm k) (ti_Pc Ls D A cy M av) (va_Qi post (ti_B Ls D A cy) (ti_As Ls A)) 0 0 (ti_As Ls A)
def ti_Kl (l : Launch) (y : MethodName) (cc : ByteArray) (n : Nat) (ret : Option FieldType) (k : Nat) (Ls : List (Nat × Nat)) (D : va_G) (A : Nat → Nat → Nat) (cy : Nat → ClassId) (M : ti_M) (av : List Value) (post : Int64 → ti_M → Prop) : Prop :=
  Met l y (.code y cc n ret :: lw_g) (ti_rm k) (ti_Pc Ls D A cy M av) (va_Ql post (ti_B Ls D A cy) (ti_As Ls A)) 0 0 (ti_As Ls A)
def ti_Kv (l : Launch) (y : MethodName) (cc : ByteArray) (n : Nat) (k : Nat) (Ls : List (Nat × Nat)) (D : va_G) (A : Nat → Nat → Nat) (cy : Nat → ClassId) (M : ti_M) (av : List Value) (post : ti_M → Prop) : Prop :=
  Met l y (.code y cc n none :: lw_g) (ti_rm k) (ti_Pc Ls D A cy M av) (va_Qv post (ti_B Ls D A cy) (ti_As Ls A)) 0 0 (ti_As Ls A)
section
variable {p : Program} {l : Launch} {e : Env} {R : Room} {s : State} {m : MethodId} {args : Array Value} {below : List Frame} {meth : Method} {c : Code} {H H0 : Heap} {locs : List Loc} {cells slots : Nat} {Q : State → Prop} {pc : Nat} {ls : Array Slot} {rest : List Value} {cc : ByteArray} {own : String} {nL : Nat} {D : va_G} {cy : Nat → ClassId} {Ls : List (Nat × Nat)} {A : Nat → Nat → Nat} {M : ti_M}
theorem ti_blind {av : List Value} : FrameBlind (ti_Pc Ls D A cy M av) := fun a U g mk q => ⟨q.1, q.2.1, va_K.moved (u := U) (U := U.calling g mk a) (Vm.Alike.refl U.vm) q.2.2⟩
theorem ti_entC {y : MethodName} {n k : Nat} {ret : Option FieldType} {s₁ : State} (B : BodyLoose p l y (headSpec (.code y cc n ret :: lw_g) (ti_rm k)) cc n ret e s m args below meth c s₁) (hml : c.maxLocals = n) (hK : va_K D vwCl (ti_ty cy) s) (hJ : ti_inj Ls A) (hN : Ls.Nodup) : ti_C p s m c args cc y.cls n D cy Ls A :=
  ⟨B.exec, B.bytes, fun w h => atoms_spec (ws := .code y cc n ret :: lw_g) B.pre w (List.mem_cons_of_mem _ h), findClass_of_methodNamed B.named, hK, hml, hJ, hN⟩
theorem ti_enterI {y : MethodName} {n k : Nat} {ret : Option FieldType} {av : List Value} {post : Int32 → ti_M → Prop} (hy : plainName y.cls = true) (hJ : ti_inj Ls A) (hN : Ls.Nodup) (hav : (lg_sl av).length ≤ n)
    (body : ∀ (p : Program) (e : Env) (s : State) (m : MethodId) (below : List Frame) (meth : Method) (c : Code), ti_C p s m c av.toArray cc y.cls n D cy Ls A → meth.sig.returnType = ret → meth.locks = false → ti_H Ls D A cy s.heap M s.heap [] → ∀ ls : Array Slot, lv_has ls n (lv_args 0 av) →
      W p l e (ti_rm k) s m av.toArray below meth c s.heap [] 0 0 (MQ below (va_Qi post (ti_B Ls D A cy) (ti_As Ls A)) av.toArray s 0 0 (ti_As Ls A)) (F0 m 0 ls [])) : ti_Ki l y cc n ret k Ls D A cy M av post := by
  refine Met.ofW (cc := cc) (maxL := n) (ret := ret) hy rfl ?_
  intro p e s m args below meth c s₁ B hml hv
  obtain ⟨rfl, hP, hK⟩ := hv
  rw [lg_entry_eq]
  exact body p e s m below meth c (ti_entC B hml hK hJ hN) B.returns B.notSynchronized ⟨hP, va_S.rf⟩ _ (lv_entry av hav)
theorem ti_enterL {y : MethodName} {n k : Nat} {ret : Option FieldType} {av : List Value} {post : Int64 → ti_M → Prop} (hy : plainName y.cls = true) (hJ : ti_inj Ls A) (hN : Ls.Nodup) (hav : (lg_sl av).length ≤ n)
    (body : ∀ (p : Program) (e : Env) (s : State) (m : MethodId) (below : List Frame) (meth : Method) (c : Code), ti_C p s m c av.toArray cc y.cls n D cy Ls A → meth.sig.returnType = ret → meth.locks = false → ti_H Ls D A cy s.heap M s.heap [] → ∀ ls : Array Slot, lv_has ls n (lv_args 0 av) →
      W p l e (ti_rm k) s m av.toArray below meth c s.heap [] 0 0 (MQ below (va_Ql post (ti_B Ls D A cy) (ti_As Ls A)) av.toArray s 0 0 (ti_As Ls A)) (F0 m 0 ls [])) : ti_Kl l y cc n ret k Ls D A cy M av post := by
  refine Met.ofW (cc := cc) (maxL := n) (ret := ret) hy rfl ?_
  intro p e s m args below meth c s₁ B hml hv
  obtain ⟨rfl, hP, hK⟩ := hv
  rw [lg_entry_eq]
  exact body p e s m below meth c (ti_entC B hml hK hJ hN) B.returns B.notSynchronized ⟨hP, va_S.rf⟩ _ (lv_entry av hav)
theorem ti_enterV {y : MethodName} {n k : Nat} {av : List Value} {post : ti_M → Prop} (hy : plainName y.cls = true) (hJ : ti_inj Ls A) (hN : Ls.Nodup) (hav : (lg_sl av).length ≤ n)
    (body : ∀ (p : Program) (e : Env) (s : State) (m : MethodId) (below : List Frame) (meth : Method) (c : Code), ti_C p s m c av.toArray cc y.cls n D cy Ls A → meth.sig.returnType = none → meth.locks = false → ti_H Ls D A cy s.heap M s.heap [] → ∀ ls : Array Slot, lv_has ls n (lv_args 0 av) →
      W p l e (ti_rm k) s m av.toArray below meth c s.heap [] 0 0 (MQ below (va_Qv post (ti_B Ls D A cy) (ti_As Ls A)) av.toArray s 0 0 (ti_As Ls A)) (F0 m 0 ls [])) : ti_Kv l y cc n k Ls D A cy M av post := by
  refine Met.ofW (cc := cc) (maxL := n) (ret := none) hy rfl ?_
  intro p e s m args below meth c s₁ B hml hv
  obtain ⟨rfl, hP, hK⟩ := hv
  rw [lg_entry_eq]
  exact body p e s m below meth c (ti_entC B hml hK hJ hN) B.returns B.notSynchronized ⟨hP, va_S.rf⟩ _ (lv_entry av hav)
theorem ti_iret {post : Int32 → ti_M → Prop} {v : Int32} {ty : FieldType} (C : ti_C p s m c args cc own nL D cy Ls A) (hr : meth.sig.returnType = some ty) (hlk : meth.locks = false) (hw : ti_H Ls D A cy s.heap M H locs) (hn : narrow ty (.int v) = .int v) (hq : post v M) (hdg : decode cc pc = .ok (.ireturn, 1)) :
    W p l e R s m args below meth c H locs 0 0 (MQ below (va_Qi post (ti_B Ls D A cy) (ti_As Ls A)) args s 0 0 (ti_As Ls A)) (F0 m pc ls [.int v]) :=
  W.zret C.1 C.2.1 hr hn (fun t ht _ => ⟨⟨v, M, rfl, hq, by show va_P _ _ _ _; rw [ht]; exact hw.1⟩, hw.2.F ht⟩) hw.2.2.2 hdg hlk
theorem ti_lret {post : Int64 → ti_M → Prop} {v : Int64} (C : ti_C p s m c args cc own nL D cy Ls A) (hr : meth.sig.returnType = some .long) (hlk : meth.locks = false) (hw : ti_H Ls D A cy s.heap M H locs) (hq : post v M) (hdg : decode cc pc = .ok (.lreturn, 1)) :
    W p l e R s m args below meth c H locs 0 0 (MQ below (va_Ql post (ti_B Ls D A cy) (ti_As Ls A)) args s 0 0 (ti_As Ls A)) (F0 m pc ls [.long v]) :=
  W.lret C.1 C.2.1 hr (fun t ht _ => ⟨⟨v, M, rfl, hq, by show va_P _ _ _ _; rw [ht]; exact hw.1⟩, hw.2.F ht⟩) hw.2.2.2 hdg hlk
theorem ti_vret {post : ti_M → Prop} (C : ti_C p s m c args cc own nL D cy Ls A) (hr : meth.sig.returnType = none) (hlk : meth.locks = false) (hw : ti_H Ls D A cy s.heap M H locs) (hq : post M) (hdg : decode cc pc = .ok (.return_, 1)) :
    W p l e R s m args below meth c H locs 0 0 (MQ below (va_Qv post (ti_B Ls D A cy) (ti_As Ls A)) args s 0 0 (ti_As Ls A)) (F0 m pc ls []) :=
  W.vret C.1 C.2.1 hr (fun t ht _ => ⟨⟨M, rfl, hq, by show va_P _ _ _ _; rw [ht]; exact hw.1⟩, hw.2.F ht⟩) hw.2.2.2 hdg hlk
theorem ti_obG {o ci : Nat} (hob : ti_ob Ls o ci) (j : Nat) (hj : j ∈ ti_parts ci) : ∃ q : Nat, Ls[q]? = some (o, j) := List.getElem?_of_mem (hob.2 j hj)
theorem ti_get {ci N k idx : Nat} {Cn : String} {T : u_T} (C : ti_C p s m c args cc own nL D cy Ls A) (hw : ti_H Ls D A cy H0 M H locs) (hin : ∀ w ∈ u_ws Cn T N, w ∈ lw_g) (hcl : vwCl[ci]? = some (Cn, T, N)) {o : Nat} (hob : ti_ob Ls o ci) (hj : 0 ∈ ti_parts ci) (hk : k < N) (hlink : Cond.fieldLink own idx Cn (T k).2.1 (T k).2.2.1 ∈ lw_g) (hdecl : (T k).1 = Cn) {v : Value} (hv : (ti_fs A ci o (tI M o) (tT M o))[k]? = some v) (hdg : decode cc pc = .ok (.getfield idx, 3))
    (kk : W p l e R s m args below meth c H locs cells slots Q (F0 m (pc + 3) ls (v :: rest))) : W p l e R s m args below meth c H locs cells slots Q (F0 m pc ls (.ref (A o 0) :: rest)) := by
  obtain ⟨q, hq⟩ := ti_obG hob 0 hj
  exact va_get (ref := Cn) (fs := ti_fs A ci o (tI M o) (tT M o)) (ci := ci) C.1 C.2.1 C.2.2.1 hin C.2.2.2.1 C.2.2.2.2.1 hw.1 q (by rw [ti_W_at hq]; simp only [ti_G, hob.1]) hcl k hk (C.2.2.1 _ hlink) (fun x h9 => by rw [hdecl] at h9; exact h9) hv hdg kk
theorem ti_putI {ci N k idx : Nat} {Cn : String} {T : u_T} (C : ti_C p s m c args cc own nL D cy Ls A) (hw : ti_H Ls D A cy H0 M H locs) (hin : ∀ w ∈ u_ws Cn T N, w ∈ lw_g) (ty0 : Nat → FieldType) (hty : ∀ k, k < N → parseFieldDescriptor (T k).2.2.1 = some (ty0 k)) (hnm : ∀ a, a < N → ∀ b, b < N → a ≠ b → (T a).2.1 ≠ (T b).2.1) (hcl : vwCl[ci]? = some (Cn, T, N)) {o : Nat} (hob : ti_ob Ls o ci) (hj : 0 ∈ ti_parts ci) (hk : k < N) (hlink : Cond.fieldLink own idx Cn (T k).2.1 (T k).2.2.1 ∈ lw_g) (hdecl : (T k).1 = Cn) (hfin : (T k).2.2.2 = false) {v : Int32} (hn : narrow (ty0 k) (.int v) = .int v) (hfit : fits (ty0 k) (.int v) = true) (hlen : ∀ I T, (ti_fs A ci o I T).length = N)
    (hset : (ti_fs A ci o (tI M o) (tT M o)).set k (.int v) = ti_fs A ci o (tI (uI M o k v) o) (tT (uI M o k v) o)) (hdg : decode cc pc = .ok (.putfield idx, 3))
    (kk : ∀ (H1 : Heap) (locs1 : List Loc), ti_H Ls D A cy H0 (uI M o k v) H1 locs1 → W p l e R s m args below meth c H1 locs1 cells slots Q (F0 m (pc + 3) ls rest)) : W p l e R s m args below meth c H locs cells slots Q (F0 m pc ls (.int v :: .ref (A o 0) :: rest)) := by
  obtain ⟨q, hq⟩ := ti_obG hob 0 hj
  refine va_put (ref := Cn) (fs := ti_fs A ci o (tI M o) (tT M o)) (ci := ci) (ty := ty0 k) C.1 C.2.1 C.2.2.1 hin ty0 hty hnm C.2.2.2.1 C.2.2.2.2.1 hw.1 (ti_W_D C.2.2.2.2.2.2.1 cy M) hw.2 q (by rw [ti_W_at hq]; simp only [ti_G, hob.1]) hcl k hk (C.2.2.1 _ hlink) (fun x h9 => by rw [hdecl] at h9; exact h9) hfin (hty k hk) hn hfit (by rw [hlen]; exact hk) hdg ?_
  intro H1 locs1 hP hD hS
  refine kk H1 locs1 ⟨?_, hS⟩
  rw [hset] at hP
  have e : (ti_W Ls A cy M).set q (A o 0, ti_G A cy (uI M o k v) o 0) = ti_W Ls A cy (uI M o k v) := ti_W_set C.2.2.2.2.2.2.2 hq (fun r2 h2 => ti_G_uI r2 h2)
  rw [← e]
  simpa only [ti_G, hob.1] using hP
theorem ti_putT {ci N k idx : Nat} {Cn : String} {T : u_T} (C : ti_C p s m c args cc own nL D cy Ls A) (hw : ti_H Ls D A cy H0 M H locs) (hin : ∀ w ∈ u_ws Cn T N, w ∈ lw_g) (ty0 : Nat → FieldType) (hty : ∀ k, k < N → parseFieldDescriptor (T k).2.2.1 = some (ty0 k)) (hnm : ∀ a, a < N → ∀ b, b < N → a ≠ b → (T a).2.1 ≠ (T b).2.1) (hcl : vwCl[ci]? = some (Cn, T, N)) {o : Nat} (hob : ti_ob Ls o ci) (hj : 0 ∈ ti_parts ci) (hk : k < N) (hlink : Cond.fieldLink own idx Cn (T k).2.1 (T k).2.2.1 ∈ lw_g) (hdecl : (T k).1 = Cn) (hfin : (T k).2.2.2 = false) {t : Nat} (hn : narrow (ty0 k) (.ref (A t 0)) = .ref (A t 0)) (hfit : fits (ty0 k) (.ref (A t 0)) = true) (hlen : ∀ I T, (ti_fs A ci o I T).length = N)
    (hset : (ti_fs A ci o (tI M o) (tT M o)).set k (.ref (A t 0)) = ti_fs A ci o (tI (uT M o k (some t)) o) (tT (uT M o k (some t)) o)) (hdg : decode cc pc = .ok (.putfield idx, 3))
    (kk : ∀ (H1 : Heap) (locs1 : List Loc), ti_H Ls D A cy H0 (uT M o k (some t)) H1 locs1 → W p l e R s m args below meth c H1 locs1 cells slots Q (F0 m (pc + 3) ls rest)) : W p l e R s m args below meth c H locs cells slots Q (F0 m pc ls (.ref (A t 0) :: .ref (A o 0) :: rest)) := by
  obtain ⟨q, hq⟩ := ti_obG hob 0 hj
  refine va_put (ref := Cn) (fs := ti_fs A ci o (tI M o) (tT M o)) (ci := ci) (ty := ty0 k) C.1 C.2.1 C.2.2.1 hin ty0 hty hnm C.2.2.2.1 C.2.2.2.2.1 hw.1 (ti_W_D C.2.2.2.2.2.2.1 cy M) hw.2 q (by rw [ti_W_at hq]; simp only [ti_G, hob.1]) hcl k hk (C.2.2.1 _ hlink) (fun x h9 => by rw [hdecl] at h9; exact h9) hfin (hty k hk) hn hfit (by rw [hlen]; exact hk) hdg ?_
  intro H1 locs1 hP hD hS
  refine kk H1 locs1 ⟨?_, hS⟩
  rw [hset] at hP
  have e : (ti_W Ls A cy M).set q (A o 0, ti_G A cy (uT M o k (some t)) o 0) = ti_W Ls A cy (uT M o k (some t)) := ti_W_set C.2.2.2.2.2.2.2 hq (fun r2 h2 => ti_G_uT r2 h2)
  rw [← e]
  simpa only [ti_G, hob.1] using hP
theorem ti_iald {ci o k n : Nat} (C : ti_C p s m c args cc own nL D cy Ls A) (hw : ti_H Ls D A cy H0 M H locs) (hob : ti_ob Ls o ci) (hj : k + 1 ∈ ti_parts ci) (har : ∀ f g, ti_ar A cy ci o k f g = (cy 1, n, .inl f)) {i : Int32} (hi : vp_in i n) (hdg : decode cc pc = .ok (.iaload, 1))
    (kk : W p l e R s m args below meth c H locs cells slots Q (F0 m (pc + 1) ls (.int (tY M o k i.toNatClampNeg) :: rest))) : W p l e R s m args below meth c H locs cells slots Q (F0 m pc ls (.int i :: .ref (A o (k + 1)) :: rest)) := by
  obtain ⟨q, hq⟩ := ti_obG hob (k + 1) hj
  exact va_iald C.1 C.2.1 C.2.2.2.2.1 hw.1 q 1 (by rw [ti_W_at hq]; simp only [ti_G, hob.1, har]) rfl hi hdg kk
theorem ti_iast {ci o k n : Nat} (C : ti_C p s m c args cc own nL D cy Ls A) (hw : ti_H Ls D A cy H0 M H locs) (hob : ti_ob Ls o ci) (hj : k + 1 ∈ ti_parts ci) (har : ∀ f g, ti_ar A cy ci o k f g = (cy 1, n, .inl f)) {i x : Int32} (hi : vp_in i n) (hdg : decode cc pc = .ok (.iastore, 1))
    (kk : ∀ (H1 : Heap) (locs1 : List Loc), ti_H Ls D A cy H0 (uY M o k (upd (tY M o k) i.toNatClampNeg x)) H1 locs1 → W p l e R s m args below meth c H1 locs1 cells slots Q (F0 m (pc + 1) ls rest)) : W p l e R s m args below meth c H locs cells slots Q (F0 m pc ls (.int x :: .int i :: .ref (A o (k + 1)) :: rest)) := by
  obtain ⟨q, hq⟩ := ti_obG hob (k + 1) hj
  refine va_iast (cA := cy 1) (n := n) (f := tY M o k) C.1 C.2.1 C.2.2.2.2.1 hw.1 (ti_W_D C.2.2.2.2.2.2.1 cy M) hw.2 q 1 (by rw [ti_W_at hq]; simp only [ti_G, hob.1, har]) rfl hi hdg ?_
  intro H1 locs1 hP hD hS
  refine kk H1 locs1 ⟨?_, hS⟩
  have e : (ti_W Ls A cy M).set q (A o (k + 1), ti_G A cy (uY M o k (upd (tY M o k) i.toNatClampNeg x)) o (k + 1)) = ti_W Ls A cy (uY M o k (upd (tY M o k) i.toNatClampNeg x)) := ti_W_set C.2.2.2.2.2.2.2 hq (fun r2 h2 => ti_G_uY r2 h2)
  rw [← e]
  simpa only [ti_G, hob.1, har, tY_u] using hP
theorem ti_bald {ci o k n : Nat} (C : ti_C p s m c args cc own nL D cy Ls A) (hw : ti_H Ls D A cy H0 M H locs) (hob : ti_ob Ls o ci) (hj : k + 1 ∈ ti_parts ci) (har : ∀ f g, ti_ar A cy ci o k f g = (cy 0, n, .inl f)) {i : Int32} (hi : vp_in i n) (hdg : decode cc pc = .ok (.baload, 1))
    (kk : W p l e R s m args below meth c H locs cells slots Q (F0 m (pc + 1) ls (.int (tY M o k i.toNatClampNeg) :: rest))) : W p l e R s m args below meth c H locs cells slots Q (F0 m pc ls (.int i :: .ref (A o (k + 1)) :: rest)) := by
  obtain ⟨q, hq⟩ := ti_obG hob (k + 1) hj
  exact va_bald C.1 C.2.1 C.2.2.2.2.1 hw.1 q 0 (by rw [ti_W_at hq]; simp only [ti_G, hob.1, har]) rfl hi hdg kk
theorem ti_bast {ci o k n : Nat} (C : ti_C p s m c args cc own nL D cy Ls A) (hw : ti_H Ls D A cy H0 M H locs) (hob : ti_ob Ls o ci) (hj : k + 1 ∈ ti_parts ci) (har : ∀ f g, ti_ar A cy ci o k f g = (cy 0, n, .inl f)) {i x : Int32} (hi : vp_in i n) (hdg : decode cc pc = .ok (.bastore, 1))
    (kk : ∀ (H1 : Heap) (locs1 : List Loc), ti_H Ls D A cy H0 (uY M o k (upd (tY M o k) i.toNatClampNeg (vp_nar .byte x))) H1 locs1 → W p l e R s m args below meth c H1 locs1 cells slots Q (F0 m (pc + 1) ls rest)) : W p l e R s m args below meth c H locs cells slots Q (F0 m pc ls (.int x :: .int i :: .ref (A o (k + 1)) :: rest)) := by
  obtain ⟨q, hq⟩ := ti_obG hob (k + 1) hj
  refine va_bast (cA := cy 0) (n := n) (f := tY M o k) C.1 C.2.1 C.2.2.2.2.1 hw.1 (ti_W_D C.2.2.2.2.2.2.1 cy M) hw.2 q 0 (by rw [ti_W_at hq]; simp only [ti_G, hob.1, har]) rfl hi hdg ?_
  intro H1 locs1 hP hD hS
  refine kk H1 locs1 ⟨?_, hS⟩
  have e : (ti_W Ls A cy M).set q (A o (k + 1), ti_G A cy (uY M o k (upd (tY M o k) i.toNatClampNeg (vp_nar .byte x))) o (k + 1)) = ti_W Ls A cy (uY M o k (upd (tY M o k) i.toNatClampNeg (vp_nar .byte x))) := ti_W_set C.2.2.2.2.2.2.2 hq (fun r2 h2 => ti_G_uY r2 h2)
  rw [← e]
  simpa only [ti_G, hob.1, har, tY_u] using hP
theorem ti_zald {ci o k n : Nat} (C : ti_C p s m c args cc own nL D cy Ls A) (hw : ti_H Ls D A cy H0 M H locs) (hob : ti_ob Ls o ci) (hj : k + 1 ∈ ti_parts ci) (har : ∀ f g, ti_ar A cy ci o k f g = (cy 3, n, .inl f)) {i : Int32} (hi : vp_in i n) (hdg : decode cc pc = .ok (.baload, 1))
    (kk : W p l e R s m args below meth c H locs cells slots Q (F0 m (pc + 1) ls (.int (tY M o k i.toNatClampNeg) :: rest))) : W p l e R s m args below meth c H locs cells slots Q (F0 m pc ls (.int i :: .ref (A o (k + 1)) :: rest)) := by
  obtain ⟨q, hq⟩ := ti_obG hob (k + 1) hj
  exact va_zald C.1 C.2.1 C.2.2.2.2.1 hw.1 q 3 (by rw [ti_W_at hq]; simp only [ti_G, hob.1, har]) rfl hi hdg kk
theorem ti_zast {ci o k n : Nat} (C : ti_C p s m c args cc own nL D cy Ls A) (hw : ti_H Ls D A cy H0 M H locs) (hob : ti_ob Ls o ci) (hj : k + 1 ∈ ti_parts ci) (har : ∀ f g, ti_ar A cy ci o k f g = (cy 3, n, .inl f)) {i x : Int32} (hi : vp_in i n) (hdg : decode cc pc = .ok (.bastore, 1))
    (kk : ∀ (H1 : Heap) (locs1 : List Loc), ti_H Ls D A cy H0 (uY M o k (upd (tY M o k) i.toNatClampNeg (vp_nar .boolean x))) H1 locs1 → W p l e R s m args below meth c H1 locs1 cells slots Q (F0 m (pc + 1) ls rest)) : W p l e R s m args below meth c H locs cells slots Q (F0 m pc ls (.int x :: .int i :: .ref (A o (k + 1)) :: rest)) := by
  obtain ⟨q, hq⟩ := ti_obG hob (k + 1) hj
  refine va_zast (cA := cy 3) (n := n) (f := tY M o k) C.1 C.2.1 C.2.2.2.2.1 hw.1 (ti_W_D C.2.2.2.2.2.2.1 cy M) hw.2 q 3 (by rw [ti_W_at hq]; simp only [ti_G, hob.1, har]) rfl hi hdg ?_
  intro H1 locs1 hP hD hS
  refine kk H1 locs1 ⟨?_, hS⟩
  have e : (ti_W Ls A cy M).set q (A o (k + 1), ti_G A cy (uY M o k (upd (tY M o k) i.toNatClampNeg (vp_nar .boolean x))) o (k + 1)) = ti_W Ls A cy (uY M o k (upd (tY M o k) i.toNatClampNeg (vp_nar .boolean x))) := ti_W_set C.2.2.2.2.2.2.2 hq (fun r2 h2 => ti_G_uY r2 h2)
  rw [← e]
  simpa only [ti_G, hob.1, har, tY_u] using hP
theorem ti_lald {ci o k n : Nat} (C : ti_C p s m c args cc own nL D cy Ls A) (hw : ti_H Ls D A cy H0 M H locs) (hob : ti_ob Ls o ci) (hj : k + 1 ∈ ti_parts ci) (har : ∀ f g, ti_ar A cy ci o k f g = (cy 2, n, .inr (.inl g))) {i : Int32} (hi : vp_in i n) (hdg : decode cc pc = .ok (.laload, 1))
    (kk : W p l e R s m args below meth c H locs cells slots Q (F0 m (pc + 1) ls (.long (tZ M o k i.toNatClampNeg) :: rest))) : W p l e R s m args below meth c H locs cells slots Q (F0 m pc ls (.int i :: .ref (A o (k + 1)) :: rest)) := by
  obtain ⟨q, hq⟩ := ti_obG hob (k + 1) hj
  exact va_lald C.1 C.2.1 C.2.2.2.2.1 hw.1 q 2 (by rw [ti_W_at hq]; simp only [ti_G, hob.1, har]) rfl hi hdg kk
theorem ti_last {ci o k n : Nat} (C : ti_C p s m c args cc own nL D cy Ls A) (hw : ti_H Ls D A cy H0 M H locs) (hob : ti_ob Ls o ci) (hj : k + 1 ∈ ti_parts ci) (har : ∀ f g, ti_ar A cy ci o k f g = (cy 2, n, .inr (.inl g))) {i : Int32} {x : Int64} (hi : vp_in i n) (hdg : decode cc pc = .ok (.lastore, 1))
    (kk : ∀ (H1 : Heap) (locs1 : List Loc), ti_H Ls D A cy H0 (uZ M o k (vp_updL (tZ M o k) i.toNatClampNeg x)) H1 locs1 → W p l e R s m args below meth c H1 locs1 cells slots Q (F0 m (pc + 1) ls rest)) : W p l e R s m args below meth c H locs cells slots Q (F0 m pc ls (.long x :: .int i :: .ref (A o (k + 1)) :: rest)) := by
  obtain ⟨q, hq⟩ := ti_obG hob (k + 1) hj
  refine va_last (cA := cy 2) (n := n) (f := tZ M o k) C.1 C.2.1 C.2.2.2.2.1 hw.1 (ti_W_D C.2.2.2.2.2.2.1 cy M) hw.2 q 2 (by rw [ti_W_at hq]; simp only [ti_G, hob.1, har]) rfl hi hdg ?_
  intro H1 locs1 hP hD hS
  refine kk H1 locs1 ⟨?_, hS⟩
  have e : (ti_W Ls A cy M).set q (A o (k + 1), ti_G A cy (uZ M o k (vp_updL (tZ M o k) i.toNatClampNeg x)) o (k + 1)) = ti_W Ls A cy (uZ M o k (vp_updL (tZ M o k) i.toNatClampNeg x)) := ti_W_set C.2.2.2.2.2.2.2 hq (fun r2 h2 => ti_G_uZ r2 h2)
  rw [← e]
  simpa only [ti_G, hob.1, har, tZ_u] using hP
/-- a row of references: t0 is its kind in ti_ty, gg the object at each place -/
theorem ti_aald {ci o k n t0 : Nat} {Cn : String} {gg : Nat → Nat} (C : ti_C p s m c args cc own nL D cy Ls A) (hw : ti_H Ls D A cy H0 M H locs) (hob : ti_ob Ls o ci) (hj : k + 1 ∈ ti_parts ci) (har : ∀ f g, ti_ar A cy ci o k f g = (cy t0, n, .inr (.inr (.inr (.inr (ti_rw A n gg)))))) (ht : (ti_ty cy)[t0]? = some (cy t0, .object Cn)) {i : Int32} (hi : vp_in i n) {j : Nat} (hjn : i.toNatClampNeg = j) (hdg : decode cc pc = .ok (.aaload, 1))
    (kk : W p l e R s m args below meth c H locs cells slots Q (F0 m (pc + 1) ls (.ref (A (gg j) 0) :: rest))) : W p l e R s m args below meth c H locs cells slots Q (F0 m pc ls (.int i :: .ref (A o (k + 1)) :: rest)) := by
  obtain ⟨q, hq⟩ := ti_obG hob (k + 1) hj
  have hlt : j < n := by rw [← hjn]; exact Nat.lt_of_not_le (fun h => hi (Or.inr h))
  exact va_aldq (f := ti_rw A n gg) C.1 C.2.1 C.2.2.2.2.1 hw.1 q t0 (by rw [ti_W_at hq]; simp only [ti_G, hob.1, har]) ht hi hdg (by rw [hjn, ti_rw_at A gg n j hlt]; exact kk)
/-- what a call site's words are -/
def ti_V (own : String) (idx : Nat) (y : MethodName) (cc : ByteArray) (n : Nat) (ret : Option FieldType) : Prop := Cond.methodLink own idx y ∈ lw_g ∧ Cond.instanceMethod y ∈ lw_g ∧ Cond.selects y.cls y y ∈ lw_g ∧ Cond.initialized y.cls ∈ lw_g ∧ Cond.code y cc n ret ∈ lw_g
def ti_Vs (own : String) (idx : Nat) (y : MethodName) (cc : ByteArray) (n : Nat) (ret : Option FieldType) : Prop := Cond.methodLink own idx y ∈ lw_g ∧ Cond.static y ∈ lw_g ∧ Cond.initialized y.cls ∈ lw_g ∧ Cond.code y cc n ret ∈ lw_g
def ti_Vd (y : MethodName) (a : Nat) : Prop := y.cls ≠ "java/lang/invoke/MethodHandle" ∧ y.cls ≠ "java/lang/invoke/VarHandle" ∧ (parseMethodDescriptor y.desc).map (fun d => d.parameters.length) = some a
theorem ti_cwV {y : MethodName} {cc2 : ByteArray} {n2 k2 idx a : Nat} {ret : Option FieldType} (C : ti_C p s m c args cc own nL D cy Ls A) (hV : ti_V own idx y cc2 n2 ret) (hd : ti_Vd y a) (hR : k2 + 1 ≤ R.frames ∧ 8 + (n2 + 11) + 60 * k2 ≤ R.locals) : CallW R s args own y.cls idx y cc2 n2 ret (.code y cc2 n2 ret :: lw_g) (ti_rm k2) 0 0 a := by
  refine cwV a C.2.2.1 (lw_g_good ?_) rfl rfl rfl ⟨rfl, hd⟩ hR
  intro w hw
  simp only [wsV, List.cons_append, List.nil_append, List.mem_cons] at hw
  rcases hw with rfl | rfl | rfl | rfl | rfl | hw
  · exact hV.1
  · exact hV.2.1
  · exact hV.2.2.1
  · exact hV.2.2.2.1
  · exact hV.2.2.2.2
  · exact hw
theorem ti_cwS {y : MethodName} {cc2 : ByteArray} {n2 k2 idx a : Nat} {ret : Option FieldType} (C : ti_C p s m c args cc own nL D cy Ls A) (hV : ti_Vs own idx y cc2 n2 ret) (hd : ti_Vd y a) (hR : k2 + 1 ≤ R.frames ∧ 8 + (n2 + 11) + 60 * k2 ≤ R.locals) : CallB R s args own idx y cc2 n2 ret (.code y cc2 n2 ret :: lw_g) (ti_rm k2) 0 0 a ∧ (Cond.static y).before args s = true := by
  refine ⟨callB_of a C.2.2.1 (lw_g_good ?_) rfl rfl rfl (C.2.2.1 _ hV.2.2.1) (C.2.2.1 _ hV.1) hd hR, C.2.2.1 _ hV.2.1⟩
  intro w hw
  rcases List.mem_cons.mp hw with rfl | hw
  · exact hV.2.2.2
  · exact hw
theorem ti_pre {av : List Value} (C : ti_C p s m c args cc own nL D cy Ls A) (hw : ti_H Ls D A cy H0 M H locs) : ∀ U : State, U.heap = H → s.WarmedH U.vm → ti_Pc Ls D A cy M av av.toArray U := fun U hU hW => ⟨rfl, by rw [hU]; exact hw.1, va_K.moved hW.alike C.2.2.2.2.1⟩
theorem ti_recv {o ci : Nat} {q : vw_C} (C : ti_C p s m c args cc own nL D cy Ls A) (hw : ti_H Ls D A cy H0 M H locs) (hob : ti_ob Ls o ci) (hj : 0 ∈ ti_parts ci) (hcl : vwCl[ci]? = some q) : ∃ cell : Cell, H[A o 0]? = some cell ∧ cell.vm.isStatics = false ∧ s.vm.findClass q.1 = some cell.cls := by
  obtain ⟨i, hi⟩ := ti_obG hob 0 hj
  exact va_recv C.2.2.2.2.1 hw.1 hcl (q0 := i) (fs := ti_fs A ci o (tI M o) (tT M o)) (by rw [ti_W_at hi]; simp only [ti_G, hob.1])
theorem ti_callVi {y : MethodName} {cc2 : ByteArray} {n2 k2 idx o ci : Nat} {ret : Option FieldType} {av st : List Value} {post : Int32 → ti_M → Prop} {T : u_T} {N : Nat} (C : ti_C p s m c args cc own nL D cy Ls A) (hw : ti_H Ls D A cy H0 M H locs)
    (hM : ti_Ki l y cc2 n2 ret k2 Ls D A cy M (.ref (A o 0) :: av) post) (hV : ti_V own idx y cc2 n2 ret) (hd : ti_Vd y av.length) (hob : ti_ob Ls o ci) (hj : 0 ∈ ti_parts ci) (hcl : vwCl[ci]? = some (y.cls, T, N)) (hst : st = av.reverse ++ .ref (A o 0) :: rest) (hsz : ls.size = nL) (hrs : (rest.map fun v => v.category).sum ≤ 8) (hR : k2 + 1 ≤ R.frames ∧ 8 + (n2 + 11) + 60 * k2 ≤ R.locals) (hcs : cells ≤ R.cells ∧ slots ≤ R.slots) (hdg : decode cc pc = .ok (.invokevirtual idx, 3))
    (kk : ∀ (r : Int32) (M2 : ti_M) (H1 : Heap) (locs1 : List Loc), post r M2 → ti_H Ls D A cy H0 M2 H1 locs1 → W p l e R s m args below meth c H1 locs1 cells slots Q (F0 m (pc + 3) ls (.int r :: rest))) : W p l e R s m args below meth c H locs cells slots Q (F0 m pc ls st) := by
  subst hst
  refine va_calli (va_runV (As := av) (rest := rest) ⟨C.1, C.2.1, C.2.2.2.2.2.1, C.2.2.2.1, C.2.2.1⟩ hM (ti_cwV C hV hd hR) ⟨ti_blind, ti_recv C hw hob hj hcl, ti_pre C hw⟩ rfl rfl hsz rfl (lv_room hrs) hdg ⟨hcs.1, hcs.2⟩) hw.2 (fun q _ h => h) (fun q h => h) ?_
  intro r u t H1 locs1 ht hvm hpo hB hz hk hS
  exact kk r u H1 locs1 hpo ⟨by rw [← ht]; exact hB, hS⟩
theorem ti_callVl {y : MethodName} {cc2 : ByteArray} {n2 k2 idx o ci : Nat} {ret : Option FieldType} {av st : List Value} {post : Int64 → ti_M → Prop} {T : u_T} {N : Nat} (C : ti_C p s m c args cc own nL D cy Ls A) (hw : ti_H Ls D A cy H0 M H locs)
    (hM : ti_Kl l y cc2 n2 ret k2 Ls D A cy M (.ref (A o 0) :: av) post) (hV : ti_V own idx y cc2 n2 ret) (hd : ti_Vd y av.length) (hob : ti_ob Ls o ci) (hj : 0 ∈ ti_parts ci) (hcl : vwCl[ci]? = some (y.cls, T, N)) (hst : st = av.reverse ++ .ref (A o 0) :: rest) (hsz : ls.size = nL) (hrs : (rest.map fun v => v.category).sum ≤ 8) (hR : k2 + 1 ≤ R.frames ∧ 8 + (n2 + 11) + 60 * k2 ≤ R.locals) (hcs : cells ≤ R.cells ∧ slots ≤ R.slots) (hdg : decode cc pc = .ok (.invokevirtual idx, 3))
    (kk : ∀ (r : Int64) (M2 : ti_M) (H1 : Heap) (locs1 : List Loc), post r M2 → ti_H Ls D A cy H0 M2 H1 locs1 → W p l e R s m args below meth c H1 locs1 cells slots Q (F0 m (pc + 3) ls (.long r :: rest))) : W p l e R s m args below meth c H locs cells slots Q (F0 m pc ls st) := by
  subst hst
  refine va_calll (va_runV (As := av) (rest := rest) ⟨C.1, C.2.1, C.2.2.2.2.2.1, C.2.2.2.1, C.2.2.1⟩ hM (ti_cwV C hV hd hR) ⟨ti_blind, ti_recv C hw hob hj hcl, ti_pre C hw⟩ rfl rfl hsz rfl (lv_room hrs) hdg ⟨hcs.1, hcs.2⟩) hw.2 (fun q _ h => h) (fun q h => h) ?_
  intro r u t H1 locs1 ht hvm hpo hB hz hk hS
  exact kk r u H1 locs1 hpo ⟨by rw [← ht]; exact hB, hS⟩
theorem ti_callVv {y : MethodName} {cc2 : ByteArray} {n2 k2 idx o ci : Nat} {av st : List Value} {post : ti_M → Prop} {T : u_T} {N : Nat} (C : ti_C p s m c args cc own nL D cy Ls A) (hw : ti_H Ls D A cy H0 M H locs)
    (hM : ti_Kv l y cc2 n2 k2 Ls D A cy M (.ref (A o 0) :: av) post) (hV : ti_V own idx y cc2 n2 none) (hd : ti_Vd y av.length) (hob : ti_ob Ls o ci) (hj : 0 ∈ ti_parts ci) (hcl : vwCl[ci]? = some (y.cls, T, N)) (hst : st = av.reverse ++ .ref (A o 0) :: rest) (hsz : ls.size = nL) (hrs : (rest.map fun v => v.category).sum ≤ 8) (hR : k2 + 1 ≤ R.frames ∧ 8 + (n2 + 11) + 60 * k2 ≤ R.locals) (hcs : cells ≤ R.cells ∧ slots ≤ R.slots) (hdg : decode cc pc = .ok (.invokevirtual idx, 3))
    (kk : ∀ (M2 : ti_M) (H1 : Heap) (locs1 : List Loc), post M2 → ti_H Ls D A cy H0 M2 H1 locs1 → W p l e R s m args below meth c H1 locs1 cells slots Q (F0 m (pc + 3) ls rest)) : W p l e R s m args below meth c H locs cells slots Q (F0 m pc ls st) := by
  subst hst
  refine va_callv (va_runV (As := av) (rest := rest) ⟨C.1, C.2.1, C.2.2.2.2.2.1, C.2.2.2.1, C.2.2.1⟩ hM (ti_cwV C hV hd hR) ⟨ti_blind, ti_recv C hw hob hj hcl, ti_pre C hw⟩ rfl rfl hsz rfl (lv_room hrs) hdg ⟨hcs.1, hcs.2⟩) hw.2 (fun q _ h => h) (fun q h => h) ?_
  intro u t H1 locs1 ht hvm hpo hB hz hk hS
  exact kk u H1 locs1 hpo ⟨by rw [← ht]; exact hB, hS⟩
theorem ti_callSi {y : MethodName} {cc2 : ByteArray} {n2 k2 idx : Nat} {ret : Option FieldType} {av st : List Value} {post : Int32 → ti_M → Prop} (C : ti_C p s m c args cc own nL D cy Ls A) (hw : ti_H Ls D A cy H0 M H locs)
    (hM : ti_Ki l y cc2 n2 ret k2 Ls D A cy M av post) (hV : ti_Vs own idx y cc2 n2 ret) (hd : ti_Vd y av.length) (hst : st = av.reverse ++ rest) (hsz : ls.size = nL) (hrs : (rest.map fun v => v.category).sum ≤ 8) (hR : k2 + 1 ≤ R.frames ∧ 8 + (n2 + 11) + 60 * k2 ≤ R.locals) (hcs : cells ≤ R.cells ∧ slots ≤ R.slots) (hdg : decode cc pc = .ok (.invokestatic idx, 3))
    (kk : ∀ (r : Int32) (M2 : ti_M) (H1 : Heap) (locs1 : List Loc), post r M2 → ti_H Ls D A cy H0 M2 H1 locs1 → W p l e R s m args below meth c H1 locs1 cells slots Q (F0 m (pc + 3) ls (.int r :: rest))) : W p l e R s m args below meth c H locs cells slots Q (F0 m pc ls st) := by
  subst hst
  refine va_calli (va_runS (As := av) (rest := rest) ⟨C.1, C.2.1, C.2.2.2.2.2.1, C.2.2.2.1, C.2.2.1⟩ hM (ti_cwS C hV hd hR) ⟨ti_blind, ti_pre C hw⟩ rfl rfl hsz rfl (lv_room hrs) hdg ⟨hcs.1, hcs.2⟩) hw.2 (fun q _ h => h) (fun q h => h) ?_
  intro r u t H1 locs1 ht hvm hpo hB hz hk hS
  exact kk r u H1 locs1 hpo ⟨by rw [← ht]; exact hB, hS⟩
theorem ti_callSl {y : MethodName} {cc2 : ByteArray} {n2 k2 idx : Nat} {ret : Option FieldType} {av st : List Value} {post : Int64 → ti_M → Prop} (C : ti_C p s m c args cc own nL D cy Ls A) (hw : ti_H Ls D A cy H0 M H locs)
    (hM : ti_Kl l y cc2 n2 ret k2 Ls D A cy M av post) (hV : ti_Vs own idx y cc2 n2 ret) (hd : ti_Vd y av.length) (hst : st = av.reverse ++ rest) (hsz : ls.size = nL) (hrs : (rest.map fun v => v.category).sum ≤ 8) (hR : k2 + 1 ≤ R.frames ∧ 8 + (n2 + 11) + 60 * k2 ≤ R.locals) (hcs : cells ≤ R.cells ∧ slots ≤ R.slots) (hdg : decode cc pc = .ok (.invokestatic idx, 3))
    (kk : ∀ (r : Int64) (M2 : ti_M) (H1 : Heap) (locs1 : List Loc), post r M2 → ti_H Ls D A cy H0 M2 H1 locs1 → W p l e R s m args below meth c H1 locs1 cells slots Q (F0 m (pc + 3) ls (.long r :: rest))) : W p l e R s m args below meth c H locs cells slots Q (F0 m pc ls st) := by
  subst hst
  refine va_calll (va_runS (As := av) (rest := rest) ⟨C.1, C.2.1, C.2.2.2.2.2.1, C.2.2.2.1, C.2.2.1⟩ hM (ti_cwS C hV hd hR) ⟨ti_blind, ti_pre C hw⟩ rfl rfl hsz rfl (lv_room hrs) hdg ⟨hcs.1, hcs.2⟩) hw.2 (fun q _ h => h) (fun q h => h) ?_
  intro r u t H1 locs1 ht hvm hpo hB hz hk hS
  exact kk r u H1 locs1 hpo ⟨by rw [← ht]; exact hB, hS⟩
theorem ti_callSv {y : MethodName} {cc2 : ByteArray} {n2 k2 idx : Nat} {av st : List Value} {post : ti_M → Prop} (C : ti_C p s m c args cc own nL D cy Ls A) (hw : ti_H Ls D A cy H0 M H locs)
    (hM : ti_Kv l y cc2 n2 k2 Ls D A cy M av post) (hV : ti_Vs own idx y cc2 n2 none) (hd : ti_Vd y av.length) (hst : st = av.reverse ++ rest) (hsz : ls.size = nL) (hrs : (rest.map fun v => v.category).sum ≤ 8) (hR : k2 + 1 ≤ R.frames ∧ 8 + (n2 + 11) + 60 * k2 ≤ R.locals) (hcs : cells ≤ R.cells ∧ slots ≤ R.slots) (hdg : decode cc pc = .ok (.invokestatic idx, 3))
    (kk : ∀ (M2 : ti_M) (H1 : Heap) (locs1 : List Loc), post M2 → ti_H Ls D A cy H0 M2 H1 locs1 → W p l e R s m args below meth c H1 locs1 cells slots Q (F0 m (pc + 3) ls rest)) : W p l e R s m args below meth c H locs cells slots Q (F0 m pc ls st) := by
  subst hst
  refine va_callv (va_runS (As := av) (rest := rest) ⟨C.1, C.2.1, C.2.2.2.2.2.1, C.2.2.2.1, C.2.2.1⟩ hM (ti_cwS C hV hd hR) ⟨ti_blind, ti_pre C hw⟩ rfl rfl hsz rfl (lv_room hrs) hdg ⟨hcs.1, hcs.2⟩) hw.2 (fun q _ h => h) (fun q h => h) ?_
  intro u t H1 locs1 ht hvm hpo hB hz hk hS
  exact kk u H1 locs1 hpo ⟨by rw [← ht]; exact hB, hS⟩
end

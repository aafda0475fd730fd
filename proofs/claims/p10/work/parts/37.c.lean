variable {Tc : gC} {Tm : gM}
/-- what lasts beside lw_g: nest mates' constructors, arrays over own classes -/
def ti_N (U : State) : Prop := va_Nw (.methodLinkNest RX9 11 yX4_init "ThirdInLine") U ∧ va_Nw (.methodLinkNest RX4 11 yX7_init "ThirdInLine") U ∧ va_Nw (.methodLinkNest RX8 27 yX2_init "ThirdInLine") U ∧ va_Nw (.methodLinkNest RX8 28 yX1_init "ThirdInLine") U ∧ va_Nw (.methodLinkNest RX9 28 yX3_init "ThirdInLine") U ∧ va_Nw (.methodLinkNest RX5 24 yX3_init "ThirdInLine") U ∧ va_Nw (.methodLinkNest RX9 53 yX6_init "ThirdInLine") U ∧ va_Nw (.methodLinkNest RX6 49 yX3_init "ThirdInLine") U ∧ va_Nw (.methodLinkNest RX9 60 yX0_init "ThirdInLine") U ∧ va_Nw (.methodLinkNest RX0 11 yX3_init "ThirdInLine") U ∧ va_AO RX1 U ∧ va_AO RX2 U ∧ va_AO RX3 U
theorem ti_N.warm {s U : State} (hW : s.WarmedH U.vm) (h : ti_N s) : ti_N U := by
  obtain ⟨h0, h1, h2, h3, h4, h5, h6, h7, h8, h9, ha, hb, hc⟩ := h
  exact ⟨h0.warmM hW, h1.warmM hW, h2.warmM hW, h3.warmM hW, h4.warmM hW, h5.warmM hW, h6.warmM hW, h7.warmM hW, h8.warmM hW, h9.warmM hW, ha.moved hW.alike, hb.moved hW.alike, hc.moved hW.alike⟩
theorem ti_N.call {U : State} {g : JFrame} {mk : MethodId} {a : Array Value} (h : ti_N U) : ti_N (U.calling g mk a) := by
  obtain ⟨h0, h1, h2, h3, h4, h5, h6, h7, h8, h9, ha, hb, hc⟩ := h
  exact ⟨va_Nw.same rfl rfl h0, va_Nw.same rfl rfl h1, va_Nw.same rfl rfl h2, va_Nw.same rfl rfl h3, va_Nw.same rfl rfl h4, va_Nw.same rfl rfl h5, va_Nw.same rfl rfl h6, va_Nw.same rfl rfl h7, va_Nw.same rfl rfl h8, va_Nw.same rfl rfl h9, ha.moved (Vm.Alike.refl U.vm), hb.moved (Vm.Alike.refl U.vm), hc.moved (Vm.Alike.refl U.vm)⟩
theorem nl_X9_11 {U : State} (h : ti_N U) : va_Nw (.methodLinkNest RX9 11 yX4_init "ThirdInLine") U := h.1
theorem nl_X4_11 {U : State} (h : ti_N U) : va_Nw (.methodLinkNest RX4 11 yX7_init "ThirdInLine") U := h.2.1
theorem nl_X8_27 {U : State} (h : ti_N U) : va_Nw (.methodLinkNest RX8 27 yX2_init "ThirdInLine") U := h.2.2.1
theorem nl_X8_28 {U : State} (h : ti_N U) : va_Nw (.methodLinkNest RX8 28 yX1_init "ThirdInLine") U := h.2.2.2.1
theorem nl_X9_28 {U : State} (h : ti_N U) : va_Nw (.methodLinkNest RX9 28 yX3_init "ThirdInLine") U := h.2.2.2.2.1
theorem nl_X5_24 {U : State} (h : ti_N U) : va_Nw (.methodLinkNest RX5 24 yX3_init "ThirdInLine") U := h.2.2.2.2.2.1
theorem nl_X9_53 {U : State} (h : ti_N U) : va_Nw (.methodLinkNest RX9 53 yX6_init "ThirdInLine") U := h.2.2.2.2.2.2.1
theorem nl_X6_49 {U : State} (h : ti_N U) : va_Nw (.methodLinkNest RX6 49 yX3_init "ThirdInLine") U := h.2.2.2.2.2.2.2.1
theorem nl_X9_60 {U : State} (h : ti_N U) : va_Nw (.methodLinkNest RX9 60 yX0_init "ThirdInLine") U := h.2.2.2.2.2.2.2.2.1
theorem nl_X0_11 {U : State} (h : ti_N U) : va_Nw (.methodLinkNest RX0 11 yX3_init "ThirdInLine") U := h.2.2.2.2.2.2.2.2.2.1
theorem ao_RX1 {U : State} (h : ti_N U) : va_AO RX1 U := h.2.2.2.2.2.2.2.2.2.2.1
theorem ao_RX2 {U : State} (h : ti_N U) : va_AO RX2 U := h.2.2.2.2.2.2.2.2.2.2.2.1
theorem ao_RX3 {U : State} (h : ti_N U) : va_AO RX3 U := h.2.2.2.2.2.2.2.2.2.2.2.2
theorem in_L : Cond.initialized RL ∈ lw_g := lw_g_mem 121 (by decide +kernel) (by decide +kernel)
theorem in_X9 : Cond.initialized RX9 ∈ lw_g := lw_g_mem 122 (by decide +kernel) (by decide +kernel)
theorem in_X4 : Cond.initialized RX4 ∈ lw_g := lw_g_mem 123 (by decide +kernel) (by decide +kernel)
theorem in_X7 : Cond.initialized RX7 ∈ lw_g := lw_g_mem 124 (by decide +kernel) (by decide +kernel)
theorem in_X8 : Cond.initialized RX8 ∈ lw_g := lw_g_mem 125 (by decide +kernel) (by decide +kernel)
theorem in_X2 : Cond.initialized RX2 ∈ lw_g := lw_g_mem 126 (by decide +kernel) (by decide +kernel)
theorem in_X1 : Cond.initialized RX1 ∈ lw_g := lw_g_mem 127 (by decide +kernel) (by decide +kernel)
theorem in_X3 : Cond.initialized RX3 ∈ lw_g := lw_g_mem 128 (by decide +kernel) (by decide +kernel)
theorem in_X5 : Cond.initialized RX5 ∈ lw_g := lw_g_mem 129 (by decide +kernel) (by decide +kernel)
theorem in_X6 : Cond.initialized RX6 ∈ lw_g := lw_g_mem 130 (by decide +kernel) (by decide +kernel)
theorem in_X0 : Cond.initialized RX0 ∈ lw_g := lw_g_mem 131 (by decide +kernel) (by decide +kernel)
theorem in_J10 : Cond.initialized RJ10 ∈ lw_g := lw_g_mem 132 (by decide +kernel) (by decide +kernel)
theorem in_J7 : Cond.initialized RJ7 ∈ lw_g := lw_g_mem 133 (by decide +kernel) (by decide +kernel)
theorem in_X10 : Cond.initialized RX10 ∈ lw_g := lw_g_mem 134 (by decide +kernel) (by decide +kernel)
theorem in_J9 : Cond.initialized RJ9 ∈ lw_g := lw_g_mem 135 (by decide +kernel) (by decide +kernel)
theorem in_J0 : Cond.initialized RJ0 ∈ lw_g := lw_g_mem 136 (by decide +kernel) (by decide +kernel)
theorem in_J1 : Cond.initialized RJ1 ∈ lw_g := lw_g_mem 137 (by decide +kernel) (by decide +kernel)
theorem in_J3 : Cond.initialized RJ3 ∈ lw_g := lw_g_mem 138 (by decide +kernel) (by decide +kernel)
theorem in_J2 : Cond.initialized RJ2 ∈ lw_g := lw_g_mem 139 (by decide +kernel) (by decide +kernel)
theorem in_J6 : Cond.initialized RJ6 ∈ lw_g := lw_g_mem 145 (by decide +kernel) (by decide +kernel)
theorem ck_L_8 : Cond.classLink RL 8 RX9 ∈ lw_g := lw_g_mem 146 (by decide +kernel) (by decide +kernel)
theorem is_X9 : Cond.instantiable RX9 10 ∈ lw_g := lw_g_mem 147 (by decide +kernel) (by decide +kernel)
theorem oi_X9_3 : Cond.methodLink RX9 3 objectInit ∈ lw_g := lw_g_mem 151 (by decide +kernel) (by decide +kernel)
theorem ck_X9_9 : Cond.classLink RX9 9 RX4 ∈ lw_g := lw_g_mem 154 (by decide +kernel) (by decide +kernel)
theorem is_X4 : Cond.instantiable RX4 6 ∈ lw_g := lw_g_mem 155 (by decide +kernel) (by decide +kernel)
theorem oi_X4_3 : Cond.methodLink RX4 3 objectInit ∈ lw_g := lw_g_mem 159 (by decide +kernel) (by decide +kernel)
theorem ck_X4_9 : Cond.classLink RX4 9 RX7 ∈ lw_g := lw_g_mem 160 (by decide +kernel) (by decide +kernel)
theorem is_X7 : Cond.instantiable RX7 7 ∈ lw_g := lw_g_mem 161 (by decide +kernel) (by decide +kernel)
theorem oi_X7_3 : Cond.methodLink RX7 3 objectInit ∈ lw_g := lw_g_mem 165 (by decide +kernel) (by decide +kernel)
theorem ac_byte : Cond.arrayClass .byte ∈ lw_g := lw_g_mem 192 (by decide +kernel) (by decide +kernel)
theorem ck_X9_16 : Cond.classLink RX9 16 RX8 ∈ lw_g := lw_g_mem 215 (by decide +kernel) (by decide +kernel)
theorem is_X8 : Cond.instantiable RX8 12 ∈ lw_g := lw_g_mem 216 (by decide +kernel) (by decide +kernel)
theorem oi_X8_3 : Cond.methodLink RX8 3 objectInit ∈ lw_g := lw_g_mem 220 (by decide +kernel) (by decide +kernel)
theorem ck_X8_9 : Cond.classLink RX8 9 RX2 ∈ lw_g := lw_g_mem 221 (by decide +kernel) (by decide +kernel)
theorem ck_X8_21 : Cond.classLink RX8 21 RX1 ∈ lw_g := lw_g_mem 223 (by decide +kernel) (by decide +kernel)
theorem is_X2 : Cond.instantiable RX2 10 ∈ lw_g := lw_g_mem 225 (by decide +kernel) (by decide +kernel)
theorem oi_X2_1 : Cond.methodLink RX2 1 objectInit ∈ lw_g := lw_g_mem 229 (by decide +kernel) (by decide +kernel)
theorem ac_int : Cond.arrayClass .int ∈ lw_g := lw_g_mem 277 (by decide +kernel) (by decide +kernel)
theorem is_X1 : Cond.instantiable RX1 4 ∈ lw_g := lw_g_mem 278 (by decide +kernel) (by decide +kernel)
theorem oi_X1_5 : Cond.methodLink RX1 5 objectInit ∈ lw_g := lw_g_mem 282 (by decide +kernel) (by decide +kernel)
theorem ac_long : Cond.arrayClass .long ∈ lw_g := lw_g_mem 297 (by decide +kernel) (by decide +kernel)
theorem ck_X9_26 : Cond.classLink RX9 26 RX3 ∈ lw_g := lw_g_mem 370 (by decide +kernel) (by decide +kernel)
theorem is_X3 : Cond.instantiable RX3 17 ∈ lw_g := lw_g_mem 371 (by decide +kernel) (by decide +kernel)
theorem oi_X3_3 : Cond.methodLink RX3 3 objectInit ∈ lw_g := lw_g_mem 375 (by decide +kernel) (by decide +kernel)
theorem ck_X9_37 : Cond.classLink RX9 37 RX5 ∈ lw_g := lw_g_mem 453 (by decide +kernel) (by decide +kernel)
theorem is_X5 : Cond.instantiable RX5 3 ∈ lw_g := lw_g_mem 454 (by decide +kernel) (by decide +kernel)
theorem oi_X5_3 : Cond.methodLink RX5 3 objectInit ∈ lw_g := lw_g_mem 458 (by decide +kernel) (by decide +kernel)
theorem ck_X5_9 : Cond.classLink RX5 9 RX3 ∈ lw_g := lw_g_mem 459 (by decide +kernel) (by decide +kernel)
theorem ck_X9_51 : Cond.classLink RX9 51 RX6 ∈ lw_g := lw_g_mem 473 (by decide +kernel) (by decide +kernel)
theorem is_X6 : Cond.instantiable RX6 13 ∈ lw_g := lw_g_mem 474 (by decide +kernel) (by decide +kernel)
theorem oi_X6_3 : Cond.methodLink RX6 3 objectInit ∈ lw_g := lw_g_mem 478 (by decide +kernel) (by decide +kernel)
theorem ck_X6_47 : Cond.classLink RX6 47 RX3 ∈ lw_g := lw_g_mem 479 (by decide +kernel) (by decide +kernel)
theorem ck_X9_58 : Cond.classLink RX9 58 RX0 ∈ lw_g := lw_g_mem 525 (by decide +kernel) (by decide +kernel)
theorem is_X0 : Cond.instantiable RX0 6 ∈ lw_g := lw_g_mem 526 (by decide +kernel) (by decide +kernel)
theorem oi_X0_3 : Cond.methodLink RX0 3 objectInit ∈ lw_g := lw_g_mem 530 (by decide +kernel) (by decide +kernel)
theorem ck_X0_9 : Cond.classLink RX0 9 RX3 ∈ lw_g := lw_g_mem 531 (by decide +kernel) (by decide +kernel)
theorem ck_L_18 : Cond.classLink RL 18 RX10 ∈ lw_g := lw_g_mem 1328 (by decide +kernel) (by decide +kernel)
theorem is_X10 : Cond.instantiable RX10 67 ∈ lw_g := lw_g_mem 1329 (by decide +kernel) (by decide +kernel)
theorem oi_X10_1 : Cond.methodLink RX10 1 objectInit ∈ lw_g := lw_g_mem 1333 (by decide +kernel) (by decide +kernel)
theorem ac_boolean : Cond.arrayClass .boolean ∈ lw_g := lw_g_mem 1544 (by decide +kernel) (by decide +kernel)
theorem oi_m : Cond.instanceMethod objectInit ∈ lw_g := lw_g_mem 152 (by decide +kernel) (by decide +kernel)
theorem oi_c : Cond.code objectInit ⟨#[0xb1]⟩ 1 none ∈ lw_g := lw_g_mem 153 (by decide +kernel) (by decide +kernel)
theorem ti_ndR (n : Nat) : va_nd (List.range n) = true := by
  have h : ∀ l : List Nat, l.Nodup → va_nd l = true := by
    intro l
    induction l with
    | nil => intro _; rfl
    | cons a l ih =>
      intro h
      have h1 := List.nodup_cons.mp h
      simp [va_nd, ih h1.2, h1.1]
  exact h _ List.nodup_range
def ti_rmc (k mc ms : Nat) : Room := { frames := k, cells := mc, slots := ms, locals := 60 * k }
def ti_PcC (D : va_G) (cy : Nat → ClassId) (h0 sz : Nat) (e0 : va_E) : Array Value → State → Prop := va_Pc [.ref h0] (fun U => U.heap.size = sz ∧ va_P D vwCl [(h0, e0)] U.heap ∧ va_K D vwCl (ti_ty cy) U ∧ ti_N U)
/-- a constructor's contract: of the one cell a block of cells comes -/
def ti_Kc (l : Launch) (y : MethodName) (cc : ByteArray) (n k mc ms : Nat) (D : va_G) (cy : Nat → ClassId) (h0 sz : Nat) (e0 : va_E) {S : Type} (post : S → Prop) (blk : S → va_W) : Prop :=
  Met l y (.code y cc n none :: lw_g) (ti_rmc k mc ms) (ti_PcC D cy h0 sz e0) (va_Qv post (fun u t => va_P D vwCl (blk u) t.heap ∧ va_D (va_A [(h0, e0)] sz) (blk u)) (va_A [(h0, e0)] sz)) mc ms (va_A [(h0, e0)] sz)
def ti_CC (p : Program) (s : State) (m : MethodId) (c : Code) (args : Array Value) (cc : ByteArray) (own : String) (nL : Nat) (D : va_G) (cy : Nat → ClassId) (meth : Method) : Prop :=
  p.tables.exec = Jvm.exec ∧ c.code = cc ∧ (∀ w ∈ lw_g, w.before args s = true) ∧ s.vm.findClass own = some m.cls ∧ va_K D vwCl (ti_ty cy) s ∧ c.maxLocals = nL ∧ meth.name = "<init>" ∧ ti_N s
section
variable {p : Program} {l : Launch} {e : Env} {R : Room} {s : State} {m : MethodId} {args : Array Value} {below : List Frame} {meth : Method} {c : Code} {H H0 : Heap} {locs : List Loc} {cells slots : Nat} {Q : State → Prop} {pc : Nat} {ls : Array Slot} {rest : List Value} {cc : ByteArray} {own : String} {nL : Nat} {D : va_G} {cy : Nat → ClassId} {As : Nat → Prop} {ws : va_W}
theorem ti_blindC {h0 sz : Nat} {e0 : va_E} : FrameBlind (ti_PcC D cy h0 sz e0) := fun a U g mk q => ⟨q.1, q.2.1, q.2.2.1, va_K.moved (u := U) (U := U.calling g mk a) (Vm.Alike.refl U.vm) q.2.2.2.1, q.2.2.2.2.call⟩
theorem ti_eC {y : MethodName} {n k mc ms h0 sz : Nat} {e0 : va_E} {S : Type} {post : S → Prop} {blk : S → va_W} (hy : plainName y.cls = true) (hn : 1 ≤ n) (hname : y.name = "<init>")
    (body : ∀ (p : Program) (e : Env) (s : State) (m : MethodId) (args : Array Value) (below : List Frame) (meth : Method) (c : Code) (Q : State → Prop) (H0 : Heap) (As : Nat → Prop), ti_CC p s m c args cc y.cls n D cy meth →
      (∀ (u : S) (H2 : Heap) (locs2 : List Loc) (pc : Nat) (ls : Array Slot), post u → va_P D vwCl (blk u) H2 → va_D As (blk u) → va_S As H0 H2 locs2 → decode cc pc = .ok (.return_, 1) → W p l e (ti_rmc k mc ms) s m args below meth c H2 locs2 mc ms Q (F0 m pc ls [])) →
      va_P D vwCl [(h0, e0)] H0 → va_D As [(h0, e0)] → va_S As H0 H0 [] → (∀ q, H0.size ≤ q → As q) → ∀ ls : Array Slot, lv_has ls n [(0, .ref h0)] → W p l e (ti_rmc k mc ms) s m args below meth c H0 [] 0 0 Q (F0 m 0 ls [])) : ti_Kc l y cc n k mc ms D cy h0 sz e0 post blk := by
  refine Met.ofW (cc := cc) (maxL := n) (ret := none) hy rfl ?_
  intro p e s m args below meth c s₁ B hml hv
  obtain ⟨rfl, hsz, hP, hK, hN⟩ := hv
  subst hsz
  rw [lg_entry_eq]
  have hD : va_D (va_A [(h0, e0)] s.heap.size) [(h0, e0)] := ⟨fun i j p q hi hj _ => by
    rcases i with _ | i <;> rcases j with _ | j <;> simp_all, fun k q hk => va_A.in hk⟩
  exact body p e s m _ below meth c _ s.heap (va_A [(h0, e0)] s.heap.size) ⟨B.exec, B.bytes, fun w h => atoms_spec (ws := .code y cc n none :: lw_g) B.pre w (List.mem_cons_of_mem _ h), findClass_of_methodNamed B.named, hK, hml, by rw [(name_of_methodNamed B.named B.method).1, hname], hN⟩
    (fun u H2 locs2 pc ls hpo hP2 hD2 hS2 hdg => W.vret B.exec B.bytes B.returns (fun t ht _ => ⟨⟨u, rfl, hpo, by rw [ht]; exact hP2, hD2⟩, hS2.F ht⟩) hS2.2.2 hdg B.notSynchronized) hP hD va_S.rf (fun q h => Or.inr h) _ (lv_entry [.ref h0] (Nat.le_trans (Nat.le_of_ble_eq_true rfl) hn))
theorem ti_sameP {cA : ClassId} {ty : FieldType} {t0 : Nat} {c0 : ClassId} (hp : ∀ C, ty ≠ .object C) (hK : va_K D vwCl (ti_ty cy) s) (h0 : (ti_ty cy)[t0]? = some (c0, ty)) (hK1 : va_K D vwCl (ti_ty cy ++ [(cA, ty)]) s) : cA = c0 := by
  have h1 := (hK.2 t0 _ h0).2
  have h2 := (hK1.2 7 (cA, ty) rfl).2
  cases ty <;> first | (exact absurd rfl (hp _)) | (simp only [va_RA] at h1 h2; rw [h1] at h2; exact (Option.some.inj h2).symm)
theorem ti_sameO {cA : ClassId} {Cn : String} {t0 : Nat} {c0 : ClassId} (hK : va_K D vwCl (ti_ty cy) s) (h0 : (ti_ty cy)[t0]? = some (c0, .object Cn)) (hK1 : va_K D vwCl (ti_ty cy ++ [(cA, .object Cn)]) s) : cA = c0 := by
  obtain ⟨kA, comp, -, -, -, h1⟩ := (hK.2 t0 _ h0).2
  obtain ⟨kB, comp2, -, -, -, h2⟩ := (hK1.2 7 (cA, .object Cn) rfl).2
  rw [h1] at h2; exact (Option.some.inj h2).symm
/-- a new row of a basic type -/
theorem ti_nA {atype : ArrayType} {ty : FieldType} (t0 : Nat) (C : ti_CC p s m c args cc own nL D cy meth) (hac : Cond.arrayClass (newarray.typeOf atype) ∈ lw_g) (hty : newarray.typeOf atype = ty) (hp : ∀ C, ty ≠ .object C) (ht : (ti_ty cy)[t0]? = some (cy t0, ty)) (hP : va_P D vwCl ws H) (hD : va_D As ws) (hS : va_S As H0 H locs) (hA : ∀ q, H0.size ≤ q → As q)
    {n : Int32} {N' : Nat} {a0 : vp_A} (ha : ∀ cA : ClassId, vp_cell cA a0 = arrV cA N' (fun _ => defaultValue ty)) (hn : ¬ n < 0) (hN : n.toNatClampNeg = N') (hbytes : N' * componentBytes ty ≤ 536870912) (k2 n2 : Nat) (hcells : cells + 1 ≤ k2) (hslots : slots + N' ≤ n2) (hR : k2 ≤ R.cells ∧ n2 ≤ R.slots) (hdg : decode cc pc = .ok (.newarray atype, 2))
    (kk : ∀ (q : Nat) (H1 : Heap), va_P D vwCl (ws ++ [(q, .inl (cy t0, a0))]) H1 → va_D As (ws ++ [(q, .inl (cy t0, a0))]) → va_S As H0 H1 locs → W p l e R s m args below meth c H1 locs k2 n2 Q (F0 m (pc + 2) ls (.ref q :: rest))) : W p l e R s m args below meth c H locs cells slots Q (F0 m pc ls (.int n :: rest)) := by
  refine va_newa (atype := atype) (ty := ty) C.1 C.2.1 (C.2.2.1 _ hac) hty C.2.2.2.2.1 hP hD hS hA ha hn hN hbytes (Nat.le_trans hcells hR.1) (Nat.le_trans hslots hR.2) hdg ?_
  intro q cA H1 hK1 hP1 hD1 hS1
  obtain rfl := ti_sameP hp C.2.2.2.2.1 ht hK1
  exact W.widen hcells hslots (kk q H1 hP1 hD1 hS1)
theorem ti_nQ {Cn : String} {idx : Nat} (t0 : Nat) (C : ti_CC p s m c args cc own nL D cy meth) (hck : Cond.classLink own idx Cn ∈ lw_g) (hao : va_AO Cn s) (ht : (ti_ty cy)[t0]? = some (cy t0, .object Cn)) (hP : va_P D vwCl ws H) (hD : va_D As ws) (hS : va_S As H0 H locs) (hA : ∀ q, H0.size ≤ q → As q)
    {n : Int32} {N' : Nat} (hn : ¬ n < 0) (hN : n.toNatClampNeg = N') (hbytes : N' * 4 ≤ 536870912) (k2 n2 : Nat) (hcells : cells + 1 ≤ k2) (hslots : slots + N' ≤ n2) (hR : k2 ≤ R.cells ∧ n2 ≤ R.slots) (hdg : decode cc pc = .ok (.anewarray idx, 3))
    (kk : ∀ (q : Nat) (H1 : Heap), va_P D vwCl (ws ++ [(q, .inl (cy t0, N', .inr (.inr (.inr (.inr (fun _ => none))))))]) H1 → va_D As (ws ++ [(q, .inl (cy t0, N', .inr (.inr (.inr (.inr (fun _ => none))))))]) → va_S As H0 H1 locs → W p l e R s m args below meth c H1 locs k2 n2 Q (F0 m (pc + 3) ls (.ref q :: rest))) : W p l e R s m args below meth c H locs cells slots Q (F0 m pc ls (.int n :: rest)) := by
  refine va_newq (C := Cn) C.1 C.2.1 C.2.2.2.1 (C.2.2.1 _ hck) hao C.2.2.2.2.1 hP hD hS hA hn hN hbytes (Nat.le_trans hcells hR.1) (Nat.le_trans hslots hR.2) hdg ?_
  intro q cA H1 hK1 hP1 hD1 hS1
  obtain rfl := ti_sameO C.2.2.2.2.1 ht hK1
  exact W.widen hcells hslots (kk q H1 hP1 hD1 hS1)
/-- a new object -/
theorem ti_nO {Cn : String} {T : u_T} {N ci idx : Nat} (ty : Nat → FieldType) (hty : ∀ k, k < N → parseFieldDescriptor (T k).2.2.1 = some (ty k)) (C : ti_CC p s m c args cc own nL D cy meth) (hin : ∀ w ∈ u_ws Cn T N, w ∈ lw_g) (hck : Cond.classLink own idx Cn ∈ lw_g) (his : Cond.instantiable Cn N ∈ lw_g) (hini : Cond.initialized Cn ∈ lw_g) (hcl : vwCl[ci]? = some (Cn, T, N)) (hP : va_P D vwCl ws H) (hD : va_D As ws) (hS : va_S As H0 H locs) (hA : ∀ q, H0.size ≤ q → As q)
    {fs : List Value} (hfs : ∀ j, j < N → defaultValue (ty j) = vp_V fs j) (k2 n2 : Nat) (hcells : cells + 1 ≤ k2) (hslots : slots + N ≤ n2) (hR : k2 ≤ R.cells ∧ n2 ≤ R.slots) (hdg : decode cc pc = .ok (.new idx, 3))
    (kk : ∀ (q : Nat) (H1 : Heap), va_P D vwCl (ws ++ [(q, .inr (ci, fs))]) H1 → va_D As (ws ++ [(q, .inr (ci, fs))]) → va_S As H0 H1 locs → W p l e R s m args below meth c H1 locs k2 n2 Q (F0 m (pc + 3) ls (.ref q :: rest))) : W p l e R s m args below meth c H locs cells slots Q (F0 m pc ls rest) := by
  refine va_new (ci := ci) (C := Cn) (T := T) (N := N) C.1 C.2.1 C.2.2.1 hin ty hty C.2.2.2.1 (C.2.2.1 _ hck) (C.2.2.1 _ his) (C.2.2.1 _ hini) C.2.2.2.2.1 hP hD hS hA hcl hfs (Nat.le_trans hcells hR.1) (Nat.le_trans hslots hR.2) hdg ?_
  intro q H1 hP1 hD1 hS1
  exact W.widen hcells hslots (kk q H1 hP1 hD1 hS1)
/-- a world with its last cell made a block -/
theorem ti_joinL {X blk : va_W} {q : Nat} {e0 : va_E} {H1 : Heap} (hP : va_P D vwCl (X ++ [(q, e0)]) H) (hD : va_D As (X ++ [(q, e0)])) (hk : ∀ z : Nat, z < H.size → ¬ va_A [(q, e0)] H.size z → H1[z]? = H[z]?) (hF : ∀ z, va_A [(q, e0)] H.size z → As z) (hP1 : va_P D vwCl blk H1) (hD1 : va_D (va_A [(q, e0)] H.size) blk) : va_P D vwCl (X ++ blk) H1 ∧ va_D As (X ++ blk) := by
  refine va_join (ws := X ++ [(q, e0)]) (wc := [(q, e0)]) (wr := X) hP hD [X.length] (List.range X.length) ?_ ?_ ?_ ?_ hk hF hP1 hD1
  · simp
  · apply List.ext_getElem?
    intro i
    simp only [List.getElem?_map]
    by_cases h : i < X.length
    · rw [List.getElem?_range h]
      simp only [Option.map_some, List.getElem?_append_left h, List.getElem?_eq_getElem h]
    · rw [List.getElem?_eq_none (by simpa using h), List.getElem?_eq_none (by simpa using h)]; rfl
  · exact ti_ndR X.length
  · intro i hi; simp only [List.mem_range] at hi; simp only [List.mem_singleton]; omega
/-- a constructor's call, of the last cell -/
theorem ti_callCx {y : MethodName} {cc2 : ByteArray} {n2 k2 mc ms q : Nat} {X : va_W} {e0 : va_E} {S : Type} {post : S → Prop} {blk : S → va_W} (C : ti_CC p s m c args cc own nL D cy meth) (hM : ti_Kc l y cc2 n2 k2 mc ms D cy q H.size e0 post blk)
    (hrun : ∀ (hp : PreS s H (ti_PcC D cy q H.size e0) [.ref q]), va_Run p l e R s m args below meth c H locs cells slots mc ms (F0 m pc ls (.ref q :: rest)) rest (va_Qv post (fun u t => va_P D vwCl (blk u) t.heap ∧ va_D (va_A [(q, e0)] H.size) (blk u)) (va_A [(q, e0)] H.size) (Value.ref q :: []).toArray) (va_A [(q, e0)] H.size))
    (hP : va_P D vwCl (X ++ [(q, e0)]) H) (hD : va_D As (X ++ [(q, e0)])) (hS : va_S As H0 H locs) (hA : ∀ q, H0.size ≤ q → As q) (k3 n3 : Nat) (hcells : cells + mc ≤ k3) (hslots : slots + ms ≤ n3)
    (kk : ∀ (u : S) (H1 : Heap) (locs1 : List Loc), post u → va_P D vwCl (X ++ blk u) H1 → va_D As (X ++ blk u) → va_S As H0 H1 locs1 → W p l e R s m args below meth c H1 locs1 k3 n3 Q (F0 m (pc + 3) ls rest)) : W p l e R s m args below meth c H locs cells slots Q (F0 m pc ls (.ref q :: rest)) := by
  have hF : ∀ z, va_A [(q, e0)] H.size z → As z := va_free (wc := [(q, e0)]) hD hS hA [X.length] (by simp)
  have hP0 : va_P D vwCl [(q, e0)] H := hP.sub (ws' := [(q, e0)]) [X.length] (by simp)
  refine va_callv (hrun ⟨ti_blindC, fun U hU hW => ⟨rfl, by rw [hU], by rw [hU]; exact hP0, va_K.moved hW.alike C.2.2.2.2.1, C.2.2.2.2.2.2.2.warm hW⟩⟩) hS (fun z _ h => hF z h) hF ?_
  intro u t H1 locs1 ht hvm hpo hB hz hk hS1
  rw [ht] at hB
  obtain ⟨hP2, hD2⟩ := ti_joinL hP hD hk hF hB.1 hB.2
  exact W.widen hcells hslots (kk u H1 locs1 hpo hP2 hD2 hS1)
theorem ti_callCN {y : MethodName} {cc2 : ByteArray} {n2 k2 mc ms idx q : Nat} {X : va_W} {e0 : va_E} {S : Type} {post : S → Prop} {blk : S → va_W} (C : ti_CC p s m c args cc own nL D cy meth) (hM : ti_Kc l y cc2 n2 k2 mc ms D cy q H.size e0 post blk) (hnl : va_Nw (.methodLinkNest own idx y "ThirdInLine") s) (hy : y.name = "<init>") (hm : Cond.instanceMethod y ∈ lw_g) (hi : Cond.initialized y.cls ∈ lw_g) (hc : Cond.code y cc2 n2 none ∈ lw_g) (hd : ti_Vd y 0)
    (hP : va_P D vwCl (X ++ [(q, e0)]) H) (hD : va_D As (X ++ [(q, e0)])) (hS : va_S As H0 H locs) (hA : ∀ q, H0.size ≤ q → As q) (hsz : ls.size = nL) (hrs : (rest.map fun v => v.category).sum ≤ 8) (hR : k2 + 1 ≤ R.frames ∧ 8 + (n2 + 11) + 60 * k2 ≤ R.locals) (k3 n3 : Nat) (hcells : cells + mc ≤ k3) (hslots : slots + ms ≤ n3) (hR2 : k3 ≤ R.cells ∧ n3 ≤ R.slots) (hdg : decode cc pc = .ok (.invokespecial idx, 3))
    (kk : ∀ (u : S) (H1 : Heap) (locs1 : List Loc), post u → va_P D vwCl (X ++ blk u) H1 → va_D As (X ++ blk u) → va_S As H0 H1 locs1 → W p l e R s m args below meth c H1 locs1 k3 n3 Q (F0 m (pc + 3) ls rest)) : W p l e R s m args below meth c H locs cells slots Q (F0 m pc ls (.ref q :: rest)) :=
  ti_callCx (n2 := n2) (k2 := k2) C hM (fun hp => va_runIN (As := []) (rest := rest) ⟨C.1, C.2.1, C.2.2.2.2.2.1, C.2.2.2.1, C.2.2.1⟩ hM ⟨va_cnB 0 C.2.2.1 (lw_g_good (fun w hw => (List.mem_cons.mp hw).elim (fun h => h ▸ hc) (fun h => h))) rfl rfl rfl hnl (C.2.2.1 _ hi) hd hR, hy, C.2.2.1 _ hm⟩ hp rfl rfl hsz rfl (lv_room hrs) hdg ⟨Nat.le_trans hcells hR2.1, Nat.le_trans hslots hR2.2⟩) hP hD hS hA k3 n3 hcells hslots kk
theorem ti_callCI {y : MethodName} {cc2 : ByteArray} {n2 k2 mc ms idx q : Nat} {X : va_W} {e0 : va_E} {S : Type} {post : S → Prop} {blk : S → va_W} (C : ti_CC p s m c args cc own nL D cy meth) (hM : ti_Kc l y cc2 n2 k2 mc ms D cy q H.size e0 post blk) (hml : Cond.methodLink own idx y ∈ lw_g) (hy : y.name = "<init>") (hm : Cond.instanceMethod y ∈ lw_g) (hi : Cond.initialized y.cls ∈ lw_g) (hc : Cond.code y cc2 n2 none ∈ lw_g) (hd : ti_Vd y 0)
    (hP : va_P D vwCl (X ++ [(q, e0)]) H) (hD : va_D As (X ++ [(q, e0)])) (hS : va_S As H0 H locs) (hA : ∀ q, H0.size ≤ q → As q) (hsz : ls.size = nL) (hrs : (rest.map fun v => v.category).sum ≤ 8) (hR : k2 + 1 ≤ R.frames ∧ 8 + (n2 + 11) + 60 * k2 ≤ R.locals) (k3 n3 : Nat) (hcells : cells + mc ≤ k3) (hslots : slots + ms ≤ n3) (hR2 : k3 ≤ R.cells ∧ n3 ≤ R.slots) (hdg : decode cc pc = .ok (.invokespecial idx, 3))
    (kk : ∀ (u : S) (H1 : Heap) (locs1 : List Loc), post u → va_P D vwCl (X ++ blk u) H1 → va_D As (X ++ blk u) → va_S As H0 H1 locs1 → W p l e R s m args below meth c H1 locs1 k3 n3 Q (F0 m (pc + 3) ls rest)) : W p l e R s m args below meth c H locs cells slots Q (F0 m pc ls (.ref q :: rest)) :=
  ti_callCx (n2 := n2) (k2 := k2) C hM (fun hp => va_runI (As := []) (rest := rest) ⟨C.1, C.2.1, C.2.2.2.2.2.1, C.2.2.2.1, C.2.2.1⟩ hM (cwI 0 C.2.2.1 (lw_g_good (fun w hw => (List.mem_cons.mp hw).elim (fun h => h ▸ hc) (fun h => h))) rfl rfl rfl (C.2.2.1 _ hi) (C.2.2.1 _ hml) (C.2.2.1 _ hm) hy hd hR) hp rfl rfl hsz rfl (lv_room hrs) hdg ⟨Nat.le_trans hcells hR2.1, Nat.le_trans hslots hR2.2⟩) hP hD hS hA k3 n3 hcells hslots kk
theorem ti_injD {Ls : List (Nat × Nat)} {A : Nat → Nat → Nat} {M : ti_M} (hD : va_D As (ti_W Ls A cy M)) : ti_inj Ls A := fun i j r r2 h1 h2 e => hD.1 i j _ _ (ti_W_at h1) (ti_W_at h2) e
theorem ti_DW {Ls : List (Nat × Nat)} {A : Nat → Nat → Nat} {M : ti_M} (M2 : ti_M) (hD : va_D As (ti_W Ls A cy M)) : va_D As (ti_W Ls A cy M2) := by
  refine ⟨(ti_W_D (ti_injD hD) cy M2).1, fun k q hk => ?_⟩
  simp only [ti_W, List.getElem?_map, Option.map_eq_some_iff] at hk
  obtain ⟨r, hr, rfl⟩ := hk
  have h1 := hD.2 k (A r.1 r.2, ti_G A cy M r.1 r.2) (ti_W_at hr)
  exact h1
theorem ti_AsD {Ls : List (Nat × Nat)} {A : Nat → Nat → Nat} {M : ti_M} (hD : va_D As (ti_W Ls A cy M)) : ∀ q, ti_As Ls A q → As q := by
  rintro q ⟨r, hr, rfl⟩
  obtain ⟨i, hi⟩ := List.getElem?_of_mem hr
  exact hD.2 i _ (ti_W_at hi)
/-- a method's call out of a constructor, all its world by roles -/
theorem ti_callCV {y : MethodName} {cc2 : ByteArray} {n2 k2 idx o ci : Nat} {av st : List Value} {post : ti_M → Prop} {T : u_T} {N : Nat} {Ls : List (Nat × Nat)} {A : Nat → Nat → Nat} {M : ti_M} (C : ti_CC p s m c args cc own nL D cy meth) (hN : Ls.Nodup)
    (hM : ti_inj Ls A → ti_Kv l y cc2 n2 k2 Ls D A cy M (.ref (A o 0) :: av) post) (hV : ti_V own idx y cc2 n2 none) (hd : ti_Vd y av.length) (hob : ti_ob Ls o ci) (hj : 0 ∈ ti_parts ci) (hcl : vwCl[ci]? = some (y.cls, T, N)) (hst : st = av.reverse ++ .ref (A o 0) :: rest) (hP : va_P D vwCl (ti_W Ls A cy M) H) (hD : va_D As (ti_W Ls A cy M)) (hS : va_S As H0 H locs) (hsz : ls.size = nL) (hrs : (rest.map fun v => v.category).sum ≤ 8) (hR : k2 + 1 ≤ R.frames ∧ 8 + (n2 + 11) + 60 * k2 ≤ R.locals) (hcs : cells ≤ R.cells ∧ slots ≤ R.slots) (hdg : decode cc pc = .ok (.invokevirtual idx, 3))
    (kk : ∀ (M2 : ti_M) (H1 : Heap) (locs1 : List Loc), post M2 → va_P D vwCl (ti_W Ls A cy M2) H1 → va_D As (ti_W Ls A cy M2) → va_S As H0 H1 locs1 → W p l e R s m args below meth c H1 locs1 cells slots Q (F0 m (pc + 3) ls rest)) : W p l e R s m args below meth c H locs cells slots Q (F0 m pc ls st) := by
  subst hst
  have hJ := ti_injD hD
  have C2 : ti_C p s m c args cc own nL D cy Ls A := ⟨C.1, C.2.1, C.2.2.1, C.2.2.2.1, C.2.2.2.2.1, C.2.2.2.2.2.1, hJ, hN⟩
  have hw : ti_H Ls D A cy H M H [] := ⟨hP, va_S.rf⟩
  refine va_callv (va_runV (As := av) (rest := rest) ⟨C.1, C.2.1, C.2.2.2.2.2.1, C.2.2.2.1, C.2.2.1⟩ (hM hJ) (ti_cwV C2 hV hd hR) ⟨ti_blind, ti_recv C2 hw hob hj hcl, ti_pre C2 hw⟩ rfl rfl hsz rfl (lv_room hrs) hdg ⟨hcs.1, hcs.2⟩) hS (fun q _ h => ti_AsD hD q h) (ti_AsD hD) ?_
  intro u t H1 locs1 ht hvm hpo hB hz hk hS1
  exact kk u H1 locs1 hpo (by rw [← ht]; exact hB) (ti_DW u hD) hS1
end

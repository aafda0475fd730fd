variable {Tc : gC} {Tm : gM}
/-! String constants: what charAt stands on -/
def tx_s (a v n : Nat) (f : Nat → Int32) (A : Nat → Prop) (U : State) (H : Heap) : Prop := va_O RJ0 a A U H ∧ va_OF RJ0 "coder" "B" (.int 0) a A U H ∧ va_OF RJ0 "value" "[B" (.ref v) a A U H ∧ va_T .byte v n (fun j => .int (f j)) A U H
def tx_g (A : Nat → Prop) (U : State) (H : Heap) : Prop := va_Z RJ0 "COMPACT_STRINGS" "Z" (.int 1) A U H ∧ va_Zq RJ3 "SIOOBE_FORMATTER" "Ljava/util/function/BiFunction;" A U H
theorem tx_s.moved {a v n : Nat} {f : Nat → Int32} {A : Nat → Prop} {u U : State} {H : Heap} (hvm : u.vm.Alike U.vm) (h : tx_s a v n f A u H) : tx_s a v n f A U H := ⟨va_O.moved hvm h.1, va_OF.moved hvm h.2.1, va_OF.moved hvm h.2.2.1, va_T.moved hvm h.2.2.2⟩
theorem tx_s.kept {a v n : Nat} {f : Nat → Int32} {A : Nat → Prop} {U : State} {H H1 : Heap} (h : tx_s a v n f A U H) (hq : ∀ a : Nat, a < H.size → ¬ A a → H1[a]? = H[a]?) : tx_s a v n f A U H1 := ⟨h.1.kept hq, h.2.1.kept hq, h.2.2.1.kept hq, h.2.2.2.kept hq⟩
theorem tx_s.narrow {a v n : Nat} {f : Nat → Int32} {A B : Nat → Prop} {U : State} {H : Heap} (h : tx_s a v n f A U H) (hAB : ∀ q, B q → A q) : tx_s a v n f B U H := ⟨h.1.narrow hAB, h.2.1.narrow hAB, h.2.2.1.narrow hAB, h.2.2.2.narrow hAB⟩
theorem tx_g.moved {A : Nat → Prop} {u U : State} {H : Heap} (hvm : u.vm.Alike U.vm) (h : tx_g A u H) : tx_g A U H := ⟨va_Z.moved hvm h.1, va_Zq.moved hvm h.2⟩
theorem tx_g.kept {A : Nat → Prop} {U : State} {H H1 : Heap} (h : tx_g A U H) (hq : ∀ a : Nat, a < H.size → ¬ A a → H1[a]? = H[a]?) : tx_g A U H1 := ⟨h.1.kept hq, h.2.kept hq⟩
theorem tx_g.narrow {A B : Nat → Prop} {U : State} {H : Heap} (h : tx_g A U H) (hAB : ∀ q, B q → A q) : tx_g B U H := ⟨h.1.narrow hAB, h.2.narrow hAB⟩
/-- a method that leaves the heap as it is -/
def tx_K (l : Launch) (y : MethodName) (cc : ByteArray) (n : Nat) (ret : Option FieldType) (k : Nat) (E : State → Prop) (av : List Value) (post : Int32 → Prop) : Prop :=
  Met l y (.code y cc n ret :: lw_g) (ti_rm k) (va_Pc av E) (va_Qi (fun r (_ : Unit) => post r) (fun _ _ => True) (fun _ => False)) 0 0 (fun _ => False)
def tx_Kv (l : Launch) (y : MethodName) (cc : ByteArray) (n : Nat) (k : Nat) (E : State → Prop) (av : List Value) : Prop :=
  Met l y (.code y cc n none :: lw_g) (ti_rm k) (va_Pc av E) (va_Qv (fun (_ : Unit) => True) (fun _ _ => True) (fun _ => False)) 0 0 (fun _ => False)
def tx_C (p : Program) (s : State) (m : MethodId) (c : Code) (args : Array Value) (cc : ByteArray) (own : String) (nL : Nat) : Prop := p.tables.exec = Jvm.exec ∧ c.code = cc ∧ (∀ w ∈ lw_g, w.before args s = true) ∧ s.vm.findClass own = some m.cls ∧ c.maxLocals = nL
section
variable {p : Program} {l : Launch} {e : Env} {R : Room} {s : State} {m : MethodId} {args : Array Value} {below : List Frame} {meth : Method} {c : Code} {H : Heap} {locs : List Loc} {cells slots : Nat} {Q : State → Prop} {pc : Nat} {ls : Array Slot} {rest : List Value} {cc : ByteArray} {own : String} {nL : Nat} {E : State → Prop}
theorem tx_enter {y : MethodName} {n k : Nat} {ret : Option FieldType} {av : List Value} {post : Int32 → Prop} (hy : plainName y.cls = true) (hav : (lg_sl av).length ≤ n)
    (body : ∀ (p : Program) (e : Env) (s : State) (m : MethodId) (below : List Frame) (meth : Method) (c : Code), tx_C p s m c av.toArray cc y.cls n → meth.sig.returnType = ret → meth.locks = false → E s → ∀ ls : Array Slot, lv_has ls n (lv_args 0 av) →
      W p l e (ti_rm k) s m av.toArray below meth c s.heap [] 0 0 (MQ below (va_Qi (fun r (_ : Unit) => post r) (fun _ _ => True) (fun _ => False)) av.toArray s 0 0 (fun _ => False)) (F0 m 0 ls [])) : tx_K l y cc n ret k E av post := by
  refine Met.ofW (cc := cc) (maxL := n) (ret := ret) hy rfl ?_
  intro p e s m args below meth c s₁ B hml hv
  obtain ⟨rfl, hE⟩ := hv
  rw [lg_entry_eq]
  exact body p e s m below meth c ⟨B.exec, B.bytes, fun w h => atoms_spec (ws := .code y cc n ret :: lw_g) B.pre w (List.mem_cons_of_mem _ h), findClass_of_methodNamed B.named, hml⟩ B.returns B.notSynchronized hE _ (lv_entry av hav)
theorem tx_enterv {y : MethodName} {n k : Nat} {av : List Value} (hy : plainName y.cls = true) (hav : (lg_sl av).length ≤ n)
    (body : ∀ (p : Program) (e : Env) (s : State) (m : MethodId) (below : List Frame) (meth : Method) (c : Code), tx_C p s m c av.toArray cc y.cls n → meth.sig.returnType = none → meth.locks = false → E s → ∀ ls : Array Slot, lv_has ls n (lv_args 0 av) →
      W p l e (ti_rm k) s m av.toArray below meth c s.heap [] 0 0 (MQ below (va_Qv (fun (_ : Unit) => True) (fun _ _ => True) (fun _ => False)) av.toArray s 0 0 (fun _ => False)) (F0 m 0 ls [])) : tx_Kv l y cc n k E av := by
  refine Met.ofW (cc := cc) (maxL := n) (ret := none) hy rfl ?_
  intro p e s m args below meth c s₁ B hml hv
  obtain ⟨rfl, hE⟩ := hv
  rw [lg_entry_eq]
  exact body p e s m below meth c ⟨B.exec, B.bytes, fun w h => atoms_spec (ws := .code y cc n none :: lw_g) B.pre w (List.mem_cons_of_mem _ h), findClass_of_methodNamed B.named, hml⟩ B.returns B.notSynchronized hE _ (lv_entry av hav)
theorem tx_ret {post : Int32 → Prop} {v : Int32} {ty : FieldType} (C : tx_C p s m c args cc own nL) (hr : meth.sig.returnType = some ty) (hlk : meth.locks = false) (hS : va_S (fun _ => False) s.heap H locs) (hn : narrow ty (.int v) = .int v) (hq : post v) (hdg : decode cc pc = .ok (.ireturn, 1)) :
    W p l e R s m args below meth c H locs 0 0 (MQ below (va_Qi (fun r (_ : Unit) => post r) (fun _ _ => True) (fun _ => False)) args s 0 0 (fun _ => False)) (F0 m pc ls [.int v]) :=
  W.zret C.1 C.2.1 hr hn (fun t ht _ => ⟨⟨v, (), rfl, hq, trivial⟩, hS.F ht⟩) hS.2.2 hdg hlk
theorem tx_retv (C : tx_C p s m c args cc own nL) (hr : meth.sig.returnType = none) (hlk : meth.locks = false) (hS : va_S (fun _ => False) s.heap H locs) (hdg : decode cc pc = .ok (.return_, 1)) :
    W p l e R s m args below meth c H locs 0 0 (MQ below (va_Qv (fun (_ : Unit) => True) (fun _ _ => True) (fun _ => False)) args s 0 0 (fun _ => False)) (F0 m pc ls []) :=
  W.vret C.1 C.2.1 hr (fun t ht _ => ⟨⟨(), rfl, trivial, trivial⟩, hS.F ht⟩) hS.2.2 hdg hlk
theorem tx_gV {y : MethodName} {cc2 : ByteArray} {n2 idx : Nat} {ret : Option FieldType} (hV : ti_V own idx y cc2 n2 ret) : GoodIn lw_g (wsV own idx y.cls y (.code y cc2 n2 ret :: lw_g)) := by
  refine lw_g_good ?_
  intro w hw
  simp only [wsV, List.cons_append, List.nil_append, List.mem_cons] at hw
  rcases hw with rfl | rfl | rfl | rfl | rfl | hw
  · exact hV.1
  · exact hV.2.1
  · exact hV.2.2.1
  · exact hV.2.2.2.1
  · exact hV.2.2.2.2
  · exact hw
theorem tx_gS {y : MethodName} {cc2 : ByteArray} {n2 idx : Nat} {ret : Option FieldType} (hV : ti_Vs own idx y cc2 n2 ret) : GoodIn lw_g (.code y cc2 n2 ret :: lw_g) := lw_g_good (fun w hw => (List.mem_cons.mp hw).elim (fun h => h ▸ hV.2.2.2) (fun h => h))
end
def tx_Fb (E : State → Prop) : Prop := ∀ (U : State) (g : JFrame) (mk : MethodId) (a : Array Value), E U → E (U.calling g mk a)
theorem tx_fb {E : State → Prop} (h : tx_Fb E) {av : List Value} : FrameBlind (va_Pc av E) := fun a U g mk q => ⟨q.1, h U g mk a q.2⟩
/-! Preconditions.checkIndex, the index within -/
set_option maxHeartbeats 4000000 in
theorem x_J3_checkIndex (l : Launch) (i n : Int32) (z : Value) (hz : z.category = 1) (h1 : 0 ≤ i.toInt) (h2 : i.toInt < n.toInt) : tx_K l yJ3_checkIndex_8e157 cJ3_checkIndex_8e157 3 (some .int) 0 (fun _ => True) [.int i, .int n, z] (fun r => r = i) := by
  have hlen : (lg_sl [.int i, .int n, z]).length ≤ 3 := by
    cases z <;> first | exact Nat.le_of_ble_eq_true rfl | cases hz
  refine tx_enter yp_J3_checkIndex_8e157 hlen ?_
  intro p e s m below meth c C hr hlk _ ls hl
  have hx := C.1
  have hb := C.2.1
  have hl : lv_has ls 3 [(0, .int i), (1, .int n), (2, z)] := by cases z <;> first | exact hl | cases hz
  refine lv_iload_n hx hb dJ3_checkIndex_8e157_0 rfl (lv_at hl 0 rfl) ?_
  refine sb_if_lt (tgt := 9) hx hb rfl dJ3_checkIndex_8e157_1 (by decide) (fun h => by omega) (fun _ => ?_)
  refine lv_iload_n hx hb dJ3_checkIndex_8e157_4 rfl (lv_at hl 0 rfl) ?_
  refine lv_iload_n hx hb dJ3_checkIndex_8e157_5 rfl (lv_at hl 1 rfl) ?_
  refine sb_icmp_lt (tgt := 16) hx hb rfl rfl dJ3_checkIndex_8e157_6 (by decide) (fun _ => ?_) (fun h => by omega)
  refine lv_iload_n hx hb dJ3_checkIndex_8e157_16 rfl (lv_at hl 0 rfl) ?_
  exact tx_ret C hr hlk va_S.rf rfl rfl dJ3_checkIndex_8e157_17
def tx_G (U : State) : Prop := tx_g (fun _ => False) U U.heap
theorem tx_Gb : tx_Fb tx_G := fun U _ _ _ h => tx_g.moved (u := U) (Vm.Alike.refl U.vm) h
set_option maxHeartbeats 4000000 in
theorem x_J0_checkIndex (l : Launch) (i n : Int32) (h1 : 0 ≤ i.toInt) (h2 : i.toInt < n.toInt) : tx_Kv l yJ0_checkIndex_df160 cJ0_checkIndex_df160 2 1 tx_G [.int i, .int n] := by
  refine tx_enterv yp_J0_checkIndex_df160 (Nat.le_of_ble_eq_true rfl) ?_
  intro p e s m below meth c C hr hlk hG ls hl
  have hx := C.1
  have hb := C.2.1
  have hl : lv_has ls 2 [(0, .int i), (1, .int n)] := hl
  have go : ∀ z : Value, z.category = 1 → W p l e (ti_rm 1) s m [Value.int i, Value.int n].toArray below meth c s.heap [] 0 0 (MQ below (va_Qv (fun (_ : Unit) => True) (fun _ _ => True) (fun _ => False)) [Value.int i, Value.int n].toArray s 0 0 (fun _ => False)) (F0 m 5 ls [z, .int n, .int i]) := by
    intro z hz
    refine va_calli (va_runS (As := [.int i, .int n, z]) (rest := []) ⟨hx, hb, C.2.2.2.2, C.2.2.2.1, C.2.2.1⟩ (x_J3_checkIndex l i n z hz h1 h2) ⟨callB_of 3 C.2.2.1 (tx_gS (own := RJ0) (idx := 1059) ⟨ml_J0_1059, ys_J3_checkIndex_8e157, yi_J3_checkIndex_8e157, yc_J3_checkIndex_8e157⟩) rfl rfl rfl (C.2.2.1 _ yi_J3_checkIndex_8e157) (C.2.2.1 _ ml_J0_1059) yd_J3_checkIndex_8e157 ⟨by decide, by decide⟩, C.2.2.1 _ ys_J3_checkIndex_8e157⟩ ⟨tx_fb (fun _ _ _ _ _ => trivial), fun U hU hW => ⟨rfl, trivial⟩⟩ rfl rfl hl.1 rfl (lv_room (Nat.le_of_ble_eq_true rfl)) dJ0_checkIndex_df160_5 ⟨Nat.zero_le _, Nat.zero_le _⟩) (va_S.rf (A := fun _ => False)) (fun q _ h => h) (fun q h => h) ?_
    intro r u t H1 locs1 ht hvm hpo hB hz1 hk hS
    refine lv_pop hx hb dJ0_checkIndex_df160_8 rfl ?_
    exact tx_retv C hr hlk hS dJ0_checkIndex_df160_9
  refine lv_iload_n hx hb dJ0_checkIndex_df160_0 rfl (lv_at hl 0 rfl) ?_
  refine lv_iload_n hx hb dJ0_checkIndex_df160_1 rfl (lv_at hl 1 rfl) ?_
  rcases hG.2 with hZ | ⟨t, hZ⟩
  · refine va_gets hx hb hZ va_S.rf C.2.2.2.1 (C.2.2.1 _ fl_J0_1053) (fun _ h => h) dJ0_checkIndex_df160_2 ?_
    exact go .null rfl
  · refine va_gets hx hb hZ va_S.rf C.2.2.2.1 (C.2.2.1 _ fl_J0_1053) (fun _ h => h) dJ0_checkIndex_df160_2 ?_
    exact go (.ref t) rfl
def tx_T (v n : Nat) (f : Nat → Int32) (U : State) : Prop := tx_G U ∧ va_T .byte v n (fun j => .int (f j)) (fun _ => False) U U.heap
theorem tx_Tb {v n : Nat} {f : Nat → Int32} : tx_Fb (tx_T v n f) := fun U g mk a h => ⟨tx_Gb U g mk a h.1, va_T.moved (u := U) (Vm.Alike.refl U.vm) h.2⟩
set_option maxHeartbeats 4000000 in
theorem x_J1_charAt (l : Launch) (v n : Nat) (f : Nat → Int32) (hn : n < 2 ^ 31) (i : Int32) (h1 : 0 ≤ i.toInt) (h2 : i.toInt < n) : tx_K l yJ1_charAt_3b067 cJ1_charAt_3b067 2 (some .char) 2 (tx_T v n f) [.ref v, .int i] (fun r => r = f i.toNatClampNeg &&& 255) := by
  refine tx_enter yp_J1_charAt_3b067 (Nat.le_of_ble_eq_true rfl) ?_
  intro p e s m below meth c C hr hlk hE ls hl
  have hx := C.1
  have hb := C.2.1
  have hl : lv_has ls 2 [(0, .ref v), (1, .int i)] := hl
  have hnI : (Int32.ofNat n).toInt = n := nI_toInt hn
  refine lv_iload_n hx hb dJ1_charAt_3b067_0 rfl (lv_at hl 1 rfl) ?_
  refine lv_aload_n hx hb dJ1_charAt_3b067_1 rfl (lv_at hl 0 rfl) ?_
  refine va_tlen hx hb hE.2 va_S.rf rfl dJ1_charAt_3b067_2 ?_
  refine va_callv (va_runS (As := [.int i, .int (Int32.ofNat n)]) (rest := []) ⟨hx, hb, C.2.2.2.2, C.2.2.2.1, C.2.2.1⟩ (x_J0_checkIndex l i (Int32.ofNat n) h1 (by rw [hnI]; exact h2)) ⟨callB_of 2 C.2.2.1 (tx_gS (own := RJ1) (idx := 9) ⟨ml_J1_9, ys_J0_checkIndex_df160, yi_J0_checkIndex_df160, yc_J0_checkIndex_df160⟩) rfl rfl rfl (C.2.2.1 _ yi_J0_checkIndex_df160) (C.2.2.1 _ ml_J1_9) yd_J0_checkIndex_df160 ⟨by decide, by decide⟩, C.2.2.1 _ ys_J0_checkIndex_df160⟩ ⟨tx_fb tx_Gb, fun U hU hW => ⟨rfl, by unfold tx_G; rw [hU]; exact tx_g.moved hW.alike hE.1⟩⟩ rfl rfl hl.1 rfl (lv_room (Nat.le_of_ble_eq_true rfl)) dJ1_charAt_3b067_3 ⟨Nat.zero_le _, Nat.zero_le _⟩) (va_S.rf (A := fun _ => False)) (fun q _ h => h) (fun q h => h) ?_
  intro u t H1 locs1 ht hvm hpo hB hz hk hS
  refine lv_aload_n hx hb dJ1_charAt_3b067_6 rfl (lv_at hl 0 rfl) ?_
  refine lv_iload_n hx hb dJ1_charAt_3b067_7 rfl (lv_at hl 1 rfl) ?_
  refine va_tb hx hb hE.2 hS (vp_in_iff.mpr ⟨h1, h2⟩) rfl dJ1_charAt_3b067_8 ?_
  refine lv_sipush (v := 255) hx hb dJ1_charAt_3b067_9 (by decide) ?_
  refine lv_iand hx hb dJ1_charAt_3b067_12 ?_
  refine lv_i2c (v := f i.toNatClampNeg &&& 255) hx hb dJ1_charAt_3b067_13 (sc_c2 _) ?_
  exact tx_ret C hr hlk hS (sc_nar _) rfl dJ1_charAt_3b067_14
def tx_Q (a v n : Nat) (f : Nat → Int32) (U : State) : Prop := tx_G U ∧ tx_s a v n f (fun _ => False) U U.heap
theorem tx_Qb {a v n : Nat} {f : Nat → Int32} : tx_Fb (tx_Q a v n f) := fun U g mk b h => ⟨tx_Gb U g mk b h.1, tx_s.moved (u := U) (Vm.Alike.refl U.vm) h.2⟩
set_option maxHeartbeats 4000000 in
theorem x_J0_isLatin1 (l : Launch) (a v n : Nat) (f : Nat → Int32) : tx_K l yJ0_isLatin1_aae02 cJ0_isLatin1_aae02 1 (some .boolean) 0 (tx_Q a v n f) [.ref a] (fun r => r = 1) := by
  refine tx_enter yp_J0_isLatin1_aae02 (Nat.le_of_ble_eq_true rfl) ?_
  intro p e s m below meth c C hr hlk hE ls hl
  have hx := C.1
  have hb := C.2.1
  have hl : lv_has ls 1 [(0, .ref a)] := hl
  refine va_gets hx hb hE.1.1 va_S.rf C.2.2.2.1 (C.2.2.1 _ fl_J0_38) (fun _ h => h) dJ0_isLatin1_aae02_0 ?_
  refine sb_if_eq (tgt := 17) hx hb (by decide : (1 : Int32).toInt = 1) dJ0_isLatin1_aae02_3 (by decide) (fun h => absurd h (by decide)) (fun _ => ?_)
  refine lv_aload_n hx hb dJ0_isLatin1_aae02_6 rfl (lv_at hl 0 rfl) ?_
  refine vk_getf hx hb hE.2.2.1 va_S.rf C.2.2.2.1 (C.2.2.1 _ fl_J0_15) (fun _ h => h) dJ0_isLatin1_aae02_7 ?_
  refine sb_if_ne (tgt := 17) hx hb (by decide : (0 : Int32).toInt = 0) dJ0_isLatin1_aae02_10 (by decide) (fun h => absurd rfl h) (fun _ => ?_)
  refine lv_iconst (v := 1) hx hb dJ0_isLatin1_aae02_13 (by decide) ?_
  refine lv_goto (tgt := 18) hx hb dJ0_isLatin1_aae02_14 (by decide) ?_
  exact tx_ret C hr hlk va_S.rf rfl rfl dJ0_isLatin1_aae02_18
set_option maxHeartbeats 4000000 in
theorem x_J0_charAt (l : Launch) (a v n : Nat) (f : Nat → Int32) (hn : n < 2 ^ 31) (i : Int32) (h1 : 0 ≤ i.toInt) (h2 : i.toInt < n) : tx_K l yJ0_charAt_5068e cJ0_charAt_5068e 2 (some .char) 3 (tx_Q a v n f) [.ref a, .int i] (fun r => r = f i.toNatClampNeg &&& 255) := by
  refine tx_enter yp_J0_charAt_5068e (Nat.le_of_ble_eq_true rfl) ?_
  intro p e s m below meth c C hr hlk hE ls hl
  have hx := C.1
  have hb := C.2.1
  have hl : lv_has ls 2 [(0, .ref a), (1, .int i)] := hl
  refine lv_aload_n hx hb dJ0_charAt_5068e_0 rfl (lv_at hl 0 rfl) ?_
  refine va_calli (va_runV (As := []) (rest := []) ⟨hx, hb, C.2.2.2.2, C.2.2.2.1, C.2.2.1⟩ (x_J0_isLatin1 l a v n f) (cwV 0 C.2.2.1 (tx_gV (own := RJ0) (idx := 492) ⟨ml_J0_492, ym_J0_isLatin1_aae02, yv_J0_isLatin1_aae02, yi_J0_isLatin1_aae02, yc_J0_isLatin1_aae02⟩) rfl rfl rfl ⟨rfl, yd_J0_isLatin1_aae02⟩ ⟨by decide, by decide⟩) ⟨tx_fb tx_Qb, (by obtain ⟨cell, q1, q2, q3, -⟩ := hE.2.1; exact ⟨cell, q1, q2, q3⟩), fun U hU hW => ⟨rfl, by unfold tx_Q tx_G; rw [hU]; exact ⟨tx_g.moved hW.alike hE.1, tx_s.moved hW.alike hE.2⟩⟩⟩ rfl rfl hl.1 rfl (lv_room (Nat.le_of_ble_eq_true rfl)) dJ0_charAt_5068e_1 ⟨Nat.zero_le _, Nat.zero_le _⟩) (va_S.rf (A := fun _ => False)) (fun q _ h => h) (fun q h => h) ?_
  intro r u t H1 locs1 ht hvm hpo hB hz hk hS
  obtain rfl : r = 1 := hpo
  refine sb_if_eq (tgt := 16) hx hb (by decide : (1 : Int32).toInt = 1) dJ0_charAt_5068e_4 (by decide) (fun h => absurd h (by decide)) (fun _ => ?_)
  refine lv_aload_n hx hb dJ0_charAt_5068e_7 rfl (lv_at hl 0 rfl) ?_
  refine vk_getf hx hb hE.2.2.2.1 hS C.2.2.2.1 (C.2.2.1 _ fl_J0_9) (fun _ h => h) dJ0_charAt_5068e_8 ?_
  refine lv_iload_n hx hb dJ0_charAt_5068e_11 rfl (lv_at hl 1 rfl) ?_
  refine va_calli (va_runS (As := [.ref v, .int i]) (rest := []) ⟨hx, hb, C.2.2.2.2, C.2.2.2.1, C.2.2.1⟩ (x_J1_charAt l v n f hn i h1 h2) ⟨callB_of 2 C.2.2.1 (tx_gS (own := RJ0) (idx := 495) ⟨ml_J0_495, ys_J1_charAt_3b067, yi_J1_charAt_3b067, yc_J1_charAt_3b067⟩) rfl rfl rfl (C.2.2.1 _ yi_J1_charAt_3b067) (C.2.2.1 _ ml_J0_495) yd_J1_charAt_3b067 ⟨by decide, by decide⟩, C.2.2.1 _ ys_J1_charAt_3b067⟩ ⟨tx_fb tx_Tb, fun U hU hW => ⟨rfl, by unfold tx_T tx_G; rw [hU]; exact ⟨tx_g.kept (tx_g.moved hW.alike hE.1) hS.2.1, (va_T.moved hW.alike hE.2.2.2.2).kept hS.2.1⟩⟩⟩ rfl rfl hl.1 rfl (lv_room (Nat.le_of_ble_eq_true rfl)) dJ0_charAt_5068e_12 ⟨Nat.zero_le _, Nat.zero_le _⟩) hS (fun q _ h => h) (fun q h => h) ?_
  intro r2 u2 t2 H2 locs2 ht2 hvm2 hpo2 hB2 hz2 hk2 hS2
  obtain rfl : r2 = f i.toNatClampNeg &&& 255 := hpo2
  exact tx_ret C hr hlk hS2 (sc_nar _) rfl dJ0_charAt_5068e_15
abbrev tx_c : String := "man   guard power well  leviesear   mutterseed  law   crown judge tax   levy  wear  need  yes   age   far   bucketcoin  place wait  and   or    not   "
abbrev tx_m : String := "man guard power well levies ear mutter seed law yes crown judge tax levy wear need or and not age far bucket coin place wait "
def tx_cb : List Int32 := [109, 97, 110, 32, 32, 32, 103, 117, 97, 114, 100, 32, 112, 111, 119, 101, 114, 32, 119, 101, 108, 108, 32, 32, 108, 101, 118, 105, 101, 115, 101, 97, 114, 32, 32, 32, 109, 117, 116, 116, 101, 114, 115, 101, 101, 100, 32, 32, 108, 97, 119, 32, 32, 32, 99, 114, 111, 119, 110, 32, 106, 117, 100, 103, 101, 32, 116, 97, 120, 32, 32, 32, 108, 101, 118, 121, 32, 32, 119, 101, 97, 114, 32, 32, 110, 101, 101, 100, 32, 32, 121, 101, 115, 32, 32, 32, 97, 103, 101, 32, 32, 32, 102, 97, 114, 32, 32, 32, 98, 117, 99, 107, 101, 116, 99, 111, 105, 110, 32, 32, 112, 108, 97, 99, 101, 32, 119, 97, 105, 116, 32, 32, 97, 110, 100, 32, 32, 32, 111, 114, 32, 32, 32, 32, 110, 111, 116, 32, 32, 32]
def tx_mb : List Int32 := [109, 97, 110, 32, 103, 117, 97, 114, 100, 32, 112, 111, 119, 101, 114, 32, 119, 101, 108, 108, 32, 108, 101, 118, 105, 101, 115, 32, 101, 97, 114, 32, 109, 117, 116, 116, 101, 114, 32, 115, 101, 101, 100, 32, 108, 97, 119, 32, 121, 101, 115, 32, 99, 114, 111, 119, 110, 32, 106, 117, 100, 103, 101, 32, 116, 97, 120, 32, 108, 101, 118, 121, 32, 119, 101, 97, 114, 32, 110, 101, 101, 100, 32, 111, 114, 32, 97, 110, 100, 32, 110, 111, 116, 32, 97, 103, 101, 32, 102, 97, 114, 32, 98, 117, 99, 107, 101, 116, 32, 99, 111, 105, 110, 32, 112, 108, 97, 99, 101, 32, 119, 97, 105, 116, 32]
/-- the two texts that are asked sign by sign -/
def tx_E (A : Nat → Prop) (U : State) (H : Heap) : Prop := (∃ a v : Nat, vk_R RX7 68 tx_c a U ∧ tx_s a v 150 (fun j => tx_cb.getD j 0) A U H) ∧ (∃ a v : Nat, vk_R RX10 197 tx_m a U ∧ tx_s a v 125 (fun j => tx_mb.getD j 0) A U H) ∧ tx_g A U H
theorem tx_E.moved {A : Nat → Prop} {s U : State} {H H1 : Heap} (hW : s.WarmedH U.vm) (hq : ∀ a : Nat, a < H.size → ¬ A a → H1[a]? = H[a]?) (h : tx_E A s H) : tx_E A U H1 := by
  obtain ⟨⟨a, v, h1, h2⟩, ⟨b, w, h3, h4⟩, h5⟩ := h
  exact ⟨⟨a, v, h1.warm hW, (h2.moved hW.alike).kept hq⟩, ⟨b, w, h3.warm hW, (h4.moved hW.alike).kept hq⟩, (h5.moved hW.alike).kept hq⟩
theorem tx_E.call {A : Nat → Prop} {U : State} {H : Heap} {g : JFrame} {mk : MethodId} {a : Array Value} (h : tx_E A U H) : tx_E A (U.calling g mk a) H := by
  obtain ⟨⟨a, v, h1, h2⟩, ⟨b, w, h3, h4⟩, h5⟩ := h
  exact ⟨⟨a, v, vk_R.same (u := U) rfl h1, tx_s.moved (u := U) (Vm.Alike.refl U.vm) h2⟩, ⟨b, w, vk_R.same (u := U) rfl h3, tx_s.moved (u := U) (Vm.Alike.refl U.vm) h4⟩, tx_g.moved (u := U) (Vm.Alike.refl U.vm) h5⟩
theorem tx_E.narrow {A B : Nat → Prop} {U : State} {H : Heap} (h : tx_E A U H) (hAB : ∀ q, B q → A q) : tx_E B U H := by
  obtain ⟨⟨a, v, h1, h2⟩, ⟨b, w, h3, h4⟩, h5⟩ := h
  exact ⟨⟨a, v, h1, h2.narrow hAB⟩, ⟨b, w, h3, h4.narrow hAB⟩, h5.narrow hAB⟩
def ti_PcE (Ls : List (Nat × Nat)) (D : va_G) (A : Nat → Nat → Nat) (cy : Nat → ClassId) (M : ti_M) (av : List Value) : Array Value → State → Prop := va_Pc av (fun U => va_P D vwCl (ti_W Ls A cy M) U.heap ∧ va_K D vwCl (ti_ty cy) U ∧ tx_E (ti_As Ls A) U U.heap)
def ti_KiE (l : Launch) (y : MethodName) (cc : ByteArray) (n : Nat) (ret : Option FieldType) (k : Nat) (Ls : List (Nat × Nat)) (D : va_G) (A : Nat → Nat → Nat) (cy : Nat → ClassId) (M : ti_M) (av : List Value) (post : Int32 → ti_M → Prop) : Prop :=
  Met l y (.code y cc n ret :: lw_g) (ti_rm k) (ti_PcE Ls D A cy M av) (va_Qi post (ti_B Ls D A cy) (ti_As Ls A)) 0 0 (ti_As Ls A)
def ti_KlE (l : Launch) (y : MethodName) (cc : ByteArray) (n : Nat) (ret : Option FieldType) (k : Nat) (Ls : List (Nat × Nat)) (D : va_G) (A : Nat → Nat → Nat) (cy : Nat → ClassId) (M : ti_M) (av : List Value) (post : Int64 → ti_M → Prop) : Prop :=
  Met l y (.code y cc n ret :: lw_g) (ti_rm k) (ti_PcE Ls D A cy M av) (va_Ql post (ti_B Ls D A cy) (ti_As Ls A)) 0 0 (ti_As Ls A)
def ti_KvE (l : Launch) (y : MethodName) (cc : ByteArray) (n : Nat) (k : Nat) (Ls : List (Nat × Nat)) (D : va_G) (A : Nat → Nat → Nat) (cy : Nat → ClassId) (M : ti_M) (av : List Value) (post : ti_M → Prop) : Prop :=
  Met l y (.code y cc n none :: lw_g) (ti_rm k) (ti_PcE Ls D A cy M av) (va_Qv post (ti_B Ls D A cy) (ti_As Ls A)) 0 0 (ti_As Ls A)
section
variable {p : Program} {l : Launch} {e : Env} {R : Room} {s : State} {m : MethodId} {args : Array Value} {below : List Frame} {meth : Method} {c : Code} {H H0 : Heap} {locs : List Loc} {cells slots : Nat} {Q : State → Prop} {pc : Nat} {ls : Array Slot} {rest : List Value} {cc : ByteArray} {own : String} {nL : Nat} {D : va_G} {cy : Nat → ClassId} {Ls : List (Nat × Nat)} {A : Nat → Nat → Nat} {M : ti_M}
theorem ti_blindE {av : List Value} : FrameBlind (ti_PcE Ls D A cy M av) := fun a U g mk q => ⟨q.1, q.2.1, va_K.moved (u := U) (U := U.calling g mk a) (Vm.Alike.refl U.vm) q.2.2.1, q.2.2.2.call⟩
theorem ti_preE {av : List Value} (C : ti_C p s m c args cc own nL D cy Ls A) (hE : tx_E (ti_As Ls A) s H0) (hw : ti_H Ls D A cy H0 M H locs) : ∀ U : State, U.heap = H → s.WarmedH U.vm → ti_PcE Ls D A cy M av av.toArray U := fun U hU hW => ⟨rfl, by rw [hU]; exact hw.1, va_K.moved hW.alike C.2.2.2.2.1, by rw [hU]; exact hE.moved hW hw.2.2.1⟩
theorem ti_eIE {y : MethodName} {n k : Nat} {ty : FieldType} {av : List Value} {post : Int32 → ti_M → Prop} (hy : plainName y.cls = true) (hJ : ti_inj Ls A) (hN : Ls.Nodup) (hav : (lg_sl av).length ≤ n)
    (body : ∀ (p : Program) (e : Env) (s : State) (m : MethodId) (args : Array Value) (below : List Frame) (meth : Method) (c : Code) (Q : State → Prop) (H0 : Heap), ti_C p s m c args cc y.cls n D cy Ls A → tx_E (ti_As Ls A) s H0 →
      (∀ (v : Int32) (M2 : ti_M) (H2 : Heap) (locs2 : List Loc) (pc : Nat) (ls : Array Slot), ti_H Ls D A cy H0 M2 H2 locs2 → narrow ty (.int v) = .int v → post v M2 → decode cc pc = .ok (.ireturn, 1) → W p l e (ti_rm k) s m args below meth c H2 locs2 0 0 Q (F0 m pc ls [.int v])) →
      ti_H Ls D A cy H0 M H0 [] → ∀ ls : Array Slot, lv_has ls n (lv_args 0 av) → W p l e (ti_rm k) s m args below meth c H0 [] 0 0 Q (F0 m 0 ls [])) : ti_KiE l y cc n (some ty) k Ls D A cy M av post := by
  refine Met.ofW (cc := cc) (maxL := n) (ret := some ty) hy rfl ?_
  intro p e s m args below meth c s₁ B hml hv
  obtain ⟨rfl, hP, hK, hE⟩ := hv
  rw [lg_entry_eq]
  have C : ti_C p s m c av.toArray cc y.cls n D cy Ls A := ti_entC B hml hK hJ hN
  exact body p e s m av.toArray below meth c _ s.heap C hE (fun v M2 H2 locs2 pc ls hw2 hn hq hdg => ti_iret C B.returns B.notSynchronized hw2 hn hq hdg) ⟨hP, va_S.rf⟩ _ (lv_entry av hav)
theorem ti_eLE {y : MethodName} {n k : Nat} {av : List Value} {post : Int64 → ti_M → Prop} (hy : plainName y.cls = true) (hJ : ti_inj Ls A) (hN : Ls.Nodup) (hav : (lg_sl av).length ≤ n)
    (body : ∀ (p : Program) (e : Env) (s : State) (m : MethodId) (args : Array Value) (below : List Frame) (meth : Method) (c : Code) (Q : State → Prop) (H0 : Heap), ti_C p s m c args cc y.cls n D cy Ls A → tx_E (ti_As Ls A) s H0 →
      (∀ (v : Int64) (M2 : ti_M) (H2 : Heap) (locs2 : List Loc) (pc : Nat) (ls : Array Slot), ti_H Ls D A cy H0 M2 H2 locs2 → post v M2 → decode cc pc = .ok (.lreturn, 1) → W p l e (ti_rm k) s m args below meth c H2 locs2 0 0 Q (F0 m pc ls [.long v])) →
      ti_H Ls D A cy H0 M H0 [] → ∀ ls : Array Slot, lv_has ls n (lv_args 0 av) → W p l e (ti_rm k) s m args below meth c H0 [] 0 0 Q (F0 m 0 ls [])) : ti_KlE l y cc n (some .long) k Ls D A cy M av post := by
  refine Met.ofW (cc := cc) (maxL := n) (ret := some .long) hy rfl ?_
  intro p e s m args below meth c s₁ B hml hv
  obtain ⟨rfl, hP, hK, hE⟩ := hv
  rw [lg_entry_eq]
  have C : ti_C p s m c av.toArray cc y.cls n D cy Ls A := ti_entC B hml hK hJ hN
  exact body p e s m av.toArray below meth c _ s.heap C hE (fun v M2 H2 locs2 pc ls hw2 hq hdg => ti_lret C B.returns B.notSynchronized hw2 hq hdg) ⟨hP, va_S.rf⟩ _ (lv_entry av hav)
theorem ti_eVE {y : MethodName} {n k : Nat} {av : List Value} {post : ti_M → Prop} (hy : plainName y.cls = true) (hJ : ti_inj Ls A) (hN : Ls.Nodup) (hav : (lg_sl av).length ≤ n)
    (body : ∀ (p : Program) (e : Env) (s : State) (m : MethodId) (args : Array Value) (below : List Frame) (meth : Method) (c : Code) (Q : State → Prop) (H0 : Heap), ti_C p s m c args cc y.cls n D cy Ls A → tx_E (ti_As Ls A) s H0 →
      (∀ (M2 : ti_M) (H2 : Heap) (locs2 : List Loc) (pc : Nat) (ls : Array Slot), ti_H Ls D A cy H0 M2 H2 locs2 → post M2 → decode cc pc = .ok (.return_, 1) → W p l e (ti_rm k) s m args below meth c H2 locs2 0 0 Q (F0 m pc ls [])) →
      ti_H Ls D A cy H0 M H0 [] → ∀ ls : Array Slot, lv_has ls n (lv_args 0 av) → W p l e (ti_rm k) s m args below meth c H0 [] 0 0 Q (F0 m 0 ls [])) : ti_KvE l y cc n  k Ls D A cy M av post := by
  refine Met.ofW (cc := cc) (maxL := n) (ret := none) hy rfl ?_
  intro p e s m args below meth c s₁ B hml hv
  obtain ⟨rfl, hP, hK, hE⟩ := hv
  rw [lg_entry_eq]
  have C : ti_C p s m c av.toArray cc y.cls n D cy Ls A := ti_entC B hml hK hJ hN
  exact body p e s m av.toArray below meth c _ s.heap C hE (fun M2 H2 locs2 pc ls hw2 hq hdg => ti_vret C B.returns B.notSynchronized hw2 hq hdg) ⟨hP, va_S.rf⟩ _ (lv_entry av hav)
theorem ti_callViE {y : MethodName} {cc2 : ByteArray} {n2 k2 idx o ci : Nat} {ret : Option FieldType} {av st : List Value} {post : Int32 → ti_M → Prop} {T : u_T} {N : Nat} (C : ti_C p s m c args cc own nL D cy Ls A) (hE : tx_E (ti_As Ls A) s H0) (hw : ti_H Ls D A cy H0 M H locs)
    (hM : ti_KiE l y cc2 n2 ret k2 Ls D A cy M (.ref (A o 0) :: av) post) (hV : ti_V own idx y cc2 n2 ret) (hd : ti_Vd y av.length) (hob : ti_ob Ls o ci) (hj : 0 ∈ ti_parts ci) (hcl : vwCl[ci]? = some (y.cls, T, N)) (hst : st = av.reverse ++ .ref (A o 0) :: rest) (hsz : ls.size = nL) (hrs : (rest.map fun v => v.category).sum ≤ 8) (hR : k2 + 1 ≤ R.frames ∧ 8 + (n2 + 11) + 60 * k2 ≤ R.locals) (hcs : cells ≤ R.cells ∧ slots ≤ R.slots) (hdg : decode cc pc = .ok (.invokevirtual idx, 3))
    (kk : ∀ (r : Int32) (M2 : ti_M) (H1 : Heap) (locs1 : List Loc), post r M2 → ti_H Ls D A cy H0 M2 H1 locs1 → W p l e R s m args below meth c H1 locs1 cells slots Q (F0 m (pc + 3) ls (.int r :: rest))) : W p l e R s m args below meth c H locs cells slots Q (F0 m pc ls st) := by
  subst hst
  refine va_calli (va_runV (As := av) (rest := rest) ⟨C.1, C.2.1, C.2.2.2.2.2.1, C.2.2.2.1, C.2.2.1⟩ hM (ti_cwV C hV hd hR) ⟨ti_blindE, ti_recv C hw hob hj hcl, ti_preE C hE hw⟩ rfl rfl hsz rfl (lv_room hrs) hdg ⟨hcs.1, hcs.2⟩) hw.2 (fun q _ h => h) (fun q h => h) ?_
  intro r u t H1 locs1 ht hvm hpo hB hz hk hS
  exact kk r u H1 locs1 hpo ⟨by rw [← ht]; exact hB, hS⟩
theorem ti_callVlE {y : MethodName} {cc2 : ByteArray} {n2 k2 idx o ci : Nat} {ret : Option FieldType} {av st : List Value} {post : Int64 → ti_M → Prop} {T : u_T} {N : Nat} (C : ti_C p s m c args cc own nL D cy Ls A) (hE : tx_E (ti_As Ls A) s H0) (hw : ti_H Ls D A cy H0 M H locs)
    (hM : ti_KlE l y cc2 n2 ret k2 Ls D A cy M (.ref (A o 0) :: av) post) (hV : ti_V own idx y cc2 n2 ret) (hd : ti_Vd y av.length) (hob : ti_ob Ls o ci) (hj : 0 ∈ ti_parts ci) (hcl : vwCl[ci]? = some (y.cls, T, N)) (hst : st = av.reverse ++ .ref (A o 0) :: rest) (hsz : ls.size = nL) (hrs : (rest.map fun v => v.category).sum ≤ 8) (hR : k2 + 1 ≤ R.frames ∧ 8 + (n2 + 11) + 60 * k2 ≤ R.locals) (hcs : cells ≤ R.cells ∧ slots ≤ R.slots) (hdg : decode cc pc = .ok (.invokevirtual idx, 3))
    (kk : ∀ (r : Int64) (M2 : ti_M) (H1 : Heap) (locs1 : List Loc), post r M2 → ti_H Ls D A cy H0 M2 H1 locs1 → W p l e R s m args below meth c H1 locs1 cells slots Q (F0 m (pc + 3) ls (.long r :: rest))) : W p l e R s m args below meth c H locs cells slots Q (F0 m pc ls st) := by
  subst hst
  refine va_calll (va_runV (As := av) (rest := rest) ⟨C.1, C.2.1, C.2.2.2.2.2.1, C.2.2.2.1, C.2.2.1⟩ hM (ti_cwV C hV hd hR) ⟨ti_blindE, ti_recv C hw hob hj hcl, ti_preE C hE hw⟩ rfl rfl hsz rfl (lv_room hrs) hdg ⟨hcs.1, hcs.2⟩) hw.2 (fun q _ h => h) (fun q h => h) ?_
  intro r u t H1 locs1 ht hvm hpo hB hz hk hS
  exact kk r u H1 locs1 hpo ⟨by rw [← ht]; exact hB, hS⟩
theorem ti_callVvE {y : MethodName} {cc2 : ByteArray} {n2 k2 idx o ci : Nat} {av st : List Value} {post : ti_M → Prop} {T : u_T} {N : Nat} (C : ti_C p s m c args cc own nL D cy Ls A) (hE : tx_E (ti_As Ls A) s H0) (hw : ti_H Ls D A cy H0 M H locs)
    (hM : ti_KvE l y cc2 n2 k2 Ls D A cy M (.ref (A o 0) :: av) post) (hV : ti_V own idx y cc2 n2 none) (hd : ti_Vd y av.length) (hob : ti_ob Ls o ci) (hj : 0 ∈ ti_parts ci) (hcl : vwCl[ci]? = some (y.cls, T, N)) (hst : st = av.reverse ++ .ref (A o 0) :: rest) (hsz : ls.size = nL) (hrs : (rest.map fun v => v.category).sum ≤ 8) (hR : k2 + 1 ≤ R.frames ∧ 8 + (n2 + 11) + 60 * k2 ≤ R.locals) (hcs : cells ≤ R.cells ∧ slots ≤ R.slots) (hdg : decode cc pc = .ok (.invokevirtual idx, 3))
    (kk : ∀ (M2 : ti_M) (H1 : Heap) (locs1 : List Loc), post M2 → ti_H Ls D A cy H0 M2 H1 locs1 → W p l e R s m args below meth c H1 locs1 cells slots Q (F0 m (pc + 3) ls rest)) : W p l e R s m args below meth c H locs cells slots Q (F0 m pc ls st) := by
  subst hst
  refine va_callv (va_runV (As := av) (rest := rest) ⟨C.1, C.2.1, C.2.2.2.2.2.1, C.2.2.2.1, C.2.2.1⟩ hM (ti_cwV C hV hd hR) ⟨ti_blindE, ti_recv C hw hob hj hcl, ti_preE C hE hw⟩ rfl rfl hsz rfl (lv_room hrs) hdg ⟨hcs.1, hcs.2⟩) hw.2 (fun q _ h => h) (fun q h => h) ?_
  intro u t H1 locs1 ht hvm hpo hB hz hk hS
  exact kk u H1 locs1 hpo ⟨by rw [← ht]; exact hB, hS⟩
theorem ti_callSiE {y : MethodName} {cc2 : ByteArray} {n2 k2 idx : Nat} {ret : Option FieldType} {av st : List Value} {post : Int32 → ti_M → Prop} (C : ti_C p s m c args cc own nL D cy Ls A) (hE : tx_E (ti_As Ls A) s H0) (hw : ti_H Ls D A cy H0 M H locs)
    (hM : ti_KiE l y cc2 n2 ret k2 Ls D A cy M av post) (hV : ti_Vs own idx y cc2 n2 ret) (hd : ti_Vd y av.length) (hst : st = av.reverse ++ rest) (hsz : ls.size = nL) (hrs : (rest.map fun v => v.category).sum ≤ 8) (hR : k2 + 1 ≤ R.frames ∧ 8 + (n2 + 11) + 60 * k2 ≤ R.locals) (hcs : cells ≤ R.cells ∧ slots ≤ R.slots) (hdg : decode cc pc = .ok (.invokestatic idx, 3))
    (kk : ∀ (r : Int32) (M2 : ti_M) (H1 : Heap) (locs1 : List Loc), post r M2 → ti_H Ls D A cy H0 M2 H1 locs1 → W p l e R s m args below meth c H1 locs1 cells slots Q (F0 m (pc + 3) ls (.int r :: rest))) : W p l e R s m args below meth c H locs cells slots Q (F0 m pc ls st) := by
  subst hst
  refine va_calli (va_runS (As := av) (rest := rest) ⟨C.1, C.2.1, C.2.2.2.2.2.1, C.2.2.2.1, C.2.2.1⟩ hM (ti_cwS C hV hd hR) ⟨ti_blindE, ti_preE C hE hw⟩ rfl rfl hsz rfl (lv_room hrs) hdg ⟨hcs.1, hcs.2⟩) hw.2 (fun q _ h => h) (fun q h => h) ?_
  intro r u t H1 locs1 ht hvm hpo hB hz hk hS
  exact kk r u H1 locs1 hpo ⟨by rw [← ht]; exact hB, hS⟩
theorem ti_callSlE {y : MethodName} {cc2 : ByteArray} {n2 k2 idx : Nat} {ret : Option FieldType} {av st : List Value} {post : Int64 → ti_M → Prop} (C : ti_C p s m c args cc own nL D cy Ls A) (hE : tx_E (ti_As Ls A) s H0) (hw : ti_H Ls D A cy H0 M H locs)
    (hM : ti_KlE l y cc2 n2 ret k2 Ls D A cy M av post) (hV : ti_Vs own idx y cc2 n2 ret) (hd : ti_Vd y av.length) (hst : st = av.reverse ++ rest) (hsz : ls.size = nL) (hrs : (rest.map fun v => v.category).sum ≤ 8) (hR : k2 + 1 ≤ R.frames ∧ 8 + (n2 + 11) + 60 * k2 ≤ R.locals) (hcs : cells ≤ R.cells ∧ slots ≤ R.slots) (hdg : decode cc pc = .ok (.invokestatic idx, 3))
    (kk : ∀ (r : Int64) (M2 : ti_M) (H1 : Heap) (locs1 : List Loc), post r M2 → ti_H Ls D A cy H0 M2 H1 locs1 → W p l e R s m args below meth c H1 locs1 cells slots Q (F0 m (pc + 3) ls (.long r :: rest))) : W p l e R s m args below meth c H locs cells slots Q (F0 m pc ls st) := by
  subst hst
  refine va_calll (va_runS (As := av) (rest := rest) ⟨C.1, C.2.1, C.2.2.2.2.2.1, C.2.2.2.1, C.2.2.1⟩ hM (ti_cwS C hV hd hR) ⟨ti_blindE, ti_preE C hE hw⟩ rfl rfl hsz rfl (lv_room hrs) hdg ⟨hcs.1, hcs.2⟩) hw.2 (fun q _ h => h) (fun q h => h) ?_
  intro r u t H1 locs1 ht hvm hpo hB hz hk hS
  exact kk r u H1 locs1 hpo ⟨by rw [← ht]; exact hB, hS⟩
theorem ti_callSvE {y : MethodName} {cc2 : ByteArray} {n2 k2 idx : Nat} {av st : List Value} {post : ti_M → Prop} (C : ti_C p s m c args cc own nL D cy Ls A) (hE : tx_E (ti_As Ls A) s H0) (hw : ti_H Ls D A cy H0 M H locs)
    (hM : ti_KvE l y cc2 n2 k2 Ls D A cy M av post) (hV : ti_Vs own idx y cc2 n2 none) (hd : ti_Vd y av.length) (hst : st = av.reverse ++ rest) (hsz : ls.size = nL) (hrs : (rest.map fun v => v.category).sum ≤ 8) (hR : k2 + 1 ≤ R.frames ∧ 8 + (n2 + 11) + 60 * k2 ≤ R.locals) (hcs : cells ≤ R.cells ∧ slots ≤ R.slots) (hdg : decode cc pc = .ok (.invokestatic idx, 3))
    (kk : ∀ (M2 : ti_M) (H1 : Heap) (locs1 : List Loc), post M2 → ti_H Ls D A cy H0 M2 H1 locs1 → W p l e R s m args below meth c H1 locs1 cells slots Q (F0 m (pc + 3) ls rest)) : W p l e R s m args below meth c H locs cells slots Q (F0 m pc ls st) := by
  subst hst
  refine va_callv (va_runS (As := av) (rest := rest) ⟨C.1, C.2.1, C.2.2.2.2.2.1, C.2.2.2.1, C.2.2.1⟩ hM (ti_cwS C hV hd hR) ⟨ti_blindE, ti_preE C hE hw⟩ rfl rfl hsz rfl (lv_room hrs) hdg ⟨hcs.1, hcs.2⟩) hw.2 (fun q _ h => h) (fun q h => h) ?_
  intro u t H1 locs1 ht hvm hpo hB hz hk hS
  exact kk u H1 locs1 hpo ⟨by rw [← ht]; exact hB, hS⟩
end
section
variable {p : Program} {l : Launch} {e : Env} {R : Room} {s : State} {m : MethodId} {args : Array Value} {below : List Frame} {meth : Method} {c : Code} {H H0 : Heap} {locs : List Loc} {cells slots : Nat} {Q : State → Prop} {pc : Nat} {ls : Array Slot} {rest : List Value} {cc : ByteArray} {own : String} {nL : Nat} {D : va_G} {cy : Nat → ClassId} {Ls : List (Nat × Nat)} {A : Nat → Nat → Nat} {M : ti_M}
theorem ti_charAt {idx a v n : Nat} {f : Nat → Int32} (C : ti_C p s m c args cc own nL D cy Ls A) (hs : tx_s a v n f (ti_As Ls A) s H0) (hg : tx_g (ti_As Ls A) s H0) (hw : ti_H Ls D A cy H0 M H locs) (hm : Cond.methodLink own idx yJ0_charAt_5068e ∈ lw_g) (hsz : ls.size = nL) (hrs : (rest.map fun v => v.category).sum ≤ 8) (hR : 3 + 1 ≤ R.frames ∧ 8 + (2 + 11) + 60 * 3 ≤ R.locals) (hcs : cells ≤ R.cells ∧ slots ≤ R.slots) (hn : n < 2 ^ 31) {i : Int32} (h1 : 0 ≤ i.toInt) (h2 : i.toInt < n) (hdg : decode cc pc = .ok (.invokevirtual idx, 3))
    (kk : ∀ (H1 : Heap) (locs1 : List Loc), ti_H Ls D A cy H0 M H1 locs1 → W p l e R s m args below meth c H1 locs1 cells slots Q (F0 m (pc + 3) ls (.int (f i.toNatClampNeg &&& 255) :: rest))) : W p l e R s m args below meth c H locs cells slots Q (F0 m pc ls (.int i :: .ref a :: rest)) := by
  refine va_calli (va_runV (As := [.int i]) (rest := rest) ⟨C.1, C.2.1, C.2.2.2.2.2.1, C.2.2.2.1, C.2.2.1⟩ (x_J0_charAt l a v n f hn i h1 h2) (cwV 1 C.2.2.1 (tx_gV ⟨hm, ym_J0_charAt_5068e, yv_J0_charAt_5068e, yi_J0_charAt_5068e, yc_J0_charAt_5068e⟩) rfl rfl rfl ⟨rfl, yd_J0_charAt_5068e⟩ hR) ⟨tx_fb tx_Qb, ?_, ?_⟩ rfl rfl hsz rfl (lv_room hrs) hdg ⟨hcs.1, hcs.2⟩) hw.2 (fun q _ h => h.elim) (fun q h => h.elim) ?_
  · obtain ⟨cell, q1, q2, q3, -⟩ := hs.1.kept hw.2.2.1
    exact ⟨cell, q1, q2, q3⟩
  · intro U hU hW
    refine ⟨rfl, ?_⟩
    unfold tx_Q tx_G
    rw [hU]
    exact ⟨((hg.moved hW.alike).kept hw.2.2.1).narrow (fun _ h => h.elim), ((hs.moved hW.alike).kept hw.2.2.1).narrow (fun _ h => h.elim)⟩
  · intro r u t H1 locs1 ht hvm hpo hB hz hk hS
    obtain rfl : r = f i.toNatClampNeg &&& 255 := hpo
    exact kk H1 locs1 ⟨hw.1.kept (fun k q hq => hk q.1 ((hw.1 k q hq).lt) (fun h => h)), hS⟩
end

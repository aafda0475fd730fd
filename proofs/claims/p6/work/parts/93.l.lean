section
variable {Tc : gC} {Tm : gM}
abbrev lk_E : String := "java/lang/IndexOutOfBoundsException"
abbrev lk_N : List String := ["java/lang/RuntimeException", "java/lang/Exception"]
abbrev lk_t : String := "no such man"
def lx_Y (U : State) : Prop := va_Nw (.declares (Bundle.initS "java/lang/RuntimeException")) U ∧ va_Nw (.declares (Bundle.initS "java/lang/Exception")) U ∧ va_Nw (.declares (Bundle.initS "java/lang/Throwable")) U ∧ va_Nw (.castable lk_E lk_E) U ∧ va_Nw (.castable lk_E2 lk_E2) U ∧ va_Nc lk_E2 lk_E U
theorem lx_Y.warm {s U : State} (hW : s.WarmedH U.vm) (h : lx_Y s) : lx_Y U := ⟨h.1.warmD hW, h.2.1.warmD hW, h.2.2.1.warmD hW, h.2.2.2.1.warmC hW, h.2.2.2.2.1.warmC hW, va_Nc.moved hW.alike h.2.2.2.2.2⟩
theorem lx_Y.call {U : State} {g : JFrame} {mk : MethodId} {a : Array Value} (h : lx_Y U) : lx_Y (U.calling g mk a) := ⟨va_Nw.same rfl rfl h.1, va_Nw.same rfl rfl h.2.1, va_Nw.same rfl rfl h.2.2.1, va_Nw.same rfl rfl h.2.2.2.1, va_Nw.same rfl rfl h.2.2.2.2.1, va_Nc.moved (u := U) (Vm.Alike.refl U.vm) h.2.2.2.2.2⟩
def lk_S (A : Nat → Prop) (U : State) (H : Heap) : Prop := ((∃ sa, vk_R RX9 110 lk_t sa U) ∧ ∃ sa, vk_R RX9 156 lk_t2 sa U) ∧ vx_Zq Bundle.tN "UNASSIGNED_STACK" Bundle.steD A U H ∧ vx_Zq Bundle.tN "SUPPRESSED_SENTINEL" Bundle.listD A U H ∧ lx_Y U
theorem lk_at {args : Array Value} {s : State} (hts : ∀ w ∈ lw_g, w.before args s = true) (hY : lx_Y s) : ∀ w ∈ vx_atS RX9 112 lk_E lk_N, w.before args s = true := by
  intro w hw
  have h1 : vx_atS RX9 112 lk_E lk_N = ([140, 1267, 1276, 1279, 1282, 1284, 1268, 1269, 152, 153, 1270, 1275, 1280, 1300, 1257, 1301, 1259, 1302, 1261, 1271, 1273, 1263, 1296, 1297, 1299, 1263, 1287, 1288, 1289, 1290, 1249, 1290, 1291, 1292, 1293, 1251, 1293, 1294, 1295, 1296, 1253, 1286, 1246, 1247, 1254, 1255, 1256, 1258, 1260, 1262, 1266, 1265, 1264] : List Nat).filterMap (fun i => lw_tbl[i]?) := by decide +kernel
  have h2 : (vx_atS RX9 112 lk_E lk_N).all (fun w => goodWord w || (decide (w = .declares (Bundle.initS "java/lang/RuntimeException")) || (decide (w = .declares (Bundle.initS "java/lang/Exception")) || (decide (w = .declares (Bundle.initS "java/lang/Throwable")) || decide (w = .castable lk_E lk_E))))) = true := by decide +kernel
  have hg := List.all_eq_true.mp h2 w hw
  simp only [Bool.or_eq_true, decide_eq_true_eq] at hg
  rcases hg with hg | rfl | rfl | rfl | rfl
  · rw [h1] at hw
    obtain ⟨i, -, hi⟩ := List.mem_filterMap.mp hw
    exact hts _ (lw_g_mem i hi hg)
  · exact va_Nw.use rfl hY.1
  · exact va_Nw.use rfl hY.2.1
  · exact va_Nw.use rfl hY.2.2.1
  · exact va_Nw.use rfl hY.2.2.2.1
theorem ly_at {args : Array Value} {s : State} (hts : ∀ w ∈ lw_g, w.before args s = true) (hY : lx_Y s) : ∀ w ∈ ly_all.filter vx_no, w.before args s = true := by
  intro w hw
  have h1 : ly_all.filter vx_no = ([140, 1267, 1276, 1279, 1282, 1284, 1268, 1269, 152, 153, 1270, 1275, 1280, 1300, 1257, 1301, 1259, 1302, 1261, 1271, 1273, 1263, 1296, 1297, 1299, 1263, 1323, 1324, 1325, 1290, 1249, 1290, 1291, 1292, 1293, 1251, 1293, 1294, 1295, 1296, 1253, 1322, 1313, 1314, 1315, 1278, 1316, 1317, 1318, 1319, 1266, 1265, 1320] : List Nat).filterMap (fun i => lw_tbl[i]?) := by decide +kernel
  have h2 : (ly_all.filter vx_no).all (fun w => goodWord w || (decide (w = .declares (Bundle.initS "java/lang/RuntimeException")) || (decide (w = .declares (Bundle.initS "java/lang/Exception")) || (decide (w = .declares (Bundle.initS "java/lang/Throwable")) || decide (w = .castable lk_E2 lk_E2))))) = true := by decide +kernel
  have hg := List.all_eq_true.mp h2 w hw
  simp only [Bool.or_eq_true, decide_eq_true_eq] at hg
  rcases hg with hg | rfl | rfl | rfl | rfl
  · rw [h1] at hw
    obtain ⟨i, -, hi⟩ := List.mem_filterMap.mp hw
    exact hts _ (lw_g_mem i hi hg)
  · exact va_Nw.use rfl hY.1
  · exact va_Nw.use rfl hY.2.1
  · exact va_Nw.use rfl hY.2.2.1
  · exact va_Nw.use rfl hY.2.2.2.2.1
theorem lk_k : Cond.classLink RX9 108 lk_E ∈ lw_g := lw_g_mem 1245 (by decide +kernel) (by decide +kernel)
theorem lk_i : Cond.initialized lk_E ∈ lw_g := lw_g_mem 143 (by decide +kernel) (by decide +kernel)
theorem lk_ot : ∀ w ∈ Cond.classLink RX9 108 lk_E :: Cond.initialized lk_E :: vx_atS RX9 112 lk_E lk_N, vx_ot w = true := by decide +kernel
theorem lk_k2 : Cond.classLink RX9 154 lk_E2 ∈ lw_g := lw_g_mem 1312 (by decide +kernel) (by decide +kernel)
theorem lk_i2 : Cond.initialized lk_E2 ∈ lw_g := lw_g_mem 144 (by decide +kernel) (by decide +kernel)
theorem lk_S.moved {A : Nat → Prop} {s U : State} {H H1 : Heap} (hW : s.WarmedH U.vm) (hq : ∀ a : Nat, a < H.size → ¬ A a → H1[a]? = H[a]?) (h : lk_S A s H) : lk_S A U H1 := by
  obtain ⟨⟨⟨sa, h1⟩, sb, hb⟩, h2, h3, h4⟩ := h
  exact ⟨⟨⟨sa, h1.warm hW⟩, sb, hb.warm hW⟩, (h2.moved hW.alike).kept hq, (h3.moved hW.alike).kept hq, h4.warm hW⟩
theorem lk_S.call {A : Nat → Prop} {U : State} {H : Heap} {g : JFrame} {mk : MethodId} {a : Array Value} (h : lk_S A U H) : lk_S A (U.calling g mk a) H := by
  obtain ⟨⟨⟨sa, h1⟩, sb, hb⟩, h2, h3, h4⟩ := h
  exact ⟨⟨⟨sa, vk_R.same (u := U) rfl h1⟩, sb, vk_R.same (u := U) rfl hb⟩, vx_Zq.moved (u := U) (Vm.Alike.refl U.vm) h2, vx_Zq.moved (u := U) (Vm.Alike.refl U.vm) h3, h4.call⟩
abbrev lk_hh : List (Nat × Nat × Nat × Nat) := [(0, 10, 13, 13), (0, 10, 17, 15)]
theorem lk_cw : Cond.codeWith yL_look cL_look 5 (some .int) lk_hh ∈ lw_g := lw_g_mem 1238 (by decide +kernel) (by decide +kernel)
theorem lk_cl : Cond.classLink RL 13 lk_E ∈ lw_g := lw_g_mem 1239 (by decide +kernel) (by decide +kernel)
theorem lk_cl2 : Cond.classLink RL 15 lk_E2 ∈ lw_g := lw_g_mem 1240 (by decide +kernel) (by decide +kernel)
theorem lk_st : Cond.static yL_look ∈ lw_g := lw_g_mem 1237 (by decide +kernel) (by decide +kernel)
theorem lk_ml : Cond.methodLink RL 39 yL_look ∈ lw_g := lw_g_mem 1236 (by decide +kernel) (by decide +kernel)
theorem lk_in : Cond.initialized yL_look.cls ∈ lw_g := in_L
theorem lk_S.narrow {A B : Nat → Prop} {U : State} {H : Heap} (h : lk_S A U H) (hAB : ∀ q, B q → A q) : lk_S B U H := ⟨h.1, h.2.1.narrow hAB, h.2.2.1.narrow hAB, h.2.2.2⟩
def lk_P (D : va_G) (A : Nat → Nat → Nat) (cy : Nat → ClassId) (M : ti_M) (U : State) : Prop := va_P D vwCl (ti_W ti_LT A cy M) U.heap ∧ va_K D vwCl (ti_ty cy) U ∧ lk_S (ti_As ti_LT A) U U.heap
theorem lk_bl {D : va_G} {A : Nat → Nat → Nat} {cy : Nat → ClassId} {M : ti_M} {av : List Value} : FrameBlind (va_Pc av (lk_P D A cy M)) := fun a U g mk q => ⟨q.1, q.2.1, va_K.moved (u := U) (U := U.calling g mk a) (Vm.Alike.refl U.vm) q.2.2.1, q.2.2.2.call⟩
def lk_F (A : Nat → Nat → Nat) (q3 : Nat) : Nat → Prop := fun q => ti_As ti_LT A q ∨ q = q3
def lk_Q (D : va_G) (A : Nat → Nat → Nat) (cy : Nat → ClassId) (M : ti_M) (q3 : Nat) (f : Nat → Int64) (U : State) : Prop := va_P D vwCl (ti_W ti_LT A cy M) U.heap ∧ va_P D vwCl [(q3, .inl (cy 2, 1, .inr (.inl f)))] U.heap ∧ va_K D vwCl (ti_ty cy) U ∧ lk_S (lk_F A q3) U U.heap
theorem lk_blQ {D : va_G} {A : Nat → Nat → Nat} {cy : Nat → ClassId} {M : ti_M} {q3 : Nat} {f : Nat → Int64} {av : List Value} : FrameBlind (va_Pc av (lk_Q D A cy M q3 f)) := fun a U g mk q => ⟨q.1, q.2.1, q.2.2.1, va_K.moved (u := U) (U := U.calling g mk a) (Vm.Alike.refl U.vm) q.2.2.2.1, q.2.2.2.2.call⟩
def lk_X (D : va_G) (A : Nat → Nat → Nat) (cy : Nat → ClassId) (M : ti_M) (X1 X2 : Prop) : String → State → State → Prop := vx_X (fun _ : Unit => True) (fun E _ t => ((E = lk_E ∧ X1) ∨ (E = lk_E2 ∧ X2)) ∧ va_P D vwCl (ti_W ti_LT A cy M) t.heap) (ti_As ti_LT A)
theorem lk_thr {s t : State} {D : va_G} {A : Nat → Nat → Nat} {cy : Nat → ClassId} {M : ti_M} {H : Heap} {locs : List Loc} {E : String} {X1 X2 : Prop} (hE : (E = lk_E ∧ X1) ∨ (E = lk_E2 ∧ X2)) (hw : ti_H ti_LT D A cy s.heap M H locs) (hz : H.size ≤ t.heap.size) (hk : ∀ q : Nat, q < H.size → t.heap[q]? = H[q]?) : lk_X D A cy M X1 X2 E s t := by
  refine ⟨(), trivial, ⟨hE, hw.1.kept (fun k q hq => hk q.1 ((hw.1 k q hq).lt))⟩, Nat.le_trans hw.2.1 hz, fun q h1 h2 => ?_⟩
  rw [hk q (Nat.lt_of_lt_of_le h1 hw.2.1)]
  exact hw.2.2.1 q h1 h2
theorem z_X10_thrown (l : Launch) (D : va_G) (A : Nat → Nat → Nat) (cy : Nat → ClassId) (hJ : ti_inj ti_LM A) (M : ti_M) : ti_Ki l yX10_thrown cX10_thrown 1 (some .int) 0 ti_LM D A cy M [.ref (A 60 0)] (fun r M2 => M2 = M ∧ r = tI M 60 0) := by
  refine ti_eI yp_X10_thrown hJ ti_LM_nd (Nat.le_of_ble_eq_true rfl) ?_
  intro p e s m args below meth c Q H0 C hQ hw ls hl
  have hx := C.1
  have hb := C.2.1
  have hl : lv_has ls 1 [(0, .ref (A 60 0))] := hl
  refine lv_aload_n hx hb dX10_thrown_0 rfl (lv_at hl 0 rfl) ?_
  refine ti_get (ci := 10) (k := 0) (N := 67) (T := TX10) C hw iw_10 rfl ob_60 (by decide) (by decide) fl_X10_154 rfl rfl dX10_thrown_1 ?_
  refine lv_topi (fun x ex => ?_)
  exact hQ _ _ _ _ _ _ hw rfl ⟨rfl, ex⟩ dX10_thrown_4
section
variable {p : Program} {l : Launch} {e : Env} {R : Room} {s : State} {m : MethodId} {args : Array Value} {below : List Frame} {meth : Method} {c : Code} {H : Heap} {locs : List Loc} {cells slots : Nat} {Q : State → Prop} {pc : Nat} {ls : Array Slot} {rest : List Value} {cc : ByteArray} {own : String} {nL : Nat} {D : va_G} {cy : Nat → ClassId} {A1 A2 : Nat → Nat → Nat} {q3 : Nat} {M1 M2 : ti_M}
theorem lq_callMiO {y : MethodName} {cc2 : ByteArray} {n2 k2 idx : Nat} {ret : Option FieldType} {av st : List Value} {post : Int32 → ti_M → Prop} {T : u_T} {N : Nat} (C : lq_B p s m c args cc own nL D cy) (hA : lq_A s A1 A2) (hw : lq_H s D cy A1 A2 q3 M1 M2 H locs)
    (hM : ti_Ki l y cc2 n2 ret k2 ti_LM D A2 cy M2 (.ref (A2 60 0) :: av) post) (hV : ti_V own idx y cc2 n2 ret) (hd : ti_Vd y av.length) (hcl : vwCl[10]? = some (y.cls, T, N)) (hst : st = av.reverse ++ .ref (A2 60 0) :: rest) (hsz : ls.size = nL) (hrs : (rest.map fun v => v.category).sum ≤ 8) (hR : k2 + 1 ≤ R.frames ∧ 8 + (n2 + 11) + 60 * k2 ≤ R.locals) (hcs : cells ≤ R.cells ∧ slots ≤ R.slots) (hdg : decode cc pc = .ok (.invokevirtual idx, 3))
    (kk : ∀ (r : Int32) (M3 : ti_M) (H1 : Heap) (locs1 : List Loc), H1[q3]? = H[q3]? → post r M3 → lq_H s D cy A1 A2 q3 M1 M3 H1 locs1 → W p l e R s m args below meth c H1 locs1 cells slots Q (F0 m (pc + 3) ls (.int r :: rest))) : W p l e R s m args below meth c H locs cells slots Q (F0 m pc ls st) := by
  have C1 : ti_C p s m c args cc own nL D cy ti_LM A2 := ⟨C.1, C.2.1, C.2.2.1, C.2.2.2.1, C.2.2.2.2.1, C.2.2.2.2.2.1, hA.2.1, ti_LM_nd⟩
  have hw1 : ti_H ti_LM D A2 cy H M2 H [] := ⟨hw.2.1, va_S.rf⟩
  subst hst
  refine va_calli (va_runV (As := av) (rest := rest) ⟨C.1, C.2.1, C.2.2.2.2.2.1, C.2.2.2.1, C.2.2.1⟩ hM (ti_cwV C1 hV hd hR) ⟨ti_blind, ti_recv C1 hw1 ob_60 (by decide) hcl, ti_pre C1 hw1⟩ rfl rfl hsz rfl (lv_room hrs) hdg ⟨hcs.1, hcs.2⟩) hw.2.2.1 (fun q _ h => hA.2.2.2.1 q h) (fun q h => hA.2.2.2.1 q h) ?_
  intro r u t H1 locs1 ht hvm hpo hB hz hk hS
  have K2 := hw.1.kept (H1 := H1) (fun k q hq => by
    have hq2 := (ti_W_D hA.1 cy M1).2 k q hq
    exact hk q.1 ((hw.1 k q hq).lt) (fun h => hA.2.2.2.2 q.1 hq2 h))
  obtain ⟨-, -, -, f9, hf9⟩ := hw.2.2.2
  exact kk r u H1 locs1 (hk q3 ((hf9 0 _ rfl).lt) hw.2.2.2.2.2.1) hpo ⟨K2, by rw [← ht]; exact hB, hS, hw.2.2.2.kept (fun h9 => hk q3 h9 hw.2.2.2.2.2.1)⟩
end
set_option maxHeartbeats 4000000 in
set_option maxRecDepth 100000 in
theorem s_X9_look (l : Launch) (hst : l.stackTraces = false) (D : va_G) (A : Nat → Nat → Nat) (cy : Nat → ClassId) (hJ : ti_inj ti_LT A) (M : ti_M) (hI : cI Tc M) (hF : cF Tc M) (t : Nat) (ht : t = 3 ∨ t = 4) (tx rg lp : Nat → Int) (ug : Nat → Nat → Int) (cu : Int) (hk : kC t tx rg ug cu lp M) (z1 z2 : Int32) : vx_Met l yX9_look (.code yX9_look cX9_look 3 (some .int) :: lw_g) (ti_rmc 8 1 6) (va_Pc [.ref (A 0 0), .int z1, .int z2] (lk_P D A cy M)) (va_Qi (fun r (M2 : ti_M) => M2 = M ∧ bq_lx tx z1.toInt z2.toInt = 0 ∧ r.toInt = bq_lk tx rg z1.toInt z2.toInt) (ti_B ti_LT D A cy) (ti_As ti_LT A)) (lk_X D A cy M (bq_lx tx z1.toInt z2.toInt = 1) (bq_lx tx z1.toInt z2.toInt = 2)) 1 6 (ti_As ti_LT A) := by
  refine vx_ofW (cc := cX9_look) (maxL := 3) (ret := some .int) yp_X9_look rfl ?_
  intro p e s m args below meth c s₁ B hml htab hv
  obtain ⟨rfl, hP, hK, ⟨⟨sa, hsa⟩, sb, hsb⟩, hU, hN, hY⟩ := hv
  rw [lg_entry_eq]
  have C : ti_C p s m c [.ref (A 0 0), .int z1, .int z2].toArray cX9_look RX9 3 D cy ti_LT A := ⟨B.exec, B.bytes, fun w h => atoms_spec (ws := .code yX9_look cX9_look 3 (some .int) :: lw_g) B.pre w (List.mem_cons_of_mem _ h), findClass_of_methodNamed B.named, hK, hml, hJ, ti_LT_nd⟩
  have hw : ti_H ti_LT D A cy s.heap M s.heap [] := ⟨hP, va_S.rf⟩
  have hl := lv_entry [.ref (A 0 0), .int z1, .int z2] (n := 3) (Nat.le_of_ble_eq_true rfl)
  generalize (lg_sl [.ref (A 0 0), .int z1, .int z2] ++ List.replicate (3 - (lg_sl [.ref (A 0 0), .int z1, .int z2]).length) Slot.unset).toArray = ls at hl ⊢
  have hl : lv_has ls 3 [(0, .ref (A 0 0)), (1, .int z1), (2, .int z2)] := hl
  have hx := C.1
  have hb := C.2.1
  have hQ : ∀ (pc : Nat) (ls : Array Slot) (r : Int32) (M2 : ti_M) (H : Heap) (locs : List Loc), ti_H ti_LT D A cy s.heap M2 H locs → narrow FieldType.int (.int r) = .int r → (M2 = M ∧ bq_lx tx z1.toInt z2.toInt = 0 ∧ r.toInt = bq_lk tx rg z1.toInt z2.toInt) → decode cX9_look pc = .ok (.ireturn, 1) → W p l e (ti_rmc 8 1 6) s m [.ref (A 0 0), .int z1, .int z2].toArray below meth c H locs 0 0 (vx_MQ below (va_Qi (fun r (M2 : ti_M) => M2 = M ∧ bq_lx tx z1.toInt z2.toInt = 0 ∧ r.toInt = bq_lk tx rg z1.toInt z2.toInt) (ti_B ti_LT D A cy) (ti_As ti_LT A)) (lk_X D A cy M (bq_lx tx z1.toInt z2.toInt = 1) (bq_lx tx z1.toInt z2.toInt = 2)) [.ref (A 0 0), .int z1, .int z2].toArray s 1 6 (ti_As ti_LT A)) (F0 m pc ls [.int r]) := fun pc ls r M2 H locs hw hn hm hd => vx_ret (W.widen (k := 1) (n := 6) (Nat.zero_le _) (Nat.zero_le _) (W.zret hx hb B.returns hn (fun t ht _ => ⟨⟨r, M2, rfl, hm, by show va_P _ _ _ _; rw [ht]; exact hw.1⟩, hw.2.F ht⟩) hw.2.2.2 hd B.notSynchronized))
  obtain ⟨htx, hT1, hT, hs, hr, hp0⟩ := id hk
  have l4 : 0 ≤ tx 4 ∧ tx 4 ≤ 8 := by rw [htx.1 4 (by decide) (by decide)]; exact cI_rd (k := 4) hI (ob_t ht).1 rfl
  have h4 : tx 4 = (tI M t 4).toInt := htx.1 4 (by decide) (by decide)
  refine lv_aload_n hx hb dX9_look_0 rfl (lv_at hl 0 rfl) ?_
  refine lv_iload_n hx hb dX9_look_1 rfl (lv_at hl 1 rfl) ?_
  refine ti_callVi (ci := 9) (av := [.int z1]) C hw (x_X9_isMan l D A cy hJ M hI t ht (hT1) z1) ⟨ml_X9_104, ym_X9_isMan, yv_X9_isMan, yi_X9_isMan, yc_X9_isMan⟩ yd_X9_isMan ob_0 (by decide) rfl rfl hl.1 (Nat.le_of_ble_eq_true rfl) ⟨by decide, by decide⟩ ⟨Nat.zero_le _, Nat.zero_le _⟩ dX9_look_2 (fun r_1 M_2 H locs hp_2 hw => ?_)
  obtain ⟨hm, hz⟩ := hp_2
  have hw := hw.to hm
  rcases hz with ⟨rfl, d0_3, d1_3⟩ | ⟨rfl, e_3⟩
  · refine sb_if_ne (tgt := 18) hx hb (by decide : (1 : Int32).toInt = 1) dX9_look_5 (by decide) (fun c_5_3 => ?_) (fun h => absurd h (by decide))
    refine lv_iload_n hx hb dX9_look_18 rfl (lv_at hl 2 rfl) ?_
    by_cases s_6_0 : z2 = 0
    · have qs_6_0 : z2.toInt = 0 := by rw [s_6_0]; decide
      refine lv_tableIn (tgt := 76) (off := 57) hx hb dX9_look_19 (by rw [s_6_0]; decide) (by rw [s_6_0]; decide) (by rw [s_6_0]; decide) (by decide) ?_
      refine lv_aload_n hx hb dX9_look_76 rfl (lv_at hl 0 rfl) ?_
      refine ti_get (ci := 9) (k := 1) (N := 10) (T := TX9) (v := .ref (A t 0)) C hw iw_9 rfl ob_0 (by decide) (by decide) fl_X9_19 rfl (ti_Tv (hT1)) dX9_look_77 ?_
      refine ti_get (ci := 8) (k := 0) (N := 12) (T := TX8) (v := .ref (A t 1)) C hw iw_8 rfl (ob_t ht) (by decide) (by decide) fl_X9_115 rfl rfl dX9_look_80 ?_
      refine lv_iload_n hx hb dX9_look_83 rfl (lv_at hl 1 rfl) ?_
      refine ti_aald (ci := 8) (k := 0) (n := 8) (t0 := 5) (Cn := RX2) (gg := (ti_men t)) (j := z1.toNatClampNeg) C hw (ob_t ht) (by decide) (fun _ _ => rfl) rfl (vp_in_iff.mpr (by omega)) rfl dX9_look_84 ?_
      have ob_7 : ti_ob ti_LT (ti_men t z1.toNatClampNeg) 2 := ob_m ht (i_nt rfl (by omega) (by omega))
      refine ti_get (ci := 2) (k := 1) (N := 10) (T := TX2) C hw iw_2 rfl ob_7 (by decide) (by decide) fl_X9_119 rfl rfl dX9_look_85 ?_
      refine lv_topi (fun x_8 ex_8 => ?_)
      have L_9 : tx (100 + 16 * z1.toInt.toNat + 1) = x_8.toInt := (((show tx (100 + 16 * z1.toInt.toNat + 1) = _ from by rw [← (show z1.toNatClampNeg = z1.toInt.toNat from congrArg Int.toNat rfl)]; exact htx.2.2.1 z1.toNatClampNeg 1 (i_nt (n := 8) rfl (by omega) (by omega)) (by decide) (by decide))).trans (congrArg Int32.toInt (ex_8.symm))).trans rfl
      have lx : bq_lx tx z1.toInt z2.toInt = 0 := by unfold bq_lx; rw [if_pos (by omega), if_pos (by omega)]
      exact hQ _ _ _ _ _ _ hw rfl (⟨rfl, lx, by unfold bq_lk; rw [qs_6_0, if_pos rfl]; omega⟩) dX9_look_88
    · have qs_6_0 : z2.toInt ≠ 0 := pt_ne s_6_0 (by decide)
      by_cases s_6_1 : z2 = 1
      · have qs_6_1 : z2.toInt = 1 := by rw [s_6_1]; decide
        refine lv_tableIn (tgt := 89) (off := 70) hx hb dX9_look_19 (by rw [s_6_1]; decide) (by rw [s_6_1]; decide) (by rw [s_6_1]; decide) (by decide) ?_
        refine lv_aload_n hx hb dX9_look_89 rfl (lv_at hl 0 rfl) ?_
        refine ti_get (ci := 9) (k := 1) (N := 10) (T := TX9) (v := .ref (A t 0)) C hw iw_9 rfl ob_0 (by decide) (by decide) fl_X9_19 rfl (ti_Tv (hT1)) dX9_look_90 ?_
        refine ti_get (ci := 8) (k := 0) (N := 12) (T := TX8) (v := .ref (A t 1)) C hw iw_8 rfl (ob_t ht) (by decide) (by decide) fl_X9_115 rfl rfl dX9_look_93 ?_
        refine lv_iload_n hx hb dX9_look_96 rfl (lv_at hl 1 rfl) ?_
        refine ti_aald (ci := 8) (k := 0) (n := 8) (t0 := 5) (Cn := RX2) (gg := (ti_men t)) (j := z1.toNatClampNeg) C hw (ob_t ht) (by decide) (fun _ _ => rfl) rfl (vp_in_iff.mpr (by omega)) rfl dX9_look_97 ?_
        have ob_10 : ti_ob ti_LT (ti_men t z1.toNatClampNeg) 2 := ob_m ht (i_nt rfl (by omega) (by omega))
        refine ti_get (ci := 2) (k := 2) (N := 10) (T := TX2) C hw iw_2 rfl ob_10 (by decide) (by decide) fl_X9_124 rfl rfl dX9_look_98 ?_
        refine lv_topi (fun x_11 ex_11 => ?_)
        have L_12 : tx (100 + 16 * z1.toInt.toNat + 2) = x_11.toInt := (((show tx (100 + 16 * z1.toInt.toNat + 2) = _ from by rw [← (show z1.toNatClampNeg = z1.toInt.toNat from congrArg Int.toNat rfl)]; exact htx.2.2.1 z1.toNatClampNeg 2 (i_nt (n := 8) rfl (by omega) (by omega)) (by decide) (by decide))).trans (congrArg Int32.toInt (ex_11.symm))).trans rfl
        have lx : bq_lx tx z1.toInt z2.toInt = 0 := by unfold bq_lx; rw [if_pos (by omega), if_pos (by omega)]
        exact hQ _ _ _ _ _ _ hw rfl (⟨rfl, lx, by unfold bq_lk; rw [qs_6_1, if_neg (by decide), if_pos rfl]; omega⟩) dX9_look_101
      · have qs_6_1 : z2.toInt ≠ 1 := pt_ne s_6_1 (by decide)
        by_cases s_6_2 : z2 = 2
        · have qs_6_2 : z2.toInt = 2 := by rw [s_6_2]; decide
          refine lv_tableIn (tgt := 102) (off := 83) hx hb dX9_look_19 (by rw [s_6_2]; decide) (by rw [s_6_2]; decide) (by rw [s_6_2]; decide) (by decide) ?_
          refine lv_aload_n hx hb dX9_look_102 rfl (lv_at hl 0 rfl) ?_
          refine ti_get (ci := 9) (k := 3) (N := 10) (T := TX9) (v := .ref (A 27 0)) C hw iw_9 rfl ob_0 (by decide) (by decide) fl_X9_29 rfl rfl dX9_look_103 ?_
          refine ti_get (ci := 3) (k := 10) (N := 17) (T := TX3) (v := .ref (A 27 11)) C hw iw_3 rfl ob_27 (by decide) (by decide) fl_X9_127 rfl rfl dX9_look_106 ?_
          refine lv_iload_n hx hb dX9_look_109 rfl (lv_at hl 1 rfl) ?_
          refine ti_iald (ci := 3) (k := 10) (n := 8) C hw ob_27 (by decide) (fun _ _ => rfl) (vp_in_iff.mpr (by omega)) dX9_look_110 ?_
          refine lv_topi (fun x_13 ex_13 => ?_)
          have L_14 : rg (160 + z1.toInt.toNat) = x_13.toInt := qC_y (k := 10) hs rfl (by omega) (by omega) (by decide) (by decide) ex_13
          have lx : bq_lx tx z1.toInt z2.toInt = 0 := by unfold bq_lx; rw [if_pos (by omega), if_pos (by omega)]
          exact hQ _ _ _ _ _ _ hw rfl (⟨rfl, lx, by unfold bq_lk; rw [qs_6_2, if_neg (by decide), if_neg (by decide), if_pos rfl]; omega⟩) dX9_look_111
        · have qs_6_2 : z2.toInt ≠ 2 := pt_ne s_6_2 (by decide)
          by_cases s_6_3 : z2 = 3
          · have qs_6_3 : z2.toInt = 3 := by rw [s_6_3]; decide
            refine lv_tableIn (tgt := 112) (off := 93) hx hb dX9_look_19 (by rw [s_6_3]; decide) (by rw [s_6_3]; decide) (by rw [s_6_3]; decide) (by decide) ?_
            refine lv_aload_n hx hb dX9_look_112 rfl (lv_at hl 0 rfl) ?_
            refine ti_get (ci := 9) (k := 3) (N := 10) (T := TX9) (v := .ref (A 27 0)) C hw iw_9 rfl ob_0 (by decide) (by decide) fl_X9_29 rfl rfl dX9_look_113 ?_
            refine ti_get (ci := 3) (k := 11) (N := 17) (T := TX3) (v := .ref (A 27 12)) C hw iw_3 rfl ob_27 (by decide) (by decide) fl_X9_130 rfl rfl dX9_look_116 ?_
            refine lv_iload_n hx hb dX9_look_119 rfl (lv_at hl 1 rfl) ?_
            refine ti_iald (ci := 3) (k := 11) (n := 8) C hw ob_27 (by decide) (fun _ _ => rfl) (vp_in_iff.mpr (by omega)) dX9_look_120 ?_
            refine lv_topi (fun x_15 ex_15 => ?_)
            have L_16 : rg (176 + z1.toInt.toNat) = x_15.toInt := qC_y (k := 11) hs rfl (by omega) (by omega) (by decide) (by decide) ex_15
            have lx : bq_lx tx z1.toInt z2.toInt = 0 := by unfold bq_lx; rw [if_pos (by omega), if_pos (by omega)]
            exact hQ _ _ _ _ _ _ hw rfl (⟨rfl, lx, by unfold bq_lk; rw [qs_6_3, if_neg (by decide), if_neg (by decide), if_neg (by decide), if_pos rfl]; omega⟩) dX9_look_121
          · have qs_6_3 : z2.toInt ≠ 3 := pt_ne s_6_3 (by decide)
            by_cases s_6_4 : z2 = 4
            · have qs_6_4 : z2.toInt = 4 := by rw [s_6_4]; decide
              refine lv_tableIn (tgt := 122) (off := 103) hx hb dX9_look_19 (by rw [s_6_4]; decide) (by rw [s_6_4]; decide) (by rw [s_6_4]; decide) (by decide) ?_
              refine lv_aload_n hx hb dX9_look_122 rfl (lv_at hl 0 rfl) ?_
              refine ti_get (ci := 9) (k := 3) (N := 10) (T := TX9) (v := .ref (A 27 0)) C hw iw_9 rfl ob_0 (by decide) (by decide) fl_X9_29 rfl rfl dX9_look_123 ?_
              refine ti_get (ci := 3) (k := 12) (N := 17) (T := TX3) (v := .ref (A 27 13)) C hw iw_3 rfl ob_27 (by decide) (by decide) fl_X9_133 rfl rfl dX9_look_126 ?_
              refine lv_iload_n hx hb dX9_look_129 rfl (lv_at hl 1 rfl) ?_
              refine ti_iald (ci := 3) (k := 12) (n := 8) C hw ob_27 (by decide) (fun _ _ => rfl) (vp_in_iff.mpr (by omega)) dX9_look_130 ?_
              refine lv_topi (fun x_17 ex_17 => ?_)
              have L_18 : rg (192 + z1.toInt.toNat) = x_17.toInt := qC_y (k := 12) hs rfl (by omega) (by omega) (by decide) (by decide) ex_17
              have lx : bq_lx tx z1.toInt z2.toInt = 0 := by unfold bq_lx; rw [if_pos (by omega), if_pos (by omega)]
              exact hQ _ _ _ _ _ _ hw rfl (⟨rfl, lx, by unfold bq_lk; rw [qs_6_4, if_neg (by decide), if_neg (by decide), if_neg (by decide), if_neg (by decide), if_pos rfl]; omega⟩) dX9_look_131
            · have qs_6_4 : z2.toInt ≠ 4 := pt_ne s_6_4 (by decide)
              by_cases s_6_5 : z2 = 5
              · have qs_6_5 : z2.toInt = 5 := by rw [s_6_5]; decide
                refine lv_tableIn (tgt := 132) (off := 113) hx hb dX9_look_19 (by rw [s_6_5]; decide) (by rw [s_6_5]; decide) (by rw [s_6_5]; decide) (by decide) ?_
                refine lv_aload_n hx hb dX9_look_132 rfl (lv_at hl 0 rfl) ?_
                refine ti_get (ci := 9) (k := 3) (N := 10) (T := TX9) (v := .ref (A 27 0)) C hw iw_9 rfl ob_0 (by decide) (by decide) fl_X9_29 rfl rfl dX9_look_133 ?_
                refine lv_iload_n hx hb dX9_look_136 rfl (lv_at hl 1 rfl) ?_
                refine ti_callVi (ci := 3) (av := [.int z1]) C hw (z_X3_placeOf l D A cy hJ M hI 27 ob_27 z1 rg hs) ⟨ml_X9_136, ym_X3_placeOf, yv_X3_placeOf, yi_X3_placeOf, yc_X3_placeOf⟩ yd_X3_placeOf ob_27 (by decide) rfl rfl hl.1 (Nat.le_of_ble_eq_true rfl) ⟨by decide, by decide⟩ ⟨Nat.zero_le _, Nat.zero_le _⟩ dX9_look_137 (fun r_19 M_20 H locs hp_20 hw => ?_)
                obtain ⟨hm, b0r_19, b1r_19, pr_19⟩ := hp_20
                have hw := hw.to hm
                have lx : bq_lx tx z1.toInt z2.toInt = 0 := by unfold bq_lx; rw [if_pos (by omega), if_pos (by omega)]
                exact hQ _ _ _ _ _ _ hw rfl (⟨rfl, lx, by unfold bq_lk; rw [qs_6_5, if_neg (by decide), if_neg (by decide), if_neg (by decide), if_neg (by decide), if_neg (by decide), if_pos rfl]; omega⟩) dX9_look_140
              · have qs_6_5 : z2.toInt ≠ 5 := pt_ne s_6_5 (by decide)
                by_cases s_6_6 : z2 = 6
                · have qs_6_6 : z2.toInt = 6 := by rw [s_6_6]; decide
                  refine lv_tableIn (tgt := 141) (off := 122) hx hb dX9_look_19 (by rw [s_6_6]; decide) (by rw [s_6_6]; decide) (by rw [s_6_6]; decide) (by decide) ?_
                  refine lv_aload_n hx hb dX9_look_141 rfl (lv_at hl 0 rfl) ?_
                  refine ti_get (ci := 9) (k := 3) (N := 10) (T := TX9) (v := .ref (A 27 0)) C hw iw_9 rfl ob_0 (by decide) (by decide) fl_X9_29 rfl rfl dX9_look_142 ?_
                  refine ti_get (ci := 3) (k := 8) (N := 17) (T := TX3) (v := .ref (A 27 9)) C hw iw_3 rfl ob_27 (by decide) (by decide) fl_X9_139 rfl rfl dX9_look_145 ?_
                  refine lv_iload_n hx hb dX9_look_148 rfl (lv_at hl 1 rfl) ?_
                  refine ti_iald (ci := 3) (k := 8) (n := 8) C hw ob_27 (by decide) (fun _ _ => rfl) (vp_in_iff.mpr (by omega)) dX9_look_149 ?_
                  refine lv_topi (fun x_21 ex_21 => ?_)
                  have L_22 : rg (128 + z1.toInt.toNat) = x_21.toInt := qC_y (k := 8) hs rfl (by omega) (by omega) (by decide) (by decide) ex_21
                  have lx : bq_lx tx z1.toInt z2.toInt = 0 := by unfold bq_lx; rw [if_pos (by omega), if_pos (by omega)]
                  exact hQ _ _ _ _ _ _ hw rfl (⟨rfl, lx, by unfold bq_lk; rw [qs_6_6, if_neg (by decide), if_neg (by decide), if_neg (by decide), if_neg (by decide), if_neg (by decide), if_neg (by decide), if_pos rfl]; omega⟩) dX9_look_150
                · have qs_6_6 : z2.toInt ≠ 6 := pt_ne s_6_6 (by decide)
                  by_cases s_6_7 : z2 = 7
                  · have qs_6_7 : z2.toInt = 7 := by rw [s_6_7]; decide
                    refine lv_tableIn (tgt := 151) (off := 132) hx hb dX9_look_19 (by rw [s_6_7]; decide) (by rw [s_6_7]; decide) (by rw [s_6_7]; decide) (by decide) ?_
                    refine lv_aload_n hx hb dX9_look_151 rfl (lv_at hl 0 rfl) ?_
                    refine ti_get (ci := 9) (k := 3) (N := 10) (T := TX9) (v := .ref (A 27 0)) C hw iw_9 rfl ob_0 (by decide) (by decide) fl_X9_29 rfl rfl dX9_look_152 ?_
                    refine lv_iload_n hx hb dX9_look_155 rfl (lv_at hl 1 rfl) ?_
                    refine ti_callVi (ci := 3) (av := [.int z1]) C hw (z_X3_waited l D A cy hJ M hI 27 ob_27 z1 (by omega) (by omega) rg hs) ⟨ml_X9_142, ym_X3_waited, yv_X3_waited, yi_X3_waited, yc_X3_waited⟩ yd_X3_waited ob_27 (by decide) rfl rfl hl.1 (Nat.le_of_ble_eq_true rfl) ⟨by decide, by decide⟩ ⟨Nat.zero_le _, Nat.zero_le _⟩ dX9_look_156 (fun r_23 M_24 H locs hp_24 hw => ?_)
                    obtain ⟨hm, pr_23⟩ := hp_24
                    have hw := hw.to hm
                    have lx : bq_lx tx z1.toInt z2.toInt = 0 := by unfold bq_lx; rw [if_pos (by omega), if_pos (by omega)]
                    exact hQ _ _ _ _ _ _ hw rfl (⟨rfl, lx, by unfold bq_lk; rw [qs_6_7, if_neg (by decide), if_neg (by decide), if_neg (by decide), if_neg (by decide), if_neg (by decide), if_neg (by decide), if_neg (by decide), if_pos rfl]; omega⟩) dX9_look_159
                  · have qs_6_7 : z2.toInt ≠ 7 := pt_ne s_6_7 (by decide)
                    by_cases s_6_8 : z2 = 8
                    · have qs_6_8 : z2.toInt = 8 := by rw [s_6_8]; decide
                      refine lv_tableIn (tgt := 160) (off := 141) hx hb dX9_look_19 (by rw [s_6_8]; decide) (by rw [s_6_8]; decide) (by rw [s_6_8]; decide) (by decide) ?_
                      refine lv_aload_n hx hb dX9_look_160 rfl (lv_at hl 0 rfl) ?_
                      refine ti_get (ci := 9) (k := 3) (N := 10) (T := TX9) (v := .ref (A 27 0)) C hw iw_9 rfl ob_0 (by decide) (by decide) fl_X9_29 rfl rfl dX9_look_161 ?_
                      refine ti_get (ci := 3) (k := 15) (N := 17) (T := TX3) (v := .ref (A 27 16)) C hw iw_3 rfl ob_27 (by decide) (by decide) fl_X9_145 rfl rfl dX9_look_164 ?_
                      refine lv_iload_n hx hb dX9_look_167 rfl (lv_at hl 1 rfl) ?_
                      refine ti_iald (ci := 3) (k := 15) (n := 8) C hw ob_27 (by decide) (fun _ _ => rfl) (vp_in_iff.mpr (by omega)) dX9_look_168 ?_
                      refine lv_topi (fun x_25 ex_25 => ?_)
                      have L_26 : rg (240 + z1.toInt.toNat) = x_25.toInt := qC_y (k := 15) hs rfl (by omega) (by omega) (by decide) (by decide) ex_25
                      have lx : bq_lx tx z1.toInt z2.toInt = 0 := by unfold bq_lx; rw [if_pos (by omega), if_pos (by omega)]
                      exact hQ _ _ _ _ _ _ hw rfl (⟨rfl, lx, by unfold bq_lk; rw [qs_6_8, if_neg (by decide), if_neg (by decide), if_neg (by decide), if_neg (by decide), if_neg (by decide), if_neg (by decide), if_neg (by decide), if_neg (by decide), if_pos rfl]; omega⟩) dX9_look_169
                    · have qs_6_8 : z2.toInt ≠ 8 := pt_ne s_6_8 (by decide)
                      by_cases s_6_9 : z2 = 9
                      · have qs_6_9 : z2.toInt = 9 := by rw [s_6_9]; decide
                        refine lv_tableIn (tgt := 170) (off := 151) hx hb dX9_look_19 (by rw [s_6_9]; decide) (by rw [s_6_9]; decide) (by rw [s_6_9]; decide) (by decide) ?_
                        refine lv_aload_n hx hb dX9_look_170 rfl (lv_at hl 0 rfl) ?_
                        refine ti_get (ci := 9) (k := 3) (N := 10) (T := TX9) (v := .ref (A 27 0)) C hw iw_9 rfl ob_0 (by decide) (by decide) fl_X9_29 rfl rfl dX9_look_171 ?_
                        refine ti_get (ci := 3) (k := 16) (N := 17) (T := TX3) (v := .ref (A 27 17)) C hw iw_3 rfl ob_27 (by decide) (by decide) fl_X9_148 rfl rfl dX9_look_174 ?_
                        refine lv_iload_n hx hb dX9_look_177 rfl (lv_at hl 1 rfl) ?_
                        refine ti_iald (ci := 3) (k := 16) (n := 8) C hw ob_27 (by decide) (fun _ _ => rfl) (vp_in_iff.mpr (by omega)) dX9_look_178 ?_
                        refine lv_topi (fun x_27 ex_27 => ?_)
                        have L_28 : rg (256 + z1.toInt.toNat) = x_27.toInt := qC_y (k := 16) hs rfl (by omega) (by omega) (by decide) (by decide) ex_27
                        have lx : bq_lx tx z1.toInt z2.toInt = 0 := by unfold bq_lx; rw [if_pos (by omega), if_pos (by omega)]
                        exact hQ _ _ _ _ _ _ hw rfl (⟨rfl, lx, by unfold bq_lk; rw [qs_6_9, if_neg (by decide), if_neg (by decide), if_neg (by decide), if_neg (by decide), if_neg (by decide), if_neg (by decide), if_neg (by decide), if_neg (by decide), if_neg (by decide), if_pos rfl]; omega⟩) dX9_look_179
                      · have qs_6_9 : z2.toInt ≠ 9 := pt_ne s_6_9 (by decide)
                        by_cases s_6_10 : z2 = 10
                        · have qs_6_10 : z2.toInt = 10 := by rw [s_6_10]; decide
                          refine lv_tableIn (tgt := 180) (off := 161) hx hb dX9_look_19 (by rw [s_6_10]; decide) (by rw [s_6_10]; decide) (by rw [s_6_10]; decide) (by decide) ?_
                          refine lv_aload_n hx hb dX9_look_180 rfl (lv_at hl 0 rfl) ?_
                          refine ti_get (ci := 9) (k := 1) (N := 10) (T := TX9) (v := .ref (A t 0)) C hw iw_9 rfl ob_0 (by decide) (by decide) fl_X9_19 rfl (ti_Tv (hT1)) dX9_look_181 ?_
                          refine ti_get (ci := 8) (k := 0) (N := 12) (T := TX8) (v := .ref (A t 1)) C hw iw_8 rfl (ob_t ht) (by decide) (by decide) fl_X9_115 rfl rfl dX9_look_184 ?_
                          refine lv_iload_n hx hb dX9_look_187 rfl (lv_at hl 1 rfl) ?_
                          refine ti_aald (ci := 8) (k := 0) (n := 8) (t0 := 5) (Cn := RX2) (gg := (ti_men t)) (j := z1.toNatClampNeg) C hw (ob_t ht) (by decide) (fun _ _ => rfl) rfl (vp_in_iff.mpr (by omega)) rfl dX9_look_188 ?_
                          have ob_29 : ti_ob ti_LT (ti_men t z1.toNatClampNeg) 2 := ob_m ht (i_nt rfl (by omega) (by omega))
                          refine ti_get (ci := 2) (k := 9) (N := 10) (T := TX2) C hw iw_2 rfl ob_29 (by decide) (by decide) fl_X9_151 rfl rfl dX9_look_189 ?_
                          refine lv_topi (fun x_30 ex_30 => ?_)
                          have L_31 : tx (100 + 16 * z1.toInt.toNat + 9) = x_30.toInt := (((show tx (100 + 16 * z1.toInt.toNat + 9) = _ from by rw [← (show z1.toNatClampNeg = z1.toInt.toNat from congrArg Int.toNat rfl)]; exact htx.2.2.1 z1.toNatClampNeg 9 (i_nt (n := 8) rfl (by omega) (by omega)) (by decide) (by decide))).trans (congrArg Int32.toInt (ex_30.symm))).trans rfl
                          have lx : bq_lx tx z1.toInt z2.toInt = 0 := by unfold bq_lx; rw [if_pos (by omega), if_pos (by omega)]
                          exact hQ _ _ _ _ _ _ hw rfl (⟨rfl, lx, by unfold bq_lk; rw [qs_6_10, if_neg (by decide), if_neg (by decide), if_neg (by decide), if_neg (by decide), if_neg (by decide), if_neg (by decide), if_neg (by decide), if_neg (by decide), if_neg (by decide), if_neg (by decide)]; omega⟩) dX9_look_192
                        · have qs_6_10 : z2.toInt ≠ 10 := pt_ne s_6_10 (by decide)
                          refine lv_tableOut (tgt := 193) hx hb dX9_look_19 (ti_out (lo := 0) (hi := 10) z2 (fun v h1 h2 => by rcases (show v = 0 ∨ v = 1 ∨ v = 2 ∨ v = 3 ∨ v = 4 ∨ v = 5 ∨ v = 6 ∨ v = 7 ∨ v = 8 ∨ v = 9 ∨ v = 10 by omega) with rfl | rfl | rfl | rfl | rfl | rfl | rfl | rfl | rfl | rfl | rfl <;> first | exact ti_nev 0 s_6_0 (by decide) | exact ti_nev 1 s_6_1 (by decide) | exact ti_nev 2 s_6_2 (by decide) | exact ti_nev 3 s_6_3 (by decide) | exact ti_nev 4 s_6_4 (by decide) | exact ti_nev 5 s_6_5 (by decide) | exact ti_nev 6 s_6_6 (by decide) | exact ti_nev 7 s_6_7 (by decide) | exact ti_nev 8 s_6_8 (by decide) | exact ti_nev 9 s_6_9 (by decide) | exact ti_nev 10 s_6_10 (by decide))) (by decide) ?_
                          have lx : bq_lx tx z1.toInt z2.toInt = 2 := by unfold bq_lx; rw [if_pos (by omega), if_neg (by omega)]
                          refine ly_make hx hb hst C.2.2.2.1 (C.2.2.1 _ lk_k2) (C.2.2.1 _ lk_i2) hsb (ly_at C.2.2.1 hY) hU hN hw.2 (by rw [hml]; exact hl.1) dX9_look_193 dX9_look_196 dX9_look_197 dX9_look_199 (by decide) (by decide) (Nat.le_of_ble_eq_true rfl) (Nat.le_of_ble_eq_true rfl) (fun q ce H1 g1 g2 g3 g4 g5 => ?_)
                          refine vx_athrow hx hb dX9_look_202 ?_
                          exact vx_out (fun x h => (htab x h).elim) B.notSynchronized g1 g2 g3 (fun t ht _ => lk_thr (Or.inr ⟨rfl, lx⟩) hw (by rw [ht]; exact g4) (fun q hq => by rw [ht]; exact g5 q hq)) (fun z h => hw.2.2.2 z h) (Nat.le_of_ble_eq_true rfl) (Nat.le_of_ble_eq_true rfl)
  · refine sb_if_ne (tgt := 18) hx hb (by decide : (0 : Int32).toInt = 0) dX9_look_5 (by decide) (fun h => absurd h (by decide)) (fun c_5_4 => ?_)
    have lx : bq_lx tx z1.toInt z2.toInt = 1 := by unfold bq_lx; rw [if_neg (by omega)]
    exact vx_throwS (names := lk_N) (text := lk_t) (A := ti_As ti_LT A) (cls := lk_E) hx hb hst C.2.2.2.1 (by decide) (by decide) (C.2.2.1 _ lk_k) (C.2.2.1 _ lk_i) hsa (lk_at C.2.2.1 hY) lk_ot hU hN hw.2 (by rw [hml]; exact hl.1) dX9_look_8 dX9_look_11 dX9_look_12 dX9_look_14 dX9_look_17 (fun x h => (htab x h).elim) (by decide) (by decide) (Nat.le_of_ble_eq_true rfl) (Nat.le_of_ble_eq_true rfl) B.notSynchronized (fun t hvm hz hk => lk_thr (Or.inl ⟨rfl, lx⟩) hw hz hk) (fun q h => hw.2.2.2 q h) (Nat.le_of_ble_eq_true rfl) (Nat.le_of_ble_eq_true rfl)
set_option maxHeartbeats 4000000 in
set_option maxRecDepth 100000 in
theorem s_L_look (l : Launch) (hst : l.stackTraces = false) (D : va_G) (A : Nat → Nat → Nat) (cy : Nat → ClassId) (hJ : ti_inj ti_LT A) (M : ti_M) (hF : cF Tc M) (t : Nat) (ht : t = 3 ∨ t = 4) (tx rg lp : Nat → Int) (ug : Nat → Nat → Int) (cu : Int) (hkC : kC t tx rg ug cu lp M) (z z2 : Int32) (q3 : Nat) (h3 : ¬ ti_As ti_LT A q3) (f : Nat → Int64) : vx_Met l yL_look (.codeWith yL_look cL_look 5 (some .int) lk_hh :: lw_g) (ti_rmc 10 1 6) (va_Pc [.ref (A 0 0), .int z, .int z2, .ref q3] (lk_Q D A cy M q3 f)) (va_Qi (fun r (g : Nat → Int64) => r.toInt = bq_lx tx z.toInt z2.toInt ∧ (bq_lx tx z.toInt z2.toInt = 0 → (g 0).toInt = bq_lk tx rg z.toInt z2.toInt)) (fun g t => va_P D vwCl (ti_W ti_LT A cy M) t.heap ∧ va_P D vwCl [(q3, .inl (cy 2, 1, .inr (.inl g)))] t.heap) (lk_F A q3)) (vx_X (fun _ : Unit => False) (fun _ _ _ => True) (lk_F A q3)) 1 6 (lk_F A q3) := by
  refine vx_ofWH (cc := cL_look) (maxL := 5) (ret := some .int) (by decide +kernel) rfl ?_
  intro p e s m args below meth c s₁ B hml hv
  obtain ⟨rfl, hP, hO, hK, hZ⟩ := hv
  have hts : ∀ w ∈ lw_g, w.before [.ref (A 0 0), .int z, .int z2, .ref q3].toArray s = true := fun w h => atoms_spec (ws := .codeWith yL_look cL_look 5 (some .int) lk_hh :: lw_g) B.pre w (List.mem_cons_of_mem _ h)
  have htab := vx_table (x := yL_look) B (hts _ lk_cw)
  rw [lg_entry_eq]
  have C : ti_C p s m c [.ref (A 0 0), .int z, .int z2, .ref q3].toArray cL_look RL 5 D cy ti_LT A := ⟨B.exec, B.bytes, hts, findClass_of_methodNamed B.named, hK, hml, hJ, ti_LT_nd⟩
  have hw : ti_H ti_LT D A cy s.heap M s.heap [] := ⟨hP, va_S.rf⟩
  have hS0 : va_S (lk_F A q3) s.heap s.heap [] := va_S.rf
  have hl := lv_entry [.ref (A 0 0), .int z, .int z2, .ref q3] (n := 5) (Nat.le_of_ble_eq_true rfl)
  generalize (lg_sl [.ref (A 0 0), .int z, .int z2, .ref q3] ++ List.replicate (5 - (lg_sl [.ref (A 0 0), .int z, .int z2, .ref q3]).length) Slot.unset).toArray = ls at hl ⊢
  have hl : lv_has ls 5 [(0, .ref (A 0 0)), (1, .int z), (2, .int z2), (3, .ref q3)] := hl
  have hx := C.1
  have hb := C.2.1
  have hne : ∀ (k : Nat) (q : Nat × va_E), (ti_W ti_LT A cy M)[k]? = some q → q.1 ≠ q3 := fun k q hq e9 => h3 (e9 ▸ (ti_W_D hJ cy M).2 k q hq)
  have hQ : ∀ (pc : Nat) (ls : Array Slot) (r : Int32) (g : Nat → Int64) (H : Heap) (locs : List Loc), va_P D vwCl (ti_W ti_LT A cy M) H → va_P D vwCl [(q3, .inl (cy 2, 1, .inr (.inl g)))] H → va_S (lk_F A q3) s.heap H locs → (r.toInt = bq_lx tx z.toInt z2.toInt ∧ (bq_lx tx z.toInt z2.toInt = 0 → (g 0).toInt = bq_lk tx rg z.toInt z2.toInt)) → decode cL_look pc = .ok (.ireturn, 1) → W p l e (ti_rmc 10 1 6) s m [.ref (A 0 0), .int z, .int z2, .ref q3].toArray below meth c H locs 1 6 (vx_MQ below (va_Qi (fun r (g : Nat → Int64) => r.toInt = bq_lx tx z.toInt z2.toInt ∧ (bq_lx tx z.toInt z2.toInt = 0 → (g 0).toInt = bq_lk tx rg z.toInt z2.toInt)) (fun g t => va_P D vwCl (ti_W ti_LT A cy M) t.heap ∧ va_P D vwCl [(q3, .inl (cy 2, 1, .inr (.inl g)))] t.heap) (lk_F A q3)) (vx_X (fun _ : Unit => False) (fun _ _ _ => True) (lk_F A q3)) [.ref (A 0 0), .int z, .int z2, .ref q3].toArray s 1 6 (lk_F A q3)) (F0 m pc ls [.int r]) := fun pc ls r g H locs g1 g2 g3 gv hd => vx_ret (W.zret hx hb B.returns rfl (fun t ht _ => ⟨⟨r, g, rfl, gv, by rw [ht]; exact g1, by rw [ht]; exact g2⟩, g3.F ht⟩) g3.2.2 hd B.notSynchronized)
  refine lv_aload_n hx hb dL_look_0 rfl (lv_at hl 3 rfl) ?_
  refine lv_iconst (v := 0) hx hb dL_look_1 (by decide) ?_
  refine lv_aload_n hx hb dL_look_2 rfl (lv_at hl 0 rfl) ?_
  refine lv_iload_n hx hb dL_look_3 rfl (lv_at hl 1 rfl) ?_
  refine lv_iload_n hx hb dL_look_4 rfl (lv_at hl 2 rfl) ?_
  have cw : CallW (ti_rmc 10 1 6) s [.ref (A 0 0), .int z, .int z2, .ref q3].toArray RL RX9 7 yX9_look cX9_look 3 (some .int) (.code yX9_look cX9_look 3 (some .int) :: lw_g) (ti_rmc 8 1 6) 1 6 2 := by
    refine cwV 2 hts (lw_g_good ?_) rfl rfl rfl ⟨rfl, yd_X9_look⟩ ⟨by decide, by decide⟩
    intro w hw
    simp only [wsV, List.cons_append, List.nil_append, List.mem_cons] at hw
    rcases hw with rfl | rfl | rfl | rfl | rfl | hw
    · exact ml_L_7
    · exact ym_X9_look
    · exact yv_X9_look
    · exact yi_X9_look
    · exact yc_X9_look
    · exact hw
  refine vx_calli (vx_runV (As := [.int z, .int z2]) (rest := [.int 0, .ref q3]) ⟨hx, hb, hml, C.2.2.2.1, hts⟩ (s_X9_look l hst D A cy hJ M hF.1 hF t ht tx rg lp ug cu hkC z z2) cw ⟨lk_bl, ti_recv C hw ob_0 (by decide) rfl, fun U hU hW => ⟨rfl, by rw [hU]; exact hw.1, va_K.moved hW.alike hK, by rw [hU]; exact (hZ.moved hW (fun _ _ _ => rfl)).narrow (fun q h => Or.inl h)⟩⟩ rfl rfl hl.1 rfl (lv_room (Nat.le_of_ble_eq_true rfl)) dL_look_5 ⟨Nat.le_of_ble_eq_true rfl, Nat.le_of_ble_eq_true rfl⟩) hS0 (fun q _ h => Or.inl h) (fun q h => Or.inl h) (fun q _ h => Or.inl h) ?_ ?_
  · intro E ce q9 u t9 H1 locs1 ht hvm hpx hB hz hk hS hce hcv hcl
    obtain ⟨hE, hP1⟩ := hB
    rw [ht] at hP1
    have hO1 : va_P D vwCl [(q3, .inl (cy 2, 1, .inr (.inl f)))] H1 := hO.kept (fun k q hq => by
      match k, hq with
      | 0, hq => cases hq; exact hk q3 ((hO 0 _ rfl).lt) h3
      | k + 1, hq => simp at hq)
    rcases hE with ⟨rfl, hz9⟩ | ⟨rfl, hz9⟩
    · refine vx_catch (name := lk_E) C.2.2.2.1 [] ⟨0, 10, 13, 13⟩ [⟨0, 10, 17, 15⟩] (by rw [htab]; rfl) (fun z h => nomatch h) (by decide) (by decide) (hts _ lk_cl) (va_Nw.use rfl hZ.2.2.2.2.2.2.1) hce hcv hcl ?_
      refine lv_astore (lv' := [(4, .ref q9), (0, .ref (A 0 0)), (1, .int z), (2, .int z2), (3, .ref q3)]) hx hb dL_look_13 hl (by decide) rfl (fun ls hl => ?_)
      refine lv_iconst (v := 1) hx hb dL_look_15 (by decide) ?_
      exact hQ 16 _ _ f _ _ hP1 hO1 hS ⟨by rw [hz9]; decide, fun q => by omega⟩ dL_look_16
    · refine vx_catch (name := lk_E2) C.2.2.2.1 [⟨0, 10, 13, 13⟩] ⟨0, 10, 17, 15⟩ [] (by rw [htab]; rfl) (fun z h => ?_) (by decide) (by decide) (hts _ lk_cl2) (va_Nw.use rfl hZ.2.2.2.2.2.2.2.1) hce hcv hcl ?_
      · obtain rfl := List.mem_singleton.mp h
        exact Or.inr ⟨by decide, lk_E, hts _ lk_cl, hZ.2.2.2.2.2.2.2.2⟩
      refine lv_astore (lv' := [(4, .ref q9), (0, .ref (A 0 0)), (1, .int z), (2, .int z2), (3, .ref q3)]) hx hb dL_look_17 hl (by decide) rfl (fun ls hl => ?_)
      refine lv_iconst (v := 2) hx hb dL_look_19 (by decide) ?_
      exact hQ 20 _ _ f _ _ hP1 hO1 hS ⟨by rw [hz9]; decide, fun q => by omega⟩ dL_look_20
  · intro r u t9 H1 locs1 ht hvm hpo hB hz hk hS
    obtain ⟨rfl, lx0, lkv⟩ := hpo
    have hP1 : va_P D vwCl (ti_W ti_LT A cy u) H1 := by rw [← ht]; exact hB
    have hO1 : va_P D vwCl [(q3, .inl (cy 2, 1, .inr (.inl f)))] H1 := hO.kept (fun k q hq => by
      match k, hq with
      | 0, hq => cases hq; exact hk q3 ((hO 0 _ rfl).lt) h3
      | k + 1, hq => simp at hq)
    obtain ⟨y, ey⟩ : ∃ y : Int64, y = r.toInt64 := ⟨_, rfl⟩
    refine lv_i2l (v := y) hx hb dL_look_8 ey.symm ?_
    have hDq : va_D (lk_F A q3) [(q3, Sum.inl (cy 2, 1, .inr (.inl f)))] := ⟨fun i j p q hi hj _ => by
      have h1 := (List.getElem?_eq_some_iff.mp hi).1
      have h2 := (List.getElem?_eq_some_iff.mp hj).1
      simp only [List.length_cons, List.length_nil] at h1 h2
      omega, fun k q hq => by
      match k, hq with
      | 0, hq => cases hq; exact Or.inr rfl
      | k + 1, hq => simp at hq⟩
    have hP3 : va_P D vwCl ((ti_W ti_LT A cy u) ++ [(q3, .inl (cy 2, 1, .inr (.inl f)))]) H1 := hP1.app hO1
    have hD3 : va_D (lk_F A q3) ((ti_W ti_LT A cy u) ++ [(q3, .inl (cy 2, 1, .inr (.inl f)))]) := by
      have hD1 := ti_W_D hJ cy u
      refine ⟨fun i j p q hi hj e9 => ?_, fun k q hq => ?_⟩
      · by_cases c1 : i < (ti_W ti_LT A cy u).length
        · rw [List.getElem?_append_left c1] at hi
          by_cases c2 : j < (ti_W ti_LT A cy u).length
          · rw [List.getElem?_append_left c2] at hj
            exact hD1.1 i j p q hi hj e9
          · rw [List.getElem?_append_right (Nat.not_lt.mp c2)] at hj
            have c3 := (List.getElem?_eq_some_iff.mp hj).1
            simp only [List.length_cons, List.length_nil] at c3
            rw [show j - (ti_W ti_LT A cy u).length = 0 by omega] at hj
            cases hj
            exact absurd e9 (hne i p hi)
        · rw [List.getElem?_append_right (Nat.not_lt.mp c1)] at hi
          have c3 := (List.getElem?_eq_some_iff.mp hi).1
          simp only [List.length_cons, List.length_nil] at c3
          rw [show i - (ti_W ti_LT A cy u).length = 0 by omega] at hi
          cases hi
          by_cases c2 : j < (ti_W ti_LT A cy u).length
          · rw [List.getElem?_append_left c2] at hj
            exact absurd e9.symm (hne j q hj)
          · rw [List.getElem?_append_right (Nat.not_lt.mp c2)] at hj
            have c4 := (List.getElem?_eq_some_iff.mp hj).1
            simp only [List.length_cons, List.length_nil] at c4
            omega
      · by_cases c1 : k < (ti_W ti_LT A cy u).length
        · rw [List.getElem?_append_left c1] at hq
          exact Or.inl (hD1.2 k q hq)
        · rw [List.getElem?_append_right (Nat.not_lt.mp c1)] at hq
          have c3 := (List.getElem?_eq_some_iff.mp hq).1
          simp only [List.length_cons, List.length_nil] at c3
          rw [show k - (ti_W ti_LT A cy u).length = 0 by omega] at hq
          cases hq
          exact Or.inr rfl
    refine va_last (cA := cy 2) (n := 1) (f := f) hx hb hK hP3 hD3 hS (ti_W ti_LT A cy u).length 2 (by rw [List.getElem?_append_right (Nat.le_refl _), Nat.sub_self]; rfl) rfl (by unfold vp_in; decide) dL_look_9 (fun H2 locs2 hP4 hD4 hS4 => ?_)
    rw [List.set_append_right _ _ (Nat.le_refl _), Nat.sub_self] at hP4
    refine lv_goto (tgt := 21) hx hb dL_look_10 (by decide) ?_
    refine lv_iconst (v := 0) hx hb dL_look_21 (by decide) ?_
    exact hQ 22 _ _ _ _ _ (va_P_l hP4) (va_P_r hP4) hS4 ⟨by rw [lx0]; decide, fun _ => by rw [show vp_updL f (0 : Int32).toNatClampNeg y 0 = y from if_pos (by decide), ey, Int32.toInt_toInt64]; exact lkv⟩ dL_look_22
set_option maxHeartbeats 4000000 in
set_option maxRecDepth 100000 in
theorem lq_c4 {p : Program} {l : Launch} {e : Env} {s : State} {m : MethodId} {below : List Frame} {meth : Method} {c : Code} {D : va_G} {cy : Nat → ClassId} {A1 A2 : Nat → Nat → Nat} {M1 M2 : ti_M} {b q3 L cells slots : Nat} {iv : Int32} {xs : Nat → Int32} {H : Heap} {locs : List Loc} {ls : Array Slot} (hfl : l.flags = flags0) (h4 : lk_S (lq_F s) s s.heap) (Z : lq_Z p s m meth c D cy A1 A2 b L xs) (hcs : cells + 1 ≤ room_1.cells ∧ slots + 6 ≤ room_1.slots) (hw : lq_H s D cy A1 A2 q3 M1 M2 H locs) (hI : lq_I M1 M2) (hi : 0 ≤ iv.toInt ∧ iv.toInt + 6 ≤ L) (hl : lv_has ls 7 [(4, .int iv), (3, .ref q3), (2, .ref (A2 60 0)), (1, .ref (A1 0 0)), (0, .ref b)]) (kk : ∀ (M1 M2 : ti_M) (H : Heap) (locs : List Loc) (ls : Array Slot), lq_H s D cy A1 A2 q3 M1 M2 H locs → lq_I M1 M2 → lv_has ls 7 [(4, .int iv), (3, .ref q3), (2, .ref (A2 60 0)), (1, .ref (A1 0 0)), (0, .ref b)] → W p l e room_1 s m #[Value.ref b] below meth c H locs (cells + 1) (slots + 6) (lw_Z below #[Value.ref b] s) (F0 m 1521 ls [])) : W p l e room_1 s m #[Value.ref b] below meth c H locs cells slots (lw_Z below #[Value.ref b] s) (F0 m 356 ls []) := by
  have C := Z.1
  have hA := Z.2.1
  have hx := C.1
  have hb := C.2.1
  have hbA : ¬ lq_F s b := Nat.not_le.mpr Z.2.2.2.1
  have hL := Z.2.2.2.2.2.2.1
  have hE := Z.2.2.2.2.2.2.2
  obtain ⟨Tc, Tm, hF1, hF2, hE0, hB0, hR1, hR2, hS1, hS2, rg, htd1, htd2, hle⟩ := hI
  have hR := And.intro hR1 hR2
  have hSS := And.intro hS1 hS2
  obtain ⟨t9, tx9, s9, p9, si9, u9, c9, hb9⟩ := id hle
  obtain ⟨ht9, hkC9, hkR9, hW9, ⟨hw9, h19⟩, hU9, hi9⟩ := id hb9
  have hts := C.2.2.1
  have hst : l.stackTraces = false := by rw [Launch.stackTraces, hfl]; decide +kernel
  refine lv_aload_n hx hb dL_law_356 rfl (lv_at hl 3 rfl) ?_
  refine lv_aload_n hx hb dL_law_357 rfl (lv_at hl 4 rfl) ?_
  refine lv_iload hx hb dL_law_358 (lv_at hl 0 rfl) ?_
  refine lv_iconst (v := 1) hx hb dL_law_360 (by decide) ?_
  refine lv_iadd hx hb dL_law_361 ?_
  refine va_sld (i := iv + 1) hx hb Z.2.2.1 Z.2.2.2.1 hbA hw.2.2.1 (lq_in hi hL (by decide) (by decide)) dL_law_362 ?_
  refine lv_aload_n hx hb dL_law_363 rfl (lv_at hl 4 rfl) ?_
  refine lv_iload hx hb dL_law_364 (lv_at hl 0 rfl) ?_
  refine lv_iconst (v := 2) hx hb dL_law_366 (by decide) ?_
  refine lv_iadd hx hb dL_law_367 ?_
  refine va_sld (i := iv + 2) hx hb Z.2.2.1 Z.2.2.2.1 hbA hw.2.2.1 (lq_in hi hL (by decide) (by decide)) dL_law_368 ?_
  refine lv_aload_n hx hb dL_law_369 rfl (lv_at hl 1 rfl) ?_
  have cw : vx_CSW room_1 s #[Value.ref b] RL 39 yL_look cL_look 5 (some .int) lk_hh (.codeWith yL_look cL_look 5 (some .int) lk_hh :: lw_g) (ti_rmc 10 1 6) 1 6 4 := by
    refine vx_cwSW 4 hts (lw_g_good ?_) rfl rfl rfl (by decide +kernel) ⟨by decide, by decide⟩
    intro w hw
    simp only [va_wsS, List.cons_append, List.nil_append, List.mem_cons] at hw
    rcases hw with rfl | rfl | rfl | rfl | hw
    all_goals first | exact lk_ml | exact lk_st | exact lk_in | exact lk_cw | exact hw
  obtain ⟨hq1, hq2, hq3, f, hf⟩ := hw.2.2.2
  have hLF : ∀ q, lk_F A1 q3 q → lq_F s q := fun q h => h.elim (fun h => hA.2.2.1 q h) (fun h => h ▸ hq1)
  refine vx_calli (vx_runSX (hh := lk_hh) (As := [.ref (A1 0 0), .int (xs (iv + 1 : Int32).toNatClampNeg), .int (xs (iv + 2 : Int32).toNatClampNeg), .ref q3]) (rest := []) ⟨hx, hb, C.2.2.2.2.2.1, C.2.2.2.1, hts⟩ (s_L_look l hst D A1 cy hA.1 M1 hF1 t9 ht9 tx9 s9 p9 u9 c9 hkC9 _ _ q3 hq2 f) cw ⟨lk_blQ, fun U hU hW => ⟨rfl, by rw [hU]; exact hw.1, by rw [hU]; exact hf, va_K.moved hW.alike C.2.2.2.2.1, by rw [hU]; exact (h4.moved hW (fun a h1 h2 => hw.2.2.1.2.1 a h1 h2)).narrow hLF⟩⟩ rfl rfl hl.1 rfl (lv_room (Nat.le_of_ble_eq_true rfl)) dL_law_370 hcs) hw.2.2.1 (fun q _ h => hLF q h) (fun q h => hLF q h) (fun q _ h => hLF q h) ?_ ?_
  · intro E ce q9 u t H1 locs1 ht hvm hpx
    exact hpx.elim
  intro r u t H1 locs1 ht hvm hpo hB hz hk hS
  have hK2 := hw.2.1.kept (H1 := H1) (fun k q hq => hk q.1 ((hw.2.1 k q hq).lt) (fun h => h.elim (fun h => hA.2.2.2.2 q.1 h ((ti_W_D hA.2.1 cy M2).2 k q hq)) (fun h => hq3 (h ▸ (ti_W_D hA.2.1 cy M2).2 k q hq))))
  have hw : lq_H s D cy A1 A2 q3 M1 M2 H1 locs1 := ⟨by rw [← ht]; exact hB.1, hK2, hS, hq1, hq2, hq3, u, by rw [← ht]; exact hB.2⟩
  have hf : va_P D vwCl [(q3, .inl (cy 2, 1, .inr (.inl u)))] H1 := by rw [← ht]; exact hB.2
  refine lv_istore (lv' := [(5, .int r), (4, .int iv), (3, .ref q3), (2, .ref (A2 60 0)), (1, .ref (A1 0 0)), (0, .ref b)]) hx hb dL_law_373 hl (by decide) rfl (fun ls hl => ?_)
  refine lv_aload_n hx hb dL_law_375 rfl (lv_at hl 3 rfl) ?_
  refine lv_aload_n hx hb dL_law_376 rfl (lv_at hl 5 rfl) ?_
  refine lv_iload hx hb dL_law_377 (lv_at hl 1 rfl) ?_
  refine lv_iconst (v := 1) hx hb dL_law_379 (by decide) ?_
  refine lv_iadd hx hb dL_law_380 ?_
  refine va_sld (i := iv + 1) hx hb Z.2.2.1 Z.2.2.2.1 hbA hw.2.2.1 (lq_in hi hL (by decide) (by decide)) dL_law_381 ?_
  refine lv_aload_n hx hb dL_law_382 rfl (lv_at hl 5 rfl) ?_
  refine lv_iload hx hb dL_law_383 (lv_at hl 1 rfl) ?_
  refine lv_iconst (v := 2) hx hb dL_law_385 (by decide) ?_
  refine lv_iadd hx hb dL_law_386 ?_
  refine va_sld (i := iv + 2) hx hb Z.2.2.1 Z.2.2.2.1 hbA hw.2.2.1 (lq_in hi hL (by decide) (by decide)) dL_law_387 ?_
  refine lq_callMiO (av := [.int (xs (iv + 1 : Int32).toNatClampNeg), .int (xs (iv + 2 : Int32).toNatClampNeg)]) C hA hw (z_X10_look l D A2 cy hA.2.1 M2 hF2.1 hF2 (xs (iv + 1 : Int32).toNatClampNeg) (xs (iv + 2 : Int32).toNatClampNeg) tx9 s9 p9 u9 c9 hW9.1 hW9 hw9 h19 hkR9) ⟨ml_L_44, ym_X10_look, yv_X10_look, yi_X10_look, yc_X10_look⟩ yd_X10_look rfl rfl hl.1 (Nat.le_of_ble_eq_true rfl) ⟨by decide, by decide⟩ hcs dL_law_388 (fun rM N2 H locs hk3 hpM hw => ?_)
  have hf : va_P D vwCl [(q3, .inl (cy 2, 1, .inr (.inl u)))] H := hf.kept (fun k q hq => by
    match k, hq with
    | 0, hq => cases hq; exact hk3
    | k + 1, hq => simp at hq)
  refine lv_istore (lv' := [(6, .int rM), (5, .int r), (4, .int iv), (3, .ref q3), (2, .ref (A2 60 0)), (1, .ref (A1 0 0)), (0, .ref b)]) hx hb dL_law_391 hl (by decide) rfl (fun ls hl => ?_)
  refine lv_aload_n hx hb dL_law_393 rfl (lv_at hl 4 rfl) ?_
  refine lq_callMiO (av := []) C hA hw (z_X10_thrown l D A2 cy hA.2.1 N2) ⟨ml_L_45, ym_X10_thrown, yv_X10_thrown, yi_X10_thrown, yc_X10_thrown⟩ yd_X10_thrown rfl rfl hl.1 (Nat.le_of_ble_eq_true rfl) ⟨by decide, by decide⟩ hcs dL_law_394 (fun r3 M3 H locs hk3 hp3 hw => ?_)
  have hf : va_P D vwCl [(q3, .inl (cy 2, 1, .inr (.inl u)))] H := hf.kept (fun k q hq => by
    match k, hq with
    | 0, hq => cases hq; exact hk3
    | k + 1, hq => simp at hq)
  obtain ⟨rfl, e3⟩ := hp3
  have v3 : r3.toInt = r.toInt := by rw [e3, hpM.2.1]; exact hpo.1.symm
  refine lv_iload hx hb dL_law_397 (lv_at hl 1 rfl) ?_
  refine sb_icmp_eq (tgt := 404) hx hb rfl rfl dL_law_399 (by decide) (fun _ => ?_) (fun c => absurd v3 c)
  refine lv_iload hx hb dL_law_404 (lv_at hl 1 rfl) ?_
  refine sb_if_ne (tgt := 421) hx hb rfl dL_law_406 (by decide) (fun _ => ?_) (fun k0 => ?_)
  · refine lv_goto (tgt := 1521) hx hb dL_law_421 (by decide) ?_
    exact kk M1 _ H locs ls hw (lq_ob (N1 := M1) hF1 hE0 hB0 hR hSS htd1 htd2 (r1 := rM) (r2 := rM) ⟨rfl, rfl⟩ ⟨rfl, hpM.2.2.1, hpM.2.2.2⟩ rfl (fun i y => ⟨_, _, _, _, _, _, _, lB_no hb9 i y⟩)).2 (lv_sub hl [2, 3, 4, 5, 6] rfl)
  have lx0 : bq_lx tx9 ((xs (iv + 1 : Int32).toNatClampNeg)).toInt ((xs (iv + 2 : Int32).toNatClampNeg)).toInt = 0 := hpo.1.symm.trans k0
  refine lv_aload_n hx hb dL_law_409 rfl (lv_at hl 3 rfl) ?_
  refine lv_iconst (v := 0) hx hb dL_law_410 (by decide) ?_
  refine va_lald (cA := cy 2) (n := 1) (f := u) hx hb C.2.2.2.2.1 hf 0 2 rfl rfl (by unfold vp_in; decide) dL_law_411 ?_
  refine lv_iload hx hb dL_law_412 (lv_at hl 0 rfl) ?_
  obtain ⟨y, ey⟩ : ∃ y : Int64, y = rM.toInt64 := ⟨_, rfl⟩
  refine lv_i2l (v := y) hx hb dL_law_414 ey.symm ?_
  have e1 : (u (0 : Int32).toNatClampNeg).toInt = y.toInt := by rw [show (0 : Int32).toNatClampNeg = 0 by decide, hpo.2 lx0, ey, Int32.toInt_toInt64, hpM.1, if_pos lx0]
  refine W.lcmp hx hb dL_law_415 ?_
  refine lv_topi (fun xc exc => ?_)
  have cxc := lg_c exc
  refine sb_if_eq (tgt := 421) hx hb rfl dL_law_416 (by decide) (fun _ => ?_) (fun c => absurd (by omega) c)
  refine lv_goto (tgt := 1521) hx hb dL_law_421 (by decide) ?_
  exact kk M1 _ H locs ls hw (lq_ob (N1 := M1) hF1 hE0 hB0 hR hSS htd1 htd2 (r1 := rM) (r2 := rM) ⟨rfl, rfl⟩ ⟨rfl, hpM.2.2.1, hpM.2.2.2⟩ rfl (fun i y => ⟨_, _, _, _, _, _, _, lB_no hb9 i y⟩)).2 (lv_sub hl [2, 3, 4, 5, 6] rfl)
end
section
theorem tx_mk {args : Array Value} {s : State} {own tx : String} {k n : Nat} {bytes : List Int32} {A : Nat → Prop} (hsr : (Cond.stringRef own k tx).before args s = true) (hex : (Cond.exactly (.string own k) RJ0).before args s = true) (hco : (Cond.eq (.field (.string own k) RJ0 "coder" "B") (.int 0)).before args s = true) (har : (Cond.arrayOf (.field (.string own k) RJ0 "value" "[B") .byte).before args s = true) (hle : (Cond.eq (.length (.field (.string own k) RJ0 "value" "[B")) (.int (Int32.ofNat n))).before args s = true) (hel : ∀ j : Nat, j < n → (Cond.eq (.elem (.field (.string own k) RJ0 "value" "[B") (.int (Int32.ofNat j))) (.int (bytes.getD j 0))).before args s = true) (hn : n < 2 ^ 31) (hA : ∀ a : Nat, a < s.heap.size → ¬ A a) : ∃ a v : Nat, vk_R own k tx a s ∧ tx_s a v n (fun j => bytes.getD j 0) A s s.heap := by
  obtain ⟨a, c, cA, kA, q1, q2, q3, q4, q5, q6, -⟩ := Cond.exactly_spec (args := args) (first := s) (o := none) (s := s) (idx := []) (t := .string own k) (cls := RJ0) hex
  obtain ⟨v, hv, hT⟩ := va_Tof (f := fun j => .int (bytes.getD j 0)) (A := A) hn har (va_eqt hle) (fun j hj => va_eqt (hel j hj)) hA
  exact ⟨a, v, vk_R.of hsr q1, ⟨cA, q3, q5, by rw [q6]; exact q2, hA a (Array.getElem?_eq_some_iff.mp q3).1⟩, vk_OFof q1 (va_eqt hco) hA, vk_OFof q1 hv hA, hT⟩
theorem tx_ls_RX7 : ((flatC (Jvm.Cond.and given_1 narrow_1)).drop 81).take 150 = (List.range 150).map (fun j => Cond.eq (.elem (.field (.string RX7 68) RJ0 "value" "[B") (.int (Int32.ofNat j))) (.int (tx_cb.getD j 0))) := by decide +kernel
theorem tx_el_RX7 : ∀ j : Nat, j < 150 → Cond.eq (.elem (.field (.string RX7 68) RJ0 "value" "[B") (.int (Int32.ofNat j))) (.int (tx_cb.getD j 0)) ∈ flatC (Jvm.Cond.and given_1 narrow_1) := by
  intro j hj
  have h : Cond.eq (.elem (.field (.string RX7 68) RJ0 "value" "[B") (.int (Int32.ofNat j))) (.int (tx_cb.getD j 0)) ∈ ((flatC (Jvm.Cond.and given_1 narrow_1)).drop 81).take 150 := by rw [tx_ls_RX7]; exact List.mem_map.mpr ⟨j, List.mem_range.mpr hj, rfl⟩
  exact List.mem_of_mem_drop (List.mem_of_mem_take h)
theorem tx_ls_RX10 : ((flatC (Jvm.Cond.and given_1 narrow_1)).drop 269).take 125 = (List.range 125).map (fun j => Cond.eq (.elem (.field (.string RX10 197) RJ0 "value" "[B") (.int (Int32.ofNat j))) (.int (tx_mb.getD j 0))) := by decide +kernel
theorem tx_el_RX10 : ∀ j : Nat, j < 125 → Cond.eq (.elem (.field (.string RX10 197) RJ0 "value" "[B") (.int (Int32.ofNat j))) (.int (tx_mb.getD j 0)) ∈ flatC (Jvm.Cond.and given_1 narrow_1) := by
  intro j hj
  have h : Cond.eq (.elem (.field (.string RX10 197) RJ0 "value" "[B") (.int (Int32.ofNat j))) (.int (tx_mb.getD j 0)) ∈ ((flatC (Jvm.Cond.and given_1 narrow_1)).drop 269).take 125 := by rw [tx_ls_RX10]; exact List.mem_map.mpr ⟨j, List.mem_range.mpr hj, rfl⟩
  exact List.mem_of_mem_drop (List.mem_of_mem_take h)
theorem lq_E {args : Array Value} {s : State} {A : Nat → Prop} (hts : ∀ w ∈ lw_tbl, w.before args s = true) (hflat : ∀ c ∈ flatC (Jvm.Cond.and given_1 narrow_1), c.before args s = true) (hA : ∀ a : Nat, a < s.heap.size → ¬ A a) : tx_E A s s.heap := by
  refine ⟨tx_mk (own := RX7) (k := 68) (tx := tx_c) (n := 150) (bytes := tx_cb) (hts _ (List.mem_of_getElem? (i := 638) (by decide +kernel))) (hflat _ (by decide +kernel)) (hflat _ (by decide +kernel)) (hflat _ (by decide +kernel)) (hflat _ (by decide +kernel)) (fun j hj => hflat _ (tx_el_RX7 j hj)) (by decide) hA, tx_mk (own := RX10) (k := 197) (tx := tx_m) (n := 125) (bytes := tx_mb) (hts _ (List.mem_of_getElem? (i := 1576) (by decide +kernel))) (hflat _ (by decide +kernel)) (hflat _ (by decide +kernel)) (hflat _ (by decide +kernel)) (hflat _ (by decide +kernel)) (fun j hj => hflat _ (tx_el_RX10 j hj)) (by decide) hA, ?_, ?_⟩
  · exact va_Zof (hts _ (List.mem_of_getElem? (i := 648) (by decide +kernel))) (hts _ (List.mem_of_getElem? (i := 136) (by decide +kernel))) (va_eqt (hflat _ (by decide +kernel))) hA
  · exact va_Zqof (hts _ (List.mem_of_getElem? (i := 656) (by decide +kernel))) (hts _ (List.mem_of_getElem? (i := 138) (by decide +kernel))) (hflat _ (by decide +kernel)) hA
theorem lq_arr {s : State} {args : Array Value} {ty : FieldType} (hp : ∀ C, ty ≠ .object C) (h : (Cond.arrayClass ty).before args s = true) : ∃ c : ClassId, ArrOfT s c ty ∧ va_RA s c ty := by
  obtain ⟨c, k, comp, h1, h2, h3⟩ := Cond.arrayClass_spec h
  refine ⟨c, fun n z => ⟨fun k h => (by cases h), k, h2, comp, h3⟩, ?_⟩
  cases ty <;> first | exact absurd rfl (hp _) | exact h1
theorem lq_aro {s : State} {args : Array Value} {C : String} (h : (Cond.arrayOver (.object C)).before args s = true) : ∃ c : ClassId, ArrOfT s c (.object C) ∧ va_RA s c (.object C) := by
  obtain ⟨comp, c, k, h1, h2, h3, h4, h5⟩ := Cond.arrayOver_spec h
  exact ⟨c, fun n z => ⟨fun k h => (by cases h), k, h3, comp, h4⟩, k, comp, h3, h4, h1, h5⟩
theorem lq_K {s : State} {args : Array Value} (hts : ∀ w ∈ lw_g, w.before args s = true) (ho1 : (Cond.arrayOver (.object RX1)).before args s = true) (ho2 : (Cond.arrayOver (.object RX2)).before args s = true) (ho3 : (Cond.arrayOver (.object RX3)).before args s = true) : ∃ (D : va_G) (cy : Nat → ClassId), va_K D vwCl (ti_ty cy) s := by
  obtain ⟨c0, iS0, hKn0⟩ := u_known (C := RX0) (T := TX0) (N := 6) (n := 6) hts iw_0 (hts _ is_X0)
  obtain ⟨c1, iS1, hKn1⟩ := u_known (C := RX1) (T := TX1) (N := 4) (n := 4) hts iw_1 (hts _ is_X1)
  obtain ⟨c2, iS2, hKn2⟩ := u_known (C := RX2) (T := TX2) (N := 10) (n := 10) hts iw_2 (hts _ is_X2)
  obtain ⟨c3, iS3, hKn3⟩ := u_known (C := RX3) (T := TX3) (N := 17) (n := 17) hts iw_3 (hts _ is_X3)
  obtain ⟨c4, iS4, hKn4⟩ := u_known (C := RX4) (T := TX4) (N := 6) (n := 6) hts iw_4 (hts _ is_X4)
  obtain ⟨c5, iS5, hKn5⟩ := u_known (C := RX5) (T := TX5) (N := 3) (n := 3) hts iw_5 (hts _ is_X5)
  obtain ⟨c6, iS6, hKn6⟩ := u_known (C := RX6) (T := TX6) (N := 13) (n := 13) hts iw_6 (hts _ is_X6)
  obtain ⟨c7, iS7, hKn7⟩ := u_known (C := RX7) (T := TX7) (N := 7) (n := 7) hts iw_7 (hts _ is_X7)
  obtain ⟨c8, iS8, hKn8⟩ := u_known (C := RX8) (T := TX8) (N := 12) (n := 12) hts iw_8 (hts _ is_X8)
  obtain ⟨c9, iS9, hKn9⟩ := u_known (C := RX9) (T := TX9) (N := 10) (n := 10) hts iw_9 (hts _ is_X9)
  obtain ⟨c10, iS10, hKn10⟩ := u_known (C := RX10) (T := TX10) (N := 67) (n := 67) hts iw_10 (hts _ is_X10)
  obtain ⟨a0, ha0⟩ := lq_arr (ty := .byte) (fun C h => by cases h) (hts _ ac_byte)
  obtain ⟨a1, ha1⟩ := lq_arr (ty := .int) (fun C h => by cases h) (hts _ ac_int)
  obtain ⟨a2, ha2⟩ := lq_arr (ty := .long) (fun C h => by cases h) (hts _ ac_long)
  obtain ⟨a3, ha3⟩ := lq_arr (ty := .boolean) (fun C h => by cases h) (hts _ ac_boolean)
  obtain ⟨a4, ha4⟩ := lq_aro ho1
  obtain ⟨a5, ha5⟩ := lq_aro ho2
  obtain ⟨a6, ha6⟩ := lq_aro ho3
  refine ⟨(fun k => match k with | 0 => c0 | 1 => c1 | 2 => c2 | 3 => c3 | 4 => c4 | 5 => c5 | 6 => c6 | 7 => c7 | 8 => c8 | 9 => c9 | _ => c10, fun k => match k with | 0 => iS0 | 1 => iS1 | 2 => iS2 | 3 => iS3 | 4 => iS4 | 5 => iS5 | 6 => iS6 | 7 => iS7 | 8 => iS8 | 9 => iS9 | _ => iS10), fun k => match k with | 0 => a0 | 1 => a1 | 2 => a2 | 3 => a3 | 4 => a4 | 5 => a5 | _ => a6, ?_, ?_⟩
  · intro k q hq
    match k, hq with
    | 0, hq => cases hq; exact hKn0
    | 1, hq => cases hq; exact hKn1
    | 2, hq => cases hq; exact hKn2
    | 3, hq => cases hq; exact hKn3
    | 4, hq => cases hq; exact hKn4
    | 5, hq => cases hq; exact hKn5
    | 6, hq => cases hq; exact hKn6
    | 7, hq => cases hq; exact hKn7
    | 8, hq => cases hq; exact hKn8
    | 9, hq => cases hq; exact hKn9
    | 10, hq => cases hq; exact hKn10
    | k + 11, hq => simp [vwCl] at hq
  · intro k q hq
    match k, hq with
    | 0, hq => cases hq; exact ha0
    | 1, hq => cases hq; exact ha1
    | 2, hq => cases hq; exact ha2
    | 3, hq => cases hq; exact ha3
    | 4, hq => cases hq; exact ha4
    | 5, hq => cases hq; exact ha5
    | 6, hq => cases hq; exact ha6
    | k + 7, hq => simp [ti_ty] at hq
set_option maxHeartbeats 4000000 in
set_option maxRecDepth 100000 in
theorem lq_loop {p : Program} {l : Launch} {e : Env} {s : State} {m : MethodId} {below : List Frame} {meth : Method} {c : Code} {D : va_G} {cy : Nat → ClassId} {A1 A2 : Nat → Nat → Nat} {b q3 L : Nat} {xs : Nat → Int32} (hfl : l.flags = flags0) (h4 : lk_S (lq_F s) s s.heap) (Z : lq_Z p s m meth c D cy A1 A2 b L xs) : ∀ (n : Nat) (iv : Int32) (M1 M2 : ti_M) (H : Heap) (locs : List Loc) (ls : Array Slot) (cells slots : Nat), (L : Int) - iv.toInt < n → 0 ≤ iv.toInt → iv.toInt ≤ 3072 → cells + n ≤ 601024 → slots + 6 * n ≤ 7293034 → lq_H s D cy A1 A2 q3 M1 M2 H locs → lq_I M1 M2 → lv_has ls 7 [(4, .int iv), (3, .ref q3), (2, .ref (A2 60 0)), (1, .ref (A1 0 0)), (0, .ref b)] → W p l e room_1 s m #[Value.ref b] below meth c H locs cells slots (lw_Z below #[Value.ref b] s) (F0 m 23 ls []) := by
  intro n
  induction n with
  | zero =>
    intro iv M1 M2 H locs ls cells slots hn h0 h1 hc1 hc2 hw hI hl
    have C := Z.1
    have hx := C.1
    have hb := C.2.1
    have hbA : ¬ lq_F s b := Nat.not_le.mpr Z.2.2.2.1
    have hL := Z.2.2.2.2.2.2.1
    have tz : (Int32.ofNat L - 6).toInt = (L : Int) - 6 := i_sub rfl (nI_toInt (by omega)) (by decide : (6 : Int32).toInt = 6) (by omega) (by omega)
    refine lv_iload hx hb dL_law_23 (lv_at hl 0 rfl) ?_
    refine lv_aload_n hx hb dL_law_25 rfl (lv_at hl 4 rfl) ?_
    refine va_slen hx hb Z.2.2.1 Z.2.2.2.1 hbA hw.2.2.1 dL_law_26 ?_
    refine lv_bipush (v := 6) hx hb dL_law_27 (by decide) ?_
    refine lv_isub hx hb dL_law_29 ?_
    refine sb_icmp_gt (tgt := 1527) hx hb rfl tz dL_law_30 (by decide) (fun c9 => ?_) (fun c9 => by omega)
    exact lq_ret hx hb Z.2.2.2.2.1 Z.2.2.2.2.2.1 hw.2.2.1 ⟨by omega, by omega⟩
  | succ n ih =>
    intro iv M1 M2 H locs ls cells slots hn h0 h1 hc1 hc2 hw hI hl
    have C := Z.1
    have hx := C.1
    have hb := C.2.1
    have hbA : ¬ lq_F s b := Nat.not_le.mpr Z.2.2.2.1
    have hL := Z.2.2.2.2.2.2.1
    have tz : (Int32.ofNat L - 6).toInt = (L : Int) - 6 := i_sub rfl (nI_toInt (by omega)) (by decide : (6 : Int32).toInt = 6) (by omega) (by omega)
    refine lv_iload hx hb dL_law_23 (lv_at hl 0 rfl) ?_
    refine lv_aload_n hx hb dL_law_25 rfl (lv_at hl 4 rfl) ?_
    refine va_slen hx hb Z.2.2.1 Z.2.2.2.1 hbA hw.2.2.1 dL_law_26 ?_
    refine lv_bipush (v := 6) hx hb dL_law_27 (by decide) ?_
    refine lv_isub hx hb dL_law_29 ?_
    refine sb_icmp_gt (tgt := 1527) hx hb rfl tz dL_law_30 (by decide) (fun c9 => ?_) (fun c9 => ?_)
    · exact lq_ret hx hb Z.2.2.2.2.1 Z.2.2.2.2.2.1 hw.2.2.1 ⟨by omega, by omega⟩
    have hi : 0 ≤ iv.toInt ∧ iv.toInt + 6 ≤ L := ⟨h0, by omega⟩
    have hcs4 : cells + 1 ≤ room_1.cells ∧ slots + 6 ≤ room_1.slots := ⟨Nat.le_trans (by omega) hc1, Nat.le_trans (by omega) hc2⟩
    have hcs : cells ≤ room_1.cells ∧ slots ≤ room_1.slots := ⟨Nat.le_trans (by omega) hc1, Nat.le_trans (by omega) hc2⟩
    have ti6 : (iv + 6).toInt = iv.toInt + 6 := i_add rfl rfl (by decide : (6 : Int32).toInt = 6) (by omega) (by omega)
    have kk1 : ∀ (M1 M2 : ti_M) (H : Heap) (locs : List Loc) (ls : Array Slot), lq_H s D cy A1 A2 q3 M1 M2 H locs → lq_I M1 M2 → lv_has ls 7 [(4, .int iv), (3, .ref q3), (2, .ref (A2 60 0)), (1, .ref (A1 0 0)), (0, .ref b)] → W p l e room_1 s m #[Value.ref b] below meth c H locs (cells + 1) (slots + 6) (lw_Z below #[Value.ref b] s) (F0 m 1521 ls []) := by
      intro M1 M2 H locs ls hw hI hl
      refine lv_iinc (v := iv + 6) (lv' := [(4, .int (iv + 6)), (3, .ref q3), (2, .ref (A2 60 0)), (1, .ref (A1 0 0)), (0, .ref b)]) hx hb dL_law_1521 hl (k := 0) rfl rfl (by decide) rfl (fun ls hl => ?_)
      refine lv_goto (tgt := 23) hx hb dL_law_1524 (by decide) ?_
      exact ih (iv + 6) M1 M2 H locs ls (cells + 1) (slots + 6) (by rw [ti6]; omega) (by rw [ti6]; omega) (by rw [ti6]; omega) (by omega) (by omega) hw hI hl
    have kk : ∀ (M1 M2 : ti_M) (H : Heap) (locs : List Loc) (ls : Array Slot), lq_H s D cy A1 A2 q3 M1 M2 H locs → lq_I M1 M2 → lv_has ls 7 [(4, .int iv), (3, .ref q3), (2, .ref (A2 60 0)), (1, .ref (A1 0 0)), (0, .ref b)] → W p l e room_1 s m #[Value.ref b] below meth c H locs cells slots (lw_Z below #[Value.ref b] s) (F0 m 1521 ls []) := fun M1 M2 H locs ls hw hI hl => W.widen (Nat.le_add_right _ _) (Nat.le_add_right _ _) (kk1 M1 M2 H locs ls hw hI hl)
    refine lv_aload_n hx hb dL_law_33 rfl (lv_at hl 4 rfl) ?_
    refine lv_iload hx hb dL_law_34 (lv_at hl 0 rfl) ?_
    refine va_sld hx hb Z.2.2.1 Z.2.2.2.1 hbA hw.2.2.1 (lq_in0 hi) dL_law_36 ?_
    refine lv_bipush (v := 63) hx hb dL_law_37 (by decide) ?_
    refine lv_iand hx hb dL_law_39 ?_
    refine lv_topi (fun z ez => ?_)
    by_cases s_0 : z = 0
    · refine lv_tableIn (tgt := 208) (off := 168) hx hb dL_law_40 (by rw [s_0]; decide) (by rw [s_0]; decide) (by rw [s_0]; decide) (by decide) ?_
      exact lq_c0 Z hcs hw hI hi hl kk
    by_cases s_1 : z = 1
    · refine lv_tableIn (tgt := 281) (off := 241) hx hb dL_law_40 (by rw [s_1]; decide) (by rw [s_1]; decide) (by rw [s_1]; decide) (by decide) ?_
      exact lq_c1 Z hcs hw hI hi hl kk
    by_cases s_2 : z = 2
    · refine lv_tableIn (tgt := 306) (off := 266) hx hb dL_law_40 (by rw [s_2]; decide) (by rw [s_2]; decide) (by rw [s_2]; decide) (by decide) ?_
      exact lq_c2 Z hcs hw hI hi hl kk
    by_cases s_3 : z = 3
    · refine lv_tableIn (tgt := 331) (off := 291) hx hb dL_law_40 (by rw [s_3]; decide) (by rw [s_3]; decide) (by rw [s_3]; decide) (by decide) ?_
      exact lq_c3 Z hcs hw hI hi hl kk
    by_cases s_4 : z = 4
    · refine lv_tableIn (tgt := 356) (off := 316) hx hb dL_law_40 (by rw [s_4]; decide) (by rw [s_4]; decide) (by rw [s_4]; decide) (by decide) ?_
      exact lq_c4 hfl h4 Z hcs4 hw hI hi hl kk1
    by_cases s_5 : z = 5
    · refine lv_tableIn (tgt := 424) (off := 384) hx hb dL_law_40 (by rw [s_5]; decide) (by rw [s_5]; decide) (by rw [s_5]; decide) (by decide) ?_
      exact lq_c5 Z hcs hw hI hi hl kk
    by_cases s_6 : z = 6
    · refine lv_tableIn (tgt := 449) (off := 409) hx hb dL_law_40 (by rw [s_6]; decide) (by rw [s_6]; decide) (by rw [s_6]; decide) (by decide) ?_
      exact lq_c6 Z hcs hw hI hi hl kk
    by_cases s_7 : z = 7
    · refine lv_tableIn (tgt := 474) (off := 434) hx hb dL_law_40 (by rw [s_7]; decide) (by rw [s_7]; decide) (by rw [s_7]; decide) (by decide) ?_
      exact lq_c7 Z hcs hw hI hi hl kk
    by_cases s_8 : z = 8
    · refine lv_tableIn (tgt := 511) (off := 471) hx hb dL_law_40 (by rw [s_8]; decide) (by rw [s_8]; decide) (by rw [s_8]; decide) (by decide) ?_
      exact lq_c8 Z hcs hw hI hi hl kk
    by_cases s_9 : z = 9
    · refine lv_tableIn (tgt := 536) (off := 496) hx hb dL_law_40 (by rw [s_9]; decide) (by rw [s_9]; decide) (by rw [s_9]; decide) (by decide) ?_
      exact lq_c9 Z hcs hw hI hi hl kk
    by_cases s_10 : z = 10
    · refine lv_tableIn (tgt := 561) (off := 521) hx hb dL_law_40 (by rw [s_10]; decide) (by rw [s_10]; decide) (by rw [s_10]; decide) (by decide) ?_
      exact lq_c10 Z hcs hw hI hi hl kk
    by_cases s_11 : z = 11
    · refine lv_tableIn (tgt := 586) (off := 546) hx hb dL_law_40 (by rw [s_11]; decide) (by rw [s_11]; decide) (by rw [s_11]; decide) (by decide) ?_
      exact lq_c11 Z hcs hw hI hi hl kk
    by_cases s_12 : z = 12
    · refine lv_tableIn (tgt := 635) (off := 595) hx hb dL_law_40 (by rw [s_12]; decide) (by rw [s_12]; decide) (by rw [s_12]; decide) (by decide) ?_
      exact lq_c12 Z hcs hw hI hi hl kk
    by_cases s_13 : z = 13
    · refine lv_tableIn (tgt := 672) (off := 632) hx hb dL_law_40 (by rw [s_13]; decide) (by rw [s_13]; decide) (by rw [s_13]; decide) (by decide) ?_
      exact lq_c13 Z hcs hw hI hi hl kk
    by_cases s_14 : z = 14
    · refine lv_tableIn (tgt := 697) (off := 657) hx hb dL_law_40 (by rw [s_14]; decide) (by rw [s_14]; decide) (by rw [s_14]; decide) (by decide) ?_
      exact lq_c14 Z hcs hw hI hi hl kk
    by_cases s_15 : z = 15
    · refine lv_tableIn (tgt := 734) (off := 694) hx hb dL_law_40 (by rw [s_15]; decide) (by rw [s_15]; decide) (by rw [s_15]; decide) (by decide) ?_
      exact lq_c15 Z hcs hw hI hi hl kk
    by_cases s_16 : z = 16
    · refine lv_tableIn (tgt := 771) (off := 731) hx hb dL_law_40 (by rw [s_16]; decide) (by rw [s_16]; decide) (by rw [s_16]; decide) (by decide) ?_
      exact lq_c16 Z hcs hw hI hi hl kk
    by_cases s_17 : z = 17
    · refine lv_tableIn (tgt := 808) (off := 768) hx hb dL_law_40 (by rw [s_17]; decide) (by rw [s_17]; decide) (by rw [s_17]; decide) (by decide) ?_
      exact lq_c17 Z hcs hw hI hi hl kk
    by_cases s_18 : z = 18
    · refine lv_tableIn (tgt := 833) (off := 793) hx hb dL_law_40 (by rw [s_18]; decide) (by rw [s_18]; decide) (by rw [s_18]; decide) (by decide) ?_
      exact lq_c18 Z hcs hw hI hi hl kk
    by_cases s_19 : z = 19
    · refine lv_tableIn (tgt := 882) (off := 842) hx hb dL_law_40 (by rw [s_19]; decide) (by rw [s_19]; decide) (by rw [s_19]; decide) (by decide) ?_
      exact lq_c19 Z hcs hw hI hi hl kk
    by_cases s_20 : z = 20
    · refine lv_tableIn (tgt := 931) (off := 891) hx hb dL_law_40 (by rw [s_20]; decide) (by rw [s_20]; decide) (by rw [s_20]; decide) (by decide) ?_
      exact lq_c20 Z hcs hw hI hi hl kk
    by_cases s_21 : z = 21
    · refine lv_tableIn (tgt := 944) (off := 904) hx hb dL_law_40 (by rw [s_21]; decide) (by rw [s_21]; decide) (by rw [s_21]; decide) (by decide) ?_
      exact lq_c21 Z hcs hw hI hi hl kk
    by_cases s_22 : z = 22
    · refine lv_tableIn (tgt := 993) (off := 953) hx hb dL_law_40 (by rw [s_22]; decide) (by rw [s_22]; decide) (by rw [s_22]; decide) (by decide) ?_
      exact lq_c22 Z hcs hw hI hi hl kk
    by_cases s_23 : z = 23
    · refine lv_tableIn (tgt := 1054) (off := 1014) hx hb dL_law_40 (by rw [s_23]; decide) (by rw [s_23]; decide) (by rw [s_23]; decide) (by decide) ?_
      exact lq_c23 Z hcs hw hI hi hl kk
    by_cases s_24 : z = 24
    · refine lv_tableIn (tgt := 1115) (off := 1075) hx hb dL_law_40 (by rw [s_24]; decide) (by rw [s_24]; decide) (by rw [s_24]; decide) (by decide) ?_
      exact lq_c24 Z hcs hw hI hi hl kk
    by_cases s_25 : z = 25
    · refine lv_tableIn (tgt := 1164) (off := 1124) hx hb dL_law_40 (by rw [s_25]; decide) (by rw [s_25]; decide) (by rw [s_25]; decide) (by decide) ?_
      exact lq_c25 Z hcs hw hI hi hl kk
    by_cases s_26 : z = 26
    · refine lv_tableIn (tgt := 1201) (off := 1161) hx hb dL_law_40 (by rw [s_26]; decide) (by rw [s_26]; decide) (by rw [s_26]; decide) (by decide) ?_
      exact lq_c26 Z hcs hw hI hi hl kk
    by_cases s_27 : z = 27
    · refine lv_tableIn (tgt := 1250) (off := 1210) hx hb dL_law_40 (by rw [s_27]; decide) (by rw [s_27]; decide) (by rw [s_27]; decide) (by decide) ?_
      exact lq_c27 Z hcs hw hI hi hl kk
    by_cases s_28 : z = 28
    · refine lv_tableIn (tgt := 1275) (off := 1235) hx hb dL_law_40 (by rw [s_28]; decide) (by rw [s_28]; decide) (by rw [s_28]; decide) (by decide) ?_
      exact lq_c28 Z hcs hw hI hi hl kk
    by_cases s_29 : z = 29
    · refine lv_tableIn (tgt := 1300) (off := 1260) hx hb dL_law_40 (by rw [s_29]; decide) (by rw [s_29]; decide) (by rw [s_29]; decide) (by decide) ?_
      exact lq_c29 Z hcs hw hI hi hl kk
    by_cases s_30 : z = 30
    · refine lv_tableIn (tgt := 1313) (off := 1273) hx hb dL_law_40 (by rw [s_30]; decide) (by rw [s_30]; decide) (by rw [s_30]; decide) (by decide) ?_
      exact lq_c30 Z hcs hw hI hi hl kk
    by_cases s_31 : z = 31
    · refine lv_tableIn (tgt := 1350) (off := 1310) hx hb dL_law_40 (by rw [s_31]; decide) (by rw [s_31]; decide) (by rw [s_31]; decide) (by decide) ?_
      exact lq_c31 Z hcs hw hI hi hl kk
    by_cases s_32 : z = 32
    · refine lv_tableIn (tgt := 1387) (off := 1347) hx hb dL_law_40 (by rw [s_32]; decide) (by rw [s_32]; decide) (by rw [s_32]; decide) (by decide) ?_
      exact lq_c32 Z hcs hw hI hi hl kk
    by_cases s_33 : z = 33
    · refine lv_tableIn (tgt := 1436) (off := 1396) hx hb dL_law_40 (by rw [s_33]; decide) (by rw [s_33]; decide) (by rw [s_33]; decide) (by decide) ?_
      exact lq_c33 Z hcs hw hI hi hl kk
    by_cases s_34 : z = 34
    · refine lv_tableIn (tgt := 1485) (off := 1445) hx hb dL_law_40 (by rw [s_34]; decide) (by rw [s_34]; decide) (by rw [s_34]; decide) (by decide) ?_
      exact lq_c34 Z hcs hw hI hi hl kk
    by_cases s_35 : z = 35
    · refine lv_tableIn (tgt := 1498) (off := 1458) hx hb dL_law_40 (by rw [s_35]; decide) (by rw [s_35]; decide) (by rw [s_35]; decide) (by decide) ?_
      exact lq_c35 Z hcs hw hI hi hl kk
    by_cases s_36 : z = 36
    · refine lv_tableIn (tgt := 1511) (off := 1471) hx hb dL_law_40 (by rw [s_36]; decide) (by rw [s_36]; decide) (by rw [s_36]; decide) (by decide) ?_
      exact lq_c36 Z hcs hw hI hi hl kk
    by_cases s_37 : z = 37
    · refine lv_tableIn (tgt := 1524) (off := 1484) hx hb dL_law_40 (by rw [s_37]; decide) (by rw [s_37]; decide) (by rw [s_37]; decide) (by decide) ?_
      exact lq_c37 Z hcs hw hI hi hl kk
    refine lv_tableOut (tgt := 1521) hx hb dL_law_40 (ti_out (lo := 0) (hi := 37) z (by
        intro v h1 h2
        have h3 : v = 0 ∨ v = 1 ∨ v = 2 ∨ v = 3 ∨ v = 4 ∨ v = 5 ∨ v = 6 ∨ v = 7 ∨ v = 8 ∨ v = 9 ∨ v = 10 ∨ v = 11 ∨ v = 12 ∨ v = 13 ∨ v = 14 ∨ v = 15 ∨ v = 16 ∨ v = 17 ∨ v = 18 ∨ v = 19 ∨ v = 20 ∨ v = 21 ∨ v = 22 ∨ v = 23 ∨ v = 24 ∨ v = 25 ∨ v = 26 ∨ v = 27 ∨ v = 28 ∨ v = 29 ∨ v = 30 ∨ v = 31 ∨ v = 32 ∨ v = 33 ∨ v = 34 ∨ v = 35 ∨ v = 36 ∨ v = 37 := by omega
        rcases h3 with rfl | rfl | rfl | rfl | rfl | rfl | rfl | rfl | rfl | rfl | rfl | rfl | rfl | rfl | rfl | rfl | rfl | rfl | rfl | rfl | rfl | rfl | rfl | rfl | rfl | rfl | rfl | rfl | rfl | rfl | rfl | rfl | rfl | rfl | rfl | rfl | rfl | rfl <;> first | exact ti_nev 0 s_0 (by decide) | exact ti_nev 1 s_1 (by decide) | exact ti_nev 2 s_2 (by decide) | exact ti_nev 3 s_3 (by decide) | exact ti_nev 4 s_4 (by decide) | exact ti_nev 5 s_5 (by decide) | exact ti_nev 6 s_6 (by decide) | exact ti_nev 7 s_7 (by decide) | exact ti_nev 8 s_8 (by decide) | exact ti_nev 9 s_9 (by decide) | exact ti_nev 10 s_10 (by decide) | exact ti_nev 11 s_11 (by decide) | exact ti_nev 12 s_12 (by decide) | exact ti_nev 13 s_13 (by decide) | exact ti_nev 14 s_14 (by decide) | exact ti_nev 15 s_15 (by decide) | exact ti_nev 16 s_16 (by decide) | exact ti_nev 17 s_17 (by decide) | exact ti_nev 18 s_18 (by decide) | exact ti_nev 19 s_19 (by decide) | exact ti_nev 20 s_20 (by decide) | exact ti_nev 21 s_21 (by decide) | exact ti_nev 22 s_22 (by decide) | exact ti_nev 23 s_23 (by decide) | exact ti_nev 24 s_24 (by decide) | exact ti_nev 25 s_25 (by decide) | exact ti_nev 26 s_26 (by decide) | exact ti_nev 27 s_27 (by decide) | exact ti_nev 28 s_28 (by decide) | exact ti_nev 29 s_29 (by decide) | exact ti_nev 30 s_30 (by decide) | exact ti_nev 31 s_31 (by decide) | exact ti_nev 32 s_32 (by decide) | exact ti_nev 33 s_33 (by decide) | exact ti_nev 34 s_34 (by decide) | exact ti_nev 35 s_35 (by decide) | exact ti_nev 36 s_36 (by decide) | exact ti_nev 37 s_37 (by decide))) (by decide) ?_
    exact kk M1 M2 H locs ls hw hI hl
set_option maxHeartbeats 4000000 in
set_option maxRecDepth 100000 in
theorem whole_start {p : Program} {e : Env} {s : State} {m : MethodId} {below : List Frame} {meth : Method} {c : Code} (l : Launch) (hflags : l.flags = flags0) {b L : Nat} {xs : Nat → Int32} (hL : L ≤ 3072) (C0 : lw_At p s m meth c b L xs) : W p l e room_1 s m #[Value.ref b] below meth c s.heap [] 0 0 (lw_Z below #[Value.ref b] s) (entryFrame m ([Value.ref b] : List Value).toArray 7) := by
  obtain ⟨hx, hb, hr, hml, hown, hts, hX, hbl, hlocks, hgv⟩ := id C0
  have hA : ∀ q : Nat, s.heap.size ≤ q → lq_F s q := fun _ h => h
  have hbA : ¬ lq_F s b := Nat.not_le.mpr hbl
  have ho1 : (Cond.arrayOver (.object RX1)).before #[Value.ref b] s = true := hts _ (List.mem_of_getElem? (i := 224) (by decide +kernel))
  have ho2 : (Cond.arrayOver (.object RX2)).before #[Value.ref b] s = true := hts _ (List.mem_of_getElem? (i := 222) (by decide +kernel))
  have ho3 : (Cond.arrayOver (.object RX3)).before #[Value.ref b] s = true := hts _ (List.mem_of_getElem? (i := 460) (by decide +kernel))
  obtain ⟨D, cy, hK⟩ := lq_K (lw_g_hts hts) ho1 ho2 ho3
  have hN : ti_N s := ⟨va_Nw.of rfl (hts _ (List.mem_of_getElem? (i := 156) (by decide +kernel))), va_Nw.of rfl (hts _ (List.mem_of_getElem? (i := 162) (by decide +kernel))), va_Nw.of rfl (hts _ (List.mem_of_getElem? (i := 226) (by decide +kernel))), va_Nw.of rfl (hts _ (List.mem_of_getElem? (i := 279) (by decide +kernel))), va_Nw.of rfl (hts _ (List.mem_of_getElem? (i := 372) (by decide +kernel))), va_Nw.of rfl (hts _ (List.mem_of_getElem? (i := 461) (by decide +kernel))), va_Nw.of rfl (hts _ (List.mem_of_getElem? (i := 475) (by decide +kernel))), va_Nw.of rfl (hts _ (List.mem_of_getElem? (i := 480) (by decide +kernel))), va_Nw.of rfl (hts _ (List.mem_of_getElem? (i := 527) (by decide +kernel))), va_Nw.of rfl (hts _ (List.mem_of_getElem? (i := 532) (by decide +kernel))), va_AO.of ho1, va_AO.of ho2, va_AO.of ho3⟩
  have C : lq_B p s m c #[Value.ref b] cL_law RL 7 D cy := ⟨hx, hb, lw_g_hts hts, hown, hK, hml, trivial, hN⟩
  have hini : (Cond.initialized Bundle.tN).before #[Value.ref b] s = true := hts _ (List.mem_of_getElem? (i := 140) (by decide +kernel))
  have hflat := flat_of_before _ hgv
  have hAn : ∀ a : Nat, a < s.heap.size → ¬ lq_F s a := fun a h1 h2 => Nat.not_le.mpr h1 h2
  have hE : tx_E (lq_F s) s s.heap := lq_E hts hflat hAn
  have h4 : lk_S (lq_F s) s s.heap := by
    have hsr : (Cond.stringRef RX9 110 lk_t).before #[Value.ref b] s = true := hts _ (List.mem_of_getElem? (i := 1285) (by decide +kernel))
    have hs2 : (Cond.stringRef RX9 156 lk_t2).before #[Value.ref b] s = true := hts _ (List.mem_of_getElem? (i := 1321) (by decide +kernel))
    obtain ⟨-, -, -, sa, -, -, -, -, -, hev⟩ := Cond.stringRef_spec (hK.1 9 _ rfl).2.1 hsr
    obtain ⟨-, -, -, sb, -, -, -, -, -, hev2⟩ := Cond.stringRef_spec (hK.1 9 _ rfl).2.1 hs2
    exact ⟨⟨⟨sa, vk_R.of hsr hev⟩, sb, vk_R.of hs2 hev2⟩, vx_Zqof (hts _ (List.mem_of_getElem? (i := 1272) (by decide +kernel))) hini (hflat _ (by decide +kernel)) hAn, vx_Zqof (hts _ (List.mem_of_getElem? (i := 1274) (by decide +kernel))) hini (hflat _ (by decide +kernel)) hAn, va_Nw.of rfl (hts _ (List.mem_of_getElem? (i := 1249) (by decide +kernel))), va_Nw.of rfl (hts _ (List.mem_of_getElem? (i := 1251) (by decide +kernel))), va_Nw.of rfl (hts _ (List.mem_of_getElem? (i := 1253) (by decide +kernel))), va_Nw.of rfl (hts _ (List.mem_of_getElem? (i := 1247) (by decide +kernel))), va_Nw.of rfl (hts _ (List.mem_of_getElem? (i := 1314) (by decide +kernel))), va_Nc.of (hflat _ (by decide +kernel))⟩
  have hP : va_P D vwCl [] s.heap := fun k q h => by simp at h
  have hD : va_D (lq_F s) [] := ⟨fun i j p q h => by simp at h, fun k q h => by simp at h⟩
  have hS : va_S (lq_F s) s.heap s.heap [] := va_S.rf
  have hl := lv_entry ([.ref b]) (n := 7) (Nat.le_of_ble_eq_true rfl)
  rw [lg_entry_eq]
  generalize (lg_sl ([.ref b]) ++ List.replicate (7 - (lg_sl ([.ref b])).length) Slot.unset).toArray = ls at hl ⊢
  have hl : lv_has ls 7 [(0, .ref b)] := hl
  refine lq_nO (ci := 9) (fs := [.null, .null, .null, .null, .null, .null, .null, .int 0, .null, .null]) (T := TX9) (N := 10) tyX9 tyX9_ok C iw_9 ck_L_8 is_X9 in_X9 rfl hP hD hS hA nf_9 1 10 (Nat.le_of_ble_eq_true rfl) (Nat.le_of_ble_eq_true rfl) ⟨Nat.le_of_ble_eq_true rfl, Nat.le_of_ble_eq_true rfl⟩ dL_law_0 (fun q9 H hP hD hS => ?_)
  refine lv_dup hx hb dL_law_3 rfl ?_
  refine lq_callCI C (z_X9_init l D cy q9 H.size) ml_L_17 rfl ym_X9_init yi_X9_init yc_X9_init yd_X9_init hP hD hS hA hl.1 (Nat.le_of_ble_eq_true rfl) ⟨by decide, by decide⟩ 378 5869 (Nat.le_of_ble_eq_true rfl) (Nat.le_of_ble_eq_true rfl) ⟨Nat.le_of_ble_eq_true rfl, Nat.le_of_ble_eq_true rfl⟩ dL_law_4 (fun u9 Hc9 locs9 hp9 hPc9 hDc9 hSc9 => ?_)
  obtain ⟨A1, M1⟩ := u9
  obtain ⟨rfl, h1, h1b, c1, c2, c3, c4, c5, c6, c7, c8, c9, c10, c11, J9, c12⟩ := hp9
  refine lv_astore_n (lv' := [(1, .ref (A1 0 0)), (0, .ref b)]) hx hb dL_law_7 rfl hl (by decide) rfl (fun ls hl => ?_)
  have hP : va_P D vwCl (ti_W ti_LT A1 cy M1) Hc9 := hPc9
  have hD : va_D (lq_F s) (ti_W ti_LT A1 cy M1) := hDc9
  have hS := hSc9
  refine lq_nO (ci := 10) (fs := [.int 0, .null, .int 0, .null, .null, .null, .null, .null, .null, .null, .null, .null, .null, .null, .null, .null, .null, .null, .int 0, .int 0, .int 0, .int 0, .int 0, .int 0, .int 0, .int 0, .int 0, .int 0, .int 0, .int 0, .int 0, .null, .null, .int 0, .null, .null, .null, .null, .null, .null, .null, .null, .null, .null, .null, .null, .null, .null, .null, .null, .null, .int 0, .int 0, .int 0, .null, .null, .int 0, .null, .int 0, .int 0, .null, .null, .null, .null, .null, .int 0, .int 0]) (T := TX10) (N := 67) tyX10 tyX10_ok C iw_10 ck_L_18 is_X10 in_X10 rfl hP hD hS hA nf_10 379 5936 (Nat.le_of_ble_eq_true rfl) (Nat.le_of_ble_eq_true rfl) ⟨Nat.le_of_ble_eq_true rfl, Nat.le_of_ble_eq_true rfl⟩ dL_law_8 (fun q10 H hP hD hS => ?_)
  refine lv_dup hx hb dL_law_11 rfl ?_
  refine lq_callCI C (z_X10_init l D cy q10 H.size J9) ml_L_20 rfl ym_X10_init yi_X10_init yc_X10_init yd_X10_init hP hD hS hA hl.1 (Nat.le_of_ble_eq_true rfl) ⟨by decide, by decide⟩ 422 10060 (Nat.le_of_ble_eq_true rfl) (Nat.le_of_ble_eq_true rfl) ⟨Nat.le_of_ble_eq_true rfl, Nat.le_of_ble_eq_true rfl⟩ dL_law_12 (fun u10 Hc10 locs10 hp10 hPc10 hDc10 hSc10 => ?_)
  obtain ⟨A2, M2⟩ := u10
  obtain ⟨rfl, h2, h2b, h2c, d1, d2, d3, d4, d5, d6⟩ := hp10
  refine lv_astore_n (lv' := [(2, .ref (A2 60 0)), (1, .ref (A1 0 0)), (0, .ref b)]) hx hb dL_law_15 rfl hl (by decide) rfl (fun ls hl => ?_)
  have hP : va_P D vwCl (ti_W ti_LT A1 cy M1 ++ ti_W ti_LM A2 cy M2) Hc10 := hPc10
  have hD : va_D (lq_F s) (ti_W ti_LT A1 cy M1 ++ ti_W ti_LM A2 cy M2) := hDc10
  have hS := hSc10
  refine lv_iconst (v := 1) hx hb dL_law_16 (by decide) ?_
  refine lq_nA (atype := .long) (a0 := (1, .inr (.inl (fun _ => 0)))) 2 C ac_long rfl (fun C h => by cases h) rfl hP hD hS hA (fun _ => rfl) (by decide) (by decide) (Nat.le_of_ble_eq_true rfl) 423 10061 (Nat.le_of_ble_eq_true rfl) (Nat.le_of_ble_eq_true rfl) ⟨Nat.le_of_ble_eq_true rfl, Nat.le_of_ble_eq_true rfl⟩ dL_law_17 (fun q3 H hP hD hS => ?_)
  refine lv_astore_n (lv' := [(3, .ref q3), (2, .ref (A2 60 0)), (1, .ref (A1 0 0)), (0, .ref b)]) hx hb dL_law_19 rfl hl (by decide) rfl (fun ls hl => ?_)
  refine lv_iconst (v := 0) hx hb dL_law_20 (by decide) ?_
  refine lv_istore (lv' := [(4, .int 0), (3, .ref q3), (2, .ref (A2 60 0)), (1, .ref (A1 0 0)), (0, .ref b)]) hx hb dL_law_21 hl (by decide) rfl (fun ls hl => ?_)
  obtain ⟨hAA, hw⟩ := lq_mk hP hD hS
  have z0 : (0 : Int32).toInt = 0 := by decide
  exact lq_loop hflags h4 ⟨C, hAA, hX, hbl, hr, hlocks, hL, hE⟩ (L + 1) 0 M1 M2 H _ ls 423 10061 (by rw [z0]; omega) (by rw [z0]; omega) (by rw [z0]; omega) (by omega) (by omega) hw ⟨_, _, h1, h2, h1b.trans h2b.symm, (fun i hi => by rw [h1b] at hi; have z1 : (0 : Int32).toInt = 0 := (by decide); omega), (by rw [c1]), (by rw [c2]), (congrArg Int32.toInt c6), (congrArg Int32.toInt c7), (td_0 c3 c4 c5 h2c).elim (fun rg h => ⟨rg, h.1, h.2, lE_new (Or.inl rfl) c11 c3 c8 c12 c9 c10 tW_0 d1 d2 d3 d4 d5 d6⟩)⟩ hl
end

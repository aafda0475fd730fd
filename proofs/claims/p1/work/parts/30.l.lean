abbrev lk_E : String := "java/lang/IndexOutOfBoundsException"
abbrev lk_N : List String := ["java/lang/RuntimeException", "java/lang/Exception"]
abbrev lk_t : String := "no such man"
def lk_Y (U : State) : Prop := va_Nw (.declares (Bundle.initS "java/lang/RuntimeException")) U ∧ va_Nw (.declares (Bundle.initS "java/lang/Exception")) U ∧ va_Nw (.declares (Bundle.initS "java/lang/Throwable")) U ∧ va_Nw (.castable lk_E lk_E) U
theorem lk_Y.warm {s U : State} (hW : s.WarmedH U.vm) (h : lk_Y s) : lk_Y U := ⟨h.1.warmD hW, h.2.1.warmD hW, h.2.2.1.warmD hW, h.2.2.2.warmC hW⟩
theorem lk_Y.call {U : State} {g : JFrame} {mk : MethodId} {a : Array Value} (h : lk_Y U) : lk_Y (U.calling g mk a) := ⟨va_Nw.same rfl rfl h.1, va_Nw.same rfl rfl h.2.1, va_Nw.same rfl rfl h.2.2.1, va_Nw.same rfl rfl h.2.2.2⟩
def lk_S (A : Nat → Prop) (U : State) (H : Heap) : Prop := (∃ sa, vk_R RX9 110 lk_t sa U) ∧ vx_Zq Bundle.tN "UNASSIGNED_STACK" Bundle.steD A U H ∧ vx_Zq Bundle.tN "SUPPRESSED_SENTINEL" Bundle.listD A U H ∧ lk_Y U
theorem lk_at {args : Array Value} {s : State} (hts : ∀ w ∈ lw_g, w.before args s = true) (hY : lk_Y s) : ∀ w ∈ vx_atS RX9 112 lk_E lk_N, w.before args s = true := by
  intro w hw
  have h1 : vx_atS RX9 112 lk_E lk_N = ([140, 1267, 1276, 1279, 1282, 1284, 1268, 1269, 152, 153, 1270, 1275, 1280, 1300, 1257, 1301, 1259, 1302, 1261, 1271, 1273, 1263, 1296, 1297, 1299, 1263, 1287, 1288, 1289, 1290, 1249, 1290, 1291, 1292, 1293, 1251, 1293, 1294, 1295, 1296, 1253, 1286, 1246, 1247, 1254, 1255, 1256, 1258, 1260, 1262, 1266, 1265, 1264] : List Nat).filterMap (fun i => lw_tbl[i]?) := by decide +kernel
  have h2 : (vx_atS RX9 112 lk_E lk_N).all (fun w => goodWord w || (decide (w = .declares (Bundle.initS "java/lang/RuntimeException")) || (decide (w = .declares (Bundle.initS "java/lang/Exception")) || (decide (w = .declares (Bundle.initS "java/lang/Throwable")) || decide (w = .castable lk_E lk_E))))) = true := by decide +kernel
  have hg := List.all_eq_true.mp h2 w hw
  simp only [Bool.or_eq_true, decide_eq_true_eq] at hg
  rcases hg with hg | rfl | rfl | rfl | rfl
  · rw [h1] at hw
    obtain ⟨i, -, hi⟩ := List.mem_filterMap.mp hw
    exact hts _ (lw_g_mem i hi hg)
  · exact va_Nw.use rfl hY.1
  · exact va_Nw.use rfl hY.2.1
  · exact va_Nw.use rfl hY.2.2.1
  · exact va_Nw.use rfl hY.2.2.2
theorem lk_k : Cond.classLink RX9 108 lk_E ∈ lw_g := lw_g_mem 1245 (by decide +kernel) (by decide +kernel)
theorem lk_i : Cond.initialized lk_E ∈ lw_g := lw_g_mem 143 (by decide +kernel) (by decide +kernel)
theorem lk_ot : ∀ w ∈ Cond.classLink RX9 108 lk_E :: Cond.initialized lk_E :: vx_atS RX9 112 lk_E lk_N, vx_ot w = true := by decide +kernel
set_option maxHeartbeats 4000000 in
set_option maxRecDepth 100000 in
theorem k_X9_look (l : Launch) (hst : l.stackTraces = false) (D : va_G) (A : Nat → Nat → Nat) (cy : Nat → ClassId) (hJ : ti_inj ti_LT A) (M : ti_M) (hF : ti_F M) (z z2 : Int32) : vx_Met l yX9_look (.code yX9_look cX9_look 3 (some .int) :: lw_g) (ti_rmc 8 1 6) (va_Pc [.ref (A 0 0), .int z, .int z2] (fun U => va_P D vwCl (ti_W ti_LT A cy M) U.heap ∧ va_K D vwCl (ti_ty cy) U ∧ lk_S (ti_As ti_LT A) U U.heap)) (va_Qi (fun _ (_ : ti_M) => False) (ti_B ti_LT D A cy) (ti_As ti_LT A)) (vx_X (fun _ : Unit => True) (fun E _ t => E = lk_E ∧ va_P D vwCl (ti_W ti_LT A cy M) t.heap) (ti_As ti_LT A)) 1 6 (ti_As ti_LT A) := by
  refine vx_ofW (cc := cX9_look) (maxL := 3) (ret := some .int) yp_X9_look rfl ?_
  intro p e s m args below meth c s₁ B hml htab hv
  obtain ⟨rfl, hP, hK, ⟨sa, hsa⟩, hU, hN, hY⟩ := hv
  rw [lg_entry_eq]
  have C : ti_C p s m c [.ref (A 0 0), .int z, .int z2].toArray cX9_look RX9 3 D cy ti_LT A := ⟨B.exec, B.bytes, fun w h => atoms_spec (ws := .code yX9_look cX9_look 3 (some .int) :: lw_g) B.pre w (List.mem_cons_of_mem _ h), findClass_of_methodNamed B.named, hK, hml, hJ, ti_LT_nd⟩
  have hw : ti_H ti_LT D A cy s.heap M s.heap [] := ⟨hP, va_S.rf⟩
  have hl := lv_entry [.ref (A 0 0), .int z, .int z2] (n := 3) (Nat.le_of_ble_eq_true rfl)
  generalize (lg_sl [.ref (A 0 0), .int z, .int z2] ++ List.replicate (3 - (lg_sl [.ref (A 0 0), .int z, .int z2]).length) Slot.unset).toArray = ls at hl ⊢
  have hl : lv_has ls 3 [(0, .ref (A 0 0)), (1, .int z), (2, .int z2)] := hl
  have hx := C.1
  have hb := C.2.1
  refine lv_aload_n hx hb dX9_look_0 rfl (lv_at hl 0 rfl) ?_
  refine lv_iload_n hx hb dX9_look_1 rfl (lv_at hl 1 rfl) ?_
  refine ti_callVi (ci := 9) (av := [.int z]) C hw (k_X9_isMan l D A cy hJ _ hF z) ⟨ml_X9_104, ym_X9_isMan, yv_X9_isMan, yi_X9_isMan, yc_X9_isMan⟩ yd_X9_isMan ob_0 (by decide) rfl rfl hl.1 (Nat.le_of_ble_eq_true rfl) ⟨by decide, by decide⟩ ⟨Nat.zero_le _, Nat.zero_le _⟩ dX9_look_2 (fun r M2 H locs hp hw => ?_)
  obtain ⟨hm, rfl⟩ := hp
  have hw := hw.to hm
  refine lv_if_ne (tgt := 18) hx hb dX9_look_5 (by decide) (fun c => absurd rfl c) (fun _ => ?_)
  refine vx_throwS (names := lk_N) (text := lk_t) (A := ti_As ti_LT A) (cls := lk_E) hx hb hst C.2.2.2.1 (by decide) (by decide) (C.2.2.1 _ lk_k) (C.2.2.1 _ lk_i) hsa (lk_at C.2.2.1 hY) lk_ot hU hN hw.2 (by rw [hml]; exact hl.1) dX9_look_8 dX9_look_11 dX9_look_12 dX9_look_14 dX9_look_17 (fun x h => (htab x h).elim) (by decide) (by decide) (Nat.le_of_ble_eq_true rfl) (Nat.le_of_ble_eq_true rfl) B.notSynchronized ?_ (fun q h => hw.2.2.2 q h) (Nat.le_of_ble_eq_true rfl) (Nat.le_of_ble_eq_true rfl)
  intro t hvm hz hk
  refine ⟨(), trivial, ⟨rfl, hw.1.kept (fun k q hq => hk q.1 ((hw.1 k q hq).lt))⟩, Nat.le_trans hw.2.1 hz, fun q h1 h2 => ?_⟩
  rw [hk q (Nat.lt_of_lt_of_le h1 hw.2.1)]
  exact hw.2.2.1 q h1 h2
theorem lk_S.moved {A : Nat → Prop} {s U : State} {H H1 : Heap} (hW : s.WarmedH U.vm) (hq : ∀ a : Nat, a < H.size → ¬ A a → H1[a]? = H[a]?) (h : lk_S A s H) : lk_S A U H1 := by
  obtain ⟨⟨sa, h1⟩, h2, h3, h4⟩ := h
  exact ⟨⟨sa, h1.warm hW⟩, (h2.moved hW.alike).kept hq, (h3.moved hW.alike).kept hq, h4.warm hW⟩
theorem lk_S.call {A : Nat → Prop} {U : State} {H : Heap} {g : JFrame} {mk : MethodId} {a : Array Value} (h : lk_S A U H) : lk_S A (U.calling g mk a) H := by
  obtain ⟨⟨sa, h1⟩, h2, h3, h4⟩ := h
  exact ⟨⟨sa, vk_R.same (u := U) rfl h1⟩, vx_Zq.moved (u := U) (Vm.Alike.refl U.vm) h2, vx_Zq.moved (u := U) (Vm.Alike.refl U.vm) h3, h4.call⟩
abbrev lk_hh : List (Nat × Nat × Nat × Nat) := [(0, 10, 13, 13), (0, 10, 17, 15)]
theorem lk_cw : Cond.codeWith yL_look cL_look 5 (some .int) lk_hh ∈ lw_g := lw_g_mem 1238 (by decide +kernel) (by decide +kernel)
theorem lk_cl : Cond.classLink RL 13 lk_E ∈ lw_g := lw_g_mem 1239 (by decide +kernel) (by decide +kernel)
theorem lk_st : Cond.static yL_look ∈ lw_g := lw_g_mem 1237 (by decide +kernel) (by decide +kernel)
theorem lk_ml : Cond.methodLink RL 39 yL_look ∈ lw_g := lw_g_mem 1236 (by decide +kernel) (by decide +kernel)
theorem lk_in : Cond.initialized yL_look.cls ∈ lw_g := in_L
def lk_P (D : va_G) (A : Nat → Nat → Nat) (cy : Nat → ClassId) (M : ti_M) (U : State) : Prop := va_P D vwCl (ti_W ti_LT A cy M) U.heap ∧ va_K D vwCl (ti_ty cy) U ∧ lk_S (ti_As ti_LT A) U U.heap
theorem lk_bl {D : va_G} {A : Nat → Nat → Nat} {cy : Nat → ClassId} {M : ti_M} {av : List Value} : FrameBlind (va_Pc av (lk_P D A cy M)) := fun a U g mk q => ⟨q.1, q.2.1, va_K.moved (u := U) (U := U.calling g mk a) (Vm.Alike.refl U.vm) q.2.2.1, q.2.2.2.call⟩
set_option maxHeartbeats 4000000 in
set_option maxRecDepth 100000 in
theorem k_L_look (l : Launch) (hst : l.stackTraces = false) (D : va_G) (A : Nat → Nat → Nat) (cy : Nat → ClassId) (hJ : ti_inj ti_LT A) (M : ti_M) (hF : ti_F M) (z z2 : Int32) (q3 : Nat) : vx_Met l yL_look (.codeWith yL_look cL_look 5 (some .int) lk_hh :: lw_g) (ti_rmc 10 1 6) (va_Pc [.ref (A 0 0), .int z, .int z2, .ref q3] (lk_P D A cy M)) (va_Qi (fun r (M2 : ti_M) => M2 = M ∧ r = 1) (ti_B ti_LT D A cy) (ti_As ti_LT A)) (vx_X (fun _ : Unit => False) (fun _ _ _ => True) (ti_As ti_LT A)) 1 6 (ti_As ti_LT A) := by
  refine vx_ofWH (cc := cL_look) (maxL := 5) (ret := some .int) (by decide +kernel) rfl ?_
  intro p e s m args below meth c s₁ B hml hv
  obtain ⟨rfl, hP, hK, hZ⟩ := hv
  have hts : ∀ w ∈ lw_g, w.before [.ref (A 0 0), .int z, .int z2, .ref q3].toArray s = true := fun w h => atoms_spec (ws := .codeWith yL_look cL_look 5 (some .int) lk_hh :: lw_g) B.pre w (List.mem_cons_of_mem _ h)
  have htab := vx_table (x := yL_look) B (hts _ lk_cw)
  rw [lg_entry_eq]
  have C : ti_C p s m c [.ref (A 0 0), .int z, .int z2, .ref q3].toArray cL_look RL 5 D cy ti_LT A := ⟨B.exec, B.bytes, hts, findClass_of_methodNamed B.named, hK, hml, hJ, ti_LT_nd⟩
  have hw : ti_H ti_LT D A cy s.heap M s.heap [] := ⟨hP, va_S.rf⟩
  have hl := lv_entry [.ref (A 0 0), .int z, .int z2, .ref q3] (n := 5) (Nat.le_of_ble_eq_true rfl)
  generalize (lg_sl [.ref (A 0 0), .int z, .int z2, .ref q3] ++ List.replicate (5 - (lg_sl [.ref (A 0 0), .int z, .int z2, .ref q3]).length) Slot.unset).toArray = ls at hl ⊢
  have hl : lv_has ls 5 [(0, .ref (A 0 0)), (1, .int z), (2, .int z2), (3, .ref q3)] := hl
  have hx := C.1
  have hb := C.2.1
  refine lv_aload_n hx hb dL_look_0 rfl (lv_at hl 3 rfl) ?_
  refine lv_iconst (v := 0) hx hb dL_look_1 (by decide) ?_
  refine lv_aload_n hx hb dL_look_2 rfl (lv_at hl 0 rfl) ?_
  refine lv_iload_n hx hb dL_look_3 rfl (lv_at hl 1 rfl) ?_
  refine lv_iload_n hx hb dL_look_4 rfl (lv_at hl 2 rfl) ?_
  have cw : CallW (ti_rmc 10 1 6) s [.ref (A 0 0), .int z, .int z2, .ref q3].toArray RL RX9 7 yX9_look cX9_look 3 (some .int) (.code yX9_look cX9_look 3 (some .int) :: lw_g) (ti_rmc 8 1 6) 1 6 2 := by
    refine cwV 2 hts (lw_g_good ?_) rfl rfl rfl ⟨rfl, yd_X9_look⟩ ⟨by decide, by decide⟩
    intro w hw
    simp only [wsV, List.cons_append, List.nil_append, List.mem_cons] at hw
    rcases hw with rfl | rfl | rfl | rfl | rfl | hw
    · exact ml_L_7
    · exact ym_X9_look
    · exact yv_X9_look
    · exact yi_X9_look
    · exact yc_X9_look
    · exact hw
  refine vx_calli (vx_runV (As := [.int z, .int z2]) (rest := [.int 0, .ref q3]) ⟨hx, hb, hml, C.2.2.2.1, hts⟩ (k_X9_look l hst D A cy hJ M hF z z2) cw ⟨fun a U g mk q => ⟨q.1, q.2.1, va_K.moved (u := U) (U := U.calling g mk a) (Vm.Alike.refl U.vm) q.2.2.1, q.2.2.2.call⟩, ti_recv C hw ob_0 (by decide) rfl, fun U hU hW => ⟨rfl, by rw [hU]; exact hw.1, va_K.moved hW.alike hK, by rw [hU]; exact hZ.moved hW (fun _ _ _ => rfl)⟩⟩ rfl rfl hl.1 rfl (lv_room (Nat.le_of_ble_eq_true rfl)) dL_look_5 ⟨Nat.le_of_ble_eq_true rfl, Nat.le_of_ble_eq_true rfl⟩) hw.2 (fun q _ h => h) (fun q h => h) (fun q _ h => h) ?_ ?_
  · intro E ce q9 u t H1 locs1 ht hvm hpx hB hz hk hS hce hcv hcl
    obtain ⟨rfl, hP1⟩ := hB
    rw [ht] at hP1
    refine vx_catch (name := lk_E) C.2.2.2.1 [] ⟨0, 10, 13, 13⟩ [⟨0, 10, 17, 15⟩] (by rw [htab]; rfl) (fun z h => nomatch h) (by decide) (by decide) (hts _ lk_cl) (va_Nw.use rfl hZ.2.2.2.2.2.2) hce hcv hcl ?_
    refine lv_astore (lv' := [(4, .ref q9), (0, .ref (A 0 0)), (1, .int z), (2, .int z2), (3, .ref q3)]) hx hb dL_look_13 hl (by decide) rfl (fun ls hl => ?_)
    refine lv_iconst (v := 1) hx hb dL_look_15 (by decide) ?_
    refine vx_ret ?_
    exact W.zret hx hb B.returns rfl (fun t ht _ => ⟨⟨1, M, rfl, ⟨rfl, rfl⟩, by show va_P _ _ _ _; rw [ht]; exact hP1⟩, hS.F ht⟩) hS.2.2 dL_look_16 B.notSynchronized
  · intro r u t H1 locs1 ht hvm hpo
    exact hpo.elim
theorem lk_S.narrow {A B : Nat → Prop} {U : State} {H : Heap} (h : lk_S A U H) (hAB : ∀ q, B q → A q) : lk_S B U H := ⟨h.1, h.2.1.narrow hAB, h.2.2.1.narrow hAB, h.2.2.2⟩
set_option maxHeartbeats 4000000 in
set_option maxRecDepth 100000 in
theorem lq_c4 {p : Program} {l : Launch} {e : Env} {s : State} {m : MethodId} {below : List Frame} {meth : Method} {c : Code} {D : va_G} {cy : Nat → ClassId} {A1 A2 : Nat → Nat → Nat} {M1 M2 : ti_M} {b q3 : Nat} {xs : Nat → Int32} {H : Heap} {locs : List Loc} {ls : Array Slot} (hfl : l.flags = flags0) (h4 : lk_S (lq_F s) s s.heap) (Z : lq_Z p s m meth c D cy A1 A2 b xs) (hw : lq_H s D cy A1 A2 M1 M2 H locs) (h1 : ti_F M1) (h2 : ti_FM M2) (hl : lv_has ls 7 [(4, .int 0), (3, .ref q3), (2, .ref (A2 60 0)), (1, .ref (A1 0 0)), (0, .ref b)]) : W p l e room_1 s m #[Value.ref b] below meth c H locs 423 10061 (lw_Z below #[Value.ref b] s) (F0 m 356 ls []) := by
  have hst : l.stackTraces = false := by rw [Launch.stackTraces, hfl]; decide +kernel
  have C := Z.1
  have hA := Z.2.1
  have hx := C.1
  have hb := C.2.1
  have hts := C.2.2.1
  have hbA : ¬ lq_F s b := Nat.not_le.mpr Z.2.2.2.1
  refine lv_aload_n hx hb dL_law_356 rfl (lv_at hl 3 rfl) ?_
  refine lv_aload_n hx hb dL_law_357 rfl (lv_at hl 4 rfl) ?_
  refine lv_iload hx hb dL_law_358 (lv_at hl 0 rfl) ?_
  refine lv_iconst (v := 1) hx hb dL_law_360 (by decide) ?_
  refine lv_iadd hx hb dL_law_361 ?_
  refine ti_top (y := 1) (by decide) ?_
  refine va_sld hx hb Z.2.2.1 Z.2.2.2.1 hbA hw.2.2 lq_i1 dL_law_362 ?_
  refine lv_aload_n hx hb dL_law_363 rfl (lv_at hl 4 rfl) ?_
  refine lv_iload hx hb dL_law_364 (lv_at hl 0 rfl) ?_
  refine lv_iconst (v := 2) hx hb dL_law_366 (by decide) ?_
  refine lv_iadd hx hb dL_law_367 ?_
  refine ti_top (y := 2) (by decide) ?_
  refine va_sld hx hb Z.2.2.1 Z.2.2.2.1 hbA hw.2.2 lq_i2 dL_law_368 ?_
  refine lv_aload_n hx hb dL_law_369 rfl (lv_at hl 1 rfl) ?_
  have cw : vx_CSW room_1 s #[Value.ref b] RL 39 yL_look cL_look 5 (some .int) lk_hh (.codeWith yL_look cL_look 5 (some .int) lk_hh :: lw_g) (ti_rmc 10 1 6) 1 6 4 := by
    refine vx_cwSW 4 hts (lw_g_good ?_) rfl rfl rfl (by decide +kernel) ⟨by decide, by decide⟩
    intro w hw
    simp only [va_wsS, List.cons_append, List.nil_append, List.mem_cons] at hw
    rcases hw with rfl | rfl | rfl | rfl | hw
    all_goals first | exact lk_ml | exact lk_st | exact lk_in | exact lk_cw | exact hw
  refine vx_calli (vx_runSX (hh := lk_hh) (As := [.ref (A1 0 0), .int (xs (1 : Int32).toNatClampNeg), .int (xs (2 : Int32).toNatClampNeg), .ref q3]) (rest := []) ⟨hx, hb, C.2.2.2.2.2.1, C.2.2.2.1, hts⟩ (k_L_look l hst D A1 cy hA.1 M1 h1 _ _ q3) cw ⟨lk_bl, fun U hU hW => ⟨rfl, by rw [hU]; exact hw.1, va_K.moved hW.alike C.2.2.2.2.1, by rw [hU]; exact (h4.moved hW (fun a h1 h2 => hw.2.2.2.1 a h1 h2)).narrow hA.2.2.1⟩⟩ rfl rfl hl.1 rfl (lv_room (Nat.le_of_ble_eq_true rfl)) dL_law_370 ⟨Nat.le_of_ble_eq_true rfl, Nat.le_of_ble_eq_true rfl⟩) hw.2.2 (fun q _ h => hA.2.2.1 q h) (fun q h => hA.2.2.1 q h) (fun q _ h => hA.2.2.1 q h) ?_ ?_
  · intro E ce q9 u t H1 locs1 ht hvm hpx
    exact hpx.elim
  intro r u t H1 locs1 ht hvm hpo hB hz hk hS
  obtain ⟨-, rfl⟩ := hpo
  have hw : lq_H s D cy A1 A2 u M2 H1 locs1 := ⟨by rw [← ht]; exact hB, hw.2.1.kept (fun k q hq => hk q.1 ((hw.2.1 k q hq).lt) (fun h => hA.2.2.2.2 q.1 h ((ti_W_D hA.2.1 cy M2).2 k q hq))), hS⟩
  refine lv_istore (lv' := [(5, .int 1), (4, .int 0), (3, .ref q3), (2, .ref (A2 60 0)), (1, .ref (A1 0 0)), (0, .ref b)]) hx hb dL_law_373 hl (by decide) rfl (fun ls hl => ?_)
  refine lv_aload_n hx hb dL_law_375 rfl (lv_at hl 3 rfl) ?_
  refine lv_aload_n hx hb dL_law_376 rfl (lv_at hl 5 rfl) ?_
  refine lv_iload hx hb dL_law_377 (lv_at hl 1 rfl) ?_
  refine lv_iconst (v := 1) hx hb dL_law_379 (by decide) ?_
  refine lv_iadd hx hb dL_law_380 ?_
  refine ti_top (y := 1) (by decide) ?_
  refine va_sld hx hb Z.2.2.1 Z.2.2.2.1 hbA hw.2.2 lq_i1 dL_law_381 ?_
  refine lv_aload_n hx hb dL_law_382 rfl (lv_at hl 5 rfl) ?_
  refine lv_iload hx hb dL_law_383 (lv_at hl 1 rfl) ?_
  refine lv_iconst (v := 2) hx hb dL_law_385 (by decide) ?_
  refine lv_iadd hx hb dL_law_386 ?_
  refine ti_top (y := 2) (by decide) ?_
  refine va_sld hx hb Z.2.2.1 Z.2.2.2.1 hbA hw.2.2 lq_i2 dL_law_387 ?_
  refine lq_callMi (av := [.int (xs (1 : Int32).toNatClampNeg), .int (xs (2 : Int32).toNatClampNeg)]) C hA hw (k_X10_look l D A2 cy hA.2.1 M2 h2 (xs (1 : Int32).toNatClampNeg) (xs (2 : Int32).toNatClampNeg)) ⟨ml_L_44, ym_X10_look, yv_X10_look, yi_X10_look, yc_X10_look⟩ yd_X10_look rfl rfl hl.1 (Nat.le_of_ble_eq_true rfl) ⟨by decide, by decide⟩ ⟨Nat.le_of_ble_eq_true rfl, Nat.le_of_ble_eq_true rfl⟩ dL_law_388 (fun rM M2 H locs hp hw => ?_)
  refine lv_istore (lv' := [(6, .int rM), (5, .int 1), (4, .int 0), (3, .ref q3), (2, .ref (A2 60 0)), (1, .ref (A1 0 0)), (0, .ref b)]) hx hb dL_law_391 hl (by decide) rfl (fun ls hl => ?_)
  refine lv_aload_n hx hb dL_law_393 rfl (lv_at hl 4 rfl) ?_
  refine lq_callMi (av := []) C hA hw (k_X10_thrown l D A2 cy hA.2.1 M2 hp) ⟨ml_L_45, ym_X10_thrown, yv_X10_thrown, yi_X10_thrown, yc_X10_thrown⟩ yd_X10_thrown rfl rfl hl.1 (Nat.le_of_ble_eq_true rfl) ⟨by decide, by decide⟩ ⟨Nat.le_of_ble_eq_true rfl, Nat.le_of_ble_eq_true rfl⟩ dL_law_394 (fun r3 M3 H locs hp3 hw => ?_)
  obtain ⟨-, rfl⟩ := hp3
  refine lv_iload hx hb dL_law_397 (lv_at hl 1 rfl) ?_
  refine lv_icmp_eq (tgt := 404) hx hb dL_law_399 (by decide) (fun _ => ?_) (fun c => absurd rfl c)
  refine lv_iload hx hb dL_law_404 (lv_at hl 1 rfl) ?_
  refine lv_if_ne (tgt := 421) hx hb dL_law_406 (by decide) (fun _ => ?_) (fun c => absurd c (by decide))
  refine lv_goto (tgt := 1550) hx hb dL_law_421 (by decide) ?_
  exact lq_fin Z hw.2.2 ⟨Nat.le_of_ble_eq_true rfl, Nat.le_of_ble_eq_true rfl⟩ (lv_sub hl [2, 6] rfl)

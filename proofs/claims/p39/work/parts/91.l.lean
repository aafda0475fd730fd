section
def R_law : String := "ThirdInLineLaw"
def lw_P (b : Addr) (xs : List Int32) (args : Array Value) (s : State) : Prop := args = #[.ref b] ∧ s.IntsAt b xs ∧ xs.length ≤ 3072 ∧ (Jvm.Cond.and given_1 narrow_1).before args s = true
def lw_Q (_ : Array Value) (s : State) (o : Outcome) (t : State) : Prop := o = .returned (some (.int 1)) ∧ Framed s o t [] 601024 7293034
def lw_Z (below : List Frame) (a : Array Value) (s : State) : State → Prop := fun t => ∃ o, t.status = .running ∧ Ended t below o ∧ lw_Q a s o t
/-- the law's own end, with 1 on the stack, nothing written that was there before, its room as the claim has it -/
theorem lw_ret {p : Program} {l : Launch} {e : Env} {s : State} {m : MethodId} {below : List Frame} {meth : Method} {c : Code} {b : Nat} (hx : p.tables.exec = Jvm.exec) (hb : c.code = code) (hr : meth.sig.returnType = ret) (hlocks : meth.locks = false) {pc : Nat} {H : Heap} {ls : Array Slot} (hdg : decode code pc = .ok (.ireturn, 1)) : W p l e room_1 s m #[Value.ref b] below meth c H [] 601024 7293034 (lw_Z below #[Value.ref b] s) (F0 m pc ls [.int 1]) := by
  intro T hT X
  obtain ⟨fs, hret, hrun, hended, hW, hframe⟩ := X.leave (v := some (.int 1)) (hlocks := hlocks) (fun h => by rw [hr] at h; cases h)
  have hmeth' : T.vm.method? m = some meth := X.method'
  refine ⟨T.setFrames fs, ?_, .returned (some (.int 1)), hrun, hended, rfl, ⟨_, rfl⟩, hW, hframe⟩
  jvm_step X.here [X.here.top, hx, hb, hdg, hmeth', hr, ret, narrow_b1]
  (try refine ⟨rfl, ?_⟩); (try refine ⟨rfl, ?_⟩)
  first | (intro acts; rw [hret _ acts rfl rfl rfl]) | rw [hret _ _ rfl rfl rfl]
  exact Steps.refl _
/-- what holds at the law's entry: the machine, the code, the tables' words (any of lw_tbl by 'hts w (by decide +kernel)'), the script of L ints xs at the cell b, what the Statement gives of the start (any of its parts by flat_of_before) -/
def lw_At (p : Program) (s : State) (m : MethodId) (meth : Method) (c : Code) (b L : Nat) (xs : Nat → Int32) : Prop :=
  p.tables.exec = Jvm.exec ∧ c.code = code ∧ meth.sig.returnType = ret ∧ c.maxLocals = 7 ∧ s.vm.findClass R_law = some m.cls ∧ (∀ w ∈ lw_tbl, w.before #[Value.ref b] s = true) ∧ va_X b L xs s s.heap ∧ b < s.heap.size ∧ meth.locks = false ∧ (Jvm.Cond.and given_1 narrow_1).before #[Value.ref b] s = true
def lq_Z (p : Program) (s : State) (m : MethodId) (meth : Method) (c : Code) (D : va_G) (cy : Nat → ClassId) (A1 A2 : Nat → Nat → Nat) (b L : Nat) (xs : Nat → Int32) : Prop :=
  lq_B p s m c #[Value.ref b] cL_law RL 7 D cy ∧ lq_A s A1 A2 ∧ va_X b L xs s s.heap ∧ b < s.heap.size ∧ meth.sig.returnType = ret ∧ meth.locks = false ∧ L ≤ 3072 ∧ tx_E (lq_F s) s s.heap
theorem lq_ret {p : Program} {l : Launch} {e : Env} {s : State} {m : MethodId} {below : List Frame} {meth : Method} {c : Code} {b : Nat} {H : Heap} {locs : List Loc} {ls : Array Slot} {cells slots : Nat} (hx : p.tables.exec = Jvm.exec) (hb : c.code = cL_law) (hr : meth.sig.returnType = ret) (hlk : meth.locks = false) (hS : va_S (lq_F s) s.heap H locs) (hc : cells ≤ 601024 ∧ slots ≤ 7293034) : W p l e room_1 s m #[Value.ref b] below meth c H locs cells slots (lw_Z below #[Value.ref b] s) (F0 m 1527 ls []) := by
  refine lv_iconst (v := 1) hx hb dL_law_1527 (by decide) ?_
  refine va_forget (fun q hq => hS.2.2 q hq) ?_
  refine W.widen (k := 601024) (n := 7293034) hc.1 hc.2 ?_
  exact lw_ret hx hb hr hlk dL_law_1528
set_option maxRecDepth 100000 in
theorem lq_c0 {p : Program} {l : Launch} {e : Env} {s : State} {m : MethodId} {below : List Frame} {meth : Method} {c : Code} {D : va_G} {cy : Nat → ClassId} {A1 A2 : Nat → Nat → Nat} {M1 M2 : ti_M} {b q3 L cells slots : Nat} {iv : Int32} {xs : Nat → Int32} {H : Heap} {locs : List Loc} {ls : Array Slot} (Z : lq_Z p s m meth c D cy A1 A2 b L xs) (hcs : cells ≤ room_1.cells ∧ slots ≤ room_1.slots) (hw : lq_H s D cy A1 A2 q3 M1 M2 H locs) (hI : lq_I M1 M2) (hi : 0 ≤ iv.toInt ∧ iv.toInt + 6 ≤ L) (hl : lv_has ls 7 [(4, .int iv), (3, .ref q3), (2, .ref (A2 60 0)), (1, .ref (A1 0 0)), (0, .ref b)]) (kk : ∀ (M1 M2 : ti_M) (H : Heap) (locs : List Loc) (ls : Array Slot), lq_H s D cy A1 A2 q3 M1 M2 H locs → lq_I M1 M2 → lv_has ls 7 [(4, .int iv), (3, .ref q3), (2, .ref (A2 60 0)), (1, .ref (A1 0 0)), (0, .ref b)] → W p l e room_1 s m #[Value.ref b] below meth c H locs cells slots (lw_Z below #[Value.ref b] s) (F0 m 1521 ls [])) : W p l e room_1 s m #[Value.ref b] below meth c H locs cells slots (lw_Z below #[Value.ref b] s) (F0 m 208 ls []) := by
  have C := Z.1
  have hA := Z.2.1
  have hx := C.1
  have hb := C.2.1
  have hbA : ¬ lq_F s b := Nat.not_le.mpr Z.2.2.2.1
  have hL := Z.2.2.2.2.2.2.1
  have hE := Z.2.2.2.2.2.2.2
  obtain ⟨Tc, Tm, hF1, hF2, hE0, hB0, hR1, hR2, hS1, hS2, rg, htd1, htd2, hle⟩ := hI
  have hR := And.intro hR1 hR2
  have hS := And.intro hS1 hS2
  refine lv_aload_n hx hb dL_law_208 rfl (lv_at hl 3 rfl) ?_
  refine lv_aload_n hx hb dL_law_209 rfl (lv_at hl 4 rfl) ?_
  refine lv_iload hx hb dL_law_210 (lv_at hl 0 rfl) ?_
  refine lv_iconst (v := 1) hx hb dL_law_212 (by decide) ?_
  refine lv_iadd hx hb dL_law_213 ?_
  refine va_sld (i := iv + 1) hx hb Z.2.2.1 Z.2.2.2.1 hbA hw.2.2.1 (lq_in hi hL (by decide) (by decide)) dL_law_214 ?_
  refine lv_aload_n hx hb dL_law_215 rfl (lv_at hl 4 rfl) ?_
  refine lv_iload hx hb dL_law_216 (lv_at hl 0 rfl) ?_
  refine lv_iconst (v := 2) hx hb dL_law_218 (by decide) ?_
  refine lv_iadd hx hb dL_law_219 ?_
  refine va_sld (i := iv + 2) hx hb Z.2.2.1 Z.2.2.2.1 hbA hw.2.2.1 (lq_in hi hL (by decide) (by decide)) dL_law_220 ?_
  refine lv_aload_n hx hb dL_law_221 rfl (lv_at hl 4 rfl) ?_
  refine lv_iload hx hb dL_law_222 (lv_at hl 0 rfl) ?_
  refine lv_iconst (v := 3) hx hb dL_law_224 (by decide) ?_
  refine lv_iadd hx hb dL_law_225 ?_
  refine va_sld (i := iv + 3) hx hb Z.2.2.1 Z.2.2.2.1 hbA hw.2.2.1 (lq_in hi hL (by decide) (by decide)) dL_law_226 ?_
  refine lv_aload_n hx hb dL_law_227 rfl (lv_at hl 4 rfl) ?_
  refine lv_iload hx hb dL_law_228 (lv_at hl 0 rfl) ?_
  refine lv_iconst (v := 4) hx hb dL_law_230 (by decide) ?_
  refine lv_iadd hx hb dL_law_231 ?_
  refine va_sld (i := iv + 4) hx hb Z.2.2.1 Z.2.2.2.1 hbA hw.2.2.1 (lq_in hi hL (by decide) (by decide)) dL_law_232 ?_
  refine lv_aload_n hx hb dL_law_233 rfl (lv_at hl 4 rfl) ?_
  refine lv_iload hx hb dL_law_234 (lv_at hl 0 rfl) ?_
  refine lv_iconst (v := 5) hx hb dL_law_236 (by decide) ?_
  refine lv_iadd hx hb dL_law_237 ?_
  refine va_sld (i := iv + 5) hx hb Z.2.2.1 Z.2.2.2.1 hbA hw.2.2.1 (lq_in hi hL (by decide) (by decide)) dL_law_238 ?_
  refine lq_callTi (av := [.int (xs (iv + 1 : Int32).toNatClampNeg), .int (xs (iv + 2 : Int32).toNatClampNeg), .int (xs (iv + 3 : Int32).toNatClampNeg), .int (xs (iv + 4 : Int32).toNatClampNeg), .int (xs (iv + 5 : Int32).toNatClampNeg)]) C hA hw (w_X9_feed l D A1 cy hA.1 M1 hF1.1 hF1 (xs (iv + 1 : Int32).toNatClampNeg) (xs (iv + 2 : Int32).toNatClampNeg) (xs (iv + 3 : Int32).toNatClampNeg) (xs (iv + 4 : Int32).toNatClampNeg) (xs (iv + 5 : Int32).toNatClampNeg)) ⟨ml_L_21, ym_X9_feed, yv_X9_feed, yi_X9_feed, yc_X9_feed⟩ yd_X9_feed rfl rfl hl.1 (Nat.le_of_ble_eq_true rfl) ⟨by decide, by decide⟩ hcs dL_law_239 (fun rT N1 H locs hpT hw => ?_)
  refine lv_pop hx hb dL_law_242 rfl ?_
  refine lv_aload_n hx hb dL_law_243 rfl (lv_at hl 2 rfl) ?_
  refine lv_aload_n hx hb dL_law_244 rfl (lv_at hl 4 rfl) ?_
  refine lv_iload hx hb dL_law_245 (lv_at hl 0 rfl) ?_
  refine lv_iconst (v := 1) hx hb dL_law_247 (by decide) ?_
  refine lv_iadd hx hb dL_law_248 ?_
  refine va_sld (i := iv + 1) hx hb Z.2.2.1 Z.2.2.2.1 hbA hw.2.2.1 (lq_in hi hL (by decide) (by decide)) dL_law_249 ?_
  refine lv_aload_n hx hb dL_law_250 rfl (lv_at hl 4 rfl) ?_
  refine lv_iload hx hb dL_law_251 (lv_at hl 0 rfl) ?_
  refine lv_iconst (v := 2) hx hb dL_law_253 (by decide) ?_
  refine lv_iadd hx hb dL_law_254 ?_
  refine va_sld (i := iv + 2) hx hb Z.2.2.1 Z.2.2.2.1 hbA hw.2.2.1 (lq_in hi hL (by decide) (by decide)) dL_law_255 ?_
  refine lv_aload_n hx hb dL_law_256 rfl (lv_at hl 4 rfl) ?_
  refine lv_iload hx hb dL_law_257 (lv_at hl 0 rfl) ?_
  refine lv_iconst (v := 3) hx hb dL_law_259 (by decide) ?_
  refine lv_iadd hx hb dL_law_260 ?_
  refine va_sld (i := iv + 3) hx hb Z.2.2.1 Z.2.2.2.1 hbA hw.2.2.1 (lq_in hi hL (by decide) (by decide)) dL_law_261 ?_
  refine lv_aload_n hx hb dL_law_262 rfl (lv_at hl 4 rfl) ?_
  refine lv_iload hx hb dL_law_263 (lv_at hl 0 rfl) ?_
  refine lv_iconst (v := 4) hx hb dL_law_265 (by decide) ?_
  refine lv_iadd hx hb dL_law_266 ?_
  refine va_sld (i := iv + 4) hx hb Z.2.2.1 Z.2.2.2.1 hbA hw.2.2.1 (lq_in hi hL (by decide) (by decide)) dL_law_267 ?_
  refine lv_aload_n hx hb dL_law_268 rfl (lv_at hl 4 rfl) ?_
  refine lv_iload hx hb dL_law_269 (lv_at hl 0 rfl) ?_
  refine lv_iconst (v := 5) hx hb dL_law_271 (by decide) ?_
  refine lv_iadd hx hb dL_law_272 ?_
  refine va_sld (i := iv + 5) hx hb Z.2.2.1 Z.2.2.2.1 hbA hw.2.2.1 (lq_in hi hL (by decide) (by decide)) dL_law_273 ?_
  refine lq_callMi (av := [.int (xs (iv + 1 : Int32).toNatClampNeg), .int (xs (iv + 2 : Int32).toNatClampNeg), .int (xs (iv + 3 : Int32).toNatClampNeg), .int (xs (iv + 4 : Int32).toNatClampNeg), .int (xs (iv + 5 : Int32).toNatClampNeg)]) C hA hw (w_X10_feed l D A2 cy hA.2.1 M2 (mI_self hF2.1) hF2 (xs (iv + 1 : Int32).toNatClampNeg) (xs (iv + 2 : Int32).toNatClampNeg) (xs (iv + 3 : Int32).toNatClampNeg) (xs (iv + 4 : Int32).toNatClampNeg) (xs (iv + 5 : Int32).toNatClampNeg)) ⟨ml_L_25, ym_X10_feed, yv_X10_feed, yi_X10_feed, yc_X10_feed⟩ yd_X10_feed rfl rfl hl.1 (Nat.le_of_ble_eq_true rfl) ⟨by decide, by decide⟩ hcs dL_law_274 (fun rM N2 H locs hpM hw => ?_)
  refine lv_pop hx hb dL_law_277 rfl ?_
  obtain ⟨hpT, hT5, hTT⟩ := hpT
  obtain ⟨hpM, hM5, hMq⟩ := hpM
  have q := lq_fd hF1 hF2 hE0 hB0 hR hS (fun k => hT5.1 50 k (by decide)) (tdC_5 htd1 ⟨fun o k h => hT5.1 o k (by omega), tT_fr hTT, tT_fr hTT⟩) (tdR_lw htd2 hM5) (lE_eo hle hT5 (Or.inl rfl) hTT hMq hM5) hpT hpM
  refine lv_goto (tgt := 1521) hx hb dL_law_278 (by decide) ?_
  exact kk N1 N2 H locs ls hw q.2 hl
set_option maxRecDepth 100000 in
theorem lq_c1 {p : Program} {l : Launch} {e : Env} {s : State} {m : MethodId} {below : List Frame} {meth : Method} {c : Code} {D : va_G} {cy : Nat → ClassId} {A1 A2 : Nat → Nat → Nat} {M1 M2 : ti_M} {b q3 L cells slots : Nat} {iv : Int32} {xs : Nat → Int32} {H : Heap} {locs : List Loc} {ls : Array Slot} (Z : lq_Z p s m meth c D cy A1 A2 b L xs) (hcs : cells ≤ room_1.cells ∧ slots ≤ room_1.slots) (hw : lq_H s D cy A1 A2 q3 M1 M2 H locs) (hI : lq_I M1 M2) (hi : 0 ≤ iv.toInt ∧ iv.toInt + 6 ≤ L) (hl : lv_has ls 7 [(4, .int iv), (3, .ref q3), (2, .ref (A2 60 0)), (1, .ref (A1 0 0)), (0, .ref b)]) (kk : ∀ (M1 M2 : ti_M) (H : Heap) (locs : List Loc) (ls : Array Slot), lq_H s D cy A1 A2 q3 M1 M2 H locs → lq_I M1 M2 → lv_has ls 7 [(4, .int iv), (3, .ref q3), (2, .ref (A2 60 0)), (1, .ref (A1 0 0)), (0, .ref b)] → W p l e room_1 s m #[Value.ref b] below meth c H locs cells slots (lw_Z below #[Value.ref b] s) (F0 m 1521 ls [])) : W p l e room_1 s m #[Value.ref b] below meth c H locs cells slots (lw_Z below #[Value.ref b] s) (F0 m 281 ls []) := by
  have C := Z.1
  have hA := Z.2.1
  have hx := C.1
  have hb := C.2.1
  have hbA : ¬ lq_F s b := Nat.not_le.mpr Z.2.2.2.1
  have hL := Z.2.2.2.2.2.2.1
  have hE := Z.2.2.2.2.2.2.2
  obtain ⟨Tc, Tm, hF1, hF2, hE0, hB0, hR1, hR2, hS1, hS2, rg, htd1, htd2, hle⟩ := hI
  have hR := And.intro hR1 hR2
  have hS := And.intro hS1 hS2
  refine lv_aload_n hx hb dL_law_281 rfl (lv_at hl 3 rfl) ?_
  refine lv_aload_n hx hb dL_law_282 rfl (lv_at hl 4 rfl) ?_
  refine lv_iload hx hb dL_law_283 (lv_at hl 0 rfl) ?_
  refine lv_iconst (v := 1) hx hb dL_law_285 (by decide) ?_
  refine lv_iadd hx hb dL_law_286 ?_
  refine va_sld (i := iv + 1) hx hb Z.2.2.1 Z.2.2.2.1 hbA hw.2.2.1 (lq_in hi hL (by decide) (by decide)) dL_law_287 ?_
  refine lq_callTiE (av := [.int (xs (iv + 1 : Int32).toNatClampNeg)]) C hA hE hw (z_X9_text l D A1 cy hA.1 M1 hF1.1 hF1 (xs (iv + 1 : Int32).toNatClampNeg) (fun i => (Tc.1 i &&& 255).toInt) _ rfl rfl rg htd1) ⟨ml_L_26, ym_X9_text, yv_X9_text, yi_X9_text, yc_X9_text⟩ yd_X9_text rfl rfl hl.1 (Nat.le_of_ble_eq_true rfl) ⟨by decide, by decide⟩ hcs dL_law_288 (fun rT N1 H locs hpT hw => ?_)
  obtain ⟨J, K, J2, hpT⟩ := lq_tJ hpT
  refine lv_pop hx hb dL_law_291 rfl ?_
  refine lv_aload_n hx hb dL_law_292 rfl (lv_at hl 2 rfl) ?_
  refine lv_aload_n hx hb dL_law_293 rfl (lv_at hl 4 rfl) ?_
  refine lv_iload hx hb dL_law_294 (lv_at hl 0 rfl) ?_
  refine lv_iconst (v := 1) hx hb dL_law_296 (by decide) ?_
  refine lv_iadd hx hb dL_law_297 ?_
  refine va_sld (i := iv + 1) hx hb Z.2.2.1 Z.2.2.2.1 hbA hw.2.2.1 (lq_in hi hL (by decide) (by decide)) dL_law_298 ?_
  refine lq_callMiE (av := [.int (xs (iv + 1 : Int32).toNatClampNeg)]) C hA hE hw (z_X10_text l D A2 cy hA.2.1 M2 hF2.1 hF2 (xs (iv + 1 : Int32).toNatClampNeg) (fun i => (Tc.1 i &&& 255).toInt) J (fun hn i hi => by rw [show tY M2 60 1 = Tm.1 from congrArg (fun t => t.1) hF2.1.2.2.2]; exact (hB0 i (by rw [hE0]; omega)).symm) K J2) ⟨ml_L_30, ym_X10_text, yv_X10_text, yi_X10_text, yc_X10_text⟩ yd_X10_text rfl rfl hl.1 (Nat.le_of_ble_eq_true rfl) ⟨by decide, by decide⟩ hcs dL_law_299 (fun rM N2 H locs hpM hw => ?_)
  refine lv_pop hx hb dL_law_302 rfl ?_
  have q := lq_tx hF1 hF2 hE0 hB0 hR hS htd1 htd2 hle hpT hpM
  refine lv_goto (tgt := 1521) hx hb dL_law_303 (by decide) ?_
  exact kk N1 N2 H locs ls hw q.2 hl
set_option maxRecDepth 100000 in
theorem lq_c2 {p : Program} {l : Launch} {e : Env} {s : State} {m : MethodId} {below : List Frame} {meth : Method} {c : Code} {D : va_G} {cy : Nat → ClassId} {A1 A2 : Nat → Nat → Nat} {M1 M2 : ti_M} {b q3 L cells slots : Nat} {iv : Int32} {xs : Nat → Int32} {H : Heap} {locs : List Loc} {ls : Array Slot} (Z : lq_Z p s m meth c D cy A1 A2 b L xs) (hcs : cells ≤ room_1.cells ∧ slots ≤ room_1.slots) (hw : lq_H s D cy A1 A2 q3 M1 M2 H locs) (hI : lq_I M1 M2) (hi : 0 ≤ iv.toInt ∧ iv.toInt + 6 ≤ L) (hl : lv_has ls 7 [(4, .int iv), (3, .ref q3), (2, .ref (A2 60 0)), (1, .ref (A1 0 0)), (0, .ref b)]) (kk : ∀ (M1 M2 : ti_M) (H : Heap) (locs : List Loc) (ls : Array Slot), lq_H s D cy A1 A2 q3 M1 M2 H locs → lq_I M1 M2 → lv_has ls 7 [(4, .int iv), (3, .ref q3), (2, .ref (A2 60 0)), (1, .ref (A1 0 0)), (0, .ref b)] → W p l e room_1 s m #[Value.ref b] below meth c H locs cells slots (lw_Z below #[Value.ref b] s) (F0 m 1521 ls [])) : W p l e room_1 s m #[Value.ref b] below meth c H locs cells slots (lw_Z below #[Value.ref b] s) (F0 m 306 ls []) := by
  have C := Z.1
  have hA := Z.2.1
  have hx := C.1
  have hb := C.2.1
  have hbA : ¬ lq_F s b := Nat.not_le.mpr Z.2.2.2.1
  have hL := Z.2.2.2.2.2.2.1
  have hE := Z.2.2.2.2.2.2.2
  obtain ⟨Tc, Tm, hF1, hF2, hE0, hB0, hR1, hR2, hS1, hS2, rg, htd1, htd2, hle⟩ := hI
  have hR := And.intro hR1 hR2
  have hS := And.intro hS1 hS2
  refine lv_aload_n hx hb dL_law_306 rfl (lv_at hl 3 rfl) ?_
  refine lv_aload_n hx hb dL_law_307 rfl (lv_at hl 4 rfl) ?_
  refine lv_iload hx hb dL_law_308 (lv_at hl 0 rfl) ?_
  refine lv_iconst (v := 1) hx hb dL_law_310 (by decide) ?_
  refine lv_iadd hx hb dL_law_311 ?_
  refine va_sld (i := iv + 1) hx hb Z.2.2.1 Z.2.2.2.1 hbA hw.2.2.1 (lq_in hi hL (by decide) (by decide)) dL_law_312 ?_
  refine lq_callTi (av := [.int (xs (iv + 1 : Int32).toNatClampNeg)]) C hA hw (f_X9_fault l D A1 cy hA.1 M1 hF1.1 hF1 (xs (iv + 1 : Int32).toNatClampNeg)) ⟨ml_L_31, ym_X9_fault, yv_X9_fault, yi_X9_fault, yc_X9_fault⟩ yd_X9_fault rfl rfl hl.1 (Nat.le_of_ble_eq_true rfl) ⟨by decide, by decide⟩ hcs dL_law_313 (fun rT N1 H locs hpT hw => ?_)
  refine lv_pop hx hb dL_law_316 rfl ?_
  refine lv_aload_n hx hb dL_law_317 rfl (lv_at hl 2 rfl) ?_
  refine lv_aload_n hx hb dL_law_318 rfl (lv_at hl 4 rfl) ?_
  refine lv_iload hx hb dL_law_319 (lv_at hl 0 rfl) ?_
  refine lv_iconst (v := 1) hx hb dL_law_321 (by decide) ?_
  refine lv_iadd hx hb dL_law_322 ?_
  refine va_sld (i := iv + 1) hx hb Z.2.2.1 Z.2.2.2.1 hbA hw.2.2.1 (lq_in hi hL (by decide) (by decide)) dL_law_323 ?_
  refine lq_callMi (av := [.int (xs (iv + 1 : Int32).toNatClampNeg)]) C hA hw (f_X10_fault l D A2 cy hA.2.1 M2 hF2.1 hF2 (xs (iv + 1 : Int32).toNatClampNeg)) ⟨ml_L_34, ym_X10_fault, yv_X10_fault, yi_X10_fault, yc_X10_fault⟩ yd_X10_fault rfl rfl hl.1 (Nat.le_of_ble_eq_true rfl) ⟨by decide, by decide⟩ hcs dL_law_324 (fun rM N2 H locs hpM hw => ?_)
  refine lv_pop hx hb dL_law_327 rfl ?_
  refine lv_goto (tgt := 1521) hx hb dL_law_328 (by decide) ?_
  exact kk N1 N2 H locs ls hw ⟨Tc, Tm, hpT.2.2.1, hpM.2.1, hpT.2.2.2.1.trans (hE0.trans (show tI N2 60 2 = tI M2 60 2 from hpM.2.2.1).symm), (fun i hi => hB0 i (by rw [← hpT.2.2.2.1]; exact hi)), (congrArg Int32.toInt (hpT.2.2.2.2.1 1 4 (by decide) (by decide))).trans hR.1, (congrArg Int32.toInt (hpT.2.2.2.2.1 1 5 (by decide) (by decide))).trans hR.2, hS1, hS2, rg, tdC_tl htd1 hpT.2.2.2.2, tdR_lw htd2 hpM.2.2.2, lE_obs hle hpT.1 hpT.2.1 hpM.1.1 (fun q => hpM.1.2.trans q) hpM.2.2.2⟩ hl
set_option maxRecDepth 100000 in
theorem lq_c3 {p : Program} {l : Launch} {e : Env} {s : State} {m : MethodId} {below : List Frame} {meth : Method} {c : Code} {D : va_G} {cy : Nat → ClassId} {A1 A2 : Nat → Nat → Nat} {M1 M2 : ti_M} {b q3 L cells slots : Nat} {iv : Int32} {xs : Nat → Int32} {H : Heap} {locs : List Loc} {ls : Array Slot} (Z : lq_Z p s m meth c D cy A1 A2 b L xs) (hcs : cells ≤ room_1.cells ∧ slots ≤ room_1.slots) (hw : lq_H s D cy A1 A2 q3 M1 M2 H locs) (hI : lq_I M1 M2) (hi : 0 ≤ iv.toInt ∧ iv.toInt + 6 ≤ L) (hl : lv_has ls 7 [(4, .int iv), (3, .ref q3), (2, .ref (A2 60 0)), (1, .ref (A1 0 0)), (0, .ref b)]) (kk : ∀ (M1 M2 : ti_M) (H : Heap) (locs : List Loc) (ls : Array Slot), lq_H s D cy A1 A2 q3 M1 M2 H locs → lq_I M1 M2 → lv_has ls 7 [(4, .int iv), (3, .ref q3), (2, .ref (A2 60 0)), (1, .ref (A1 0 0)), (0, .ref b)] → W p l e room_1 s m #[Value.ref b] below meth c H locs cells slots (lw_Z below #[Value.ref b] s) (F0 m 1521 ls [])) : W p l e room_1 s m #[Value.ref b] below meth c H locs cells slots (lw_Z below #[Value.ref b] s) (F0 m 331 ls []) := by
  have C := Z.1
  have hA := Z.2.1
  have hx := C.1
  have hb := C.2.1
  have hbA : ¬ lq_F s b := Nat.not_le.mpr Z.2.2.2.1
  have hL := Z.2.2.2.2.2.2.1
  have hE := Z.2.2.2.2.2.2.2
  obtain ⟨Tc, Tm, hF1, hF2, hE0, hB0, hR1, hR2, hS1, hS2, rg, htd1, htd2, hle⟩ := hI
  have hR := And.intro hR1 hR2
  have hS := And.intro hS1 hS2
  refine lv_aload_n hx hb dL_law_331 rfl (lv_at hl 3 rfl) ?_
  refine lv_aload_n hx hb dL_law_332 rfl (lv_at hl 4 rfl) ?_
  refine lv_iload hx hb dL_law_333 (lv_at hl 0 rfl) ?_
  refine lv_iconst (v := 1) hx hb dL_law_335 (by decide) ?_
  refine lv_iadd hx hb dL_law_336 ?_
  refine va_sld (i := iv + 1) hx hb Z.2.2.1 Z.2.2.2.1 hbA hw.2.2.1 (lq_in hi hL (by decide) (by decide)) dL_law_337 ?_
  refine lq_callTi (av := [.int (xs (iv + 1 : Int32).toNatClampNeg)]) C hA hw (f_X9_named l D A1 cy hA.1 M1 hF1.1 hF1 (xs (iv + 1 : Int32).toNatClampNeg)) ⟨ml_L_35, ym_X9_named, yv_X9_named, yi_X9_named, yc_X9_named⟩ yd_X9_named rfl rfl hl.1 (Nat.le_of_ble_eq_true rfl) ⟨by decide, by decide⟩ hcs dL_law_338 (fun rT N1 H locs hpT hw => ?_)
  refine lv_pop hx hb dL_law_341 rfl ?_
  refine lv_aload_n hx hb dL_law_342 rfl (lv_at hl 2 rfl) ?_
  refine lv_aload_n hx hb dL_law_343 rfl (lv_at hl 4 rfl) ?_
  refine lv_iload hx hb dL_law_344 (lv_at hl 0 rfl) ?_
  refine lv_iconst (v := 1) hx hb dL_law_346 (by decide) ?_
  refine lv_iadd hx hb dL_law_347 ?_
  refine va_sld (i := iv + 1) hx hb Z.2.2.1 Z.2.2.2.1 hbA hw.2.2.1 (lq_in hi hL (by decide) (by decide)) dL_law_348 ?_
  refine lq_callMi (av := [.int (xs (iv + 1 : Int32).toNatClampNeg)]) C hA hw (f_X10_named l D A2 cy hA.2.1 M2 hF2.1 hF2 (xs (iv + 1 : Int32).toNatClampNeg)) ⟨ml_L_38, ym_X10_named, yv_X10_named, yi_X10_named, yc_X10_named⟩ yd_X10_named rfl rfl hl.1 (Nat.le_of_ble_eq_true rfl) ⟨by decide, by decide⟩ hcs dL_law_349 (fun rM N2 H locs hpM hw => ?_)
  refine lv_pop hx hb dL_law_352 rfl ?_
  refine lv_goto (tgt := 1521) hx hb dL_law_353 (by decide) ?_
  exact kk N1 N2 H locs ls hw ⟨Tc, Tm, hpT.2.2.1, hpM.2.1, hpT.2.2.2.1.trans (hE0.trans (show tI N2 60 2 = tI M2 60 2 from hpM.2.2.1).symm), (fun i hi => hB0 i (by rw [← hpT.2.2.2.1]; exact hi)), (congrArg Int32.toInt (hpT.2.2.2.2.1 1 4 (by decide) (by decide))).trans hR.1, (congrArg Int32.toInt (hpT.2.2.2.2.1 1 5 (by decide) (by decide))).trans hR.2, hS1, hS2, rg, tdC_tl htd1 hpT.2.2.2.2, tdR_lw htd2 hpM.2.2.2, lE_obs hle hpT.1 hpT.2.1 hpM.1.1 (fun q => hpM.1.2.trans q) hpM.2.2.2⟩ hl
set_option maxRecDepth 100000 in
theorem lq_c5 {p : Program} {l : Launch} {e : Env} {s : State} {m : MethodId} {below : List Frame} {meth : Method} {c : Code} {D : va_G} {cy : Nat → ClassId} {A1 A2 : Nat → Nat → Nat} {M1 M2 : ti_M} {b q3 L cells slots : Nat} {iv : Int32} {xs : Nat → Int32} {H : Heap} {locs : List Loc} {ls : Array Slot} (Z : lq_Z p s m meth c D cy A1 A2 b L xs) (hcs : cells ≤ room_1.cells ∧ slots ≤ room_1.slots) (hw : lq_H s D cy A1 A2 q3 M1 M2 H locs) (hI : lq_I M1 M2) (hi : 0 ≤ iv.toInt ∧ iv.toInt + 6 ≤ L) (hl : lv_has ls 7 [(4, .int iv), (3, .ref q3), (2, .ref (A2 60 0)), (1, .ref (A1 0 0)), (0, .ref b)]) (kk : ∀ (M1 M2 : ti_M) (H : Heap) (locs : List Loc) (ls : Array Slot), lq_H s D cy A1 A2 q3 M1 M2 H locs → lq_I M1 M2 → lv_has ls 7 [(4, .int iv), (3, .ref q3), (2, .ref (A2 60 0)), (1, .ref (A1 0 0)), (0, .ref b)] → W p l e room_1 s m #[Value.ref b] below meth c H locs cells slots (lw_Z below #[Value.ref b] s) (F0 m 1521 ls [])) : W p l e room_1 s m #[Value.ref b] below meth c H locs cells slots (lw_Z below #[Value.ref b] s) (F0 m 396 ls []) := by
  have C := Z.1
  have hA := Z.2.1
  have hx := C.1
  have hb := C.2.1
  have hbA : ¬ lq_F s b := Nat.not_le.mpr Z.2.2.2.1
  have hL := Z.2.2.2.2.2.2.1
  have hE := Z.2.2.2.2.2.2.2
  obtain ⟨Tc, Tm, hF1, hF2, hE0, hB0, hR1, hR2, hS1, hS2, rg, htd1, htd2, hle⟩ := hI
  have hR := And.intro hR1 hR2
  have hS := And.intro hS1 hS2
  obtain ⟨t9, tx9, s9, p9, si9, u9, c9, hb9⟩ := id hle
  obtain ⟨ht9, hkC9, hkR9, hW9, ⟨hw9, h19k⟩, hU9, hi9⟩ := id hb9
  have h19 := h19k.1
  have m9 : 0 ≤ s9 2 ∧ s9 2 ≤ 120 := by
    have b : ib 0 120 (tY M2 60 34 0) := hF2.1.2.1 34 0 (by decide)
    rw [hkR9.2.1.1.1]; exact b
  refine lv_aload_n hx hb dL_law_396 rfl (lv_at hl 3 rfl) ?_
  refine lv_aload_n hx hb dL_law_397 rfl (lv_at hl 4 rfl) ?_
  refine lv_iload hx hb dL_law_398 (lv_at hl 0 rfl) ?_
  refine lv_iconst (v := 1) hx hb dL_law_400 (by decide) ?_
  refine lv_iadd hx hb dL_law_401 ?_
  refine va_sld (i := iv + 1) hx hb Z.2.2.1 Z.2.2.2.1 hbA hw.2.2.1 (lq_in hi hL (by decide) (by decide)) dL_law_402 ?_
  refine lq_callTi (av := [.int (xs (iv + 1 : Int32).toNatClampNeg)]) C hA hw (z_X9_stands l D A1 cy hA.1 M1 hF1.1 hF1 t9 ht9 tx9 s9 p9 u9 c9 hkC9 (xs (iv + 1 : Int32).toNatClampNeg)) ⟨ml_L_45, ym_X9_stands, yv_X9_stands, yi_X9_stands, yc_X9_stands⟩ yd_X9_stands rfl rfl hl.1 (Nat.le_of_ble_eq_true rfl) ⟨by decide, by decide⟩ hcs dL_law_403 (fun rT N1 H locs hpT hw => ?_)
  refine lv_pop hx hb dL_law_406 rfl ?_
  refine lv_aload_n hx hb dL_law_407 rfl (lv_at hl 2 rfl) ?_
  refine lv_aload_n hx hb dL_law_408 rfl (lv_at hl 4 rfl) ?_
  refine lv_iload hx hb dL_law_409 (lv_at hl 0 rfl) ?_
  refine lv_iconst (v := 1) hx hb dL_law_411 (by decide) ?_
  refine lv_iadd hx hb dL_law_412 ?_
  refine va_sld (i := iv + 1) hx hb Z.2.2.1 Z.2.2.2.1 hbA hw.2.2.1 (lq_in hi hL (by decide) (by decide)) dL_law_413 ?_
  refine lq_callMi (av := [.int (xs (iv + 1 : Int32).toNatClampNeg)]) C hA hw (z_X10_stands l D A2 cy hA.2.1 M2 hF2.1 hF2 (xs (iv + 1 : Int32).toNatClampNeg) tx9 s9 p9 u9 c9 hW9.1 hW9 hw9 h19 hkR9) ⟨ml_L_48, ym_X10_stands, yv_X10_stands, yi_X10_stands, yc_X10_stands⟩ yd_X10_stands rfl rfl hl.1 (Nat.le_of_ble_eq_true rfl) ⟨by decide, by decide⟩ hcs dL_law_414 (fun rM N2 H locs hpM hw => ?_)
  refine lv_pop hx hb dL_law_417 rfl ?_
  have q := lq_ob hF1 hE0 hB0 hR hS htd1 htd2 hpT hpM rfl (fun i y => ⟨_, _, _, _, _, _, _, lB_no hb9 i y⟩)
  refine lv_goto (tgt := 1521) hx hb dL_law_418 (by decide) ?_
  exact kk N1 N2 H locs ls hw q.2 hl
set_option maxRecDepth 100000 in
theorem lq_c6 {p : Program} {l : Launch} {e : Env} {s : State} {m : MethodId} {below : List Frame} {meth : Method} {c : Code} {D : va_G} {cy : Nat → ClassId} {A1 A2 : Nat → Nat → Nat} {M1 M2 : ti_M} {b q3 L cells slots : Nat} {iv : Int32} {xs : Nat → Int32} {H : Heap} {locs : List Loc} {ls : Array Slot} (Z : lq_Z p s m meth c D cy A1 A2 b L xs) (hcs : cells ≤ room_1.cells ∧ slots ≤ room_1.slots) (hw : lq_H s D cy A1 A2 q3 M1 M2 H locs) (hI : lq_I M1 M2) (hi : 0 ≤ iv.toInt ∧ iv.toInt + 6 ≤ L) (hl : lv_has ls 7 [(4, .int iv), (3, .ref q3), (2, .ref (A2 60 0)), (1, .ref (A1 0 0)), (0, .ref b)]) (kk : ∀ (M1 M2 : ti_M) (H : Heap) (locs : List Loc) (ls : Array Slot), lq_H s D cy A1 A2 q3 M1 M2 H locs → lq_I M1 M2 → lv_has ls 7 [(4, .int iv), (3, .ref q3), (2, .ref (A2 60 0)), (1, .ref (A1 0 0)), (0, .ref b)] → W p l e room_1 s m #[Value.ref b] below meth c H locs cells slots (lw_Z below #[Value.ref b] s) (F0 m 1521 ls [])) : W p l e room_1 s m #[Value.ref b] below meth c H locs cells slots (lw_Z below #[Value.ref b] s) (F0 m 421 ls []) := by
  have C := Z.1
  have hA := Z.2.1
  have hx := C.1
  have hb := C.2.1
  have hbA : ¬ lq_F s b := Nat.not_le.mpr Z.2.2.2.1
  have hL := Z.2.2.2.2.2.2.1
  have hE := Z.2.2.2.2.2.2.2
  obtain ⟨Tc, Tm, hF1, hF2, hE0, hB0, hR1, hR2, hS1, hS2, rg, htd1, htd2, hle⟩ := hI
  have hR := And.intro hR1 hR2
  have hS := And.intro hS1 hS2
  obtain ⟨t9, tx9, s9, p9, si9, u9, c9, hb9⟩ := id hle
  obtain ⟨ht9, hkC9, hkR9, hW9, ⟨hw9, h19k⟩, hU9, hi9⟩ := id hb9
  have h19 := h19k.1
  have m9 : 0 ≤ s9 2 ∧ s9 2 ≤ 120 := by
    have b : ib 0 120 (tY M2 60 34 0) := hF2.1.2.1 34 0 (by decide)
    rw [hkR9.2.1.1.1]; exact b
  refine lv_aload_n hx hb dL_law_421 rfl (lv_at hl 3 rfl) ?_
  refine lv_aload_n hx hb dL_law_422 rfl (lv_at hl 4 rfl) ?_
  refine lv_iload hx hb dL_law_423 (lv_at hl 0 rfl) ?_
  refine lv_iconst (v := 1) hx hb dL_law_425 (by decide) ?_
  refine lv_iadd hx hb dL_law_426 ?_
  refine va_sld (i := iv + 1) hx hb Z.2.2.1 Z.2.2.2.1 hbA hw.2.2.1 (lq_in hi hL (by decide) (by decide)) dL_law_427 ?_
  refine lq_callTi (av := [.int (xs (iv + 1 : Int32).toNatClampNeg)]) C hA hw (z_X9_holder l D A1 cy hA.1 M1 hF1.1 hF1 t9 ht9 tx9 s9 p9 u9 c9 hkC9 (xs (iv + 1 : Int32).toNatClampNeg)) ⟨ml_L_49, ym_X9_holder, yv_X9_holder, yi_X9_holder, yc_X9_holder⟩ yd_X9_holder rfl rfl hl.1 (Nat.le_of_ble_eq_true rfl) ⟨by decide, by decide⟩ hcs dL_law_428 (fun rT N1 H locs hpT hw => ?_)
  refine lv_pop hx hb dL_law_431 rfl ?_
  refine lv_aload_n hx hb dL_law_432 rfl (lv_at hl 2 rfl) ?_
  refine lv_aload_n hx hb dL_law_433 rfl (lv_at hl 4 rfl) ?_
  refine lv_iload hx hb dL_law_434 (lv_at hl 0 rfl) ?_
  refine lv_iconst (v := 1) hx hb dL_law_436 (by decide) ?_
  refine lv_iadd hx hb dL_law_437 ?_
  refine va_sld (i := iv + 1) hx hb Z.2.2.1 Z.2.2.2.1 hbA hw.2.2.1 (lq_in hi hL (by decide) (by decide)) dL_law_438 ?_
  refine lq_callMi (av := [.int (xs (iv + 1 : Int32).toNatClampNeg)]) C hA hw (z_X10_holder l D A2 cy hA.2.1 M2 hF2.1 hF2 (xs (iv + 1 : Int32).toNatClampNeg) tx9 s9 p9 u9 c9 hW9.1 hW9 hw9 h19 hkR9) ⟨ml_L_52, ym_X10_holder, yv_X10_holder, yi_X10_holder, yc_X10_holder⟩ yd_X10_holder rfl rfl hl.1 (Nat.le_of_ble_eq_true rfl) ⟨by decide, by decide⟩ hcs dL_law_439 (fun rM N2 H locs hpM hw => ?_)
  refine lv_pop hx hb dL_law_442 rfl ?_
  have q := lq_ob hF1 hE0 hB0 hR hS htd1 htd2 hpT hpM rfl (fun i y => ⟨_, _, _, _, _, _, _, lB_no hb9 i y⟩)
  refine lv_goto (tgt := 1521) hx hb dL_law_443 (by decide) ?_
  exact kk N1 N2 H locs ls hw q.2 hl
set_option maxRecDepth 100000 in
theorem lq_c7 {p : Program} {l : Launch} {e : Env} {s : State} {m : MethodId} {below : List Frame} {meth : Method} {c : Code} {D : va_G} {cy : Nat → ClassId} {A1 A2 : Nat → Nat → Nat} {M1 M2 : ti_M} {b q3 L cells slots : Nat} {iv : Int32} {xs : Nat → Int32} {H : Heap} {locs : List Loc} {ls : Array Slot} (Z : lq_Z p s m meth c D cy A1 A2 b L xs) (hcs : cells ≤ room_1.cells ∧ slots ≤ room_1.slots) (hw : lq_H s D cy A1 A2 q3 M1 M2 H locs) (hI : lq_I M1 M2) (hi : 0 ≤ iv.toInt ∧ iv.toInt + 6 ≤ L) (hl : lv_has ls 7 [(4, .int iv), (3, .ref q3), (2, .ref (A2 60 0)), (1, .ref (A1 0 0)), (0, .ref b)]) (kk : ∀ (M1 M2 : ti_M) (H : Heap) (locs : List Loc) (ls : Array Slot), lq_H s D cy A1 A2 q3 M1 M2 H locs → lq_I M1 M2 → lv_has ls 7 [(4, .int iv), (3, .ref q3), (2, .ref (A2 60 0)), (1, .ref (A1 0 0)), (0, .ref b)] → W p l e room_1 s m #[Value.ref b] below meth c H locs cells slots (lw_Z below #[Value.ref b] s) (F0 m 1521 ls [])) : W p l e room_1 s m #[Value.ref b] below meth c H locs cells slots (lw_Z below #[Value.ref b] s) (F0 m 446 ls []) := by
  have C := Z.1
  have hA := Z.2.1
  have hx := C.1
  have hb := C.2.1
  have hbA : ¬ lq_F s b := Nat.not_le.mpr Z.2.2.2.1
  have hL := Z.2.2.2.2.2.2.1
  have hE := Z.2.2.2.2.2.2.2
  obtain ⟨Tc, Tm, hF1, hF2, hE0, hB0, hR1, hR2, hS1, hS2, rg, htd1, htd2, hle⟩ := hI
  have hR := And.intro hR1 hR2
  have hS := And.intro hS1 hS2
  refine lv_aload_n hx hb dL_law_446 rfl (lv_at hl 3 rfl) ?_
  refine lv_aload_n hx hb dL_law_447 rfl (lv_at hl 4 rfl) ?_
  refine lv_iload hx hb dL_law_448 (lv_at hl 0 rfl) ?_
  refine lv_iconst (v := 1) hx hb dL_law_450 (by decide) ?_
  refine lv_iadd hx hb dL_law_451 ?_
  refine va_sld (i := iv + 1) hx hb Z.2.2.1 Z.2.2.2.1 hbA hw.2.2.1 (lq_in hi hL (by decide) (by decide)) dL_law_452 ?_
  refine lv_aload_n hx hb dL_law_453 rfl (lv_at hl 4 rfl) ?_
  refine lv_iload hx hb dL_law_454 (lv_at hl 0 rfl) ?_
  refine lv_iconst (v := 2) hx hb dL_law_456 (by decide) ?_
  refine lv_iadd hx hb dL_law_457 ?_
  refine va_sld (i := iv + 2) hx hb Z.2.2.1 Z.2.2.2.1 hbA hw.2.2.1 (lq_in hi hL (by decide) (by decide)) dL_law_458 ?_
  refine lq_callTl (av := [.int (xs (iv + 1 : Int32).toNatClampNeg), .int (xs (iv + 2 : Int32).toNatClampNeg)]) C hA hw (f_X9_law l D A1 cy hA.1 M1 hF1.1 hF1 (xs (iv + 1 : Int32).toNatClampNeg) (xs (iv + 2 : Int32).toNatClampNeg)) ⟨ml_L_53, ym_X9_law, yv_X9_law, yi_X9_law, yc_X9_law⟩ yd_X9_law rfl rfl hl.1 (Nat.le_of_ble_eq_true rfl) ⟨by decide, by decide⟩ hcs dL_law_459 (fun rT N1 H locs hpT hw => ?_)
  refine lv_pop2_2 hx hb dL_law_462 rfl ?_
  refine lv_aload_n hx hb dL_law_463 rfl (lv_at hl 2 rfl) ?_
  refine lv_aload_n hx hb dL_law_464 rfl (lv_at hl 4 rfl) ?_
  refine lv_iload hx hb dL_law_465 (lv_at hl 0 rfl) ?_
  refine lv_iconst (v := 1) hx hb dL_law_467 (by decide) ?_
  refine lv_iadd hx hb dL_law_468 ?_
  refine va_sld (i := iv + 1) hx hb Z.2.2.1 Z.2.2.2.1 hbA hw.2.2.1 (lq_in hi hL (by decide) (by decide)) dL_law_469 ?_
  refine lv_aload_n hx hb dL_law_470 rfl (lv_at hl 4 rfl) ?_
  refine lv_iload hx hb dL_law_471 (lv_at hl 0 rfl) ?_
  refine lv_iconst (v := 2) hx hb dL_law_473 (by decide) ?_
  refine lv_iadd hx hb dL_law_474 ?_
  refine va_sld (i := iv + 2) hx hb Z.2.2.1 Z.2.2.2.1 hbA hw.2.2.1 (lq_in hi hL (by decide) (by decide)) dL_law_475 ?_
  refine lq_callMl (av := [.int (xs (iv + 1 : Int32).toNatClampNeg), .int (xs (iv + 2 : Int32).toNatClampNeg)]) C hA hw (f_X10_law l D A2 cy hA.2.1 M2 hF2.1 hF2 (xs (iv + 1 : Int32).toNatClampNeg) (xs (iv + 2 : Int32).toNatClampNeg)) ⟨ml_L_57, ym_X10_law, yv_X10_law, yi_X10_law, yc_X10_law⟩ yd_X10_law rfl rfl hl.1 (Nat.le_of_ble_eq_true rfl) ⟨by decide, by decide⟩ hcs dL_law_476 (fun rM N2 H locs hpM hw => ?_)
  refine lv_pop2_2 hx hb dL_law_479 rfl ?_
  refine lv_goto (tgt := 1521) hx hb dL_law_480 (by decide) ?_
  exact kk N1 N2 H locs ls hw ⟨Tc, Tm, hpT.2.2.1, hpM.2.1, hpT.2.2.2.1.trans (hE0.trans (show tI N2 60 2 = tI M2 60 2 from hpM.2.2.1).symm), (fun i hi => hB0 i (by rw [← hpT.2.2.2.1]; exact hi)), (congrArg Int32.toInt (hpT.2.2.2.2.1 1 4 (by decide) (by decide))).trans hR.1, (congrArg Int32.toInt (hpT.2.2.2.2.1 1 5 (by decide) (by decide))).trans hR.2, hS1, hS2, rg, tdC_tl htd1 hpT.2.2.2.2, tdR_lw htd2 hpM.2.2.2, lE_obs hle hpT.1 hpT.2.1 hpM.1.1 (fun q => hpM.1.2.trans q) hpM.2.2.2⟩ hl
set_option maxRecDepth 100000 in
theorem lq_c8 {p : Program} {l : Launch} {e : Env} {s : State} {m : MethodId} {below : List Frame} {meth : Method} {c : Code} {D : va_G} {cy : Nat → ClassId} {A1 A2 : Nat → Nat → Nat} {M1 M2 : ti_M} {b q3 L cells slots : Nat} {iv : Int32} {xs : Nat → Int32} {H : Heap} {locs : List Loc} {ls : Array Slot} (Z : lq_Z p s m meth c D cy A1 A2 b L xs) (hcs : cells ≤ room_1.cells ∧ slots ≤ room_1.slots) (hw : lq_H s D cy A1 A2 q3 M1 M2 H locs) (hI : lq_I M1 M2) (hi : 0 ≤ iv.toInt ∧ iv.toInt + 6 ≤ L) (hl : lv_has ls 7 [(4, .int iv), (3, .ref q3), (2, .ref (A2 60 0)), (1, .ref (A1 0 0)), (0, .ref b)]) (kk : ∀ (M1 M2 : ti_M) (H : Heap) (locs : List Loc) (ls : Array Slot), lq_H s D cy A1 A2 q3 M1 M2 H locs → lq_I M1 M2 → lv_has ls 7 [(4, .int iv), (3, .ref q3), (2, .ref (A2 60 0)), (1, .ref (A1 0 0)), (0, .ref b)] → W p l e room_1 s m #[Value.ref b] below meth c H locs cells slots (lw_Z below #[Value.ref b] s) (F0 m 1521 ls [])) : W p l e room_1 s m #[Value.ref b] below meth c H locs cells slots (lw_Z below #[Value.ref b] s) (F0 m 483 ls []) := by
  have C := Z.1
  have hA := Z.2.1
  have hx := C.1
  have hb := C.2.1
  have hbA : ¬ lq_F s b := Nat.not_le.mpr Z.2.2.2.1
  have hL := Z.2.2.2.2.2.2.1
  have hE := Z.2.2.2.2.2.2.2
  obtain ⟨Tc, Tm, hF1, hF2, hE0, hB0, hR1, hR2, hS1, hS2, rg, htd1, htd2, hle⟩ := hI
  have hR := And.intro hR1 hR2
  have hS := And.intro hS1 hS2
  obtain ⟨t9, tx9, s9, p9, si9, u9, c9, hb9⟩ := id hle
  obtain ⟨ht9, hkC9, hkR9, hW9, ⟨hw9, h19k⟩, hU9, hi9⟩ := id hb9
  have h19 := h19k.1
  have m9 : 0 ≤ s9 2 ∧ s9 2 ≤ 120 := by
    have b : ib 0 120 (tY M2 60 34 0) := hF2.1.2.1 34 0 (by decide)
    rw [hkR9.2.1.1.1]; exact b
  refine lv_aload_n hx hb dL_law_483 rfl (lv_at hl 3 rfl) ?_
  refine lv_aload_n hx hb dL_law_484 rfl (lv_at hl 4 rfl) ?_
  refine lv_iload hx hb dL_law_485 (lv_at hl 0 rfl) ?_
  refine lv_iconst (v := 1) hx hb dL_law_487 (by decide) ?_
  refine lv_iadd hx hb dL_law_488 ?_
  refine va_sld (i := iv + 1) hx hb Z.2.2.1 Z.2.2.2.1 hbA hw.2.2.1 (lq_in hi hL (by decide) (by decide)) dL_law_489 ?_
  refine lq_callTi (av := [.int (xs (iv + 1 : Int32).toNatClampNeg)]) C hA hw (z_X9_go l D A1 cy hA.1 M1 hF1.1 hF1 t9 ht9 tx9 s9 p9 u9 c9 hkC9 h19 hw9.2.1.2 (xs (iv + 1 : Int32).toNatClampNeg)) ⟨ml_L_58, ym_X9_go, yv_X9_go, yi_X9_go, yc_X9_go⟩ yd_X9_go rfl rfl hl.1 (Nat.le_of_ble_eq_true rfl) ⟨by decide, by decide⟩ hcs dL_law_490 (fun rT N1 H locs hpT hw => ?_)
  refine lv_pop hx hb dL_law_493 rfl ?_
  refine lv_aload_n hx hb dL_law_494 rfl (lv_at hl 2 rfl) ?_
  refine lv_aload_n hx hb dL_law_495 rfl (lv_at hl 4 rfl) ?_
  refine lv_iload hx hb dL_law_496 (lv_at hl 0 rfl) ?_
  refine lv_iconst (v := 1) hx hb dL_law_498 (by decide) ?_
  refine lv_iadd hx hb dL_law_499 ?_
  refine va_sld (i := iv + 1) hx hb Z.2.2.1 Z.2.2.2.1 hbA hw.2.2.1 (lq_in hi hL (by decide) (by decide)) dL_law_500 ?_
  refine lq_callMi (av := [.int (xs (iv + 1 : Int32).toNatClampNeg)]) C hA hw (z_X10_go l D A2 cy hA.2.1 M2 hF2.1 hF2 (xs (iv + 1 : Int32).toNatClampNeg) tx9 s9 p9 u9 c9 hW9.1 hW9 hw9 h19 hkR9) ⟨ml_L_61, ym_X10_go, yv_X10_go, yi_X10_go, yc_X10_go⟩ yd_X10_go rfl rfl hl.1 (Nat.le_of_ble_eq_true rfl) ⟨by decide, by decide⟩ hcs dL_law_501 (fun rM N2 H locs hpM hw => ?_)
  refine lv_pop hx hb dL_law_504 rfl ?_
  have q := lq_sp hF1 hE0 hB0 hR hS htd1 htd2 hpT hpM (fun _ => rfl) (fun a b => a b) (fun a b => a b) (fun i y => ⟨_, _, _, _, _, _, _, lB_no hb9 i y⟩) (fun q g i x y => ⟨_, _, _, _, _, _, _, lB_go hb9 g i m9.1 (by omega) (by rw [show (((xs (iv + 1 : Int32).toNatClampNeg).toInt.toNat : Nat) : Int) = (xs (iv + 1 : Int32).toNatClampNeg).toInt by omega]) x y⟩)
  refine lv_goto (tgt := 1521) hx hb dL_law_505 (by decide) ?_
  exact kk N1 N2 H locs ls hw q.2 hl
set_option maxRecDepth 100000 in
theorem lq_c9 {p : Program} {l : Launch} {e : Env} {s : State} {m : MethodId} {below : List Frame} {meth : Method} {c : Code} {D : va_G} {cy : Nat → ClassId} {A1 A2 : Nat → Nat → Nat} {M1 M2 : ti_M} {b q3 L cells slots : Nat} {iv : Int32} {xs : Nat → Int32} {H : Heap} {locs : List Loc} {ls : Array Slot} (Z : lq_Z p s m meth c D cy A1 A2 b L xs) (hcs : cells ≤ room_1.cells ∧ slots ≤ room_1.slots) (hw : lq_H s D cy A1 A2 q3 M1 M2 H locs) (hI : lq_I M1 M2) (hi : 0 ≤ iv.toInt ∧ iv.toInt + 6 ≤ L) (hl : lv_has ls 7 [(4, .int iv), (3, .ref q3), (2, .ref (A2 60 0)), (1, .ref (A1 0 0)), (0, .ref b)]) (kk : ∀ (M1 M2 : ti_M) (H : Heap) (locs : List Loc) (ls : Array Slot), lq_H s D cy A1 A2 q3 M1 M2 H locs → lq_I M1 M2 → lv_has ls 7 [(4, .int iv), (3, .ref q3), (2, .ref (A2 60 0)), (1, .ref (A1 0 0)), (0, .ref b)] → W p l e room_1 s m #[Value.ref b] below meth c H locs cells slots (lw_Z below #[Value.ref b] s) (F0 m 1521 ls [])) : W p l e room_1 s m #[Value.ref b] below meth c H locs cells slots (lw_Z below #[Value.ref b] s) (F0 m 508 ls []) := by
  have C := Z.1
  have hA := Z.2.1
  have hx := C.1
  have hb := C.2.1
  have hbA : ¬ lq_F s b := Nat.not_le.mpr Z.2.2.2.1
  have hL := Z.2.2.2.2.2.2.1
  have hE := Z.2.2.2.2.2.2.2
  obtain ⟨Tc, Tm, hF1, hF2, hE0, hB0, hR1, hR2, hS1, hS2, rg, htd1, htd2, hle⟩ := hI
  have hR := And.intro hR1 hR2
  have hS := And.intro hS1 hS2
  obtain ⟨t9, tx9, s9, p9, si9, u9, c9, hb9⟩ := id hle
  obtain ⟨ht9, hkC9, hkR9, hW9, ⟨hw9, h19k⟩, hU9, hi9⟩ := id hb9
  have h19 := h19k.1
  have m9 : 0 ≤ s9 2 ∧ s9 2 ≤ 120 := by
    have b : ib 0 120 (tY M2 60 34 0) := hF2.1.2.1 34 0 (by decide)
    rw [hkR9.2.1.1.1]; exact b
  refine lv_aload_n hx hb dL_law_508 rfl (lv_at hl 3 rfl) ?_
  refine lv_aload_n hx hb dL_law_509 rfl (lv_at hl 4 rfl) ?_
  refine lv_iload hx hb dL_law_510 (lv_at hl 0 rfl) ?_
  refine lv_iconst (v := 1) hx hb dL_law_512 (by decide) ?_
  refine lv_iadd hx hb dL_law_513 ?_
  refine va_sld (i := iv + 1) hx hb Z.2.2.1 Z.2.2.2.1 hbA hw.2.2.1 (lq_in hi hL (by decide) (by decide)) dL_law_514 ?_
  refine lq_callTi (av := [.int (xs (iv + 1 : Int32).toNatClampNeg)]) C hA hw (z_X9_join l D A1 cy hA.1 M1 hF1.1 hF1 t9 ht9 tx9 s9 p9 u9 c9 hkC9 (xs (iv + 1 : Int32).toNatClampNeg)) ⟨ml_L_62, ym_X9_join, yv_X9_join, yi_X9_join, yc_X9_join⟩ yd_X9_join rfl rfl hl.1 (Nat.le_of_ble_eq_true rfl) ⟨by decide, by decide⟩ hcs dL_law_515 (fun rT N1 H locs hpT hw => ?_)
  refine lv_pop hx hb dL_law_518 rfl ?_
  refine lv_aload_n hx hb dL_law_519 rfl (lv_at hl 2 rfl) ?_
  refine lv_aload_n hx hb dL_law_520 rfl (lv_at hl 4 rfl) ?_
  refine lv_iload hx hb dL_law_521 (lv_at hl 0 rfl) ?_
  refine lv_iconst (v := 1) hx hb dL_law_523 (by decide) ?_
  refine lv_iadd hx hb dL_law_524 ?_
  refine va_sld (i := iv + 1) hx hb Z.2.2.1 Z.2.2.2.1 hbA hw.2.2.1 (lq_in hi hL (by decide) (by decide)) dL_law_525 ?_
  refine lq_callMi (av := [.int (xs (iv + 1 : Int32).toNatClampNeg)]) C hA hw (z_X10_join l D A2 cy hA.2.1 M2 hF2.1 hF2 (xs (iv + 1 : Int32).toNatClampNeg) tx9 s9 p9 u9 c9 hW9.1 hW9 hw9 h19 hkR9) ⟨ml_L_65, ym_X10_join, yv_X10_join, yi_X10_join, yc_X10_join⟩ yd_X10_join rfl rfl hl.1 (Nat.le_of_ble_eq_true rfl) ⟨by decide, by decide⟩ hcs dL_law_526 (fun rM N2 H locs hpM hw => ?_)
  refine lv_pop hx hb dL_law_529 rfl ?_
  have q := lq_sp hF1 hE0 hB0 hR hS htd1 htd2 hpT hpM (fun q => po_ap hw9 hW9 q.1 q.2.1 q.2.2) (fun a b => a b) (fun a b => a b) (fun i y => ⟨_, _, _, _, _, _, _, lB_no hb9 i y⟩) (fun q g i x y => ⟨_, _, _, _, _, _, _, lB_st hb9 g i x y (wF_ap hW9 hw9 q.1 q.2.1 q.2.2).1 (kz_gx h19k (gx_ap (by have a1 := q.1; have a2 := q.2.1; have a3 := hW9.1; omega) q.2.2) (ap_k ⟨by decide, by decide⟩)) (ap_k ⟨by decide, by decide⟩)⟩)
  refine lv_goto (tgt := 1521) hx hb dL_law_530 (by decide) ?_
  exact kk N1 N2 H locs ls hw q.2 hl
set_option maxRecDepth 100000 in
theorem lq_c10 {p : Program} {l : Launch} {e : Env} {s : State} {m : MethodId} {below : List Frame} {meth : Method} {c : Code} {D : va_G} {cy : Nat → ClassId} {A1 A2 : Nat → Nat → Nat} {M1 M2 : ti_M} {b q3 L cells slots : Nat} {iv : Int32} {xs : Nat → Int32} {H : Heap} {locs : List Loc} {ls : Array Slot} (Z : lq_Z p s m meth c D cy A1 A2 b L xs) (hcs : cells ≤ room_1.cells ∧ slots ≤ room_1.slots) (hw : lq_H s D cy A1 A2 q3 M1 M2 H locs) (hI : lq_I M1 M2) (hi : 0 ≤ iv.toInt ∧ iv.toInt + 6 ≤ L) (hl : lv_has ls 7 [(4, .int iv), (3, .ref q3), (2, .ref (A2 60 0)), (1, .ref (A1 0 0)), (0, .ref b)]) (kk : ∀ (M1 M2 : ti_M) (H : Heap) (locs : List Loc) (ls : Array Slot), lq_H s D cy A1 A2 q3 M1 M2 H locs → lq_I M1 M2 → lv_has ls 7 [(4, .int iv), (3, .ref q3), (2, .ref (A2 60 0)), (1, .ref (A1 0 0)), (0, .ref b)] → W p l e room_1 s m #[Value.ref b] below meth c H locs cells slots (lw_Z below #[Value.ref b] s) (F0 m 1521 ls [])) : W p l e room_1 s m #[Value.ref b] below meth c H locs cells slots (lw_Z below #[Value.ref b] s) (F0 m 533 ls []) := by
  have C := Z.1
  have hA := Z.2.1
  have hx := C.1
  have hb := C.2.1
  have hbA : ¬ lq_F s b := Nat.not_le.mpr Z.2.2.2.1
  have hL := Z.2.2.2.2.2.2.1
  have hE := Z.2.2.2.2.2.2.2
  obtain ⟨Tc, Tm, hF1, hF2, hE0, hB0, hR1, hR2, hS1, hS2, rg, htd1, htd2, hle⟩ := hI
  have hR := And.intro hR1 hR2
  have hS := And.intro hS1 hS2
  obtain ⟨t9, tx9, s9, p9, si9, u9, c9, hb9⟩ := id hle
  obtain ⟨ht9, hkC9, hkR9, hW9, ⟨hw9, h19k⟩, hU9, hi9⟩ := id hb9
  have h19 := h19k.1
  have m9 : 0 ≤ s9 2 ∧ s9 2 ≤ 120 := by
    have b : ib 0 120 (tY M2 60 34 0) := hF2.1.2.1 34 0 (by decide)
    rw [hkR9.2.1.1.1]; exact b
  refine lv_aload_n hx hb dL_law_533 rfl (lv_at hl 3 rfl) ?_
  refine lv_aload_n hx hb dL_law_534 rfl (lv_at hl 4 rfl) ?_
  refine lv_iload hx hb dL_law_535 (lv_at hl 0 rfl) ?_
  refine lv_iconst (v := 1) hx hb dL_law_537 (by decide) ?_
  refine lv_iadd hx hb dL_law_538 ?_
  refine va_sld (i := iv + 1) hx hb Z.2.2.1 Z.2.2.2.1 hbA hw.2.2.1 (lq_in hi hL (by decide) (by decide)) dL_law_539 ?_
  refine lq_callTi (av := [.int (xs (iv + 1 : Int32).toNatClampNeg)]) C hA hw (z_X9_out l D A1 cy hA.1 M1 hF1.1 hF1 t9 ht9 tx9 s9 p9 u9 c9 hkC9 (xs (iv + 1 : Int32).toNatClampNeg)) ⟨ml_L_66, ym_X9_out, yv_X9_out, yi_X9_out, yc_X9_out⟩ yd_X9_out rfl rfl hl.1 (Nat.le_of_ble_eq_true rfl) ⟨by decide, by decide⟩ hcs dL_law_540 (fun rT N1 H locs hpT hw => ?_)
  refine lv_pop hx hb dL_law_543 rfl ?_
  refine lv_aload_n hx hb dL_law_544 rfl (lv_at hl 2 rfl) ?_
  refine lv_aload_n hx hb dL_law_545 rfl (lv_at hl 4 rfl) ?_
  refine lv_iload hx hb dL_law_546 (lv_at hl 0 rfl) ?_
  refine lv_iconst (v := 1) hx hb dL_law_548 (by decide) ?_
  refine lv_iadd hx hb dL_law_549 ?_
  refine va_sld (i := iv + 1) hx hb Z.2.2.1 Z.2.2.2.1 hbA hw.2.2.1 (lq_in hi hL (by decide) (by decide)) dL_law_550 ?_
  refine lq_callMi (av := [.int (xs (iv + 1 : Int32).toNatClampNeg)]) C hA hw (z_X10_out l D A2 cy hA.2.1 M2 hF2.1 hF2 (xs (iv + 1 : Int32).toNatClampNeg) tx9 s9 p9 u9 c9 hW9.1 hW9 hw9 h19 hkR9) ⟨ml_L_70, ym_X10_out, yv_X10_out, yi_X10_out, yc_X10_out⟩ yd_X10_out rfl rfl hl.1 (Nat.le_of_ble_eq_true rfl) ⟨by decide, by decide⟩ hcs dL_law_551 (fun rM N2 H locs hpM hw => ?_)
  refine lv_pop hx hb dL_law_554 rfl ?_
  have q := lq_sp hF1 hE0 hB0 hR hS htd1 htd2 hpT hpM (fun _ => rfl) (fun a b => a b) (fun a b => a b) (fun i y => ⟨_, _, _, _, _, _, _, lB_no hb9 i y⟩) (fun q g i x y => ⟨_, _, _, _, _, _, _, lB_st hb9 g i x y (wF_out hW9 hw9 q.1 q.2.1 q.2.2) (kz_gx h19k (gx_rF hW9 hw9) (rm_k ⟨by decide, by decide⟩)) (rm_k ⟨by decide, by decide⟩)⟩)
  refine lv_goto (tgt := 1521) hx hb dL_law_555 (by decide) ?_
  exact kk N1 N2 H locs ls hw q.2 hl
set_option maxRecDepth 100000 in
theorem lq_c11 {p : Program} {l : Launch} {e : Env} {s : State} {m : MethodId} {below : List Frame} {meth : Method} {c : Code} {D : va_G} {cy : Nat → ClassId} {A1 A2 : Nat → Nat → Nat} {M1 M2 : ti_M} {b q3 L cells slots : Nat} {iv : Int32} {xs : Nat → Int32} {H : Heap} {locs : List Loc} {ls : Array Slot} (Z : lq_Z p s m meth c D cy A1 A2 b L xs) (hcs : cells ≤ room_1.cells ∧ slots ≤ room_1.slots) (hw : lq_H s D cy A1 A2 q3 M1 M2 H locs) (hI : lq_I M1 M2) (hi : 0 ≤ iv.toInt ∧ iv.toInt + 6 ≤ L) (hl : lv_has ls 7 [(4, .int iv), (3, .ref q3), (2, .ref (A2 60 0)), (1, .ref (A1 0 0)), (0, .ref b)]) (kk : ∀ (M1 M2 : ti_M) (H : Heap) (locs : List Loc) (ls : Array Slot), lq_H s D cy A1 A2 q3 M1 M2 H locs → lq_I M1 M2 → lv_has ls 7 [(4, .int iv), (3, .ref q3), (2, .ref (A2 60 0)), (1, .ref (A1 0 0)), (0, .ref b)] → W p l e room_1 s m #[Value.ref b] below meth c H locs cells slots (lw_Z below #[Value.ref b] s) (F0 m 1521 ls [])) : W p l e room_1 s m #[Value.ref b] below meth c H locs cells slots (lw_Z below #[Value.ref b] s) (F0 m 558 ls []) := by
  have C := Z.1
  have hA := Z.2.1
  have hx := C.1
  have hb := C.2.1
  have hbA : ¬ lq_F s b := Nat.not_le.mpr Z.2.2.2.1
  have hL := Z.2.2.2.2.2.2.1
  have hE := Z.2.2.2.2.2.2.2
  obtain ⟨Tc, Tm, hF1, hF2, hE0, hB0, hR1, hR2, hS1, hS2, rg, htd1, htd2, hle⟩ := hI
  have hR := And.intro hR1 hR2
  have hS := And.intro hS1 hS2
  obtain ⟨t9, tx9, s9, p9, si9, u9, c9, hb9⟩ := id hle
  obtain ⟨ht9, hkC9, hkR9, hW9, ⟨hw9, h19k⟩, hU9, hi9⟩ := id hb9
  have h19 := h19k.1
  have m9 : 0 ≤ s9 2 ∧ s9 2 ≤ 120 := by
    have b : ib 0 120 (tY M2 60 34 0) := hF2.1.2.1 34 0 (by decide)
    rw [hkR9.2.1.1.1]; exact b
  refine lv_aload_n hx hb dL_law_558 rfl (lv_at hl 3 rfl) ?_
  refine lv_aload_n hx hb dL_law_559 rfl (lv_at hl 4 rfl) ?_
  refine lv_iload hx hb dL_law_560 (lv_at hl 0 rfl) ?_
  refine lv_iconst (v := 1) hx hb dL_law_562 (by decide) ?_
  refine lv_iadd hx hb dL_law_563 ?_
  refine va_sld (i := iv + 1) hx hb Z.2.2.1 Z.2.2.2.1 hbA hw.2.2.1 (lq_in hi hL (by decide) (by decide)) dL_law_564 ?_
  refine lv_aload_n hx hb dL_law_565 rfl (lv_at hl 4 rfl) ?_
  refine lv_iload hx hb dL_law_566 (lv_at hl 0 rfl) ?_
  refine lv_iconst (v := 2) hx hb dL_law_568 (by decide) ?_
  refine lv_iadd hx hb dL_law_569 ?_
  refine va_sld (i := iv + 2) hx hb Z.2.2.1 Z.2.2.2.1 hbA hw.2.2.1 (lq_in hi hL (by decide) (by decide)) dL_law_570 ?_
  refine lv_aload_n hx hb dL_law_571 rfl (lv_at hl 4 rfl) ?_
  refine lv_iload hx hb dL_law_572 (lv_at hl 0 rfl) ?_
  refine lv_iconst (v := 3) hx hb dL_law_574 (by decide) ?_
  refine lv_iadd hx hb dL_law_575 ?_
  refine va_sld (i := iv + 3) hx hb Z.2.2.1 Z.2.2.2.1 hbA hw.2.2.1 (lq_in hi hL (by decide) (by decide)) dL_law_576 ?_
  refine lq_callTi (av := [.int (xs (iv + 1 : Int32).toNatClampNeg), .int (xs (iv + 2 : Int32).toNatClampNeg), .int (xs (iv + 3 : Int32).toNatClampNeg)]) C hA hw (z_X9_swap l D A1 cy hA.1 M1 hF1.1 hF1 t9 ht9 tx9 s9 p9 u9 c9 hkC9 (xs (iv + 1 : Int32).toNatClampNeg) (xs (iv + 2 : Int32).toNatClampNeg) (xs (iv + 3 : Int32).toNatClampNeg)) ⟨ml_L_71, ym_X9_swap, yv_X9_swap, yi_X9_swap, yc_X9_swap⟩ yd_X9_swap rfl rfl hl.1 (Nat.le_of_ble_eq_true rfl) ⟨by decide, by decide⟩ hcs dL_law_577 (fun rT N1 H locs hpT hw => ?_)
  refine lv_pop hx hb dL_law_580 rfl ?_
  refine lv_aload_n hx hb dL_law_581 rfl (lv_at hl 2 rfl) ?_
  refine lv_aload_n hx hb dL_law_582 rfl (lv_at hl 4 rfl) ?_
  refine lv_iload hx hb dL_law_583 (lv_at hl 0 rfl) ?_
  refine lv_iconst (v := 1) hx hb dL_law_585 (by decide) ?_
  refine lv_iadd hx hb dL_law_586 ?_
  refine va_sld (i := iv + 1) hx hb Z.2.2.1 Z.2.2.2.1 hbA hw.2.2.1 (lq_in hi hL (by decide) (by decide)) dL_law_587 ?_
  refine lv_aload_n hx hb dL_law_588 rfl (lv_at hl 4 rfl) ?_
  refine lv_iload hx hb dL_law_589 (lv_at hl 0 rfl) ?_
  refine lv_iconst (v := 2) hx hb dL_law_591 (by decide) ?_
  refine lv_iadd hx hb dL_law_592 ?_
  refine va_sld (i := iv + 2) hx hb Z.2.2.1 Z.2.2.2.1 hbA hw.2.2.1 (lq_in hi hL (by decide) (by decide)) dL_law_593 ?_
  refine lv_aload_n hx hb dL_law_594 rfl (lv_at hl 4 rfl) ?_
  refine lv_iload hx hb dL_law_595 (lv_at hl 0 rfl) ?_
  refine lv_iconst (v := 3) hx hb dL_law_597 (by decide) ?_
  refine lv_iadd hx hb dL_law_598 ?_
  refine va_sld (i := iv + 3) hx hb Z.2.2.1 Z.2.2.2.1 hbA hw.2.2.1 (lq_in hi hL (by decide) (by decide)) dL_law_599 ?_
  refine lq_callMi (av := [.int (xs (iv + 1 : Int32).toNatClampNeg), .int (xs (iv + 2 : Int32).toNatClampNeg), .int (xs (iv + 3 : Int32).toNatClampNeg)]) C hA hw (z_X10_swap l D A2 cy hA.2.1 M2 hF2.1 hF2 (xs (iv + 1 : Int32).toNatClampNeg) (xs (iv + 2 : Int32).toNatClampNeg) (xs (iv + 3 : Int32).toNatClampNeg) tx9 s9 p9 u9 c9 hW9.1 hW9 hw9 h19 hkR9) ⟨ml_L_75, ym_X10_swap, yv_X10_swap, yi_X10_swap, yc_X10_swap⟩ yd_X10_swap rfl rfl hl.1 (Nat.le_of_ble_eq_true rfl) ⟨by decide, by decide⟩ hcs dL_law_600 (fun rM N2 H locs hpM hw => ?_)
  refine lv_pop hx hb dL_law_603 rfl ?_
  have q := lq_sp hF1 hE0 hB0 hR hS htd1 htd2 hpT hpM (fun _ => rfl) (fun a b => a b) (fun a b => a b) (fun i y => ⟨_, _, _, _, _, _, _, lB_no hb9 i y⟩) (fun q g i x y => ⟨_, _, _, _, _, _, _, lB_st hb9 g i x y (wF_sw hW9 hw9 q.1.1 q.1.2.1 q.1.2.2 q.2.1.1 q.2.1.2.1 q.2.1.2.2) (kz_gx h19k (gx_sw hw9 q.1.1 (by have a2 := q.1.2.1; have a3 := hW9.1; omega) q.2.1.1 (by have a2 := q.2.1.2.1; have a3 := hW9.1; omega)) (sw_lo (by decide))) (sw_lo (by decide))⟩)
  refine lv_goto (tgt := 1521) hx hb dL_law_604 (by decide) ?_
  exact kk N1 N2 H locs ls hw q.2 hl
set_option maxRecDepth 100000 in
theorem lq_c12 {p : Program} {l : Launch} {e : Env} {s : State} {m : MethodId} {below : List Frame} {meth : Method} {c : Code} {D : va_G} {cy : Nat → ClassId} {A1 A2 : Nat → Nat → Nat} {M1 M2 : ti_M} {b q3 L cells slots : Nat} {iv : Int32} {xs : Nat → Int32} {H : Heap} {locs : List Loc} {ls : Array Slot} (Z : lq_Z p s m meth c D cy A1 A2 b L xs) (hcs : cells ≤ room_1.cells ∧ slots ≤ room_1.slots) (hw : lq_H s D cy A1 A2 q3 M1 M2 H locs) (hI : lq_I M1 M2) (hi : 0 ≤ iv.toInt ∧ iv.toInt + 6 ≤ L) (hl : lv_has ls 7 [(4, .int iv), (3, .ref q3), (2, .ref (A2 60 0)), (1, .ref (A1 0 0)), (0, .ref b)]) (kk : ∀ (M1 M2 : ti_M) (H : Heap) (locs : List Loc) (ls : Array Slot), lq_H s D cy A1 A2 q3 M1 M2 H locs → lq_I M1 M2 → lv_has ls 7 [(4, .int iv), (3, .ref q3), (2, .ref (A2 60 0)), (1, .ref (A1 0 0)), (0, .ref b)] → W p l e room_1 s m #[Value.ref b] below meth c H locs cells slots (lw_Z below #[Value.ref b] s) (F0 m 1521 ls [])) : W p l e room_1 s m #[Value.ref b] below meth c H locs cells slots (lw_Z below #[Value.ref b] s) (F0 m 607 ls []) := by
  have C := Z.1
  have hA := Z.2.1
  have hx := C.1
  have hb := C.2.1
  have hbA : ¬ lq_F s b := Nat.not_le.mpr Z.2.2.2.1
  have hL := Z.2.2.2.2.2.2.1
  have hE := Z.2.2.2.2.2.2.2
  obtain ⟨Tc, Tm, hF1, hF2, hE0, hB0, hR1, hR2, hS1, hS2, rg, htd1, htd2, hle⟩ := hI
  have hR := And.intro hR1 hR2
  have hS := And.intro hS1 hS2
  obtain ⟨t9, tx9, s9, p9, si9, u9, c9, hb9⟩ := id hle
  obtain ⟨ht9, hkC9, hkR9, hW9, ⟨hw9, h19k⟩, hU9, hi9⟩ := id hb9
  have h19 := h19k.1
  have m9 : 0 ≤ s9 2 ∧ s9 2 ≤ 120 := by
    have b : ib 0 120 (tY M2 60 34 0) := hF2.1.2.1 34 0 (by decide)
    rw [hkR9.2.1.1.1]; exact b
  refine lv_aload_n hx hb dL_law_607 rfl (lv_at hl 3 rfl) ?_
  refine lv_aload_n hx hb dL_law_608 rfl (lv_at hl 4 rfl) ?_
  refine lv_iload hx hb dL_law_609 (lv_at hl 0 rfl) ?_
  refine lv_iconst (v := 1) hx hb dL_law_611 (by decide) ?_
  refine lv_iadd hx hb dL_law_612 ?_
  refine va_sld (i := iv + 1) hx hb Z.2.2.1 Z.2.2.2.1 hbA hw.2.2.1 (lq_in hi hL (by decide) (by decide)) dL_law_613 ?_
  refine lv_aload_n hx hb dL_law_614 rfl (lv_at hl 4 rfl) ?_
  refine lv_iload hx hb dL_law_615 (lv_at hl 0 rfl) ?_
  refine lv_iconst (v := 2) hx hb dL_law_617 (by decide) ?_
  refine lv_iadd hx hb dL_law_618 ?_
  refine va_sld (i := iv + 2) hx hb Z.2.2.1 Z.2.2.2.1 hbA hw.2.2.1 (lq_in hi hL (by decide) (by decide)) dL_law_619 ?_
  refine lq_callTi (av := [.int (xs (iv + 1 : Int32).toNatClampNeg), .int (xs (iv + 2 : Int32).toNatClampNeg)]) C hA hw (z_X9_kneel l D A1 cy hA.1 M1 hF1.1 hF1 t9 ht9 tx9 s9 p9 u9 c9 hkC9 (xs (iv + 1 : Int32).toNatClampNeg) (xs (iv + 2 : Int32).toNatClampNeg)) ⟨ml_L_76, ym_X9_kneel, yv_X9_kneel, yi_X9_kneel, yc_X9_kneel⟩ yd_X9_kneel rfl rfl hl.1 (Nat.le_of_ble_eq_true rfl) ⟨by decide, by decide⟩ hcs dL_law_620 (fun rT N1 H locs hpT hw => ?_)
  refine lv_pop hx hb dL_law_623 rfl ?_
  refine lv_aload_n hx hb dL_law_624 rfl (lv_at hl 2 rfl) ?_
  refine lv_aload_n hx hb dL_law_625 rfl (lv_at hl 4 rfl) ?_
  refine lv_iload hx hb dL_law_626 (lv_at hl 0 rfl) ?_
  refine lv_iconst (v := 1) hx hb dL_law_628 (by decide) ?_
  refine lv_iadd hx hb dL_law_629 ?_
  refine va_sld (i := iv + 1) hx hb Z.2.2.1 Z.2.2.2.1 hbA hw.2.2.1 (lq_in hi hL (by decide) (by decide)) dL_law_630 ?_
  refine lv_aload_n hx hb dL_law_631 rfl (lv_at hl 4 rfl) ?_
  refine lv_iload hx hb dL_law_632 (lv_at hl 0 rfl) ?_
  refine lv_iconst (v := 2) hx hb dL_law_634 (by decide) ?_
  refine lv_iadd hx hb dL_law_635 ?_
  refine va_sld (i := iv + 2) hx hb Z.2.2.1 Z.2.2.2.1 hbA hw.2.2.1 (lq_in hi hL (by decide) (by decide)) dL_law_636 ?_
  refine lq_callMi (av := [.int (xs (iv + 1 : Int32).toNatClampNeg), .int (xs (iv + 2 : Int32).toNatClampNeg)]) C hA hw (z_X10_kneel l D A2 cy hA.2.1 M2 hF2.1 hF2 (xs (iv + 1 : Int32).toNatClampNeg) (xs (iv + 2 : Int32).toNatClampNeg) tx9 s9 p9 u9 c9 hW9.1 hW9 hw9 h19 hkR9) ⟨ml_L_80, ym_X10_kneel, yv_X10_kneel, yi_X10_kneel, yc_X10_kneel⟩ yd_X10_kneel rfl rfl hl.1 (Nat.le_of_ble_eq_true rfl) ⟨by decide, by decide⟩ hcs dL_law_637 (fun rM N2 H locs hpM hw => ?_)
  refine lv_pop hx hb dL_law_640 rfl ?_
  have q := lq_sp hF1 hE0 hB0 hR hS htd1 htd2 hpT hpM (fun _ => rfl) (fun a b => a b) (fun a b => a b) (fun i y => ⟨_, _, _, _, _, _, _, lB_no hb9 i y⟩) (fun q g i x y => ⟨_, _, _, _, _, _, _, lB_st hb9 g i x y (wF_k hW9 hw9 (Or.inl (by have a1 := q.1; have a2 := q.2; have a3 := hW9.1; omega))) (kz_gx h19k (gx_su (by have a1 := q.1; have a2 := q.2; have a3 := hW9.1; omega)) (su_n (by omega))) (su_n (by omega))⟩)
  refine lv_goto (tgt := 1521) hx hb dL_law_641 (by decide) ?_
  exact kk N1 N2 H locs ls hw q.2 hl
set_option maxRecDepth 100000 in
theorem lq_c13 {p : Program} {l : Launch} {e : Env} {s : State} {m : MethodId} {below : List Frame} {meth : Method} {c : Code} {D : va_G} {cy : Nat → ClassId} {A1 A2 : Nat → Nat → Nat} {M1 M2 : ti_M} {b q3 L cells slots : Nat} {iv : Int32} {xs : Nat → Int32} {H : Heap} {locs : List Loc} {ls : Array Slot} (Z : lq_Z p s m meth c D cy A1 A2 b L xs) (hcs : cells ≤ room_1.cells ∧ slots ≤ room_1.slots) (hw : lq_H s D cy A1 A2 q3 M1 M2 H locs) (hI : lq_I M1 M2) (hi : 0 ≤ iv.toInt ∧ iv.toInt + 6 ≤ L) (hl : lv_has ls 7 [(4, .int iv), (3, .ref q3), (2, .ref (A2 60 0)), (1, .ref (A1 0 0)), (0, .ref b)]) (kk : ∀ (M1 M2 : ti_M) (H : Heap) (locs : List Loc) (ls : Array Slot), lq_H s D cy A1 A2 q3 M1 M2 H locs → lq_I M1 M2 → lv_has ls 7 [(4, .int iv), (3, .ref q3), (2, .ref (A2 60 0)), (1, .ref (A1 0 0)), (0, .ref b)] → W p l e room_1 s m #[Value.ref b] below meth c H locs cells slots (lw_Z below #[Value.ref b] s) (F0 m 1521 ls [])) : W p l e room_1 s m #[Value.ref b] below meth c H locs cells slots (lw_Z below #[Value.ref b] s) (F0 m 644 ls []) := by
  have C := Z.1
  have hA := Z.2.1
  have hx := C.1
  have hb := C.2.1
  have hbA : ¬ lq_F s b := Nat.not_le.mpr Z.2.2.2.1
  have hL := Z.2.2.2.2.2.2.1
  have hE := Z.2.2.2.2.2.2.2
  obtain ⟨Tc, Tm, hF1, hF2, hE0, hB0, hR1, hR2, hS1, hS2, rg, htd1, htd2, hle⟩ := hI
  have hR := And.intro hR1 hR2
  have hS := And.intro hS1 hS2
  obtain ⟨t9, tx9, s9, p9, si9, u9, c9, hb9⟩ := id hle
  obtain ⟨ht9, hkC9, hkR9, hW9, ⟨hw9, h19k⟩, hU9, hi9⟩ := id hb9
  have h19 := h19k.1
  have m9 : 0 ≤ s9 2 ∧ s9 2 ≤ 120 := by
    have b : ib 0 120 (tY M2 60 34 0) := hF2.1.2.1 34 0 (by decide)
    rw [hkR9.2.1.1.1]; exact b
  refine lv_aload_n hx hb dL_law_644 rfl (lv_at hl 3 rfl) ?_
  refine lv_aload_n hx hb dL_law_645 rfl (lv_at hl 4 rfl) ?_
  refine lv_iload hx hb dL_law_646 (lv_at hl 0 rfl) ?_
  refine lv_iconst (v := 1) hx hb dL_law_648 (by decide) ?_
  refine lv_iadd hx hb dL_law_649 ?_
  refine va_sld (i := iv + 1) hx hb Z.2.2.1 Z.2.2.2.1 hbA hw.2.2.1 (lq_in hi hL (by decide) (by decide)) dL_law_650 ?_
  refine lq_callTi (av := [.int (xs (iv + 1 : Int32).toNatClampNeg)]) C hA hw (z_X9_cough l D A1 cy hA.1 M1 hF1.1 hF1 t9 ht9 tx9 s9 p9 u9 c9 hkC9 (xs (iv + 1 : Int32).toNatClampNeg)) ⟨ml_L_81, ym_X9_cough, yv_X9_cough, yi_X9_cough, yc_X9_cough⟩ yd_X9_cough rfl rfl hl.1 (Nat.le_of_ble_eq_true rfl) ⟨by decide, by decide⟩ hcs dL_law_651 (fun rT N1 H locs hpT hw => ?_)
  refine lv_pop hx hb dL_law_654 rfl ?_
  refine lv_aload_n hx hb dL_law_655 rfl (lv_at hl 2 rfl) ?_
  refine lv_aload_n hx hb dL_law_656 rfl (lv_at hl 4 rfl) ?_
  refine lv_iload hx hb dL_law_657 (lv_at hl 0 rfl) ?_
  refine lv_iconst (v := 1) hx hb dL_law_659 (by decide) ?_
  refine lv_iadd hx hb dL_law_660 ?_
  refine va_sld (i := iv + 1) hx hb Z.2.2.1 Z.2.2.2.1 hbA hw.2.2.1 (lq_in hi hL (by decide) (by decide)) dL_law_661 ?_
  refine lq_callMi (av := [.int (xs (iv + 1 : Int32).toNatClampNeg)]) C hA hw (z_X10_cough l D A2 cy hA.2.1 M2 hF2.1 hF2 (xs (iv + 1 : Int32).toNatClampNeg) tx9 s9 p9 u9 c9 hW9.1 hW9 hw9 h19 hkR9) ⟨ml_L_84, ym_X10_cough, yv_X10_cough, yi_X10_cough, yc_X10_cough⟩ yd_X10_cough rfl rfl hl.1 (Nat.le_of_ble_eq_true rfl) ⟨by decide, by decide⟩ hcs dL_law_662 (fun rM N2 H locs hpM hw => ?_)
  refine lv_pop hx hb dL_law_665 rfl ?_
  have q := lq_sp hF1 hE0 hB0 hR hS htd1 htd2 hpT hpM (fun _ => rfl) (fun a b => a b) (fun a b => a b) (fun i y => ⟨_, _, _, _, _, _, _, lB_no hb9 i y⟩) (fun q g i x y => ⟨_, _, _, _, _, _, _, lB_st hb9 g i x y (wF_k hW9 hw9 (Or.inr (Or.inl (by have a1 := q.1; have a2 := q.2; have a3 := hW9.1; omega)))) (kz_co h19k q.1.1 q.1.2.1) (su_n (by omega))⟩)
  refine lv_goto (tgt := 1521) hx hb dL_law_666 (by decide) ?_
  exact kk N1 N2 H locs ls hw q.2 hl
set_option maxRecDepth 100000 in
theorem lq_c14 {p : Program} {l : Launch} {e : Env} {s : State} {m : MethodId} {below : List Frame} {meth : Method} {c : Code} {D : va_G} {cy : Nat → ClassId} {A1 A2 : Nat → Nat → Nat} {M1 M2 : ti_M} {b q3 L cells slots : Nat} {iv : Int32} {xs : Nat → Int32} {H : Heap} {locs : List Loc} {ls : Array Slot} (Z : lq_Z p s m meth c D cy A1 A2 b L xs) (hcs : cells ≤ room_1.cells ∧ slots ≤ room_1.slots) (hw : lq_H s D cy A1 A2 q3 M1 M2 H locs) (hI : lq_I M1 M2) (hi : 0 ≤ iv.toInt ∧ iv.toInt + 6 ≤ L) (hl : lv_has ls 7 [(4, .int iv), (3, .ref q3), (2, .ref (A2 60 0)), (1, .ref (A1 0 0)), (0, .ref b)]) (kk : ∀ (M1 M2 : ti_M) (H : Heap) (locs : List Loc) (ls : Array Slot), lq_H s D cy A1 A2 q3 M1 M2 H locs → lq_I M1 M2 → lv_has ls 7 [(4, .int iv), (3, .ref q3), (2, .ref (A2 60 0)), (1, .ref (A1 0 0)), (0, .ref b)] → W p l e room_1 s m #[Value.ref b] below meth c H locs cells slots (lw_Z below #[Value.ref b] s) (F0 m 1521 ls [])) : W p l e room_1 s m #[Value.ref b] below meth c H locs cells slots (lw_Z below #[Value.ref b] s) (F0 m 669 ls []) := by
  have C := Z.1
  have hA := Z.2.1
  have hx := C.1
  have hb := C.2.1
  have hbA : ¬ lq_F s b := Nat.not_le.mpr Z.2.2.2.1
  have hL := Z.2.2.2.2.2.2.1
  have hE := Z.2.2.2.2.2.2.2
  obtain ⟨Tc, Tm, hF1, hF2, hE0, hB0, hR1, hR2, hS1, hS2, rg, htd1, htd2, hle⟩ := hI
  have hR := And.intro hR1 hR2
  have hS := And.intro hS1 hS2
  obtain ⟨t9, tx9, s9, p9, si9, u9, c9, hb9⟩ := id hle
  obtain ⟨ht9, hkC9, hkR9, hW9, ⟨hw9, h19k⟩, hU9, hi9⟩ := id hb9
  have h19 := h19k.1
  have m9 : 0 ≤ s9 2 ∧ s9 2 ≤ 120 := by
    have b : ib 0 120 (tY M2 60 34 0) := hF2.1.2.1 34 0 (by decide)
    rw [hkR9.2.1.1.1]; exact b
  refine lv_aload_n hx hb dL_law_669 rfl (lv_at hl 3 rfl) ?_
  refine lv_aload_n hx hb dL_law_670 rfl (lv_at hl 4 rfl) ?_
  refine lv_iload hx hb dL_law_671 (lv_at hl 0 rfl) ?_
  refine lv_iconst (v := 1) hx hb dL_law_673 (by decide) ?_
  refine lv_iadd hx hb dL_law_674 ?_
  refine va_sld (i := iv + 1) hx hb Z.2.2.1 Z.2.2.2.1 hbA hw.2.2.1 (lq_in hi hL (by decide) (by decide)) dL_law_675 ?_
  refine lv_aload_n hx hb dL_law_676 rfl (lv_at hl 4 rfl) ?_
  refine lv_iload hx hb dL_law_677 (lv_at hl 0 rfl) ?_
  refine lv_iconst (v := 2) hx hb dL_law_679 (by decide) ?_
  refine lv_iadd hx hb dL_law_680 ?_
  refine va_sld (i := iv + 2) hx hb Z.2.2.1 Z.2.2.2.1 hbA hw.2.2.1 (lq_in hi hL (by decide) (by decide)) dL_law_681 ?_
  refine lq_callTi (av := [.int (xs (iv + 1 : Int32).toNatClampNeg), .int (xs (iv + 2 : Int32).toNatClampNeg)]) C hA hw (z_X9_move l D A1 cy hA.1 M1 hF1.1 hF1 t9 ht9 tx9 s9 p9 u9 c9 hkC9 (xs (iv + 1 : Int32).toNatClampNeg) (xs (iv + 2 : Int32).toNatClampNeg)) ⟨ml_L_85, ym_X9_move, yv_X9_move, yi_X9_move, yc_X9_move⟩ yd_X9_move rfl rfl hl.1 (Nat.le_of_ble_eq_true rfl) ⟨by decide, by decide⟩ hcs dL_law_682 (fun rT N1 H locs hpT hw => ?_)
  refine lv_pop hx hb dL_law_685 rfl ?_
  refine lv_aload_n hx hb dL_law_686 rfl (lv_at hl 2 rfl) ?_
  refine lv_aload_n hx hb dL_law_687 rfl (lv_at hl 4 rfl) ?_
  refine lv_iload hx hb dL_law_688 (lv_at hl 0 rfl) ?_
  refine lv_iconst (v := 1) hx hb dL_law_690 (by decide) ?_
  refine lv_iadd hx hb dL_law_691 ?_
  refine va_sld (i := iv + 1) hx hb Z.2.2.1 Z.2.2.2.1 hbA hw.2.2.1 (lq_in hi hL (by decide) (by decide)) dL_law_692 ?_
  refine lv_aload_n hx hb dL_law_693 rfl (lv_at hl 4 rfl) ?_
  refine lv_iload hx hb dL_law_694 (lv_at hl 0 rfl) ?_
  refine lv_iconst (v := 2) hx hb dL_law_696 (by decide) ?_
  refine lv_iadd hx hb dL_law_697 ?_
  refine va_sld (i := iv + 2) hx hb Z.2.2.1 Z.2.2.2.1 hbA hw.2.2.1 (lq_in hi hL (by decide) (by decide)) dL_law_698 ?_
  refine lq_callMi (av := [.int (xs (iv + 1 : Int32).toNatClampNeg), .int (xs (iv + 2 : Int32).toNatClampNeg)]) C hA hw (z_X10_move l D A2 cy hA.2.1 M2 hF2.1 hF2 (xs (iv + 1 : Int32).toNatClampNeg) (xs (iv + 2 : Int32).toNatClampNeg) tx9 s9 p9 u9 c9 hW9.1 hW9 hw9 h19 hkR9) ⟨ml_L_88, ym_X10_move, yv_X10_move, yi_X10_move, yc_X10_move⟩ yd_X10_move rfl rfl hl.1 (Nat.le_of_ble_eq_true rfl) ⟨by decide, by decide⟩ hcs dL_law_699 (fun rM N2 H locs hpM hw => ?_)
  refine lv_pop hx hb dL_law_702 rfl ?_
  have q := lq_sp hF1 hE0 hB0 hR hS htd1 htd2 hpT hpM (fun _ => rfl) (fun a b => a b) (fun a b => a b) (fun i y => ⟨_, _, _, _, _, _, _, lB_no hb9 i y⟩) (fun q g i x y => ⟨_, _, _, _, _, _, _, lB_st hb9 g i x y (wF_k hW9 hw9 (Or.inr (Or.inr (by have a1 := q.1; have a2 := q.2; have a3 := hW9.1; omega)))) (kz_gx h19k (gx_su (by have a1 := q.1; have a2 := q.2; have a3 := hW9.1; omega)) (su_n (by omega))) (su_n (by omega))⟩)
  refine lv_goto (tgt := 1521) hx hb dL_law_703 (by decide) ?_
  exact kk N1 N2 H locs ls hw q.2 hl
set_option maxRecDepth 100000 in
theorem lq_c15 {p : Program} {l : Launch} {e : Env} {s : State} {m : MethodId} {below : List Frame} {meth : Method} {c : Code} {D : va_G} {cy : Nat → ClassId} {A1 A2 : Nat → Nat → Nat} {M1 M2 : ti_M} {b q3 L cells slots : Nat} {iv : Int32} {xs : Nat → Int32} {H : Heap} {locs : List Loc} {ls : Array Slot} (Z : lq_Z p s m meth c D cy A1 A2 b L xs) (hcs : cells ≤ room_1.cells ∧ slots ≤ room_1.slots) (hw : lq_H s D cy A1 A2 q3 M1 M2 H locs) (hI : lq_I M1 M2) (hi : 0 ≤ iv.toInt ∧ iv.toInt + 6 ≤ L) (hl : lv_has ls 7 [(4, .int iv), (3, .ref q3), (2, .ref (A2 60 0)), (1, .ref (A1 0 0)), (0, .ref b)]) (kk : ∀ (M1 M2 : ti_M) (H : Heap) (locs : List Loc) (ls : Array Slot), lq_H s D cy A1 A2 q3 M1 M2 H locs → lq_I M1 M2 → lv_has ls 7 [(4, .int iv), (3, .ref q3), (2, .ref (A2 60 0)), (1, .ref (A1 0 0)), (0, .ref b)] → W p l e room_1 s m #[Value.ref b] below meth c H locs cells slots (lw_Z below #[Value.ref b] s) (F0 m 1521 ls [])) : W p l e room_1 s m #[Value.ref b] below meth c H locs cells slots (lw_Z below #[Value.ref b] s) (F0 m 706 ls []) := by
  have C := Z.1
  have hA := Z.2.1
  have hx := C.1
  have hb := C.2.1
  have hbA : ¬ lq_F s b := Nat.not_le.mpr Z.2.2.2.1
  have hL := Z.2.2.2.2.2.2.1
  have hE := Z.2.2.2.2.2.2.2
  obtain ⟨Tc, Tm, hF1, hF2, hE0, hB0, hR1, hR2, hS1, hS2, rg, htd1, htd2, hle⟩ := hI
  have hR := And.intro hR1 hR2
  have hS := And.intro hS1 hS2
  obtain ⟨t9, tx9, s9, p9, si9, u9, c9, hb9⟩ := id hle
  obtain ⟨ht9, hkC9, hkR9, hW9, ⟨hw9, h19k⟩, hU9, hi9⟩ := id hb9
  have h19 := h19k.1
  have m9 : 0 ≤ s9 2 ∧ s9 2 ≤ 120 := by
    have b : ib 0 120 (tY M2 60 34 0) := hF2.1.2.1 34 0 (by decide)
    rw [hkR9.2.1.1.1]; exact b
  refine lv_aload_n hx hb dL_law_706 rfl (lv_at hl 3 rfl) ?_
  refine lv_aload_n hx hb dL_law_707 rfl (lv_at hl 4 rfl) ?_
  refine lv_iload hx hb dL_law_708 (lv_at hl 0 rfl) ?_
  refine lv_iconst (v := 1) hx hb dL_law_710 (by decide) ?_
  refine lv_iadd hx hb dL_law_711 ?_
  refine va_sld (i := iv + 1) hx hb Z.2.2.1 Z.2.2.2.1 hbA hw.2.2.1 (lq_in hi hL (by decide) (by decide)) dL_law_712 ?_
  refine lv_aload_n hx hb dL_law_713 rfl (lv_at hl 4 rfl) ?_
  refine lv_iload hx hb dL_law_714 (lv_at hl 0 rfl) ?_
  refine lv_iconst (v := 2) hx hb dL_law_716 (by decide) ?_
  refine lv_iadd hx hb dL_law_717 ?_
  refine va_sld (i := iv + 2) hx hb Z.2.2.1 Z.2.2.2.1 hbA hw.2.2.1 (lq_in hi hL (by decide) (by decide)) dL_law_718 ?_
  refine lq_callTi (av := [.int (xs (iv + 1 : Int32).toNatClampNeg), .int (xs (iv + 2 : Int32).toNatClampNeg)]) C hA hw (z_X9_was l D A1 cy hA.1 M1 hF1.1 hF1 t9 ht9 tx9 s9 p9 u9 c9 hkC9 (xs (iv + 1 : Int32).toNatClampNeg) (xs (iv + 2 : Int32).toNatClampNeg)) ⟨ml_L_89, ym_X9_was, yv_X9_was, yi_X9_was, yc_X9_was⟩ yd_X9_was rfl rfl hl.1 (Nat.le_of_ble_eq_true rfl) ⟨by decide, by decide⟩ hcs dL_law_719 (fun rT N1 H locs hpT hw => ?_)
  refine lv_pop hx hb dL_law_722 rfl ?_
  refine lv_aload_n hx hb dL_law_723 rfl (lv_at hl 2 rfl) ?_
  refine lv_aload_n hx hb dL_law_724 rfl (lv_at hl 4 rfl) ?_
  refine lv_iload hx hb dL_law_725 (lv_at hl 0 rfl) ?_
  refine lv_iconst (v := 1) hx hb dL_law_727 (by decide) ?_
  refine lv_iadd hx hb dL_law_728 ?_
  refine va_sld (i := iv + 1) hx hb Z.2.2.1 Z.2.2.2.1 hbA hw.2.2.1 (lq_in hi hL (by decide) (by decide)) dL_law_729 ?_
  refine lv_aload_n hx hb dL_law_730 rfl (lv_at hl 4 rfl) ?_
  refine lv_iload hx hb dL_law_731 (lv_at hl 0 rfl) ?_
  refine lv_iconst (v := 2) hx hb dL_law_733 (by decide) ?_
  refine lv_iadd hx hb dL_law_734 ?_
  refine va_sld (i := iv + 2) hx hb Z.2.2.1 Z.2.2.2.1 hbA hw.2.2.1 (lq_in hi hL (by decide) (by decide)) dL_law_735 ?_
  refine lq_callMi (av := [.int (xs (iv + 1 : Int32).toNatClampNeg), .int (xs (iv + 2 : Int32).toNatClampNeg)]) C hA hw (z_X10_was l D A2 cy hA.2.1 M2 hF2.1 hF2 (xs (iv + 1 : Int32).toNatClampNeg) (xs (iv + 2 : Int32).toNatClampNeg) tx9 s9 p9 u9 c9 hW9.1 hW9 hw9 h19 hkR9) ⟨ml_L_92, ym_X10_was, yv_X10_was, yi_X10_was, yc_X10_was⟩ yd_X10_was rfl rfl hl.1 (Nat.le_of_ble_eq_true rfl) ⟨by decide, by decide⟩ hcs dL_law_736 (fun rM N2 H locs hpM hw => ?_)
  refine lv_pop hx hb dL_law_739 rfl ?_
  have q := lq_ob hF1 hE0 hB0 hR hS htd1 htd2 hpT hpM rfl (fun i y => ⟨_, _, _, _, _, _, _, lB_no hb9 i y⟩)
  refine lv_goto (tgt := 1521) hx hb dL_law_740 (by decide) ?_
  exact kk N1 N2 H locs ls hw q.2 hl
set_option maxRecDepth 100000 in
theorem lq_c16 {p : Program} {l : Launch} {e : Env} {s : State} {m : MethodId} {below : List Frame} {meth : Method} {c : Code} {D : va_G} {cy : Nat → ClassId} {A1 A2 : Nat → Nat → Nat} {M1 M2 : ti_M} {b q3 L cells slots : Nat} {iv : Int32} {xs : Nat → Int32} {H : Heap} {locs : List Loc} {ls : Array Slot} (Z : lq_Z p s m meth c D cy A1 A2 b L xs) (hcs : cells ≤ room_1.cells ∧ slots ≤ room_1.slots) (hw : lq_H s D cy A1 A2 q3 M1 M2 H locs) (hI : lq_I M1 M2) (hi : 0 ≤ iv.toInt ∧ iv.toInt + 6 ≤ L) (hl : lv_has ls 7 [(4, .int iv), (3, .ref q3), (2, .ref (A2 60 0)), (1, .ref (A1 0 0)), (0, .ref b)]) (kk : ∀ (M1 M2 : ti_M) (H : Heap) (locs : List Loc) (ls : Array Slot), lq_H s D cy A1 A2 q3 M1 M2 H locs → lq_I M1 M2 → lv_has ls 7 [(4, .int iv), (3, .ref q3), (2, .ref (A2 60 0)), (1, .ref (A1 0 0)), (0, .ref b)] → W p l e room_1 s m #[Value.ref b] below meth c H locs cells slots (lw_Z below #[Value.ref b] s) (F0 m 1521 ls [])) : W p l e room_1 s m #[Value.ref b] below meth c H locs cells slots (lw_Z below #[Value.ref b] s) (F0 m 743 ls []) := by
  have C := Z.1
  have hA := Z.2.1
  have hx := C.1
  have hb := C.2.1
  have hbA : ¬ lq_F s b := Nat.not_le.mpr Z.2.2.2.1
  have hL := Z.2.2.2.2.2.2.1
  have hE := Z.2.2.2.2.2.2.2
  obtain ⟨Tc, Tm, hF1, hF2, hE0, hB0, hR1, hR2, hS1, hS2, rg, htd1, htd2, hle⟩ := hI
  have hR := And.intro hR1 hR2
  have hS := And.intro hS1 hS2
  refine lv_aload_n hx hb dL_law_743 rfl (lv_at hl 3 rfl) ?_
  refine lv_aload_n hx hb dL_law_744 rfl (lv_at hl 4 rfl) ?_
  refine lv_iload hx hb dL_law_745 (lv_at hl 0 rfl) ?_
  refine lv_iconst (v := 1) hx hb dL_law_747 (by decide) ?_
  refine lv_iadd hx hb dL_law_748 ?_
  refine va_sld (i := iv + 1) hx hb Z.2.2.1 Z.2.2.2.1 hbA hw.2.2.1 (lq_in hi hL (by decide) (by decide)) dL_law_749 ?_
  refine lv_aload_n hx hb dL_law_750 rfl (lv_at hl 4 rfl) ?_
  refine lv_iload hx hb dL_law_751 (lv_at hl 0 rfl) ?_
  refine lv_iconst (v := 2) hx hb dL_law_753 (by decide) ?_
  refine lv_iadd hx hb dL_law_754 ?_
  refine va_sld (i := iv + 2) hx hb Z.2.2.1 Z.2.2.2.1 hbA hw.2.2.1 (lq_in hi hL (by decide) (by decide)) dL_law_755 ?_
  refine lq_callTi (av := [.int (xs (iv + 1 : Int32).toNatClampNeg), .int (xs (iv + 2 : Int32).toNatClampNeg)]) C hA hw (f_X9_ruled l D A1 cy hA.1 M1 hF1.1 hF1 (xs (iv + 1 : Int32).toNatClampNeg) (xs (iv + 2 : Int32).toNatClampNeg)) ⟨ml_L_93, ym_X9_ruled, yv_X9_ruled, yi_X9_ruled, yc_X9_ruled⟩ yd_X9_ruled rfl rfl hl.1 (Nat.le_of_ble_eq_true rfl) ⟨by decide, by decide⟩ hcs dL_law_756 (fun rT N1 H locs hpT hw => ?_)
  refine lv_pop hx hb dL_law_759 rfl ?_
  refine lv_aload_n hx hb dL_law_760 rfl (lv_at hl 2 rfl) ?_
  refine lv_aload_n hx hb dL_law_761 rfl (lv_at hl 4 rfl) ?_
  refine lv_iload hx hb dL_law_762 (lv_at hl 0 rfl) ?_
  refine lv_iconst (v := 1) hx hb dL_law_764 (by decide) ?_
  refine lv_iadd hx hb dL_law_765 ?_
  refine va_sld (i := iv + 1) hx hb Z.2.2.1 Z.2.2.2.1 hbA hw.2.2.1 (lq_in hi hL (by decide) (by decide)) dL_law_766 ?_
  refine lv_aload_n hx hb dL_law_767 rfl (lv_at hl 4 rfl) ?_
  refine lv_iload hx hb dL_law_768 (lv_at hl 0 rfl) ?_
  refine lv_iconst (v := 2) hx hb dL_law_770 (by decide) ?_
  refine lv_iadd hx hb dL_law_771 ?_
  refine va_sld (i := iv + 2) hx hb Z.2.2.1 Z.2.2.2.1 hbA hw.2.2.1 (lq_in hi hL (by decide) (by decide)) dL_law_772 ?_
  refine lq_callMi (av := [.int (xs (iv + 1 : Int32).toNatClampNeg), .int (xs (iv + 2 : Int32).toNatClampNeg)]) C hA hw (f_X10_ruled l D A2 cy hA.2.1 M2 hF2.1 hF2 (xs (iv + 1 : Int32).toNatClampNeg) (xs (iv + 2 : Int32).toNatClampNeg)) ⟨ml_L_96, ym_X10_ruled, yv_X10_ruled, yi_X10_ruled, yc_X10_ruled⟩ yd_X10_ruled rfl rfl hl.1 (Nat.le_of_ble_eq_true rfl) ⟨by decide, by decide⟩ hcs dL_law_773 (fun rM N2 H locs hpM hw => ?_)
  refine lv_pop hx hb dL_law_776 rfl ?_
  refine lv_goto (tgt := 1521) hx hb dL_law_777 (by decide) ?_
  exact kk N1 N2 H locs ls hw ⟨Tc, Tm, hpT.2.2.1, hpM.2.1, hpT.2.2.2.1.trans (hE0.trans (show tI N2 60 2 = tI M2 60 2 from hpM.2.2.1).symm), (fun i hi => hB0 i (by rw [← hpT.2.2.2.1]; exact hi)), (congrArg Int32.toInt (hpT.2.2.2.2.1 1 4 (by decide) (by decide))).trans hR.1, (congrArg Int32.toInt (hpT.2.2.2.2.1 1 5 (by decide) (by decide))).trans hR.2, hS1, hS2, rg, tdC_tl htd1 hpT.2.2.2.2, tdR_lw htd2 hpM.2.2.2, lE_obs hle hpT.1 hpT.2.1 hpM.1.1 (fun q => hpM.1.2.trans q) hpM.2.2.2⟩ hl
set_option maxRecDepth 100000 in
theorem lq_c17 {p : Program} {l : Launch} {e : Env} {s : State} {m : MethodId} {below : List Frame} {meth : Method} {c : Code} {D : va_G} {cy : Nat → ClassId} {A1 A2 : Nat → Nat → Nat} {M1 M2 : ti_M} {b q3 L cells slots : Nat} {iv : Int32} {xs : Nat → Int32} {H : Heap} {locs : List Loc} {ls : Array Slot} (Z : lq_Z p s m meth c D cy A1 A2 b L xs) (hcs : cells ≤ room_1.cells ∧ slots ≤ room_1.slots) (hw : lq_H s D cy A1 A2 q3 M1 M2 H locs) (hI : lq_I M1 M2) (hi : 0 ≤ iv.toInt ∧ iv.toInt + 6 ≤ L) (hl : lv_has ls 7 [(4, .int iv), (3, .ref q3), (2, .ref (A2 60 0)), (1, .ref (A1 0 0)), (0, .ref b)]) (kk : ∀ (M1 M2 : ti_M) (H : Heap) (locs : List Loc) (ls : Array Slot), lq_H s D cy A1 A2 q3 M1 M2 H locs → lq_I M1 M2 → lv_has ls 7 [(4, .int iv), (3, .ref q3), (2, .ref (A2 60 0)), (1, .ref (A1 0 0)), (0, .ref b)] → W p l e room_1 s m #[Value.ref b] below meth c H locs cells slots (lw_Z below #[Value.ref b] s) (F0 m 1521 ls [])) : W p l e room_1 s m #[Value.ref b] below meth c H locs cells slots (lw_Z below #[Value.ref b] s) (F0 m 780 ls []) := by
  have C := Z.1
  have hA := Z.2.1
  have hx := C.1
  have hb := C.2.1
  have hbA : ¬ lq_F s b := Nat.not_le.mpr Z.2.2.2.1
  have hL := Z.2.2.2.2.2.2.1
  have hE := Z.2.2.2.2.2.2.2
  obtain ⟨Tc, Tm, hF1, hF2, hE0, hB0, hR1, hR2, hS1, hS2, rg, htd1, htd2, hle⟩ := hI
  have hR := And.intro hR1 hR2
  have hS := And.intro hS1 hS2
  refine lv_aload_n hx hb dL_law_780 rfl (lv_at hl 3 rfl) ?_
  refine lv_aload_n hx hb dL_law_781 rfl (lv_at hl 4 rfl) ?_
  refine lv_iload hx hb dL_law_782 (lv_at hl 0 rfl) ?_
  refine lv_iconst (v := 1) hx hb dL_law_784 (by decide) ?_
  refine lv_iadd hx hb dL_law_785 ?_
  refine va_sld (i := iv + 1) hx hb Z.2.2.1 Z.2.2.2.1 hbA hw.2.2.1 (lq_in hi hL (by decide) (by decide)) dL_law_786 ?_
  refine lq_callTi (av := [.int (xs (iv + 1 : Int32).toNatClampNeg)]) C hA hw (f_X9_served l D A1 cy hA.1 M1 hF1.1 hF1 (xs (iv + 1 : Int32).toNatClampNeg)) ⟨ml_L_97, ym_X9_served, yv_X9_served, yi_X9_served, yc_X9_served⟩ yd_X9_served rfl rfl hl.1 (Nat.le_of_ble_eq_true rfl) ⟨by decide, by decide⟩ hcs dL_law_787 (fun rT N1 H locs hpT hw => ?_)
  refine lv_pop hx hb dL_law_790 rfl ?_
  refine lv_aload_n hx hb dL_law_791 rfl (lv_at hl 2 rfl) ?_
  refine lv_aload_n hx hb dL_law_792 rfl (lv_at hl 4 rfl) ?_
  refine lv_iload hx hb dL_law_793 (lv_at hl 0 rfl) ?_
  refine lv_iconst (v := 1) hx hb dL_law_795 (by decide) ?_
  refine lv_iadd hx hb dL_law_796 ?_
  refine va_sld (i := iv + 1) hx hb Z.2.2.1 Z.2.2.2.1 hbA hw.2.2.1 (lq_in hi hL (by decide) (by decide)) dL_law_797 ?_
  refine lq_callMi (av := [.int (xs (iv + 1 : Int32).toNatClampNeg)]) C hA hw (f_X10_served l D A2 cy hA.2.1 M2 hF2.1 hF2 (xs (iv + 1 : Int32).toNatClampNeg)) ⟨ml_L_100, ym_X10_served, yv_X10_served, yi_X10_served, yc_X10_served⟩ yd_X10_served rfl rfl hl.1 (Nat.le_of_ble_eq_true rfl) ⟨by decide, by decide⟩ hcs dL_law_798 (fun rM N2 H locs hpM hw => ?_)
  refine lv_pop hx hb dL_law_801 rfl ?_
  refine lv_goto (tgt := 1521) hx hb dL_law_802 (by decide) ?_
  exact kk N1 N2 H locs ls hw ⟨Tc, Tm, hpT.2.2.1, hpM.2.1, hpT.2.2.2.1.trans (hE0.trans (show tI N2 60 2 = tI M2 60 2 from hpM.2.2.1).symm), (fun i hi => hB0 i (by rw [← hpT.2.2.2.1]; exact hi)), (congrArg Int32.toInt (hpT.2.2.2.2.1 1 4 (by decide) (by decide))).trans hR.1, (congrArg Int32.toInt (hpT.2.2.2.2.1 1 5 (by decide) (by decide))).trans hR.2, hS1, hS2, rg, tdC_tl htd1 hpT.2.2.2.2, tdR_lw htd2 hpM.2.2.2, lE_obs hle hpT.1 hpT.2.1 hpM.1.1 (fun q => hpM.1.2.trans q) hpM.2.2.2⟩ hl
set_option maxRecDepth 100000 in
theorem lq_c18 {p : Program} {l : Launch} {e : Env} {s : State} {m : MethodId} {below : List Frame} {meth : Method} {c : Code} {D : va_G} {cy : Nat → ClassId} {A1 A2 : Nat → Nat → Nat} {M1 M2 : ti_M} {b q3 L cells slots : Nat} {iv : Int32} {xs : Nat → Int32} {H : Heap} {locs : List Loc} {ls : Array Slot} (Z : lq_Z p s m meth c D cy A1 A2 b L xs) (hcs : cells ≤ room_1.cells ∧ slots ≤ room_1.slots) (hw : lq_H s D cy A1 A2 q3 M1 M2 H locs) (hI : lq_I M1 M2) (hi : 0 ≤ iv.toInt ∧ iv.toInt + 6 ≤ L) (hl : lv_has ls 7 [(4, .int iv), (3, .ref q3), (2, .ref (A2 60 0)), (1, .ref (A1 0 0)), (0, .ref b)]) (kk : ∀ (M1 M2 : ti_M) (H : Heap) (locs : List Loc) (ls : Array Slot), lq_H s D cy A1 A2 q3 M1 M2 H locs → lq_I M1 M2 → lv_has ls 7 [(4, .int iv), (3, .ref q3), (2, .ref (A2 60 0)), (1, .ref (A1 0 0)), (0, .ref b)] → W p l e room_1 s m #[Value.ref b] below meth c H locs cells slots (lw_Z below #[Value.ref b] s) (F0 m 1521 ls [])) : W p l e room_1 s m #[Value.ref b] below meth c H locs cells slots (lw_Z below #[Value.ref b] s) (F0 m 805 ls []) := by
  have C := Z.1
  have hA := Z.2.1
  have hx := C.1
  have hb := C.2.1
  have hbA : ¬ lq_F s b := Nat.not_le.mpr Z.2.2.2.1
  have hL := Z.2.2.2.2.2.2.1
  have hE := Z.2.2.2.2.2.2.2
  obtain ⟨Tc, Tm, hF1, hF2, hE0, hB0, hR1, hR2, hS1, hS2, rg, htd1, htd2, hle⟩ := hI
  have hR := And.intro hR1 hR2
  have hS := And.intro hS1 hS2
  refine lv_aload_n hx hb dL_law_805 rfl (lv_at hl 3 rfl) ?_
  refine lv_aload_n hx hb dL_law_806 rfl (lv_at hl 4 rfl) ?_
  refine lv_iload hx hb dL_law_807 (lv_at hl 0 rfl) ?_
  refine lv_iconst (v := 1) hx hb dL_law_809 (by decide) ?_
  refine lv_iadd hx hb dL_law_810 ?_
  refine va_sld (i := iv + 1) hx hb Z.2.2.1 Z.2.2.2.1 hbA hw.2.2.1 (lq_in hi hL (by decide) (by decide)) dL_law_811 ?_
  refine lv_aload_n hx hb dL_law_812 rfl (lv_at hl 4 rfl) ?_
  refine lv_iload hx hb dL_law_813 (lv_at hl 0 rfl) ?_
  refine lv_iconst (v := 2) hx hb dL_law_815 (by decide) ?_
  refine lv_iadd hx hb dL_law_816 ?_
  refine va_sld (i := iv + 2) hx hb Z.2.2.1 Z.2.2.2.1 hbA hw.2.2.1 (lq_in hi hL (by decide) (by decide)) dL_law_817 ?_
  refine lv_aload_n hx hb dL_law_818 rfl (lv_at hl 4 rfl) ?_
  refine lv_iload hx hb dL_law_819 (lv_at hl 0 rfl) ?_
  refine lv_iconst (v := 3) hx hb dL_law_821 (by decide) ?_
  refine lv_iadd hx hb dL_law_822 ?_
  refine va_sld (i := iv + 3) hx hb Z.2.2.1 Z.2.2.2.1 hbA hw.2.2.1 (lq_in hi hL (by decide) (by decide)) dL_law_823 ?_
  refine lq_callTi (av := [.int (xs (iv + 1 : Int32).toNatClampNeg), .int (xs (iv + 2 : Int32).toNatClampNeg), .int (xs (iv + 3 : Int32).toNatClampNeg)]) C hA hw (f_X9_coming l D A1 cy hA.1 M1 hF1.1 hF1 (xs (iv + 1 : Int32).toNatClampNeg) (xs (iv + 2 : Int32).toNatClampNeg) (xs (iv + 3 : Int32).toNatClampNeg)) ⟨ml_L_101, ym_X9_coming, yv_X9_coming, yi_X9_coming, yc_X9_coming⟩ yd_X9_coming rfl rfl hl.1 (Nat.le_of_ble_eq_true rfl) ⟨by decide, by decide⟩ hcs dL_law_824 (fun rT N1 H locs hpT hw => ?_)
  refine lv_pop hx hb dL_law_827 rfl ?_
  refine lv_aload_n hx hb dL_law_828 rfl (lv_at hl 2 rfl) ?_
  refine lv_aload_n hx hb dL_law_829 rfl (lv_at hl 4 rfl) ?_
  refine lv_iload hx hb dL_law_830 (lv_at hl 0 rfl) ?_
  refine lv_iconst (v := 1) hx hb dL_law_832 (by decide) ?_
  refine lv_iadd hx hb dL_law_833 ?_
  refine va_sld (i := iv + 1) hx hb Z.2.2.1 Z.2.2.2.1 hbA hw.2.2.1 (lq_in hi hL (by decide) (by decide)) dL_law_834 ?_
  refine lv_aload_n hx hb dL_law_835 rfl (lv_at hl 4 rfl) ?_
  refine lv_iload hx hb dL_law_836 (lv_at hl 0 rfl) ?_
  refine lv_iconst (v := 2) hx hb dL_law_838 (by decide) ?_
  refine lv_iadd hx hb dL_law_839 ?_
  refine va_sld (i := iv + 2) hx hb Z.2.2.1 Z.2.2.2.1 hbA hw.2.2.1 (lq_in hi hL (by decide) (by decide)) dL_law_840 ?_
  refine lv_aload_n hx hb dL_law_841 rfl (lv_at hl 4 rfl) ?_
  refine lv_iload hx hb dL_law_842 (lv_at hl 0 rfl) ?_
  refine lv_iconst (v := 3) hx hb dL_law_844 (by decide) ?_
  refine lv_iadd hx hb dL_law_845 ?_
  refine va_sld (i := iv + 3) hx hb Z.2.2.1 Z.2.2.2.1 hbA hw.2.2.1 (lq_in hi hL (by decide) (by decide)) dL_law_846 ?_
  refine lq_callMi (av := [.int (xs (iv + 1 : Int32).toNatClampNeg), .int (xs (iv + 2 : Int32).toNatClampNeg), .int (xs (iv + 3 : Int32).toNatClampNeg)]) C hA hw (f_X10_coming l D A2 cy hA.2.1 M2 hF2.1 hF2 (xs (iv + 1 : Int32).toNatClampNeg) (xs (iv + 2 : Int32).toNatClampNeg) (xs (iv + 3 : Int32).toNatClampNeg)) ⟨ml_L_105, ym_X10_coming, yv_X10_coming, yi_X10_coming, yc_X10_coming⟩ yd_X10_coming rfl rfl hl.1 (Nat.le_of_ble_eq_true rfl) ⟨by decide, by decide⟩ hcs dL_law_847 (fun rM N2 H locs hpM hw => ?_)
  refine lv_pop hx hb dL_law_850 rfl ?_
  refine lv_goto (tgt := 1521) hx hb dL_law_851 (by decide) ?_
  exact kk N1 N2 H locs ls hw ⟨Tc, Tm, hpT.2.2.1, hpM.2.1, hpT.2.2.2.1.trans (hE0.trans (show tI N2 60 2 = tI M2 60 2 from hpM.2.2.1).symm), (fun i hi => hB0 i (by rw [← hpT.2.2.2.1]; exact hi)), (congrArg Int32.toInt (hpT.2.2.2.2.1 1 4 (by decide) (by decide))).trans hR.1, (congrArg Int32.toInt (hpT.2.2.2.2.1 1 5 (by decide) (by decide))).trans hR.2, hS1, hS2, rg, tdC_tl htd1 hpT.2.2.2.2, tdR_lw htd2 hpM.2.2.2, lE_obs hle hpT.1 hpT.2.1 hpM.1.1 (fun q => hpM.1.2.trans q) hpM.2.2.2⟩ hl
set_option maxRecDepth 100000 in
theorem lq_c19 {p : Program} {l : Launch} {e : Env} {s : State} {m : MethodId} {below : List Frame} {meth : Method} {c : Code} {D : va_G} {cy : Nat → ClassId} {A1 A2 : Nat → Nat → Nat} {M1 M2 : ti_M} {b q3 L cells slots : Nat} {iv : Int32} {xs : Nat → Int32} {H : Heap} {locs : List Loc} {ls : Array Slot} (Z : lq_Z p s m meth c D cy A1 A2 b L xs) (hcs : cells ≤ room_1.cells ∧ slots ≤ room_1.slots) (hw : lq_H s D cy A1 A2 q3 M1 M2 H locs) (hI : lq_I M1 M2) (hi : 0 ≤ iv.toInt ∧ iv.toInt + 6 ≤ L) (hl : lv_has ls 7 [(4, .int iv), (3, .ref q3), (2, .ref (A2 60 0)), (1, .ref (A1 0 0)), (0, .ref b)]) (kk : ∀ (M1 M2 : ti_M) (H : Heap) (locs : List Loc) (ls : Array Slot), lq_H s D cy A1 A2 q3 M1 M2 H locs → lq_I M1 M2 → lv_has ls 7 [(4, .int iv), (3, .ref q3), (2, .ref (A2 60 0)), (1, .ref (A1 0 0)), (0, .ref b)] → W p l e room_1 s m #[Value.ref b] below meth c H locs cells slots (lw_Z below #[Value.ref b] s) (F0 m 1521 ls [])) : W p l e room_1 s m #[Value.ref b] below meth c H locs cells slots (lw_Z below #[Value.ref b] s) (F0 m 854 ls []) := by
  have C := Z.1
  have hA := Z.2.1
  have hx := C.1
  have hb := C.2.1
  have hbA : ¬ lq_F s b := Nat.not_le.mpr Z.2.2.2.1
  have hL := Z.2.2.2.2.2.2.1
  have hE := Z.2.2.2.2.2.2.2
  obtain ⟨Tc, Tm, hF1, hF2, hE0, hB0, hR1, hR2, hS1, hS2, rg, htd1, htd2, hle⟩ := hI
  have hR := And.intro hR1 hR2
  have hS := And.intro hS1 hS2
  refine lv_aload_n hx hb dL_law_854 rfl (lv_at hl 3 rfl) ?_
  refine lv_aload_n hx hb dL_law_855 rfl (lv_at hl 4 rfl) ?_
  refine lv_iload hx hb dL_law_856 (lv_at hl 0 rfl) ?_
  refine lv_iconst (v := 1) hx hb dL_law_858 (by decide) ?_
  refine lv_iadd hx hb dL_law_859 ?_
  refine va_sld (i := iv + 1) hx hb Z.2.2.1 Z.2.2.2.1 hbA hw.2.2.1 (lq_in hi hL (by decide) (by decide)) dL_law_860 ?_
  refine lv_aload_n hx hb dL_law_861 rfl (lv_at hl 4 rfl) ?_
  refine lv_iload hx hb dL_law_862 (lv_at hl 0 rfl) ?_
  refine lv_iconst (v := 2) hx hb dL_law_864 (by decide) ?_
  refine lv_iadd hx hb dL_law_865 ?_
  refine va_sld (i := iv + 2) hx hb Z.2.2.1 Z.2.2.2.1 hbA hw.2.2.1 (lq_in hi hL (by decide) (by decide)) dL_law_866 ?_
  refine lv_aload_n hx hb dL_law_867 rfl (lv_at hl 4 rfl) ?_
  refine lv_iload hx hb dL_law_868 (lv_at hl 0 rfl) ?_
  refine lv_iconst (v := 3) hx hb dL_law_870 (by decide) ?_
  refine lv_iadd hx hb dL_law_871 ?_
  refine va_sld (i := iv + 3) hx hb Z.2.2.1 Z.2.2.2.1 hbA hw.2.2.1 (lq_in hi hL (by decide) (by decide)) dL_law_872 ?_
  refine lq_callTi (av := [.int (xs (iv + 1 : Int32).toNatClampNeg), .int (xs (iv + 2 : Int32).toNatClampNeg), .int (xs (iv + 3 : Int32).toNatClampNeg)]) C hA hw (f_X9_decree l D A1 cy hA.1 M1 hF1.1 hF1 (xs (iv + 1 : Int32).toNatClampNeg) (xs (iv + 2 : Int32).toNatClampNeg) (xs (iv + 3 : Int32).toNatClampNeg)) ⟨ml_L_106, ym_X9_decree, yv_X9_decree, yi_X9_decree, yc_X9_decree⟩ yd_X9_decree rfl rfl hl.1 (Nat.le_of_ble_eq_true rfl) ⟨by decide, by decide⟩ hcs dL_law_873 (fun rT N1 H locs hpT hw => ?_)
  refine lv_pop hx hb dL_law_876 rfl ?_
  refine lv_aload_n hx hb dL_law_877 rfl (lv_at hl 2 rfl) ?_
  refine lv_aload_n hx hb dL_law_878 rfl (lv_at hl 4 rfl) ?_
  refine lv_iload hx hb dL_law_879 (lv_at hl 0 rfl) ?_
  refine lv_iconst (v := 1) hx hb dL_law_881 (by decide) ?_
  refine lv_iadd hx hb dL_law_882 ?_
  refine va_sld (i := iv + 1) hx hb Z.2.2.1 Z.2.2.2.1 hbA hw.2.2.1 (lq_in hi hL (by decide) (by decide)) dL_law_883 ?_
  refine lv_aload_n hx hb dL_law_884 rfl (lv_at hl 4 rfl) ?_
  refine lv_iload hx hb dL_law_885 (lv_at hl 0 rfl) ?_
  refine lv_iconst (v := 2) hx hb dL_law_887 (by decide) ?_
  refine lv_iadd hx hb dL_law_888 ?_
  refine va_sld (i := iv + 2) hx hb Z.2.2.1 Z.2.2.2.1 hbA hw.2.2.1 (lq_in hi hL (by decide) (by decide)) dL_law_889 ?_
  refine lv_aload_n hx hb dL_law_890 rfl (lv_at hl 4 rfl) ?_
  refine lv_iload hx hb dL_law_891 (lv_at hl 0 rfl) ?_
  refine lv_iconst (v := 3) hx hb dL_law_893 (by decide) ?_
  refine lv_iadd hx hb dL_law_894 ?_
  refine va_sld (i := iv + 3) hx hb Z.2.2.1 Z.2.2.2.1 hbA hw.2.2.1 (lq_in hi hL (by decide) (by decide)) dL_law_895 ?_
  refine lq_callMi (av := [.int (xs (iv + 1 : Int32).toNatClampNeg), .int (xs (iv + 2 : Int32).toNatClampNeg), .int (xs (iv + 3 : Int32).toNatClampNeg)]) C hA hw (f_X10_decree l D A2 cy hA.2.1 M2 hF2.1 hF2 (xs (iv + 1 : Int32).toNatClampNeg) (xs (iv + 2 : Int32).toNatClampNeg) (xs (iv + 3 : Int32).toNatClampNeg)) ⟨ml_L_109, ym_X10_decree, yv_X10_decree, yi_X10_decree, yc_X10_decree⟩ yd_X10_decree rfl rfl hl.1 (Nat.le_of_ble_eq_true rfl) ⟨by decide, by decide⟩ hcs dL_law_896 (fun rM N2 H locs hpM hw => ?_)
  refine lv_pop hx hb dL_law_899 rfl ?_
  refine lv_goto (tgt := 1521) hx hb dL_law_900 (by decide) ?_
  exact kk N1 N2 H locs ls hw ⟨Tc, Tm, hpT.2.2.1, hpM.2.1, hpT.2.2.2.1.trans (hE0.trans (show tI N2 60 2 = tI M2 60 2 from hpM.2.2.1).symm), (fun i hi => hB0 i (by rw [← hpT.2.2.2.1]; exact hi)), (congrArg Int32.toInt (hpT.2.2.2.2.1 1 4 (by decide) (by decide))).trans hR.1, (congrArg Int32.toInt (hpT.2.2.2.2.1 1 5 (by decide) (by decide))).trans hR.2, hS1, hS2, rg, tdC_tl htd1 hpT.2.2.2.2, tdR_lw htd2 hpM.2.2.2, lE_obs hle hpT.1 hpT.2.1 hpM.1.1 (fun q => hpM.1.2.trans q) hpM.2.2.2⟩ hl
set_option maxRecDepth 100000 in
theorem lq_c20 {p : Program} {l : Launch} {e : Env} {s : State} {m : MethodId} {below : List Frame} {meth : Method} {c : Code} {D : va_G} {cy : Nat → ClassId} {A1 A2 : Nat → Nat → Nat} {M1 M2 : ti_M} {b q3 L cells slots : Nat} {iv : Int32} {xs : Nat → Int32} {H : Heap} {locs : List Loc} {ls : Array Slot} (Z : lq_Z p s m meth c D cy A1 A2 b L xs) (hcs : cells ≤ room_1.cells ∧ slots ≤ room_1.slots) (hw : lq_H s D cy A1 A2 q3 M1 M2 H locs) (hI : lq_I M1 M2) (hi : 0 ≤ iv.toInt ∧ iv.toInt + 6 ≤ L) (hl : lv_has ls 7 [(4, .int iv), (3, .ref q3), (2, .ref (A2 60 0)), (1, .ref (A1 0 0)), (0, .ref b)]) (kk : ∀ (M1 M2 : ti_M) (H : Heap) (locs : List Loc) (ls : Array Slot), lq_H s D cy A1 A2 q3 M1 M2 H locs → lq_I M1 M2 → lv_has ls 7 [(4, .int iv), (3, .ref q3), (2, .ref (A2 60 0)), (1, .ref (A1 0 0)), (0, .ref b)] → W p l e room_1 s m #[Value.ref b] below meth c H locs cells slots (lw_Z below #[Value.ref b] s) (F0 m 1521 ls [])) : W p l e room_1 s m #[Value.ref b] below meth c H locs cells slots (lw_Z below #[Value.ref b] s) (F0 m 903 ls []) := by
  have C := Z.1
  have hA := Z.2.1
  have hx := C.1
  have hb := C.2.1
  have hbA : ¬ lq_F s b := Nat.not_le.mpr Z.2.2.2.1
  have hL := Z.2.2.2.2.2.2.1
  have hE := Z.2.2.2.2.2.2.2
  obtain ⟨Tc, Tm, hF1, hF2, hE0, hB0, hR1, hR2, hS1, hS2, rg, htd1, htd2, hle⟩ := hI
  have hR := And.intro hR1 hR2
  have hS := And.intro hS1 hS2
  refine lv_aload_n hx hb dL_law_903 rfl (lv_at hl 3 rfl) ?_
  refine lq_callTi (av := []) C hA hw (f_X9_coup l D A1 cy hA.1 M1 hF1.1 hF1) ⟨ml_L_110, ym_X9_coup, yv_X9_coup, yi_X9_coup, yc_X9_coup⟩ yd_X9_coup rfl rfl hl.1 (Nat.le_of_ble_eq_true rfl) ⟨by decide, by decide⟩ hcs dL_law_904 (fun rT N1 H locs hpT hw => ?_)
  refine lv_pop hx hb dL_law_907 rfl ?_
  refine lv_aload_n hx hb dL_law_908 rfl (lv_at hl 2 rfl) ?_
  refine lq_callMi (av := []) C hA hw (f_X10_coup l D A2 cy hA.2.1 M2 hF2.1 hF2) ⟨ml_L_114, ym_X10_coup, yv_X10_coup, yi_X10_coup, yc_X10_coup⟩ yd_X10_coup rfl rfl hl.1 (Nat.le_of_ble_eq_true rfl) ⟨by decide, by decide⟩ hcs dL_law_909 (fun rM N2 H locs hpM hw => ?_)
  refine lv_pop hx hb dL_law_912 rfl ?_
  refine lv_goto (tgt := 1521) hx hb dL_law_913 (by decide) ?_
  exact kk N1 N2 H locs ls hw ⟨Tc, Tm, hpT.2.2.1, hpM.2.1, hpT.2.2.2.1.trans (hE0.trans (show tI N2 60 2 = tI M2 60 2 from hpM.2.2.1).symm), (fun i hi => hB0 i (by rw [← hpT.2.2.2.1]; exact hi)), (congrArg Int32.toInt (hpT.2.2.2.2.1 1 4 (by decide) (by decide))).trans hR.1, (congrArg Int32.toInt (hpT.2.2.2.2.1 1 5 (by decide) (by decide))).trans hR.2, hS1, hS2, rg, tdC_tl htd1 hpT.2.2.2.2, tdR_lw htd2 hpM.2.2.2, lE_obs hle hpT.1 hpT.2.1 hpM.1.1 (fun q => hpM.1.2.trans q) hpM.2.2.2⟩ hl
set_option maxRecDepth 100000 in
theorem lq_c21 {p : Program} {l : Launch} {e : Env} {s : State} {m : MethodId} {below : List Frame} {meth : Method} {c : Code} {D : va_G} {cy : Nat → ClassId} {A1 A2 : Nat → Nat → Nat} {M1 M2 : ti_M} {b q3 L cells slots : Nat} {iv : Int32} {xs : Nat → Int32} {H : Heap} {locs : List Loc} {ls : Array Slot} (Z : lq_Z p s m meth c D cy A1 A2 b L xs) (hcs : cells ≤ room_1.cells ∧ slots ≤ room_1.slots) (hw : lq_H s D cy A1 A2 q3 M1 M2 H locs) (hI : lq_I M1 M2) (hi : 0 ≤ iv.toInt ∧ iv.toInt + 6 ≤ L) (hl : lv_has ls 7 [(4, .int iv), (3, .ref q3), (2, .ref (A2 60 0)), (1, .ref (A1 0 0)), (0, .ref b)]) (kk : ∀ (M1 M2 : ti_M) (H : Heap) (locs : List Loc) (ls : Array Slot), lq_H s D cy A1 A2 q3 M1 M2 H locs → lq_I M1 M2 → lv_has ls 7 [(4, .int iv), (3, .ref q3), (2, .ref (A2 60 0)), (1, .ref (A1 0 0)), (0, .ref b)] → W p l e room_1 s m #[Value.ref b] below meth c H locs cells slots (lw_Z below #[Value.ref b] s) (F0 m 1521 ls [])) : W p l e room_1 s m #[Value.ref b] below meth c H locs cells slots (lw_Z below #[Value.ref b] s) (F0 m 916 ls []) := by
  have C := Z.1
  have hA := Z.2.1
  have hx := C.1
  have hb := C.2.1
  have hbA : ¬ lq_F s b := Nat.not_le.mpr Z.2.2.2.1
  have hL := Z.2.2.2.2.2.2.1
  have hE := Z.2.2.2.2.2.2.2
  obtain ⟨Tc, Tm, hF1, hF2, hE0, hB0, hR1, hR2, hS1, hS2, rg, htd1, htd2, hle⟩ := hI
  have hR := And.intro hR1 hR2
  have hS := And.intro hS1 hS2
  refine lv_aload_n hx hb dL_law_916 rfl (lv_at hl 3 rfl) ?_
  refine lv_aload_n hx hb dL_law_917 rfl (lv_at hl 4 rfl) ?_
  refine lv_iload hx hb dL_law_918 (lv_at hl 0 rfl) ?_
  refine lv_iconst (v := 1) hx hb dL_law_920 (by decide) ?_
  refine lv_iadd hx hb dL_law_921 ?_
  refine va_sld (i := iv + 1) hx hb Z.2.2.1 Z.2.2.2.1 hbA hw.2.2.1 (lq_in hi hL (by decide) (by decide)) dL_law_922 ?_
  refine lv_aload_n hx hb dL_law_923 rfl (lv_at hl 4 rfl) ?_
  refine lv_iload hx hb dL_law_924 (lv_at hl 0 rfl) ?_
  refine lv_iconst (v := 2) hx hb dL_law_926 (by decide) ?_
  refine lv_iadd hx hb dL_law_927 ?_
  refine va_sld (i := iv + 2) hx hb Z.2.2.1 Z.2.2.2.1 hbA hw.2.2.1 (lq_in hi hL (by decide) (by decide)) dL_law_928 ?_
  refine lv_aload_n hx hb dL_law_929 rfl (lv_at hl 4 rfl) ?_
  refine lv_iload hx hb dL_law_930 (lv_at hl 0 rfl) ?_
  refine lv_iconst (v := 3) hx hb dL_law_932 (by decide) ?_
  refine lv_iadd hx hb dL_law_933 ?_
  refine va_sld (i := iv + 3) hx hb Z.2.2.1 Z.2.2.2.1 hbA hw.2.2.1 (lq_in hi hL (by decide) (by decide)) dL_law_934 ?_
  refine lq_callTi (av := [.int (xs (iv + 1 : Int32).toNatClampNeg), .int (xs (iv + 2 : Int32).toNatClampNeg), .int (xs (iv + 3 : Int32).toNatClampNeg)]) C hA hw (f_X9_rests l D A1 cy hA.1 M1 hF1.1 hF1 (xs (iv + 1 : Int32).toNatClampNeg) (xs (iv + 2 : Int32).toNatClampNeg) (xs (iv + 3 : Int32).toNatClampNeg)) ⟨ml_L_115, ym_X9_rests, yv_X9_rests, yi_X9_rests, yc_X9_rests⟩ yd_X9_rests rfl rfl hl.1 (Nat.le_of_ble_eq_true rfl) ⟨by decide, by decide⟩ hcs dL_law_935 (fun rT N1 H locs hpT hw => ?_)
  refine lv_pop hx hb dL_law_938 rfl ?_
  refine lv_aload_n hx hb dL_law_939 rfl (lv_at hl 2 rfl) ?_
  refine lv_aload_n hx hb dL_law_940 rfl (lv_at hl 4 rfl) ?_
  refine lv_iload hx hb dL_law_941 (lv_at hl 0 rfl) ?_
  refine lv_iconst (v := 1) hx hb dL_law_943 (by decide) ?_
  refine lv_iadd hx hb dL_law_944 ?_
  refine va_sld (i := iv + 1) hx hb Z.2.2.1 Z.2.2.2.1 hbA hw.2.2.1 (lq_in hi hL (by decide) (by decide)) dL_law_945 ?_
  refine lv_aload_n hx hb dL_law_946 rfl (lv_at hl 4 rfl) ?_
  refine lv_iload hx hb dL_law_947 (lv_at hl 0 rfl) ?_
  refine lv_iconst (v := 2) hx hb dL_law_949 (by decide) ?_
  refine lv_iadd hx hb dL_law_950 ?_
  refine va_sld (i := iv + 2) hx hb Z.2.2.1 Z.2.2.2.1 hbA hw.2.2.1 (lq_in hi hL (by decide) (by decide)) dL_law_951 ?_
  refine lv_aload_n hx hb dL_law_952 rfl (lv_at hl 4 rfl) ?_
  refine lv_iload hx hb dL_law_953 (lv_at hl 0 rfl) ?_
  refine lv_iconst (v := 3) hx hb dL_law_955 (by decide) ?_
  refine lv_iadd hx hb dL_law_956 ?_
  refine va_sld (i := iv + 3) hx hb Z.2.2.1 Z.2.2.2.1 hbA hw.2.2.1 (lq_in hi hL (by decide) (by decide)) dL_law_957 ?_
  refine lq_callMi (av := [.int (xs (iv + 1 : Int32).toNatClampNeg), .int (xs (iv + 2 : Int32).toNatClampNeg), .int (xs (iv + 3 : Int32).toNatClampNeg)]) C hA hw (f_X10_rests l D A2 cy hA.2.1 M2 hF2.1 hF2 (xs (iv + 1 : Int32).toNatClampNeg) (xs (iv + 2 : Int32).toNatClampNeg) (xs (iv + 3 : Int32).toNatClampNeg)) ⟨ml_L_118, ym_X10_rests, yv_X10_rests, yi_X10_rests, yc_X10_rests⟩ yd_X10_rests rfl rfl hl.1 (Nat.le_of_ble_eq_true rfl) ⟨by decide, by decide⟩ hcs dL_law_958 (fun rM N2 H locs hpM hw => ?_)
  refine lv_pop hx hb dL_law_961 rfl ?_
  refine lv_goto (tgt := 1521) hx hb dL_law_962 (by decide) ?_
  exact kk N1 N2 H locs ls hw ⟨Tc, Tm, hpT.2.2.1, hpM.2.1, hpT.2.2.2.1.trans (hE0.trans (show tI N2 60 2 = tI M2 60 2 from hpM.2.2.1).symm), (fun i hi => hB0 i (by rw [← hpT.2.2.2.1]; exact hi)), (congrArg Int32.toInt (hpT.2.2.2.2.1 1 4 (by decide) (by decide))).trans hR.1, (congrArg Int32.toInt (hpT.2.2.2.2.1 1 5 (by decide) (by decide))).trans hR.2, hS1, hS2, rg, tdC_tl htd1 hpT.2.2.2.2, tdR_lw htd2 hpM.2.2.2, lE_obs hle hpT.1 hpT.2.1 hpM.1.1 (fun q => hpM.1.2.trans q) hpM.2.2.2⟩ hl
set_option maxRecDepth 100000 in
theorem lq_c22 {p : Program} {l : Launch} {e : Env} {s : State} {m : MethodId} {below : List Frame} {meth : Method} {c : Code} {D : va_G} {cy : Nat → ClassId} {A1 A2 : Nat → Nat → Nat} {M1 M2 : ti_M} {b q3 L cells slots : Nat} {iv : Int32} {xs : Nat → Int32} {H : Heap} {locs : List Loc} {ls : Array Slot} (Z : lq_Z p s m meth c D cy A1 A2 b L xs) (hcs : cells ≤ room_1.cells ∧ slots ≤ room_1.slots) (hw : lq_H s D cy A1 A2 q3 M1 M2 H locs) (hI : lq_I M1 M2) (hi : 0 ≤ iv.toInt ∧ iv.toInt + 6 ≤ L) (hl : lv_has ls 7 [(4, .int iv), (3, .ref q3), (2, .ref (A2 60 0)), (1, .ref (A1 0 0)), (0, .ref b)]) (kk : ∀ (M1 M2 : ti_M) (H : Heap) (locs : List Loc) (ls : Array Slot), lq_H s D cy A1 A2 q3 M1 M2 H locs → lq_I M1 M2 → lv_has ls 7 [(4, .int iv), (3, .ref q3), (2, .ref (A2 60 0)), (1, .ref (A1 0 0)), (0, .ref b)] → W p l e room_1 s m #[Value.ref b] below meth c H locs cells slots (lw_Z below #[Value.ref b] s) (F0 m 1521 ls [])) : W p l e room_1 s m #[Value.ref b] below meth c H locs cells slots (lw_Z below #[Value.ref b] s) (F0 m 965 ls []) := by
  have C := Z.1
  have hA := Z.2.1
  have hx := C.1
  have hb := C.2.1
  have hbA : ¬ lq_F s b := Nat.not_le.mpr Z.2.2.2.1
  have hL := Z.2.2.2.2.2.2.1
  have hE := Z.2.2.2.2.2.2.2
  obtain ⟨Tc, Tm, hF1, hF2, hE0, hB0, hR1, hR2, hS1, hS2, rg, htd1, htd2, hle⟩ := hI
  have hR := And.intro hR1 hR2
  have hS := And.intro hS1 hS2
  refine lv_aload_n hx hb dL_law_965 rfl (lv_at hl 3 rfl) ?_
  refine lv_aload_n hx hb dL_law_966 rfl (lv_at hl 4 rfl) ?_
  refine lv_iload hx hb dL_law_967 (lv_at hl 0 rfl) ?_
  refine lv_iconst (v := 1) hx hb dL_law_969 (by decide) ?_
  refine lv_iadd hx hb dL_law_970 ?_
  refine va_sld (i := iv + 1) hx hb Z.2.2.1 Z.2.2.2.1 hbA hw.2.2.1 (lq_in hi hL (by decide) (by decide)) dL_law_971 ?_
  refine lv_aload_n hx hb dL_law_972 rfl (lv_at hl 4 rfl) ?_
  refine lv_iload hx hb dL_law_973 (lv_at hl 0 rfl) ?_
  refine lv_iconst (v := 2) hx hb dL_law_975 (by decide) ?_
  refine lv_iadd hx hb dL_law_976 ?_
  refine va_sld (i := iv + 2) hx hb Z.2.2.1 Z.2.2.2.1 hbA hw.2.2.1 (lq_in hi hL (by decide) (by decide)) dL_law_977 ?_
  refine lv_aload_n hx hb dL_law_978 rfl (lv_at hl 4 rfl) ?_
  refine lv_iload hx hb dL_law_979 (lv_at hl 0 rfl) ?_
  refine lv_iconst (v := 3) hx hb dL_law_981 (by decide) ?_
  refine lv_iadd hx hb dL_law_982 ?_
  refine va_sld (i := iv + 3) hx hb Z.2.2.1 Z.2.2.2.1 hbA hw.2.2.1 (lq_in hi hL (by decide) (by decide)) dL_law_983 ?_
  refine lv_aload_n hx hb dL_law_984 rfl (lv_at hl 4 rfl) ?_
  refine lv_iload hx hb dL_law_985 (lv_at hl 0 rfl) ?_
  refine lv_iconst (v := 4) hx hb dL_law_987 (by decide) ?_
  refine lv_iadd hx hb dL_law_988 ?_
  refine va_sld (i := iv + 4) hx hb Z.2.2.1 Z.2.2.2.1 hbA hw.2.2.1 (lq_in hi hL (by decide) (by decide)) dL_law_989 ?_
  refine lq_callTi (av := [.int (xs (iv + 1 : Int32).toNatClampNeg), .int (xs (iv + 2 : Int32).toNatClampNeg), .int (xs (iv + 3 : Int32).toNatClampNeg), .int (xs (iv + 4 : Int32).toNatClampNeg)]) C hA hw (f_X9_rest l D A1 cy hA.1 M1 hF1.1 hF1 (xs (iv + 1 : Int32).toNatClampNeg) (xs (iv + 2 : Int32).toNatClampNeg) (xs (iv + 3 : Int32).toNatClampNeg) (xs (iv + 4 : Int32).toNatClampNeg)) ⟨ml_L_119, ym_X9_rest, yv_X9_rest, yi_X9_rest, yc_X9_rest⟩ yd_X9_rest rfl rfl hl.1 (Nat.le_of_ble_eq_true rfl) ⟨by decide, by decide⟩ hcs dL_law_990 (fun rT N1 H locs hpT hw => ?_)
  refine lv_pop hx hb dL_law_993 rfl ?_
  refine lv_aload_n hx hb dL_law_994 rfl (lv_at hl 2 rfl) ?_
  refine lv_aload_n hx hb dL_law_995 rfl (lv_at hl 4 rfl) ?_
  refine lv_iload hx hb dL_law_996 (lv_at hl 0 rfl) ?_
  refine lv_iconst (v := 1) hx hb dL_law_998 (by decide) ?_
  refine lv_iadd hx hb dL_law_999 ?_
  refine va_sld (i := iv + 1) hx hb Z.2.2.1 Z.2.2.2.1 hbA hw.2.2.1 (lq_in hi hL (by decide) (by decide)) dL_law_1000 ?_
  refine lv_aload_n hx hb dL_law_1001 rfl (lv_at hl 4 rfl) ?_
  refine lv_iload hx hb dL_law_1002 (lv_at hl 0 rfl) ?_
  refine lv_iconst (v := 2) hx hb dL_law_1004 (by decide) ?_
  refine lv_iadd hx hb dL_law_1005 ?_
  refine va_sld (i := iv + 2) hx hb Z.2.2.1 Z.2.2.2.1 hbA hw.2.2.1 (lq_in hi hL (by decide) (by decide)) dL_law_1006 ?_
  refine lv_aload_n hx hb dL_law_1007 rfl (lv_at hl 4 rfl) ?_
  refine lv_iload hx hb dL_law_1008 (lv_at hl 0 rfl) ?_
  refine lv_iconst (v := 3) hx hb dL_law_1010 (by decide) ?_
  refine lv_iadd hx hb dL_law_1011 ?_
  refine va_sld (i := iv + 3) hx hb Z.2.2.1 Z.2.2.2.1 hbA hw.2.2.1 (lq_in hi hL (by decide) (by decide)) dL_law_1012 ?_
  refine lv_aload_n hx hb dL_law_1013 rfl (lv_at hl 4 rfl) ?_
  refine lv_iload hx hb dL_law_1014 (lv_at hl 0 rfl) ?_
  refine lv_iconst (v := 4) hx hb dL_law_1016 (by decide) ?_
  refine lv_iadd hx hb dL_law_1017 ?_
  refine va_sld (i := iv + 4) hx hb Z.2.2.1 Z.2.2.2.1 hbA hw.2.2.1 (lq_in hi hL (by decide) (by decide)) dL_law_1018 ?_
  refine lq_callMi (av := [.int (xs (iv + 1 : Int32).toNatClampNeg), .int (xs (iv + 2 : Int32).toNatClampNeg), .int (xs (iv + 3 : Int32).toNatClampNeg), .int (xs (iv + 4 : Int32).toNatClampNeg)]) C hA hw (f_X10_rest l D A2 cy hA.2.1 M2 hF2.1 hF2 (xs (iv + 1 : Int32).toNatClampNeg) (xs (iv + 2 : Int32).toNatClampNeg) (xs (iv + 3 : Int32).toNatClampNeg) (xs (iv + 4 : Int32).toNatClampNeg)) ⟨ml_L_123, ym_X10_rest, yv_X10_rest, yi_X10_rest, yc_X10_rest⟩ yd_X10_rest rfl rfl hl.1 (Nat.le_of_ble_eq_true rfl) ⟨by decide, by decide⟩ hcs dL_law_1019 (fun rM N2 H locs hpM hw => ?_)
  refine lv_pop hx hb dL_law_1022 rfl ?_
  refine lv_goto (tgt := 1521) hx hb dL_law_1023 (by decide) ?_
  exact kk N1 N2 H locs ls hw ⟨Tc, Tm, hpT.2.2.1, hpM.2.1, hpT.2.2.2.1.trans (hE0.trans (show tI N2 60 2 = tI M2 60 2 from hpM.2.2.1).symm), (fun i hi => hB0 i (by rw [← hpT.2.2.2.1]; exact hi)), (congrArg Int32.toInt (hpT.2.2.2.2.1 1 4 (by decide) (by decide))).trans hR.1, (congrArg Int32.toInt (hpT.2.2.2.2.1 1 5 (by decide) (by decide))).trans hR.2, hS1, hS2, rg, tdC_tl htd1 hpT.2.2.2.2, tdR_lw htd2 hpM.2.2.2, lE_obs hle hpT.1 hpT.2.1 hpM.1.1 (fun q => hpM.1.2.trans q) hpM.2.2.2⟩ hl
set_option maxRecDepth 100000 in
theorem lq_c23 {p : Program} {l : Launch} {e : Env} {s : State} {m : MethodId} {below : List Frame} {meth : Method} {c : Code} {D : va_G} {cy : Nat → ClassId} {A1 A2 : Nat → Nat → Nat} {M1 M2 : ti_M} {b q3 L cells slots : Nat} {iv : Int32} {xs : Nat → Int32} {H : Heap} {locs : List Loc} {ls : Array Slot} (Z : lq_Z p s m meth c D cy A1 A2 b L xs) (hcs : cells ≤ room_1.cells ∧ slots ≤ room_1.slots) (hw : lq_H s D cy A1 A2 q3 M1 M2 H locs) (hI : lq_I M1 M2) (hi : 0 ≤ iv.toInt ∧ iv.toInt + 6 ≤ L) (hl : lv_has ls 7 [(4, .int iv), (3, .ref q3), (2, .ref (A2 60 0)), (1, .ref (A1 0 0)), (0, .ref b)]) (kk : ∀ (M1 M2 : ti_M) (H : Heap) (locs : List Loc) (ls : Array Slot), lq_H s D cy A1 A2 q3 M1 M2 H locs → lq_I M1 M2 → lv_has ls 7 [(4, .int iv), (3, .ref q3), (2, .ref (A2 60 0)), (1, .ref (A1 0 0)), (0, .ref b)] → W p l e room_1 s m #[Value.ref b] below meth c H locs cells slots (lw_Z below #[Value.ref b] s) (F0 m 1521 ls [])) : W p l e room_1 s m #[Value.ref b] below meth c H locs cells slots (lw_Z below #[Value.ref b] s) (F0 m 1026 ls []) := by
  have C := Z.1
  have hA := Z.2.1
  have hx := C.1
  have hb := C.2.1
  have hbA : ¬ lq_F s b := Nat.not_le.mpr Z.2.2.2.1
  have hL := Z.2.2.2.2.2.2.1
  have hE := Z.2.2.2.2.2.2.2
  obtain ⟨Tc, Tm, hF1, hF2, hE0, hB0, hR1, hR2, hS1, hS2, rg, htd1, htd2, hle⟩ := hI
  have hR := And.intro hR1 hR2
  have hS := And.intro hS1 hS2
  refine lv_aload_n hx hb dL_law_1026 rfl (lv_at hl 3 rfl) ?_
  refine lv_aload_n hx hb dL_law_1027 rfl (lv_at hl 4 rfl) ?_
  refine lv_iload hx hb dL_law_1028 (lv_at hl 0 rfl) ?_
  refine lv_iconst (v := 1) hx hb dL_law_1030 (by decide) ?_
  refine lv_iadd hx hb dL_law_1031 ?_
  refine va_sld (i := iv + 1) hx hb Z.2.2.1 Z.2.2.2.1 hbA hw.2.2.1 (lq_in hi hL (by decide) (by decide)) dL_law_1032 ?_
  refine lv_aload_n hx hb dL_law_1033 rfl (lv_at hl 4 rfl) ?_
  refine lv_iload hx hb dL_law_1034 (lv_at hl 0 rfl) ?_
  refine lv_iconst (v := 2) hx hb dL_law_1036 (by decide) ?_
  refine lv_iadd hx hb dL_law_1037 ?_
  refine va_sld (i := iv + 2) hx hb Z.2.2.1 Z.2.2.2.1 hbA hw.2.2.1 (lq_in hi hL (by decide) (by decide)) dL_law_1038 ?_
  refine lv_aload_n hx hb dL_law_1039 rfl (lv_at hl 4 rfl) ?_
  refine lv_iload hx hb dL_law_1040 (lv_at hl 0 rfl) ?_
  refine lv_iconst (v := 3) hx hb dL_law_1042 (by decide) ?_
  refine lv_iadd hx hb dL_law_1043 ?_
  refine va_sld (i := iv + 3) hx hb Z.2.2.1 Z.2.2.2.1 hbA hw.2.2.1 (lq_in hi hL (by decide) (by decide)) dL_law_1044 ?_
  refine lv_aload_n hx hb dL_law_1045 rfl (lv_at hl 4 rfl) ?_
  refine lv_iload hx hb dL_law_1046 (lv_at hl 0 rfl) ?_
  refine lv_iconst (v := 4) hx hb dL_law_1048 (by decide) ?_
  refine lv_iadd hx hb dL_law_1049 ?_
  refine va_sld (i := iv + 4) hx hb Z.2.2.1 Z.2.2.2.1 hbA hw.2.2.1 (lq_in hi hL (by decide) (by decide)) dL_law_1050 ?_
  refine lq_callTi (av := [.int (xs (iv + 1 : Int32).toNatClampNeg), .int (xs (iv + 2 : Int32).toNatClampNeg), .int (xs (iv + 3 : Int32).toNatClampNeg), .int (xs (iv + 4 : Int32).toNatClampNeg)]) C hA hw (f_X9_best l D A1 cy hA.1 M1 hF1.1 hF1 (xs (iv + 1 : Int32).toNatClampNeg) (xs (iv + 2 : Int32).toNatClampNeg) (xs (iv + 3 : Int32).toNatClampNeg) (xs (iv + 4 : Int32).toNatClampNeg)) ⟨ml_L_124, ym_X9_best, yv_X9_best, yi_X9_best, yc_X9_best⟩ yd_X9_best rfl rfl hl.1 (Nat.le_of_ble_eq_true rfl) ⟨by decide, by decide⟩ hcs dL_law_1051 (fun rT N1 H locs hpT hw => ?_)
  refine lv_pop hx hb dL_law_1054 rfl ?_
  refine lv_aload_n hx hb dL_law_1055 rfl (lv_at hl 2 rfl) ?_
  refine lv_aload_n hx hb dL_law_1056 rfl (lv_at hl 4 rfl) ?_
  refine lv_iload hx hb dL_law_1057 (lv_at hl 0 rfl) ?_
  refine lv_iconst (v := 1) hx hb dL_law_1059 (by decide) ?_
  refine lv_iadd hx hb dL_law_1060 ?_
  refine va_sld (i := iv + 1) hx hb Z.2.2.1 Z.2.2.2.1 hbA hw.2.2.1 (lq_in hi hL (by decide) (by decide)) dL_law_1061 ?_
  refine lv_aload_n hx hb dL_law_1062 rfl (lv_at hl 4 rfl) ?_
  refine lv_iload hx hb dL_law_1063 (lv_at hl 0 rfl) ?_
  refine lv_iconst (v := 2) hx hb dL_law_1065 (by decide) ?_
  refine lv_iadd hx hb dL_law_1066 ?_
  refine va_sld (i := iv + 2) hx hb Z.2.2.1 Z.2.2.2.1 hbA hw.2.2.1 (lq_in hi hL (by decide) (by decide)) dL_law_1067 ?_
  refine lv_aload_n hx hb dL_law_1068 rfl (lv_at hl 4 rfl) ?_
  refine lv_iload hx hb dL_law_1069 (lv_at hl 0 rfl) ?_
  refine lv_iconst (v := 3) hx hb dL_law_1071 (by decide) ?_
  refine lv_iadd hx hb dL_law_1072 ?_
  refine va_sld (i := iv + 3) hx hb Z.2.2.1 Z.2.2.2.1 hbA hw.2.2.1 (lq_in hi hL (by decide) (by decide)) dL_law_1073 ?_
  refine lv_aload_n hx hb dL_law_1074 rfl (lv_at hl 4 rfl) ?_
  refine lv_iload hx hb dL_law_1075 (lv_at hl 0 rfl) ?_
  refine lv_iconst (v := 4) hx hb dL_law_1077 (by decide) ?_
  refine lv_iadd hx hb dL_law_1078 ?_
  refine va_sld (i := iv + 4) hx hb Z.2.2.1 Z.2.2.2.1 hbA hw.2.2.1 (lq_in hi hL (by decide) (by decide)) dL_law_1079 ?_
  refine lq_callMi (av := [.int (xs (iv + 1 : Int32).toNatClampNeg), .int (xs (iv + 2 : Int32).toNatClampNeg), .int (xs (iv + 3 : Int32).toNatClampNeg), .int (xs (iv + 4 : Int32).toNatClampNeg)]) C hA hw (f_X10_best l D A2 cy hA.2.1 M2 hF2.1 hF2 (xs (iv + 1 : Int32).toNatClampNeg) (xs (iv + 2 : Int32).toNatClampNeg) (xs (iv + 3 : Int32).toNatClampNeg) (xs (iv + 4 : Int32).toNatClampNeg)) ⟨ml_L_127, ym_X10_best, yv_X10_best, yi_X10_best, yc_X10_best⟩ yd_X10_best rfl rfl hl.1 (Nat.le_of_ble_eq_true rfl) ⟨by decide, by decide⟩ hcs dL_law_1080 (fun rM N2 H locs hpM hw => ?_)
  refine lv_pop hx hb dL_law_1083 rfl ?_
  refine lv_goto (tgt := 1521) hx hb dL_law_1084 (by decide) ?_
  exact kk N1 N2 H locs ls hw ⟨Tc, Tm, hpT.2.2.1, hpM.2.1, hpT.2.2.2.1.trans (hE0.trans (show tI N2 60 2 = tI M2 60 2 from hpM.2.2.1).symm), (fun i hi => hB0 i (by rw [← hpT.2.2.2.1]; exact hi)), (congrArg Int32.toInt (hpT.2.2.2.2.1 1 4 (by decide) (by decide))).trans hR.1, (congrArg Int32.toInt (hpT.2.2.2.2.1 1 5 (by decide) (by decide))).trans hR.2, hS1, hS2, rg, tdC_tl htd1 hpT.2.2.2.2, tdR_lw htd2 hpM.2.2.2, lE_obs hle hpT.1 hpT.2.1 hpM.1.1 (fun q => hpM.1.2.trans q) hpM.2.2.2⟩ hl
set_option maxRecDepth 100000 in
theorem lq_c24 {p : Program} {l : Launch} {e : Env} {s : State} {m : MethodId} {below : List Frame} {meth : Method} {c : Code} {D : va_G} {cy : Nat → ClassId} {A1 A2 : Nat → Nat → Nat} {M1 M2 : ti_M} {b q3 L cells slots : Nat} {iv : Int32} {xs : Nat → Int32} {H : Heap} {locs : List Loc} {ls : Array Slot} (Z : lq_Z p s m meth c D cy A1 A2 b L xs) (hcs : cells ≤ room_1.cells ∧ slots ≤ room_1.slots) (hw : lq_H s D cy A1 A2 q3 M1 M2 H locs) (hI : lq_I M1 M2) (hi : 0 ≤ iv.toInt ∧ iv.toInt + 6 ≤ L) (hl : lv_has ls 7 [(4, .int iv), (3, .ref q3), (2, .ref (A2 60 0)), (1, .ref (A1 0 0)), (0, .ref b)]) (kk : ∀ (M1 M2 : ti_M) (H : Heap) (locs : List Loc) (ls : Array Slot), lq_H s D cy A1 A2 q3 M1 M2 H locs → lq_I M1 M2 → lv_has ls 7 [(4, .int iv), (3, .ref q3), (2, .ref (A2 60 0)), (1, .ref (A1 0 0)), (0, .ref b)] → W p l e room_1 s m #[Value.ref b] below meth c H locs cells slots (lw_Z below #[Value.ref b] s) (F0 m 1521 ls [])) : W p l e room_1 s m #[Value.ref b] below meth c H locs cells slots (lw_Z below #[Value.ref b] s) (F0 m 1087 ls []) := by
  have C := Z.1
  have hA := Z.2.1
  have hx := C.1
  have hb := C.2.1
  have hbA : ¬ lq_F s b := Nat.not_le.mpr Z.2.2.2.1
  have hL := Z.2.2.2.2.2.2.1
  have hE := Z.2.2.2.2.2.2.2
  obtain ⟨Tc, Tm, hF1, hF2, hE0, hB0, hR1, hR2, hS1, hS2, rg, htd1, htd2, hle⟩ := hI
  have hR := And.intro hR1 hR2
  have hS := And.intro hS1 hS2
  refine lv_aload_n hx hb dL_law_1087 rfl (lv_at hl 3 rfl) ?_
  refine lv_aload_n hx hb dL_law_1088 rfl (lv_at hl 4 rfl) ?_
  refine lv_iload hx hb dL_law_1089 (lv_at hl 0 rfl) ?_
  refine lv_iconst (v := 1) hx hb dL_law_1091 (by decide) ?_
  refine lv_iadd hx hb dL_law_1092 ?_
  refine va_sld (i := iv + 1) hx hb Z.2.2.1 Z.2.2.2.1 hbA hw.2.2.1 (lq_in hi hL (by decide) (by decide)) dL_law_1093 ?_
  refine lv_aload_n hx hb dL_law_1094 rfl (lv_at hl 4 rfl) ?_
  refine lv_iload hx hb dL_law_1095 (lv_at hl 0 rfl) ?_
  refine lv_iconst (v := 2) hx hb dL_law_1097 (by decide) ?_
  refine lv_iadd hx hb dL_law_1098 ?_
  refine va_sld (i := iv + 2) hx hb Z.2.2.1 Z.2.2.2.1 hbA hw.2.2.1 (lq_in hi hL (by decide) (by decide)) dL_law_1099 ?_
  refine lv_aload_n hx hb dL_law_1100 rfl (lv_at hl 4 rfl) ?_
  refine lv_iload hx hb dL_law_1101 (lv_at hl 0 rfl) ?_
  refine lv_iconst (v := 3) hx hb dL_law_1103 (by decide) ?_
  refine lv_iadd hx hb dL_law_1104 ?_
  refine va_sld (i := iv + 3) hx hb Z.2.2.1 Z.2.2.2.1 hbA hw.2.2.1 (lq_in hi hL (by decide) (by decide)) dL_law_1105 ?_
  refine lq_callTi (av := [.int (xs (iv + 1 : Int32).toNatClampNeg), .int (xs (iv + 2 : Int32).toNatClampNeg), .int (xs (iv + 3 : Int32).toNatClampNeg)]) C hA hw (f_X9_fairest l D A1 cy hA.1 M1 hF1.1 hF1 (xs (iv + 1 : Int32).toNatClampNeg) (xs (iv + 2 : Int32).toNatClampNeg) (xs (iv + 3 : Int32).toNatClampNeg)) ⟨ml_L_128, ym_X9_fairest, yv_X9_fairest, yi_X9_fairest, yc_X9_fairest⟩ yd_X9_fairest rfl rfl hl.1 (Nat.le_of_ble_eq_true rfl) ⟨by decide, by decide⟩ hcs dL_law_1106 (fun rT N1 H locs hpT hw => ?_)
  refine lv_pop hx hb dL_law_1109 rfl ?_
  refine lv_aload_n hx hb dL_law_1110 rfl (lv_at hl 2 rfl) ?_
  refine lv_aload_n hx hb dL_law_1111 rfl (lv_at hl 4 rfl) ?_
  refine lv_iload hx hb dL_law_1112 (lv_at hl 0 rfl) ?_
  refine lv_iconst (v := 1) hx hb dL_law_1114 (by decide) ?_
  refine lv_iadd hx hb dL_law_1115 ?_
  refine va_sld (i := iv + 1) hx hb Z.2.2.1 Z.2.2.2.1 hbA hw.2.2.1 (lq_in hi hL (by decide) (by decide)) dL_law_1116 ?_
  refine lv_aload_n hx hb dL_law_1117 rfl (lv_at hl 4 rfl) ?_
  refine lv_iload hx hb dL_law_1118 (lv_at hl 0 rfl) ?_
  refine lv_iconst (v := 2) hx hb dL_law_1120 (by decide) ?_
  refine lv_iadd hx hb dL_law_1121 ?_
  refine va_sld (i := iv + 2) hx hb Z.2.2.1 Z.2.2.2.1 hbA hw.2.2.1 (lq_in hi hL (by decide) (by decide)) dL_law_1122 ?_
  refine lv_aload_n hx hb dL_law_1123 rfl (lv_at hl 4 rfl) ?_
  refine lv_iload hx hb dL_law_1124 (lv_at hl 0 rfl) ?_
  refine lv_iconst (v := 3) hx hb dL_law_1126 (by decide) ?_
  refine lv_iadd hx hb dL_law_1127 ?_
  refine va_sld (i := iv + 3) hx hb Z.2.2.1 Z.2.2.2.1 hbA hw.2.2.1 (lq_in hi hL (by decide) (by decide)) dL_law_1128 ?_
  refine lq_callMi (av := [.int (xs (iv + 1 : Int32).toNatClampNeg), .int (xs (iv + 2 : Int32).toNatClampNeg), .int (xs (iv + 3 : Int32).toNatClampNeg)]) C hA hw (f_X10_fairest l D A2 cy hA.2.1 M2 hF2.1 hF2 (xs (iv + 1 : Int32).toNatClampNeg) (xs (iv + 2 : Int32).toNatClampNeg) (xs (iv + 3 : Int32).toNatClampNeg)) ⟨ml_L_131, ym_X10_fairest, yv_X10_fairest, yi_X10_fairest, yc_X10_fairest⟩ yd_X10_fairest rfl rfl hl.1 (Nat.le_of_ble_eq_true rfl) ⟨by decide, by decide⟩ hcs dL_law_1129 (fun rM N2 H locs hpM hw => ?_)
  refine lv_pop hx hb dL_law_1132 rfl ?_
  refine lv_goto (tgt := 1521) hx hb dL_law_1133 (by decide) ?_
  exact kk N1 N2 H locs ls hw ⟨Tc, Tm, hpT.2.2.1, hpM.2.1, hpT.2.2.2.1.trans (hE0.trans (show tI N2 60 2 = tI M2 60 2 from hpM.2.2.1).symm), (fun i hi => hB0 i (by rw [← hpT.2.2.2.1]; exact hi)), (congrArg Int32.toInt (hpT.2.2.2.2.1 1 4 (by decide) (by decide))).trans hR.1, (congrArg Int32.toInt (hpT.2.2.2.2.1 1 5 (by decide) (by decide))).trans hR.2, hS1, hS2, rg, tdC_tl htd1 hpT.2.2.2.2, tdR_lw htd2 hpM.2.2.2, lE_obs hle hpT.1 hpT.2.1 hpM.1.1 (fun q => hpM.1.2.trans q) hpM.2.2.2⟩ hl
set_option maxRecDepth 100000 in
theorem lq_c25 {p : Program} {l : Launch} {e : Env} {s : State} {m : MethodId} {below : List Frame} {meth : Method} {c : Code} {D : va_G} {cy : Nat → ClassId} {A1 A2 : Nat → Nat → Nat} {M1 M2 : ti_M} {b q3 L cells slots : Nat} {iv : Int32} {xs : Nat → Int32} {H : Heap} {locs : List Loc} {ls : Array Slot} (Z : lq_Z p s m meth c D cy A1 A2 b L xs) (hcs : cells ≤ room_1.cells ∧ slots ≤ room_1.slots) (hw : lq_H s D cy A1 A2 q3 M1 M2 H locs) (hI : lq_I M1 M2) (hi : 0 ≤ iv.toInt ∧ iv.toInt + 6 ≤ L) (hl : lv_has ls 7 [(4, .int iv), (3, .ref q3), (2, .ref (A2 60 0)), (1, .ref (A1 0 0)), (0, .ref b)]) (kk : ∀ (M1 M2 : ti_M) (H : Heap) (locs : List Loc) (ls : Array Slot), lq_H s D cy A1 A2 q3 M1 M2 H locs → lq_I M1 M2 → lv_has ls 7 [(4, .int iv), (3, .ref q3), (2, .ref (A2 60 0)), (1, .ref (A1 0 0)), (0, .ref b)] → W p l e room_1 s m #[Value.ref b] below meth c H locs cells slots (lw_Z below #[Value.ref b] s) (F0 m 1521 ls [])) : W p l e room_1 s m #[Value.ref b] below meth c H locs cells slots (lw_Z below #[Value.ref b] s) (F0 m 1136 ls []) := by
  have C := Z.1
  have hA := Z.2.1
  have hx := C.1
  have hb := C.2.1
  have hbA : ¬ lq_F s b := Nat.not_le.mpr Z.2.2.2.1
  have hL := Z.2.2.2.2.2.2.1
  have hE := Z.2.2.2.2.2.2.2
  obtain ⟨Tc, Tm, hF1, hF2, hE0, hB0, hR1, hR2, hS1, hS2, rg, htd1, htd2, hle⟩ := hI
  have hR := And.intro hR1 hR2
  have hS := And.intro hS1 hS2
  refine lv_aload_n hx hb dL_law_1136 rfl (lv_at hl 3 rfl) ?_
  refine lv_aload_n hx hb dL_law_1137 rfl (lv_at hl 4 rfl) ?_
  refine lv_iload hx hb dL_law_1138 (lv_at hl 0 rfl) ?_
  refine lv_iconst (v := 1) hx hb dL_law_1140 (by decide) ?_
  refine lv_iadd hx hb dL_law_1141 ?_
  refine va_sld (i := iv + 1) hx hb Z.2.2.1 Z.2.2.2.1 hbA hw.2.2.1 (lq_in hi hL (by decide) (by decide)) dL_law_1142 ?_
  refine lv_aload_n hx hb dL_law_1143 rfl (lv_at hl 4 rfl) ?_
  refine lv_iload hx hb dL_law_1144 (lv_at hl 0 rfl) ?_
  refine lv_iconst (v := 2) hx hb dL_law_1146 (by decide) ?_
  refine lv_iadd hx hb dL_law_1147 ?_
  refine va_sld (i := iv + 2) hx hb Z.2.2.1 Z.2.2.2.1 hbA hw.2.2.1 (lq_in hi hL (by decide) (by decide)) dL_law_1148 ?_
  refine lq_callTi (av := [.int (xs (iv + 1 : Int32).toNatClampNeg), .int (xs (iv + 2 : Int32).toNatClampNeg)]) C hA hw (f_X9_gain l D A1 cy hA.1 M1 hF1.1 hF1 (xs (iv + 1 : Int32).toNatClampNeg) (xs (iv + 2 : Int32).toNatClampNeg)) ⟨ml_L_132, ym_X9_gain, yv_X9_gain, yi_X9_gain, yc_X9_gain⟩ yd_X9_gain rfl rfl hl.1 (Nat.le_of_ble_eq_true rfl) ⟨by decide, by decide⟩ hcs dL_law_1149 (fun rT N1 H locs hpT hw => ?_)
  refine lv_pop hx hb dL_law_1152 rfl ?_
  refine lv_aload_n hx hb dL_law_1153 rfl (lv_at hl 2 rfl) ?_
  refine lv_aload_n hx hb dL_law_1154 rfl (lv_at hl 4 rfl) ?_
  refine lv_iload hx hb dL_law_1155 (lv_at hl 0 rfl) ?_
  refine lv_iconst (v := 1) hx hb dL_law_1157 (by decide) ?_
  refine lv_iadd hx hb dL_law_1158 ?_
  refine va_sld (i := iv + 1) hx hb Z.2.2.1 Z.2.2.2.1 hbA hw.2.2.1 (lq_in hi hL (by decide) (by decide)) dL_law_1159 ?_
  refine lv_aload_n hx hb dL_law_1160 rfl (lv_at hl 4 rfl) ?_
  refine lv_iload hx hb dL_law_1161 (lv_at hl 0 rfl) ?_
  refine lv_iconst (v := 2) hx hb dL_law_1163 (by decide) ?_
  refine lv_iadd hx hb dL_law_1164 ?_
  refine va_sld (i := iv + 2) hx hb Z.2.2.1 Z.2.2.2.1 hbA hw.2.2.1 (lq_in hi hL (by decide) (by decide)) dL_law_1165 ?_
  refine lq_callMi (av := [.int (xs (iv + 1 : Int32).toNatClampNeg), .int (xs (iv + 2 : Int32).toNatClampNeg)]) C hA hw (f_X10_gain l D A2 cy hA.2.1 M2 hF2.1 hF2 (xs (iv + 1 : Int32).toNatClampNeg) (xs (iv + 2 : Int32).toNatClampNeg)) ⟨ml_L_135, ym_X10_gain, yv_X10_gain, yi_X10_gain, yc_X10_gain⟩ yd_X10_gain rfl rfl hl.1 (Nat.le_of_ble_eq_true rfl) ⟨by decide, by decide⟩ hcs dL_law_1166 (fun rM N2 H locs hpM hw => ?_)
  refine lv_pop hx hb dL_law_1169 rfl ?_
  refine lv_goto (tgt := 1521) hx hb dL_law_1170 (by decide) ?_
  exact kk N1 N2 H locs ls hw ⟨Tc, Tm, hpT.2.2.1, hpM.2.1, hpT.2.2.2.1.trans (hE0.trans (show tI N2 60 2 = tI M2 60 2 from hpM.2.2.1).symm), (fun i hi => hB0 i (by rw [← hpT.2.2.2.1]; exact hi)), (congrArg Int32.toInt (hpT.2.2.2.2.1 1 4 (by decide) (by decide))).trans hR.1, (congrArg Int32.toInt (hpT.2.2.2.2.1 1 5 (by decide) (by decide))).trans hR.2, hS1, hS2, rg, tdC_tl htd1 hpT.2.2.2.2, tdR_lw htd2 hpM.2.2.2, lE_obs hle hpT.1 hpT.2.1 hpM.1.1 (fun q => hpM.1.2.trans q) hpM.2.2.2⟩ hl
set_option maxRecDepth 100000 in
theorem lq_c26 {p : Program} {l : Launch} {e : Env} {s : State} {m : MethodId} {below : List Frame} {meth : Method} {c : Code} {D : va_G} {cy : Nat → ClassId} {A1 A2 : Nat → Nat → Nat} {M1 M2 : ti_M} {b q3 L cells slots : Nat} {iv : Int32} {xs : Nat → Int32} {H : Heap} {locs : List Loc} {ls : Array Slot} (Z : lq_Z p s m meth c D cy A1 A2 b L xs) (hcs : cells ≤ room_1.cells ∧ slots ≤ room_1.slots) (hw : lq_H s D cy A1 A2 q3 M1 M2 H locs) (hI : lq_I M1 M2) (hi : 0 ≤ iv.toInt ∧ iv.toInt + 6 ≤ L) (hl : lv_has ls 7 [(4, .int iv), (3, .ref q3), (2, .ref (A2 60 0)), (1, .ref (A1 0 0)), (0, .ref b)]) (kk : ∀ (M1 M2 : ti_M) (H : Heap) (locs : List Loc) (ls : Array Slot), lq_H s D cy A1 A2 q3 M1 M2 H locs → lq_I M1 M2 → lv_has ls 7 [(4, .int iv), (3, .ref q3), (2, .ref (A2 60 0)), (1, .ref (A1 0 0)), (0, .ref b)] → W p l e room_1 s m #[Value.ref b] below meth c H locs cells slots (lw_Z below #[Value.ref b] s) (F0 m 1521 ls [])) : W p l e room_1 s m #[Value.ref b] below meth c H locs cells slots (lw_Z below #[Value.ref b] s) (F0 m 1173 ls []) := by
  have C := Z.1
  have hA := Z.2.1
  have hx := C.1
  have hb := C.2.1
  have hbA : ¬ lq_F s b := Nat.not_le.mpr Z.2.2.2.1
  have hL := Z.2.2.2.2.2.2.1
  have hE := Z.2.2.2.2.2.2.2
  obtain ⟨Tc, Tm, hF1, hF2, hE0, hB0, hR1, hR2, hS1, hS2, rg, htd1, htd2, hle⟩ := hI
  have hR := And.intro hR1 hR2
  have hS := And.intro hS1 hS2
  refine lv_aload_n hx hb dL_law_1173 rfl (lv_at hl 3 rfl) ?_
  refine lv_aload_n hx hb dL_law_1174 rfl (lv_at hl 4 rfl) ?_
  refine lv_iload hx hb dL_law_1175 (lv_at hl 0 rfl) ?_
  refine lv_iconst (v := 1) hx hb dL_law_1177 (by decide) ?_
  refine lv_iadd hx hb dL_law_1178 ?_
  refine va_sld (i := iv + 1) hx hb Z.2.2.1 Z.2.2.2.1 hbA hw.2.2.1 (lq_in hi hL (by decide) (by decide)) dL_law_1179 ?_
  refine lv_aload_n hx hb dL_law_1180 rfl (lv_at hl 4 rfl) ?_
  refine lv_iload hx hb dL_law_1181 (lv_at hl 0 rfl) ?_
  refine lv_iconst (v := 2) hx hb dL_law_1183 (by decide) ?_
  refine lv_iadd hx hb dL_law_1184 ?_
  refine va_sld (i := iv + 2) hx hb Z.2.2.1 Z.2.2.2.1 hbA hw.2.2.1 (lq_in hi hL (by decide) (by decide)) dL_law_1185 ?_
  refine lv_aload_n hx hb dL_law_1186 rfl (lv_at hl 4 rfl) ?_
  refine lv_iload hx hb dL_law_1187 (lv_at hl 0 rfl) ?_
  refine lv_iconst (v := 3) hx hb dL_law_1189 (by decide) ?_
  refine lv_iadd hx hb dL_law_1190 ?_
  refine va_sld (i := iv + 3) hx hb Z.2.2.1 Z.2.2.2.1 hbA hw.2.2.1 (lq_in hi hL (by decide) (by decide)) dL_law_1191 ?_
  refine lq_callTi (av := [.int (xs (iv + 1 : Int32).toNatClampNeg), .int (xs (iv + 2 : Int32).toNatClampNeg), .int (xs (iv + 3 : Int32).toNatClampNeg)]) C hA hw (w_X9_stone l D A1 cy hA.1 M1 hF1.1 hF1 (xs (iv + 1 : Int32).toNatClampNeg) (xs (iv + 2 : Int32).toNatClampNeg) (xs (iv + 3 : Int32).toNatClampNeg) rg htd1) ⟨ml_L_136, ym_X9_stone, yv_X9_stone, yi_X9_stone, yc_X9_stone⟩ yd_X9_stone rfl rfl hl.1 (Nat.le_of_ble_eq_true rfl) ⟨by decide, by decide⟩ hcs dL_law_1192 (fun rT N1 H locs hpT hw => ?_)
  refine lv_pop hx hb dL_law_1195 rfl ?_
  refine lv_aload_n hx hb dL_law_1196 rfl (lv_at hl 2 rfl) ?_
  refine lv_aload_n hx hb dL_law_1197 rfl (lv_at hl 4 rfl) ?_
  refine lv_iload hx hb dL_law_1198 (lv_at hl 0 rfl) ?_
  refine lv_iconst (v := 1) hx hb dL_law_1200 (by decide) ?_
  refine lv_iadd hx hb dL_law_1201 ?_
  refine va_sld (i := iv + 1) hx hb Z.2.2.1 Z.2.2.2.1 hbA hw.2.2.1 (lq_in hi hL (by decide) (by decide)) dL_law_1202 ?_
  refine lv_aload_n hx hb dL_law_1203 rfl (lv_at hl 4 rfl) ?_
  refine lv_iload hx hb dL_law_1204 (lv_at hl 0 rfl) ?_
  refine lv_iconst (v := 2) hx hb dL_law_1206 (by decide) ?_
  refine lv_iadd hx hb dL_law_1207 ?_
  refine va_sld (i := iv + 2) hx hb Z.2.2.1 Z.2.2.2.1 hbA hw.2.2.1 (lq_in hi hL (by decide) (by decide)) dL_law_1208 ?_
  refine lv_aload_n hx hb dL_law_1209 rfl (lv_at hl 4 rfl) ?_
  refine lv_iload hx hb dL_law_1210 (lv_at hl 0 rfl) ?_
  refine lv_iconst (v := 3) hx hb dL_law_1212 (by decide) ?_
  refine lv_iadd hx hb dL_law_1213 ?_
  refine va_sld (i := iv + 3) hx hb Z.2.2.1 Z.2.2.2.1 hbA hw.2.2.1 (lq_in hi hL (by decide) (by decide)) dL_law_1214 ?_
  refine lq_callMi (av := [.int (xs (iv + 1 : Int32).toNatClampNeg), .int (xs (iv + 2 : Int32).toNatClampNeg), .int (xs (iv + 3 : Int32).toNatClampNeg)]) C hA hw (w_X10_stone l D A2 cy hA.2.1 M2 hF2.1 hF2 (xs (iv + 1 : Int32).toNatClampNeg) (xs (iv + 2 : Int32).toNatClampNeg) (xs (iv + 3 : Int32).toNatClampNeg) rg htd2) ⟨ml_L_139, ym_X10_stone, yv_X10_stone, yi_X10_stone, yc_X10_stone⟩ yd_X10_stone rfl rfl hl.1 (Nat.le_of_ble_eq_true rfl) ⟨by decide, by decide⟩ hcs dL_law_1215 (fun rM N2 H locs hpM hw => ?_)
  refine lv_pop hx hb dL_law_1218 rfl ?_
  have hC5 : (tI M1 50 5).toInt = (tI M2 60 58).toInt := (congrArg (fun t => Int32.toInt t.2.1) hF1.1.2.2).trans (hS1.trans (congrArg (fun t => Int32.toInt t.2.2.2.1) hF2.1.2.2.2).symm)
  have hC6 : (tI M1 50 6).toInt = (tI M2 60 59).toInt := (congrArg (fun t => Int32.toInt t.2.2.1) hF1.1.2.2).trans (hS2.trans (congrArg (fun t => Int32.toInt t.2.2.2.2.1) hF2.1.2.2.2).symm)
  have q := lq_st hF1 hF2 hE0 hB0 hR hS htd1 htd2 (by rw [hC5]) (fun g o w => ⟨hC5, g.2.2.1.trans ((congrArg (· + 1) hC5).trans o.2.1.symm), (congrArg Int32.toInt g.2.2.2).trans (hC6.trans (congrArg Int32.toInt o.2.2).symm), lE_eo hle g.1 (Or.inr rfl) g.2.1 o.1 w⟩) hle hpT hpM
  refine lv_goto (tgt := 1521) hx hb dL_law_1219 (by decide) ?_
  exact kk N1 N2 H locs ls hw q.2 hl
set_option maxRecDepth 100000 in
theorem lq_c27 {p : Program} {l : Launch} {e : Env} {s : State} {m : MethodId} {below : List Frame} {meth : Method} {c : Code} {D : va_G} {cy : Nat → ClassId} {A1 A2 : Nat → Nat → Nat} {M1 M2 : ti_M} {b q3 L cells slots : Nat} {iv : Int32} {xs : Nat → Int32} {H : Heap} {locs : List Loc} {ls : Array Slot} (Z : lq_Z p s m meth c D cy A1 A2 b L xs) (hcs : cells ≤ room_1.cells ∧ slots ≤ room_1.slots) (hw : lq_H s D cy A1 A2 q3 M1 M2 H locs) (hI : lq_I M1 M2) (hi : 0 ≤ iv.toInt ∧ iv.toInt + 6 ≤ L) (hl : lv_has ls 7 [(4, .int iv), (3, .ref q3), (2, .ref (A2 60 0)), (1, .ref (A1 0 0)), (0, .ref b)]) (kk : ∀ (M1 M2 : ti_M) (H : Heap) (locs : List Loc) (ls : Array Slot), lq_H s D cy A1 A2 q3 M1 M2 H locs → lq_I M1 M2 → lv_has ls 7 [(4, .int iv), (3, .ref q3), (2, .ref (A2 60 0)), (1, .ref (A1 0 0)), (0, .ref b)] → W p l e room_1 s m #[Value.ref b] below meth c H locs cells slots (lw_Z below #[Value.ref b] s) (F0 m 1521 ls [])) : W p l e room_1 s m #[Value.ref b] below meth c H locs cells slots (lw_Z below #[Value.ref b] s) (F0 m 1222 ls []) := by
  have C := Z.1
  have hA := Z.2.1
  have hx := C.1
  have hb := C.2.1
  have hbA : ¬ lq_F s b := Nat.not_le.mpr Z.2.2.2.1
  have hL := Z.2.2.2.2.2.2.1
  have hE := Z.2.2.2.2.2.2.2
  obtain ⟨Tc, Tm, hF1, hF2, hE0, hB0, hR1, hR2, hS1, hS2, rg, htd1, htd2, hle⟩ := hI
  have hR := And.intro hR1 hR2
  have hS := And.intro hS1 hS2
  refine lv_aload_n hx hb dL_law_1222 rfl (lv_at hl 3 rfl) ?_
  refine lv_aload_n hx hb dL_law_1223 rfl (lv_at hl 4 rfl) ?_
  refine lv_iload hx hb dL_law_1224 (lv_at hl 0 rfl) ?_
  refine lv_iconst (v := 1) hx hb dL_law_1226 (by decide) ?_
  refine lv_iadd hx hb dL_law_1227 ?_
  refine va_sld (i := iv + 1) hx hb Z.2.2.1 Z.2.2.2.1 hbA hw.2.2.1 (lq_in hi hL (by decide) (by decide)) dL_law_1228 ?_
  refine lq_callTi (av := [.int (xs (iv + 1 : Int32).toNatClampNeg)]) C hA hw (w_X9_strike l D A1 cy hA.1 M1 hF1.1 hF1 (xs (iv + 1 : Int32).toNatClampNeg) rg htd1) ⟨ml_L_140, ym_X9_strike, yv_X9_strike, yi_X9_strike, yc_X9_strike⟩ yd_X9_strike rfl rfl hl.1 (Nat.le_of_ble_eq_true rfl) ⟨by decide, by decide⟩ hcs dL_law_1229 (fun rT N1 H locs hpT hw => ?_)
  refine lv_pop hx hb dL_law_1232 rfl ?_
  refine lv_aload_n hx hb dL_law_1233 rfl (lv_at hl 2 rfl) ?_
  refine lv_aload_n hx hb dL_law_1234 rfl (lv_at hl 4 rfl) ?_
  refine lv_iload hx hb dL_law_1235 (lv_at hl 0 rfl) ?_
  refine lv_iconst (v := 1) hx hb dL_law_1237 (by decide) ?_
  refine lv_iadd hx hb dL_law_1238 ?_
  refine va_sld (i := iv + 1) hx hb Z.2.2.1 Z.2.2.2.1 hbA hw.2.2.1 (lq_in hi hL (by decide) (by decide)) dL_law_1239 ?_
  refine lq_callMi (av := [.int (xs (iv + 1 : Int32).toNatClampNeg)]) C hA hw (w_X10_strike l D A2 cy hA.2.1 M2 hF2.1 hF2 (xs (iv + 1 : Int32).toNatClampNeg) rg htd2) ⟨ml_L_143, ym_X10_strike, yv_X10_strike, yi_X10_strike, yc_X10_strike⟩ yd_X10_strike rfl rfl hl.1 (Nat.le_of_ble_eq_true rfl) ⟨by decide, by decide⟩ hcs dL_law_1240 (fun rM N2 H locs hpM hw => ?_)
  refine lv_pop hx hb dL_law_1243 rfl ?_
  have hC5 : (tI M1 50 5).toInt = (tI M2 60 58).toInt := (congrArg (fun t => Int32.toInt t.2.1) hF1.1.2.2).trans (hS1.trans (congrArg (fun t => Int32.toInt t.2.2.2.1) hF2.1.2.2.2).symm)
  have hC6 : (tI M1 50 6).toInt = (tI M2 60 59).toInt := (congrArg (fun t => Int32.toInt t.2.2.1) hF1.1.2.2).trans (hS2.trans (congrArg (fun t => Int32.toInt t.2.2.2.2.1) hF2.1.2.2.2).symm)
  have q := lq_st hF1 hF2 hE0 hB0 hR hS htd1 htd2 (by rw [hC5]) (fun g o w => ⟨hC5, g.2.2.1.trans ((congrArg (· + 1) hC5).trans o.2.1.symm), (congrArg Int32.toInt g.2.2.2).trans (hC6.trans (congrArg Int32.toInt o.2.2).symm), lE_eo hle g.1 (Or.inr rfl) g.2.1 o.1 w⟩) hle hpT hpM
  refine lv_goto (tgt := 1521) hx hb dL_law_1244 (by decide) ?_
  exact kk N1 N2 H locs ls hw q.2 hl
set_option maxRecDepth 100000 in
theorem lq_c28 {p : Program} {l : Launch} {e : Env} {s : State} {m : MethodId} {below : List Frame} {meth : Method} {c : Code} {D : va_G} {cy : Nat → ClassId} {A1 A2 : Nat → Nat → Nat} {M1 M2 : ti_M} {b q3 L cells slots : Nat} {iv : Int32} {xs : Nat → Int32} {H : Heap} {locs : List Loc} {ls : Array Slot} (Z : lq_Z p s m meth c D cy A1 A2 b L xs) (hcs : cells ≤ room_1.cells ∧ slots ≤ room_1.slots) (hw : lq_H s D cy A1 A2 q3 M1 M2 H locs) (hI : lq_I M1 M2) (hi : 0 ≤ iv.toInt ∧ iv.toInt + 6 ≤ L) (hl : lv_has ls 7 [(4, .int iv), (3, .ref q3), (2, .ref (A2 60 0)), (1, .ref (A1 0 0)), (0, .ref b)]) (kk : ∀ (M1 M2 : ti_M) (H : Heap) (locs : List Loc) (ls : Array Slot), lq_H s D cy A1 A2 q3 M1 M2 H locs → lq_I M1 M2 → lv_has ls 7 [(4, .int iv), (3, .ref q3), (2, .ref (A2 60 0)), (1, .ref (A1 0 0)), (0, .ref b)] → W p l e room_1 s m #[Value.ref b] below meth c H locs cells slots (lw_Z below #[Value.ref b] s) (F0 m 1521 ls [])) : W p l e room_1 s m #[Value.ref b] below meth c H locs cells slots (lw_Z below #[Value.ref b] s) (F0 m 1247 ls []) := by
  have C := Z.1
  have hA := Z.2.1
  have hx := C.1
  have hb := C.2.1
  have hbA : ¬ lq_F s b := Nat.not_le.mpr Z.2.2.2.1
  have hL := Z.2.2.2.2.2.2.1
  have hE := Z.2.2.2.2.2.2.2
  obtain ⟨Tc, Tm, hF1, hF2, hE0, hB0, hR1, hR2, hS1, hS2, rg, htd1, htd2, hle⟩ := hI
  have hR := And.intro hR1 hR2
  have hS := And.intro hS1 hS2
  refine lv_aload_n hx hb dL_law_1247 rfl (lv_at hl 3 rfl) ?_
  refine lv_aload_n hx hb dL_law_1248 rfl (lv_at hl 4 rfl) ?_
  refine lv_iload hx hb dL_law_1249 (lv_at hl 0 rfl) ?_
  refine lv_iconst (v := 1) hx hb dL_law_1251 (by decide) ?_
  refine lv_iadd hx hb dL_law_1252 ?_
  refine va_sld (i := iv + 1) hx hb Z.2.2.1 Z.2.2.2.1 hbA hw.2.2.1 (lq_in hi hL (by decide) (by decide)) dL_law_1253 ?_
  refine lq_callTi (av := [.int (xs (iv + 1 : Int32).toNatClampNeg)]) C hA hw (w_X9_known l D A1 cy hA.1 M1 hF1.1 hF1 (xs (iv + 1 : Int32).toNatClampNeg) rg htd1) ⟨ml_L_144, ym_X9_known, yv_X9_known, yi_X9_known, yc_X9_known⟩ yd_X9_known rfl rfl hl.1 (Nat.le_of_ble_eq_true rfl) ⟨by decide, by decide⟩ hcs dL_law_1254 (fun rT N1 H locs hpT hw => ?_)
  refine lv_pop hx hb dL_law_1257 rfl ?_
  refine lv_aload_n hx hb dL_law_1258 rfl (lv_at hl 2 rfl) ?_
  refine lv_aload_n hx hb dL_law_1259 rfl (lv_at hl 4 rfl) ?_
  refine lv_iload hx hb dL_law_1260 (lv_at hl 0 rfl) ?_
  refine lv_iconst (v := 1) hx hb dL_law_1262 (by decide) ?_
  refine lv_iadd hx hb dL_law_1263 ?_
  refine va_sld (i := iv + 1) hx hb Z.2.2.1 Z.2.2.2.1 hbA hw.2.2.1 (lq_in hi hL (by decide) (by decide)) dL_law_1264 ?_
  refine lq_callMi (av := [.int (xs (iv + 1 : Int32).toNatClampNeg)]) C hA hw (w_X10_known l D A2 cy hA.2.1 M2 hF2.1 hF2 (xs (iv + 1 : Int32).toNatClampNeg) rg htd2) ⟨ml_L_147, ym_X10_known, yv_X10_known, yi_X10_known, yc_X10_known⟩ yd_X10_known rfl rfl hl.1 (Nat.le_of_ble_eq_true rfl) ⟨by decide, by decide⟩ hcs dL_law_1265 (fun rM N2 H locs hpM hw => ?_)
  refine lv_pop hx hb dL_law_1268 rfl ?_
  have hC5 : (tI M1 50 5).toInt = (tI M2 60 58).toInt := (congrArg (fun t => Int32.toInt t.2.1) hF1.1.2.2).trans (hS1.trans (congrArg (fun t => Int32.toInt t.2.2.2.1) hF2.1.2.2.2).symm)
  have hC6 : (tI M1 50 6).toInt = (tI M2 60 59).toInt := (congrArg (fun t => Int32.toInt t.2.2.1) hF1.1.2.2).trans (hS2.trans (congrArg (fun t => Int32.toInt t.2.2.2.2.1) hF2.1.2.2.2).symm)
  have q := lq_st hF1 hF2 hE0 hB0 hR hS htd1 htd2 (by rw [hC5]) (fun g o w => ⟨rfl, (congrArg Int32.toInt g.2.2.1).trans (hC5.trans (congrArg Int32.toInt o.2.1).symm), congrArg Int32.toInt (g.2.2.2.trans o.2.2.symm), lE_eo hle g.1 (Or.inr rfl) g.2.1 o.1 w⟩) hle hpT hpM
  refine lv_goto (tgt := 1521) hx hb dL_law_1269 (by decide) ?_
  exact kk N1 N2 H locs ls hw q.2 hl
set_option maxRecDepth 100000 in
theorem lq_c29 {p : Program} {l : Launch} {e : Env} {s : State} {m : MethodId} {below : List Frame} {meth : Method} {c : Code} {D : va_G} {cy : Nat → ClassId} {A1 A2 : Nat → Nat → Nat} {M1 M2 : ti_M} {b q3 L cells slots : Nat} {iv : Int32} {xs : Nat → Int32} {H : Heap} {locs : List Loc} {ls : Array Slot} (Z : lq_Z p s m meth c D cy A1 A2 b L xs) (hcs : cells ≤ room_1.cells ∧ slots ≤ room_1.slots) (hw : lq_H s D cy A1 A2 q3 M1 M2 H locs) (hI : lq_I M1 M2) (hi : 0 ≤ iv.toInt ∧ iv.toInt + 6 ≤ L) (hl : lv_has ls 7 [(4, .int iv), (3, .ref q3), (2, .ref (A2 60 0)), (1, .ref (A1 0 0)), (0, .ref b)]) (kk : ∀ (M1 M2 : ti_M) (H : Heap) (locs : List Loc) (ls : Array Slot), lq_H s D cy A1 A2 q3 M1 M2 H locs → lq_I M1 M2 → lv_has ls 7 [(4, .int iv), (3, .ref q3), (2, .ref (A2 60 0)), (1, .ref (A1 0 0)), (0, .ref b)] → W p l e room_1 s m #[Value.ref b] below meth c H locs cells slots (lw_Z below #[Value.ref b] s) (F0 m 1521 ls [])) : W p l e room_1 s m #[Value.ref b] below meth c H locs cells slots (lw_Z below #[Value.ref b] s) (F0 m 1272 ls []) := by
  have C := Z.1
  have hA := Z.2.1
  have hx := C.1
  have hb := C.2.1
  have hbA : ¬ lq_F s b := Nat.not_le.mpr Z.2.2.2.1
  have hL := Z.2.2.2.2.2.2.1
  have hE := Z.2.2.2.2.2.2.2
  obtain ⟨Tc, Tm, hF1, hF2, hE0, hB0, hR1, hR2, hS1, hS2, rg, htd1, htd2, hle⟩ := hI
  have hR := And.intro hR1 hR2
  have hS := And.intro hS1 hS2
  refine lv_aload_n hx hb dL_law_1272 rfl (lv_at hl 3 rfl) ?_
  refine lq_callTi (av := []) C hA hw (f_X9_came l D A1 cy hA.1 M1 hF1.1 hF1) ⟨ml_L_148, ym_X9_came, yv_X9_came, yi_X9_came, yc_X9_came⟩ yd_X9_came rfl rfl hl.1 (Nat.le_of_ble_eq_true rfl) ⟨by decide, by decide⟩ hcs dL_law_1273 (fun rT N1 H locs hpT hw => ?_)
  refine lv_pop hx hb dL_law_1276 rfl ?_
  refine lv_aload_n hx hb dL_law_1277 rfl (lv_at hl 2 rfl) ?_
  refine lq_callMi (av := []) C hA hw (f_X10_came l D A2 cy hA.2.1 M2 hF2.1 hF2) ⟨ml_L_151, ym_X10_came, yv_X10_came, yi_X10_came, yc_X10_came⟩ yd_X10_came rfl rfl hl.1 (Nat.le_of_ble_eq_true rfl) ⟨by decide, by decide⟩ hcs dL_law_1278 (fun rM N2 H locs hpM hw => ?_)
  refine lv_pop hx hb dL_law_1281 rfl ?_
  refine lv_goto (tgt := 1521) hx hb dL_law_1282 (by decide) ?_
  exact kk N1 N2 H locs ls hw ⟨Tc, Tm, hpT.2.2.1, hpM.2.1, hpT.2.2.2.1.trans (hE0.trans (show tI N2 60 2 = tI M2 60 2 from hpM.2.2.1).symm), (fun i hi => hB0 i (by rw [← hpT.2.2.2.1]; exact hi)), (congrArg Int32.toInt (hpT.2.2.2.2.1 1 4 (by decide) (by decide))).trans hR.1, (congrArg Int32.toInt (hpT.2.2.2.2.1 1 5 (by decide) (by decide))).trans hR.2, hS1, hS2, rg, tdC_tl htd1 hpT.2.2.2.2, tdR_lw htd2 hpM.2.2.2, lE_obs hle hpT.1 hpT.2.1 hpM.1.1 (fun q => hpM.1.2.trans q) hpM.2.2.2⟩ hl
set_option maxRecDepth 100000 in
theorem lq_c30 {p : Program} {l : Launch} {e : Env} {s : State} {m : MethodId} {below : List Frame} {meth : Method} {c : Code} {D : va_G} {cy : Nat → ClassId} {A1 A2 : Nat → Nat → Nat} {M1 M2 : ti_M} {b q3 L cells slots : Nat} {iv : Int32} {xs : Nat → Int32} {H : Heap} {locs : List Loc} {ls : Array Slot} (Z : lq_Z p s m meth c D cy A1 A2 b L xs) (hcs : cells ≤ room_1.cells ∧ slots ≤ room_1.slots) (hw : lq_H s D cy A1 A2 q3 M1 M2 H locs) (hI : lq_I M1 M2) (hi : 0 ≤ iv.toInt ∧ iv.toInt + 6 ≤ L) (hl : lv_has ls 7 [(4, .int iv), (3, .ref q3), (2, .ref (A2 60 0)), (1, .ref (A1 0 0)), (0, .ref b)]) (kk : ∀ (M1 M2 : ti_M) (H : Heap) (locs : List Loc) (ls : Array Slot), lq_H s D cy A1 A2 q3 M1 M2 H locs → lq_I M1 M2 → lv_has ls 7 [(4, .int iv), (3, .ref q3), (2, .ref (A2 60 0)), (1, .ref (A1 0 0)), (0, .ref b)] → W p l e room_1 s m #[Value.ref b] below meth c H locs cells slots (lw_Z below #[Value.ref b] s) (F0 m 1521 ls [])) : W p l e room_1 s m #[Value.ref b] below meth c H locs cells slots (lw_Z below #[Value.ref b] s) (F0 m 1285 ls []) := by
  have C := Z.1
  have hA := Z.2.1
  have hx := C.1
  have hb := C.2.1
  have hbA : ¬ lq_F s b := Nat.not_le.mpr Z.2.2.2.1
  have hL := Z.2.2.2.2.2.2.1
  have hE := Z.2.2.2.2.2.2.2
  obtain ⟨Tc, Tm, hF1, hF2, hE0, hB0, hR1, hR2, hS1, hS2, rg, htd1, htd2, hle⟩ := hI
  have hR := And.intro hR1 hR2
  have hS := And.intro hS1 hS2
  refine lv_aload_n hx hb dL_law_1285 rfl (lv_at hl 3 rfl) ?_
  refine lv_aload_n hx hb dL_law_1286 rfl (lv_at hl 4 rfl) ?_
  refine lv_iload hx hb dL_law_1287 (lv_at hl 0 rfl) ?_
  refine lv_iconst (v := 1) hx hb dL_law_1289 (by decide) ?_
  refine lv_iadd hx hb dL_law_1290 ?_
  refine va_sld (i := iv + 1) hx hb Z.2.2.1 Z.2.2.2.1 hbA hw.2.2.1 (lq_in hi hL (by decide) (by decide)) dL_law_1291 ?_
  refine lv_aload_n hx hb dL_law_1292 rfl (lv_at hl 4 rfl) ?_
  refine lv_iload hx hb dL_law_1293 (lv_at hl 0 rfl) ?_
  refine lv_iconst (v := 2) hx hb dL_law_1295 (by decide) ?_
  refine lv_iadd hx hb dL_law_1296 ?_
  refine va_sld (i := iv + 2) hx hb Z.2.2.1 Z.2.2.2.1 hbA hw.2.2.1 (lq_in hi hL (by decide) (by decide)) dL_law_1297 ?_
  refine lq_callTi (av := [.int (xs (iv + 1 : Int32).toNatClampNeg), .int (xs (iv + 2 : Int32).toNatClampNeg)]) C hA hw (f_X9_one l D A1 cy hA.1 M1 hF1.1 hF1 (xs (iv + 1 : Int32).toNatClampNeg) (xs (iv + 2 : Int32).toNatClampNeg)) ⟨ml_L_152, ym_X9_one, yv_X9_one, yi_X9_one, yc_X9_one⟩ yd_X9_one rfl rfl hl.1 (Nat.le_of_ble_eq_true rfl) ⟨by decide, by decide⟩ hcs dL_law_1298 (fun rT N1 H locs hpT hw => ?_)
  refine lv_pop hx hb dL_law_1301 rfl ?_
  refine lv_aload_n hx hb dL_law_1302 rfl (lv_at hl 2 rfl) ?_
  refine lv_aload_n hx hb dL_law_1303 rfl (lv_at hl 4 rfl) ?_
  refine lv_iload hx hb dL_law_1304 (lv_at hl 0 rfl) ?_
  refine lv_iconst (v := 1) hx hb dL_law_1306 (by decide) ?_
  refine lv_iadd hx hb dL_law_1307 ?_
  refine va_sld (i := iv + 1) hx hb Z.2.2.1 Z.2.2.2.1 hbA hw.2.2.1 (lq_in hi hL (by decide) (by decide)) dL_law_1308 ?_
  refine lv_aload_n hx hb dL_law_1309 rfl (lv_at hl 4 rfl) ?_
  refine lv_iload hx hb dL_law_1310 (lv_at hl 0 rfl) ?_
  refine lv_iconst (v := 2) hx hb dL_law_1312 (by decide) ?_
  refine lv_iadd hx hb dL_law_1313 ?_
  refine va_sld (i := iv + 2) hx hb Z.2.2.1 Z.2.2.2.1 hbA hw.2.2.1 (lq_in hi hL (by decide) (by decide)) dL_law_1314 ?_
  refine lq_callMi (av := [.int (xs (iv + 1 : Int32).toNatClampNeg), .int (xs (iv + 2 : Int32).toNatClampNeg)]) C hA hw (f_X10_one l D A2 cy hA.2.1 M2 hF2.1 hF2 (xs (iv + 1 : Int32).toNatClampNeg) (xs (iv + 2 : Int32).toNatClampNeg)) ⟨ml_L_155, ym_X10_one, yv_X10_one, yi_X10_one, yc_X10_one⟩ yd_X10_one rfl rfl hl.1 (Nat.le_of_ble_eq_true rfl) ⟨by decide, by decide⟩ hcs dL_law_1315 (fun rM N2 H locs hpM hw => ?_)
  refine lv_pop hx hb dL_law_1318 rfl ?_
  refine lv_goto (tgt := 1521) hx hb dL_law_1319 (by decide) ?_
  exact kk N1 N2 H locs ls hw ⟨Tc, Tm, hpT.2.2.1, hpM.2.1, hpT.2.2.2.1.trans (hE0.trans (show tI N2 60 2 = tI M2 60 2 from hpM.2.2.1).symm), (fun i hi => hB0 i (by rw [← hpT.2.2.2.1]; exact hi)), (congrArg Int32.toInt (hpT.2.2.2.2.1 1 4 (by decide) (by decide))).trans hR.1, (congrArg Int32.toInt (hpT.2.2.2.2.1 1 5 (by decide) (by decide))).trans hR.2, hS1, hS2, rg, tdC_tl htd1 hpT.2.2.2.2, tdR_lw htd2 hpM.2.2.2, lE_obs hle hpT.1 hpT.2.1 hpM.1.1 (fun q => hpM.1.2.trans q) hpM.2.2.2⟩ hl
set_option maxRecDepth 100000 in
theorem lq_c31 {p : Program} {l : Launch} {e : Env} {s : State} {m : MethodId} {below : List Frame} {meth : Method} {c : Code} {D : va_G} {cy : Nat → ClassId} {A1 A2 : Nat → Nat → Nat} {M1 M2 : ti_M} {b q3 L cells slots : Nat} {iv : Int32} {xs : Nat → Int32} {H : Heap} {locs : List Loc} {ls : Array Slot} (Z : lq_Z p s m meth c D cy A1 A2 b L xs) (hcs : cells ≤ room_1.cells ∧ slots ≤ room_1.slots) (hw : lq_H s D cy A1 A2 q3 M1 M2 H locs) (hI : lq_I M1 M2) (hi : 0 ≤ iv.toInt ∧ iv.toInt + 6 ≤ L) (hl : lv_has ls 7 [(4, .int iv), (3, .ref q3), (2, .ref (A2 60 0)), (1, .ref (A1 0 0)), (0, .ref b)]) (kk : ∀ (M1 M2 : ti_M) (H : Heap) (locs : List Loc) (ls : Array Slot), lq_H s D cy A1 A2 q3 M1 M2 H locs → lq_I M1 M2 → lv_has ls 7 [(4, .int iv), (3, .ref q3), (2, .ref (A2 60 0)), (1, .ref (A1 0 0)), (0, .ref b)] → W p l e room_1 s m #[Value.ref b] below meth c H locs cells slots (lw_Z below #[Value.ref b] s) (F0 m 1521 ls [])) : W p l e room_1 s m #[Value.ref b] below meth c H locs cells slots (lw_Z below #[Value.ref b] s) (F0 m 1322 ls []) := by
  have C := Z.1
  have hA := Z.2.1
  have hx := C.1
  have hb := C.2.1
  have hbA : ¬ lq_F s b := Nat.not_le.mpr Z.2.2.2.1
  have hL := Z.2.2.2.2.2.2.1
  have hE := Z.2.2.2.2.2.2.2
  obtain ⟨Tc, Tm, hF1, hF2, hE0, hB0, hR1, hR2, hS1, hS2, rg, htd1, htd2, hle⟩ := hI
  have hR := And.intro hR1 hR2
  have hS := And.intro hS1 hS2
  refine lv_aload_n hx hb dL_law_1322 rfl (lv_at hl 3 rfl) ?_
  refine lv_aload_n hx hb dL_law_1323 rfl (lv_at hl 4 rfl) ?_
  refine lv_iload hx hb dL_law_1324 (lv_at hl 0 rfl) ?_
  refine lv_iconst (v := 1) hx hb dL_law_1326 (by decide) ?_
  refine lv_iadd hx hb dL_law_1327 ?_
  refine va_sld (i := iv + 1) hx hb Z.2.2.1 Z.2.2.2.1 hbA hw.2.2.1 (lq_in hi hL (by decide) (by decide)) dL_law_1328 ?_
  refine lv_aload_n hx hb dL_law_1329 rfl (lv_at hl 4 rfl) ?_
  refine lv_iload hx hb dL_law_1330 (lv_at hl 0 rfl) ?_
  refine lv_iconst (v := 2) hx hb dL_law_1332 (by decide) ?_
  refine lv_iadd hx hb dL_law_1333 ?_
  refine va_sld (i := iv + 2) hx hb Z.2.2.1 Z.2.2.2.1 hbA hw.2.2.1 (lq_in hi hL (by decide) (by decide)) dL_law_1334 ?_
  refine lq_callTi (av := [.int (xs (iv + 1 : Int32).toNatClampNeg), .int (xs (iv + 2 : Int32).toNatClampNeg)]) C hA hw (f_X9_empty l D A1 cy hA.1 M1 hF1.1 hF1 (xs (iv + 1 : Int32).toNatClampNeg) (xs (iv + 2 : Int32).toNatClampNeg)) ⟨ml_L_156, ym_X9_empty, yv_X9_empty, yi_X9_empty, yc_X9_empty⟩ yd_X9_empty rfl rfl hl.1 (Nat.le_of_ble_eq_true rfl) ⟨by decide, by decide⟩ hcs dL_law_1335 (fun rT N1 H locs hpT hw => ?_)
  refine lv_pop hx hb dL_law_1338 rfl ?_
  refine lv_aload_n hx hb dL_law_1339 rfl (lv_at hl 2 rfl) ?_
  refine lv_aload_n hx hb dL_law_1340 rfl (lv_at hl 4 rfl) ?_
  refine lv_iload hx hb dL_law_1341 (lv_at hl 0 rfl) ?_
  refine lv_iconst (v := 1) hx hb dL_law_1343 (by decide) ?_
  refine lv_iadd hx hb dL_law_1344 ?_
  refine va_sld (i := iv + 1) hx hb Z.2.2.1 Z.2.2.2.1 hbA hw.2.2.1 (lq_in hi hL (by decide) (by decide)) dL_law_1345 ?_
  refine lv_aload_n hx hb dL_law_1346 rfl (lv_at hl 4 rfl) ?_
  refine lv_iload hx hb dL_law_1347 (lv_at hl 0 rfl) ?_
  refine lv_iconst (v := 2) hx hb dL_law_1349 (by decide) ?_
  refine lv_iadd hx hb dL_law_1350 ?_
  refine va_sld (i := iv + 2) hx hb Z.2.2.1 Z.2.2.2.1 hbA hw.2.2.1 (lq_in hi hL (by decide) (by decide)) dL_law_1351 ?_
  refine lq_callMi (av := [.int (xs (iv + 1 : Int32).toNatClampNeg), .int (xs (iv + 2 : Int32).toNatClampNeg)]) C hA hw (f_X10_empty l D A2 cy hA.2.1 M2 hF2.1 hF2 (xs (iv + 1 : Int32).toNatClampNeg) (xs (iv + 2 : Int32).toNatClampNeg)) ⟨ml_L_159, ym_X10_empty, yv_X10_empty, yi_X10_empty, yc_X10_empty⟩ yd_X10_empty rfl rfl hl.1 (Nat.le_of_ble_eq_true rfl) ⟨by decide, by decide⟩ hcs dL_law_1352 (fun rM N2 H locs hpM hw => ?_)
  refine lv_pop hx hb dL_law_1355 rfl ?_
  refine lv_goto (tgt := 1521) hx hb dL_law_1356 (by decide) ?_
  exact kk N1 N2 H locs ls hw ⟨Tc, Tm, hpT.2.2.1, hpM.2.1, hpT.2.2.2.1.trans (hE0.trans (show tI N2 60 2 = tI M2 60 2 from hpM.2.2.1).symm), (fun i hi => hB0 i (by rw [← hpT.2.2.2.1]; exact hi)), (congrArg Int32.toInt (hpT.2.2.2.2.1 1 4 (by decide) (by decide))).trans hR.1, (congrArg Int32.toInt (hpT.2.2.2.2.1 1 5 (by decide) (by decide))).trans hR.2, hS1, hS2, rg, tdC_tl htd1 hpT.2.2.2.2, tdR_lw htd2 hpM.2.2.2, lE_obs hle hpT.1 hpT.2.1 hpM.1.1 (fun q => hpM.1.2.trans q) hpM.2.2.2⟩ hl
set_option maxRecDepth 100000 in
theorem lq_c32 {p : Program} {l : Launch} {e : Env} {s : State} {m : MethodId} {below : List Frame} {meth : Method} {c : Code} {D : va_G} {cy : Nat → ClassId} {A1 A2 : Nat → Nat → Nat} {M1 M2 : ti_M} {b q3 L cells slots : Nat} {iv : Int32} {xs : Nat → Int32} {H : Heap} {locs : List Loc} {ls : Array Slot} (Z : lq_Z p s m meth c D cy A1 A2 b L xs) (hcs : cells ≤ room_1.cells ∧ slots ≤ room_1.slots) (hw : lq_H s D cy A1 A2 q3 M1 M2 H locs) (hI : lq_I M1 M2) (hi : 0 ≤ iv.toInt ∧ iv.toInt + 6 ≤ L) (hl : lv_has ls 7 [(4, .int iv), (3, .ref q3), (2, .ref (A2 60 0)), (1, .ref (A1 0 0)), (0, .ref b)]) (kk : ∀ (M1 M2 : ti_M) (H : Heap) (locs : List Loc) (ls : Array Slot), lq_H s D cy A1 A2 q3 M1 M2 H locs → lq_I M1 M2 → lv_has ls 7 [(4, .int iv), (3, .ref q3), (2, .ref (A2 60 0)), (1, .ref (A1 0 0)), (0, .ref b)] → W p l e room_1 s m #[Value.ref b] below meth c H locs cells slots (lw_Z below #[Value.ref b] s) (F0 m 1521 ls [])) : W p l e room_1 s m #[Value.ref b] below meth c H locs cells slots (lw_Z below #[Value.ref b] s) (F0 m 1359 ls []) := by
  have C := Z.1
  have hA := Z.2.1
  have hx := C.1
  have hb := C.2.1
  have hbA : ¬ lq_F s b := Nat.not_le.mpr Z.2.2.2.1
  have hL := Z.2.2.2.2.2.2.1
  have hE := Z.2.2.2.2.2.2.2
  obtain ⟨Tc, Tm, hF1, hF2, hE0, hB0, hR1, hR2, hS1, hS2, rg, htd1, htd2, hle⟩ := hI
  have hR := And.intro hR1 hR2
  have hS := And.intro hS1 hS2
  refine lv_aload_n hx hb dL_law_1359 rfl (lv_at hl 3 rfl) ?_
  refine lv_aload_n hx hb dL_law_1360 rfl (lv_at hl 4 rfl) ?_
  refine lv_iload hx hb dL_law_1361 (lv_at hl 0 rfl) ?_
  refine lv_iconst (v := 1) hx hb dL_law_1363 (by decide) ?_
  refine lv_iadd hx hb dL_law_1364 ?_
  refine va_sld (i := iv + 1) hx hb Z.2.2.1 Z.2.2.2.1 hbA hw.2.2.1 (lq_in hi hL (by decide) (by decide)) dL_law_1365 ?_
  refine lv_aload_n hx hb dL_law_1366 rfl (lv_at hl 4 rfl) ?_
  refine lv_iload hx hb dL_law_1367 (lv_at hl 0 rfl) ?_
  refine lv_iconst (v := 2) hx hb dL_law_1369 (by decide) ?_
  refine lv_iadd hx hb dL_law_1370 ?_
  refine va_sld (i := iv + 2) hx hb Z.2.2.1 Z.2.2.2.1 hbA hw.2.2.1 (lq_in hi hL (by decide) (by decide)) dL_law_1371 ?_
  refine lv_aload_n hx hb dL_law_1372 rfl (lv_at hl 4 rfl) ?_
  refine lv_iload hx hb dL_law_1373 (lv_at hl 0 rfl) ?_
  refine lv_iconst (v := 3) hx hb dL_law_1375 (by decide) ?_
  refine lv_iadd hx hb dL_law_1376 ?_
  refine va_sld (i := iv + 3) hx hb Z.2.2.1 Z.2.2.2.1 hbA hw.2.2.1 (lq_in hi hL (by decide) (by decide)) dL_law_1377 ?_
  refine lq_callTi (av := [.int (xs (iv + 1 : Int32).toNatClampNeg), .int (xs (iv + 2 : Int32).toNatClampNeg), .int (xs (iv + 3 : Int32).toNatClampNeg)]) C hA hw (f_X9_chance l D A1 cy hA.1 M1 hF1.1 hF1 (xs (iv + 1 : Int32).toNatClampNeg) (xs (iv + 2 : Int32).toNatClampNeg) (xs (iv + 3 : Int32).toNatClampNeg)) ⟨ml_L_160, ym_X9_chance, yv_X9_chance, yi_X9_chance, yc_X9_chance⟩ yd_X9_chance rfl rfl hl.1 (Nat.le_of_ble_eq_true rfl) ⟨by decide, by decide⟩ hcs dL_law_1378 (fun rT N1 H locs hpT hw => ?_)
  refine lv_pop hx hb dL_law_1381 rfl ?_
  refine lv_aload_n hx hb dL_law_1382 rfl (lv_at hl 2 rfl) ?_
  refine lv_aload_n hx hb dL_law_1383 rfl (lv_at hl 4 rfl) ?_
  refine lv_iload hx hb dL_law_1384 (lv_at hl 0 rfl) ?_
  refine lv_iconst (v := 1) hx hb dL_law_1386 (by decide) ?_
  refine lv_iadd hx hb dL_law_1387 ?_
  refine va_sld (i := iv + 1) hx hb Z.2.2.1 Z.2.2.2.1 hbA hw.2.2.1 (lq_in hi hL (by decide) (by decide)) dL_law_1388 ?_
  refine lv_aload_n hx hb dL_law_1389 rfl (lv_at hl 4 rfl) ?_
  refine lv_iload hx hb dL_law_1390 (lv_at hl 0 rfl) ?_
  refine lv_iconst (v := 2) hx hb dL_law_1392 (by decide) ?_
  refine lv_iadd hx hb dL_law_1393 ?_
  refine va_sld (i := iv + 2) hx hb Z.2.2.1 Z.2.2.2.1 hbA hw.2.2.1 (lq_in hi hL (by decide) (by decide)) dL_law_1394 ?_
  refine lv_aload_n hx hb dL_law_1395 rfl (lv_at hl 4 rfl) ?_
  refine lv_iload hx hb dL_law_1396 (lv_at hl 0 rfl) ?_
  refine lv_iconst (v := 3) hx hb dL_law_1398 (by decide) ?_
  refine lv_iadd hx hb dL_law_1399 ?_
  refine va_sld (i := iv + 3) hx hb Z.2.2.1 Z.2.2.2.1 hbA hw.2.2.1 (lq_in hi hL (by decide) (by decide)) dL_law_1400 ?_
  refine lq_callMi (av := [.int (xs (iv + 1 : Int32).toNatClampNeg), .int (xs (iv + 2 : Int32).toNatClampNeg), .int (xs (iv + 3 : Int32).toNatClampNeg)]) C hA hw (f_X10_chance l D A2 cy hA.2.1 M2 hF2.1 hF2 (xs (iv + 1 : Int32).toNatClampNeg) (xs (iv + 2 : Int32).toNatClampNeg) (xs (iv + 3 : Int32).toNatClampNeg)) ⟨ml_L_163, ym_X10_chance, yv_X10_chance, yi_X10_chance, yc_X10_chance⟩ yd_X10_chance rfl rfl hl.1 (Nat.le_of_ble_eq_true rfl) ⟨by decide, by decide⟩ hcs dL_law_1401 (fun rM N2 H locs hpM hw => ?_)
  refine lv_pop hx hb dL_law_1404 rfl ?_
  refine lv_goto (tgt := 1521) hx hb dL_law_1405 (by decide) ?_
  exact kk N1 N2 H locs ls hw ⟨Tc, Tm, hpT.2.2.1, hpM.2.1, hpT.2.2.2.1.trans (hE0.trans (show tI N2 60 2 = tI M2 60 2 from hpM.2.2.1).symm), (fun i hi => hB0 i (by rw [← hpT.2.2.2.1]; exact hi)), (congrArg Int32.toInt (hpT.2.2.2.2.1 1 4 (by decide) (by decide))).trans hR.1, (congrArg Int32.toInt (hpT.2.2.2.2.1 1 5 (by decide) (by decide))).trans hR.2, hS1, hS2, rg, tdC_tl htd1 hpT.2.2.2.2, tdR_lw htd2 hpM.2.2.2, lE_obs hle hpT.1 hpT.2.1 hpM.1.1 (fun q => hpM.1.2.trans q) hpM.2.2.2⟩ hl
set_option maxRecDepth 100000 in
theorem lq_c33 {p : Program} {l : Launch} {e : Env} {s : State} {m : MethodId} {below : List Frame} {meth : Method} {c : Code} {D : va_G} {cy : Nat → ClassId} {A1 A2 : Nat → Nat → Nat} {M1 M2 : ti_M} {b q3 L cells slots : Nat} {iv : Int32} {xs : Nat → Int32} {H : Heap} {locs : List Loc} {ls : Array Slot} (Z : lq_Z p s m meth c D cy A1 A2 b L xs) (hcs : cells ≤ room_1.cells ∧ slots ≤ room_1.slots) (hw : lq_H s D cy A1 A2 q3 M1 M2 H locs) (hI : lq_I M1 M2) (hi : 0 ≤ iv.toInt ∧ iv.toInt + 6 ≤ L) (hl : lv_has ls 7 [(4, .int iv), (3, .ref q3), (2, .ref (A2 60 0)), (1, .ref (A1 0 0)), (0, .ref b)]) (kk : ∀ (M1 M2 : ti_M) (H : Heap) (locs : List Loc) (ls : Array Slot), lq_H s D cy A1 A2 q3 M1 M2 H locs → lq_I M1 M2 → lv_has ls 7 [(4, .int iv), (3, .ref q3), (2, .ref (A2 60 0)), (1, .ref (A1 0 0)), (0, .ref b)] → W p l e room_1 s m #[Value.ref b] below meth c H locs cells slots (lw_Z below #[Value.ref b] s) (F0 m 1521 ls [])) : W p l e room_1 s m #[Value.ref b] below meth c H locs cells slots (lw_Z below #[Value.ref b] s) (F0 m 1408 ls []) := by
  have C := Z.1
  have hA := Z.2.1
  have hx := C.1
  have hb := C.2.1
  have hbA : ¬ lq_F s b := Nat.not_le.mpr Z.2.2.2.1
  have hL := Z.2.2.2.2.2.2.1
  have hE := Z.2.2.2.2.2.2.2
  obtain ⟨Tc, Tm, hF1, hF2, hE0, hB0, hR1, hR2, hS1, hS2, rg, htd1, htd2, hle⟩ := hI
  have hR := And.intro hR1 hR2
  have hS := And.intro hS1 hS2
  refine lv_aload_n hx hb dL_law_1408 rfl (lv_at hl 3 rfl) ?_
  refine lv_aload_n hx hb dL_law_1409 rfl (lv_at hl 4 rfl) ?_
  refine lv_iload hx hb dL_law_1410 (lv_at hl 0 rfl) ?_
  refine lv_iconst (v := 1) hx hb dL_law_1412 (by decide) ?_
  refine lv_iadd hx hb dL_law_1413 ?_
  refine va_sld (i := iv + 1) hx hb Z.2.2.1 Z.2.2.2.1 hbA hw.2.2.1 (lq_in hi hL (by decide) (by decide)) dL_law_1414 ?_
  refine lv_aload_n hx hb dL_law_1415 rfl (lv_at hl 4 rfl) ?_
  refine lv_iload hx hb dL_law_1416 (lv_at hl 0 rfl) ?_
  refine lv_iconst (v := 2) hx hb dL_law_1418 (by decide) ?_
  refine lv_iadd hx hb dL_law_1419 ?_
  refine va_sld (i := iv + 2) hx hb Z.2.2.1 Z.2.2.2.1 hbA hw.2.2.1 (lq_in hi hL (by decide) (by decide)) dL_law_1420 ?_
  refine lv_aload_n hx hb dL_law_1421 rfl (lv_at hl 4 rfl) ?_
  refine lv_iload hx hb dL_law_1422 (lv_at hl 0 rfl) ?_
  refine lv_iconst (v := 3) hx hb dL_law_1424 (by decide) ?_
  refine lv_iadd hx hb dL_law_1425 ?_
  refine va_sld (i := iv + 3) hx hb Z.2.2.1 Z.2.2.2.1 hbA hw.2.2.1 (lq_in hi hL (by decide) (by decide)) dL_law_1426 ?_
  refine lq_callTi (av := [.int (xs (iv + 1 : Int32).toNatClampNeg), .int (xs (iv + 2 : Int32).toNatClampNeg), .int (xs (iv + 3 : Int32).toNatClampNeg)]) C hA hw (f_X9_tried l D A1 cy hA.1 M1 hF1.1 hF1 (xs (iv + 1 : Int32).toNatClampNeg) (xs (iv + 2 : Int32).toNatClampNeg) (xs (iv + 3 : Int32).toNatClampNeg)) ⟨ml_L_164, ym_X9_tried, yv_X9_tried, yi_X9_tried, yc_X9_tried⟩ yd_X9_tried rfl rfl hl.1 (Nat.le_of_ble_eq_true rfl) ⟨by decide, by decide⟩ hcs dL_law_1427 (fun rT N1 H locs hpT hw => ?_)
  refine lv_pop hx hb dL_law_1430 rfl ?_
  refine lv_aload_n hx hb dL_law_1431 rfl (lv_at hl 2 rfl) ?_
  refine lv_aload_n hx hb dL_law_1432 rfl (lv_at hl 4 rfl) ?_
  refine lv_iload hx hb dL_law_1433 (lv_at hl 0 rfl) ?_
  refine lv_iconst (v := 1) hx hb dL_law_1435 (by decide) ?_
  refine lv_iadd hx hb dL_law_1436 ?_
  refine va_sld (i := iv + 1) hx hb Z.2.2.1 Z.2.2.2.1 hbA hw.2.2.1 (lq_in hi hL (by decide) (by decide)) dL_law_1437 ?_
  refine lv_aload_n hx hb dL_law_1438 rfl (lv_at hl 4 rfl) ?_
  refine lv_iload hx hb dL_law_1439 (lv_at hl 0 rfl) ?_
  refine lv_iconst (v := 2) hx hb dL_law_1441 (by decide) ?_
  refine lv_iadd hx hb dL_law_1442 ?_
  refine va_sld (i := iv + 2) hx hb Z.2.2.1 Z.2.2.2.1 hbA hw.2.2.1 (lq_in hi hL (by decide) (by decide)) dL_law_1443 ?_
  refine lv_aload_n hx hb dL_law_1444 rfl (lv_at hl 4 rfl) ?_
  refine lv_iload hx hb dL_law_1445 (lv_at hl 0 rfl) ?_
  refine lv_iconst (v := 3) hx hb dL_law_1447 (by decide) ?_
  refine lv_iadd hx hb dL_law_1448 ?_
  refine va_sld (i := iv + 3) hx hb Z.2.2.1 Z.2.2.2.1 hbA hw.2.2.1 (lq_in hi hL (by decide) (by decide)) dL_law_1449 ?_
  refine lq_callMi (av := [.int (xs (iv + 1 : Int32).toNatClampNeg), .int (xs (iv + 2 : Int32).toNatClampNeg), .int (xs (iv + 3 : Int32).toNatClampNeg)]) C hA hw (f_X10_tried l D A2 cy hA.2.1 M2 hF2.1 hF2 (xs (iv + 1 : Int32).toNatClampNeg) (xs (iv + 2 : Int32).toNatClampNeg) (xs (iv + 3 : Int32).toNatClampNeg)) ⟨ml_L_167, ym_X10_tried, yv_X10_tried, yi_X10_tried, yc_X10_tried⟩ yd_X10_tried rfl rfl hl.1 (Nat.le_of_ble_eq_true rfl) ⟨by decide, by decide⟩ hcs dL_law_1450 (fun rM N2 H locs hpM hw => ?_)
  refine lv_pop hx hb dL_law_1453 rfl ?_
  refine lv_goto (tgt := 1521) hx hb dL_law_1454 (by decide) ?_
  exact kk N1 N2 H locs ls hw ⟨Tc, Tm, hpT.2.2.1, hpM.2.2.1, hpT.2.2.2.1.trans (hE0.trans (show tI N2 60 2 = tI M2 60 2 from hpM.2.2.2.1).symm), (fun i hi => hB0 i (by rw [← hpT.2.2.2.1]; exact hi)), (congrArg Int32.toInt (hpT.2.2.2.2.1 1 4 (by decide) (by decide))).trans hR.1, (congrArg Int32.toInt (hpT.2.2.2.2.1 1 5 (by decide) (by decide))).trans hR.2, hS1, hS2, rg, tdC_tl htd1 hpT.2.2.2.2, tdR_lw htd2 hpM.2.2.2.2, lE_obs hle hpT.1 hpT.2.1 hpM.1 hpM.2.1 hpM.2.2.2.2⟩ hl
set_option maxRecDepth 100000 in
theorem lq_c34 {p : Program} {l : Launch} {e : Env} {s : State} {m : MethodId} {below : List Frame} {meth : Method} {c : Code} {D : va_G} {cy : Nat → ClassId} {A1 A2 : Nat → Nat → Nat} {M1 M2 : ti_M} {b q3 L cells slots : Nat} {iv : Int32} {xs : Nat → Int32} {H : Heap} {locs : List Loc} {ls : Array Slot} (Z : lq_Z p s m meth c D cy A1 A2 b L xs) (hcs : cells ≤ room_1.cells ∧ slots ≤ room_1.slots) (hw : lq_H s D cy A1 A2 q3 M1 M2 H locs) (hI : lq_I M1 M2) (hi : 0 ≤ iv.toInt ∧ iv.toInt + 6 ≤ L) (hl : lv_has ls 7 [(4, .int iv), (3, .ref q3), (2, .ref (A2 60 0)), (1, .ref (A1 0 0)), (0, .ref b)]) (kk : ∀ (M1 M2 : ti_M) (H : Heap) (locs : List Loc) (ls : Array Slot), lq_H s D cy A1 A2 q3 M1 M2 H locs → lq_I M1 M2 → lv_has ls 7 [(4, .int iv), (3, .ref q3), (2, .ref (A2 60 0)), (1, .ref (A1 0 0)), (0, .ref b)] → W p l e room_1 s m #[Value.ref b] below meth c H locs cells slots (lw_Z below #[Value.ref b] s) (F0 m 1521 ls [])) : W p l e room_1 s m #[Value.ref b] below meth c H locs cells slots (lw_Z below #[Value.ref b] s) (F0 m 1457 ls []) := by
  have C := Z.1
  have hA := Z.2.1
  have hx := C.1
  have hb := C.2.1
  have hbA : ¬ lq_F s b := Nat.not_le.mpr Z.2.2.2.1
  have hL := Z.2.2.2.2.2.2.1
  have hE := Z.2.2.2.2.2.2.2
  obtain ⟨Tc, Tm, hF1, hF2, hE0, hB0, hR1, hR2, hS1, hS2, rg, htd1, htd2, hle⟩ := hI
  have hR := And.intro hR1 hR2
  have hS := And.intro hS1 hS2
  obtain ⟨t9, tx9, s9, p9, si9, u9, c9, hb9⟩ := id hle
  obtain ⟨ht9, hkC9, hkR9, hW9, ⟨hw9, h19k⟩, hU9, hi9⟩ := id hb9
  have h19 := h19k.1
  have m9 : 0 ≤ s9 2 ∧ s9 2 ≤ 120 := by
    have b : ib 0 120 (tY M2 60 34 0) := hF2.1.2.1 34 0 (by decide)
    rw [hkR9.2.1.1.1]; exact b
  refine lv_aload_n hx hb dL_law_1457 rfl (lv_at hl 3 rfl) ?_
  refine lq_callTi (av := []) C hA hw (z_X9_undo l D A1 cy hA.1 M1 hF1.1 hF1 t9 ht9 tx9 s9 p9 u9 c9 hkC9) ⟨ml_L_168, ym_X9_undo, yv_X9_undo, yi_X9_undo, yc_X9_undo⟩ yd_X9_undo rfl rfl hl.1 (Nat.le_of_ble_eq_true rfl) ⟨by decide, by decide⟩ hcs dL_law_1458 (fun rT N1 H locs hpT hw => ?_)
  refine lv_pop hx hb dL_law_1461 rfl ?_
  refine lv_aload_n hx hb dL_law_1462 rfl (lv_at hl 2 rfl) ?_
  refine lq_callMi (av := []) C hA hw (z_X10_undo l D A2 cy hA.2.1 M2 hF2.1 hF2 tx9 s9 p9 u9 c9 hW9.1 hW9 hw9 h19 hkR9 (fun i hi => (hU9.2 i hi).2.2)) ⟨ml_L_171, ym_X10_undo, yv_X10_undo, yi_X10_undo, yc_X10_undo⟩ yd_X10_undo rfl rfl hl.1 (Nat.le_of_ble_eq_true rfl) ⟨by decide, by decide⟩ hcs dL_law_1463 (fun rM N2 H locs hpM hw => ?_)
  refine lv_pop hx hb dL_law_1466 rfl ?_
  have q := lq_sp hF1 hE0 hB0 hR hS htd1 htd2 hpT hpM (fun _ => rfl) (fun a b => by omega) (fun a b => by omega) (fun i y => ⟨_, _, _, _, _, _, _, lB_no hb9 i y⟩) (fun q g i x y => ⟨_, _, _, _, _, _, _, lB_un hb9 g i q x y⟩)
  refine lv_goto (tgt := 1521) hx hb dL_law_1467 (by decide) ?_
  exact kk N1 N2 H locs ls hw q.2 hl
set_option maxRecDepth 100000 in
theorem lq_c35 {p : Program} {l : Launch} {e : Env} {s : State} {m : MethodId} {below : List Frame} {meth : Method} {c : Code} {D : va_G} {cy : Nat → ClassId} {A1 A2 : Nat → Nat → Nat} {M1 M2 : ti_M} {b q3 L cells slots : Nat} {iv : Int32} {xs : Nat → Int32} {H : Heap} {locs : List Loc} {ls : Array Slot} (Z : lq_Z p s m meth c D cy A1 A2 b L xs) (hcs : cells ≤ room_1.cells ∧ slots ≤ room_1.slots) (hw : lq_H s D cy A1 A2 q3 M1 M2 H locs) (hI : lq_I M1 M2) (hi : 0 ≤ iv.toInt ∧ iv.toInt + 6 ≤ L) (hl : lv_has ls 7 [(4, .int iv), (3, .ref q3), (2, .ref (A2 60 0)), (1, .ref (A1 0 0)), (0, .ref b)]) (kk : ∀ (M1 M2 : ti_M) (H : Heap) (locs : List Loc) (ls : Array Slot), lq_H s D cy A1 A2 q3 M1 M2 H locs → lq_I M1 M2 → lv_has ls 7 [(4, .int iv), (3, .ref q3), (2, .ref (A2 60 0)), (1, .ref (A1 0 0)), (0, .ref b)] → W p l e room_1 s m #[Value.ref b] below meth c H locs cells slots (lw_Z below #[Value.ref b] s) (F0 m 1521 ls [])) : W p l e room_1 s m #[Value.ref b] below meth c H locs cells slots (lw_Z below #[Value.ref b] s) (F0 m 1470 ls []) := by
  have C := Z.1
  have hA := Z.2.1
  have hx := C.1
  have hb := C.2.1
  have hbA : ¬ lq_F s b := Nat.not_le.mpr Z.2.2.2.1
  have hL := Z.2.2.2.2.2.2.1
  have hE := Z.2.2.2.2.2.2.2
  obtain ⟨Tc, Tm, hF1, hF2, hE0, hB0, hR1, hR2, hS1, hS2, rg, htd1, htd2, hle⟩ := hI
  have hR := And.intro hR1 hR2
  have hS := And.intro hS1 hS2
  obtain ⟨t9, tx9, s9, p9, si9, u9, c9, hb9⟩ := id hle
  obtain ⟨ht9, hkC9, hkR9, hW9, ⟨hw9, h19k⟩, hU9, hi9⟩ := id hb9
  have h19 := h19k.1
  have m9 : 0 ≤ s9 2 ∧ s9 2 ≤ 120 := by
    have b : ib 0 120 (tY M2 60 34 0) := hF2.1.2.1 34 0 (by decide)
    rw [hkR9.2.1.1.1]; exact b
  refine lv_aload_n hx hb dL_law_1470 rfl (lv_at hl 3 rfl) ?_
  refine lq_callTi (av := []) C hA hw (z_X9_keep l D A1 cy hA.1 M1 hF1.1 hF1 t9 ht9 tx9 s9 p9 u9 c9 hkC9) ⟨ml_L_172, ym_X9_keep, yv_X9_keep, yi_X9_keep, yc_X9_keep⟩ yd_X9_keep rfl rfl hl.1 (Nat.le_of_ble_eq_true rfl) ⟨by decide, by decide⟩ hcs dL_law_1471 (fun rT N1 H locs hpT hw => ?_)
  refine lv_pop hx hb dL_law_1474 rfl ?_
  refine lv_aload_n hx hb dL_law_1475 rfl (lv_at hl 2 rfl) ?_
  refine lq_callMi (av := []) C hA hw (z_X10_keep l D A2 cy hA.2.1 M2 hF2.1 hF2 tx9 s9 p9 u9 c9 hW9.1 hW9 hw9 h19 hkR9) ⟨ml_L_175, ym_X10_keep, yv_X10_keep, yi_X10_keep, yc_X10_keep⟩ yd_X10_keep rfl rfl hl.1 (Nat.le_of_ble_eq_true rfl) ⟨by decide, by decide⟩ hcs dL_law_1476 (fun rM N2 H locs hpM hw => ?_)
  refine lv_pop hx hb dL_law_1479 rfl ?_
  have q := lq_kp hE0 hB0 hR hS htd1 htd2 hb9 hpT hpM
  refine lv_goto (tgt := 1521) hx hb dL_law_1480 (by decide) ?_
  exact kk N1 N2 H locs ls hw q.2 hl
set_option maxRecDepth 100000 in
theorem lq_c36 {p : Program} {l : Launch} {e : Env} {s : State} {m : MethodId} {below : List Frame} {meth : Method} {c : Code} {D : va_G} {cy : Nat → ClassId} {A1 A2 : Nat → Nat → Nat} {M1 M2 : ti_M} {b q3 L cells slots : Nat} {iv : Int32} {xs : Nat → Int32} {H : Heap} {locs : List Loc} {ls : Array Slot} (Z : lq_Z p s m meth c D cy A1 A2 b L xs) (hcs : cells ≤ room_1.cells ∧ slots ≤ room_1.slots) (hw : lq_H s D cy A1 A2 q3 M1 M2 H locs) (hI : lq_I M1 M2) (hi : 0 ≤ iv.toInt ∧ iv.toInt + 6 ≤ L) (hl : lv_has ls 7 [(4, .int iv), (3, .ref q3), (2, .ref (A2 60 0)), (1, .ref (A1 0 0)), (0, .ref b)]) (kk : ∀ (M1 M2 : ti_M) (H : Heap) (locs : List Loc) (ls : Array Slot), lq_H s D cy A1 A2 q3 M1 M2 H locs → lq_I M1 M2 → lv_has ls 7 [(4, .int iv), (3, .ref q3), (2, .ref (A2 60 0)), (1, .ref (A1 0 0)), (0, .ref b)] → W p l e room_1 s m #[Value.ref b] below meth c H locs cells slots (lw_Z below #[Value.ref b] s) (F0 m 1521 ls [])) : W p l e room_1 s m #[Value.ref b] below meth c H locs cells slots (lw_Z below #[Value.ref b] s) (F0 m 1483 ls []) := by
  have C := Z.1
  have hA := Z.2.1
  have hx := C.1
  have hb := C.2.1
  have hbA : ¬ lq_F s b := Nat.not_le.mpr Z.2.2.2.1
  have hL := Z.2.2.2.2.2.2.1
  have hE := Z.2.2.2.2.2.2.2
  obtain ⟨Tc, Tm, hF1, hF2, hE0, hB0, hR1, hR2, hS1, hS2, rg, htd1, htd2, hle⟩ := hI
  have hR := And.intro hR1 hR2
  have hS := And.intro hS1 hS2
  obtain ⟨t9, tx9, s9, p9, si9, u9, c9, hb9⟩ := id hle
  obtain ⟨ht9, hkC9, hkR9, hW9, ⟨hw9, h19k⟩, hU9, hi9⟩ := id hb9
  have h19 := h19k.1
  have m9 : 0 ≤ s9 2 ∧ s9 2 ≤ 120 := by
    have b : ib 0 120 (tY M2 60 34 0) := hF2.1.2.1 34 0 (by decide)
    rw [hkR9.2.1.1.1]; exact b
  have hi2 : (tI M1 0 7).toInt = 0 ↔ (tI M2 60 51).toInt = 0 := by
    rcases hi9 with ⟨a, b⟩ | ⟨a, b, -⟩
    · exact ⟨fun _ => b, fun _ => a⟩
    · exact ⟨fun x => absurd x a, fun x => absurd x b⟩
  refine lv_aload_n hx hb dL_law_1483 rfl (lv_at hl 3 rfl) ?_
  refine lq_callTi (av := []) C hA hw (z_X9_back l D A1 cy hA.1 M1 hF1.1 hF1 t9 ht9 tx9 s9 p9 u9 c9 hkC9 si9 (fun q => by
      rcases hi9 with ⟨a, -⟩ | ⟨-, -, x, -⟩
      · exact absurd a q
      · exact x)) ⟨ml_L_176, ym_X9_back, yv_X9_back, yi_X9_back, yc_X9_back⟩ yd_X9_back rfl rfl hl.1 (Nat.le_of_ble_eq_true rfl) ⟨by decide, by decide⟩ hcs dL_law_1484 (fun rT N1 H locs hpT hw => ?_)
  refine lv_pop hx hb dL_law_1487 rfl ?_
  refine lv_aload_n hx hb dL_law_1488 rfl (lv_at hl 2 rfl) ?_
  refine lq_callMi (av := []) C hA hw (z_X10_back l D A2 cy hA.2.1 M2 hF2.1 hF2 tx9 s9 p9 u9 c9 hW9.1 hW9 hw9 h19 hkR9 si9 (fun q => by
      rcases hi9 with ⟨-, a⟩ | ⟨-, -, -, x, -⟩
      · exact absurd a q
      · exact x)) ⟨ml_L_179, ym_X10_back, yv_X10_back, yi_X10_back, yc_X10_back⟩ yd_X10_back rfl rfl hl.1 (Nat.le_of_ble_eq_true rfl) ⟨by decide, by decide⟩ hcs dL_law_1489 (fun rM N2 H locs hpM hw => ?_)
  refine lv_pop hx hb dL_law_1492 rfl ?_
  have q := lq_sp hF1 hE0 hB0 hR hS htd1 htd2 hpT hpM (fun _ => rfl) (fun a b => b (hi2.mp a)) (fun a b => b (hi2.mpr a)) (fun i y => ⟨_, _, _, _, _, _, _, lB_no hb9 i y⟩) (fun q g i x y => ⟨_, _, _, _, _, _, _, lB_bk hb9 g i q x y⟩)
  refine lv_goto (tgt := 1521) hx hb dL_law_1493 (by decide) ?_
  exact kk N1 N2 H locs ls hw q.2 hl
set_option maxRecDepth 100000 in
theorem lq_c37 {p : Program} {l : Launch} {e : Env} {s : State} {m : MethodId} {below : List Frame} {meth : Method} {c : Code} {D : va_G} {cy : Nat → ClassId} {A1 A2 : Nat → Nat → Nat} {M1 M2 : ti_M} {b q3 L cells slots : Nat} {iv : Int32} {xs : Nat → Int32} {H : Heap} {locs : List Loc} {ls : Array Slot} (Z : lq_Z p s m meth c D cy A1 A2 b L xs) (hcs : cells ≤ room_1.cells ∧ slots ≤ room_1.slots) (hw : lq_H s D cy A1 A2 q3 M1 M2 H locs) (hI : lq_I M1 M2) (hi : 0 ≤ iv.toInt ∧ iv.toInt + 6 ≤ L) (hl : lv_has ls 7 [(4, .int iv), (3, .ref q3), (2, .ref (A2 60 0)), (1, .ref (A1 0 0)), (0, .ref b)]) (kk : ∀ (M1 M2 : ti_M) (H : Heap) (locs : List Loc) (ls : Array Slot), lq_H s D cy A1 A2 q3 M1 M2 H locs → lq_I M1 M2 → lv_has ls 7 [(4, .int iv), (3, .ref q3), (2, .ref (A2 60 0)), (1, .ref (A1 0 0)), (0, .ref b)] → W p l e room_1 s m #[Value.ref b] below meth c H locs cells slots (lw_Z below #[Value.ref b] s) (F0 m 1521 ls [])) : W p l e room_1 s m #[Value.ref b] below meth c H locs cells slots (lw_Z below #[Value.ref b] s) (F0 m 1496 ls []) := by
  have C := Z.1
  have hA := Z.2.1
  have hx := C.1
  have hb := C.2.1
  have hbA : ¬ lq_F s b := Nat.not_le.mpr Z.2.2.2.1
  have hL := Z.2.2.2.2.2.2.1
  have hE := Z.2.2.2.2.2.2.2
  obtain ⟨Tc, Tm, hF1, hF2, hE0, hB0, hR1, hR2, hS1, hS2, rg, htd1, htd2, hle⟩ := hI
  have hR := And.intro hR1 hR2
  have hS := And.intro hS1 hS2
  obtain ⟨t9, tx9, s9, p9, si9, u9, c9, hb9⟩ := id hle
  obtain ⟨ht9, hkC9, hkR9, hW9, ⟨hw9, h19k⟩, hU9, hi9⟩ := id hb9
  have h19 := h19k.1
  have m9 : 0 ≤ s9 2 ∧ s9 2 ≤ 120 := by
    have b : ib 0 120 (tY M2 60 34 0) := hF2.1.2.1 34 0 (by decide)
    rw [hkR9.2.1.1.1]; exact b
  refine lv_aload_n hx hb dL_law_1496 rfl (lv_at hl 3 rfl) ?_
  refine lv_aload_n hx hb dL_law_1497 rfl (lv_at hl 4 rfl) ?_
  refine lv_iload hx hb dL_law_1498 (lv_at hl 0 rfl) ?_
  refine lv_iconst (v := 1) hx hb dL_law_1500 (by decide) ?_
  refine lv_iadd hx hb dL_law_1501 ?_
  refine va_sld (i := iv + 1) hx hb Z.2.2.1 Z.2.2.2.1 hbA hw.2.2.1 (lq_in hi hL (by decide) (by decide)) dL_law_1502 ?_
  refine lq_callTi (av := [.int (xs (iv + 1 : Int32).toNatClampNeg)]) C hA hw (z_X9_count l D A1 cy hA.1 M1 hF1.1 hF1 t9 ht9 tx9 s9 p9 u9 c9 hkC9 (xs (iv + 1 : Int32).toNatClampNeg)) ⟨ml_L_180, ym_X9_count, yv_X9_count, yi_X9_count, yc_X9_count⟩ yd_X9_count rfl rfl hl.1 (Nat.le_of_ble_eq_true rfl) ⟨by decide, by decide⟩ hcs dL_law_1503 (fun rT N1 H locs hpT hw => ?_)
  refine lv_aload_n hx hb dL_law_1506 rfl (lv_at hl 2 rfl) ?_
  refine lv_aload_n hx hb dL_law_1507 rfl (lv_at hl 4 rfl) ?_
  refine lv_iload hx hb dL_law_1508 (lv_at hl 0 rfl) ?_
  refine lv_iconst (v := 1) hx hb dL_law_1510 (by decide) ?_
  refine lv_iadd hx hb dL_law_1511 ?_
  refine va_sld (i := iv + 1) hx hb Z.2.2.1 Z.2.2.2.1 hbA hw.2.2.1 (lq_in hi hL (by decide) (by decide)) dL_law_1512 ?_
  refine lq_callMi (av := [.int (xs (iv + 1 : Int32).toNatClampNeg)]) C hA hw (z_X10_count l D A2 cy hA.2.1 M2 hF2.1 hF2 (xs (iv + 1 : Int32).toNatClampNeg) tx9 s9 p9 u9 c9 hW9.1 hW9 hw9 h19 hkR9 h19k.2) ⟨ml_L_183, ym_X10_count, yv_X10_count, yi_X10_count, yc_X10_count⟩ yd_X10_count rfl rfl hl.1 (Nat.le_of_ble_eq_true rfl) ⟨by decide, by decide⟩ hcs dL_law_1513 (fun rM N2 H locs hpM hw => ?_)
  have hC5 : (tI M1 50 5).toInt = (tI M2 60 58).toInt := (congrArg (fun t => Int32.toInt t.2.1) hF1.1.2.2).trans (hS1.trans (congrArg (fun t => Int32.toInt t.2.2.2.1) hF2.1.2.2.2).symm)
  have hC6 : (tI M1 50 6).toInt = (tI M2 60 59).toInt := (congrArg (fun t => Int32.toInt t.2.2.1) hF1.1.2.2).trans (hS2.trans (congrArg (fun t => Int32.toInt t.2.2.2.2.1) hF2.1.2.2.2).symm)
  have q := lq_ob hF1 hE0 hB0 hR hS htd1 htd2 hpT hpM (by rw [hC5, hC6]) (fun i y => ⟨_, _, _, _, _, _, _, lB_no hb9 i y⟩)
  refine sb_icmp_eq (tgt := 1521) hx hb rfl rfl dL_law_1516 (by decide) (fun _ => ?_) (fun c => absurd q.1 c)
  exact kk N1 N2 H locs ls hw q.2 hl
end
section
section
variable {p : Program} {l : Launch} {e : Env} {R : Room} {s : State} {m : MethodId} {args : Array Value} {below : List Frame} {meth : Method} {c : Code} {H : Heap} {locs : List Loc} {cells slots : Nat}
theorem vx_back9 {T S : State} {R' : Room} {k n : Nat} (X : Stand p l e R s m args below meth c T locs cells slots) (Y : Stand p l e R' ((T.setVm s.vm).setFrames (.invoking m args :: below)) m args below meth c T [] 0 0) (Z : Stand p l e R' ((T.setVm s.vm).setFrames (.invoking m args :: below)) m args below meth c S [] k n) :
    Stand p l e R s m args below meth c S locs (cells + k) (slots + n) := by
  have hW0 : s.WarmedH ((T.setVm s.vm).setFrames (.invoking m args :: below)).vm := State.WarmedH.refl s
  refine { admits := X.admits, cas := X.cas, clock := X.clock, frames := X.frames, room := X.room, hears := X.hears, method := X.method, code := X.code, here := Z.here, tail := Z.tail, warmed := State.WarmedH.trans hW0 Z.warmed, limits := Z.limits.trans (Y.limits.symm.trans X.limits), bytes := Z.bytes.trans (Y.bytes.symm.trans X.bytes), same := ?_ }
  obtain ⟨e1, e2⟩ := Z.same
  rw [State.setFrames_setFrames] at e1
  have h2 : (T.setVm s.vm).sameButNew (S.setVm s.vm) [] k n := ⟨e1, e2⟩
  have h3 := X.same.trans h2
  rw [List.append_nil] at h3
  exact h3
end
section
variable {p : Program} {l : Launch} {e : Env} {R : Room} {s : State} {m : MethodId} {args : Array Value} {below : List Frame} {meth : Method} {c : Code} {H : Heap} {locs : List Loc} {cells slots : Nat} {Q : State → Prop} {ls : Array Slot} {rest : List Value}
theorem vx_athrow {cc : ByteArray} {pc : Nat} (hexec : p.tables.exec = Jvm.exec) (hb : c.code = cc) {q : Addr} (hdg : decode cc pc = .ok (.athrow, 1)) (k : vx_W p l e R s m args below meth c H locs cells slots Q (F0 m pc ls rest) q) : W p l e R s m args below meth c H locs cells slots Q (F0 m pc ls (.ref q :: rest)) := by
  intro T hT X
  obtain ⟨t, st, hq⟩ := k T hT X
  refine ⟨t, ?_, hq⟩
  have hdg' : decode c.code pc = .ok (.athrow, 1) := by rw [hb]; exact hdg
  jvm_step X.here [X.here.top, hexec, hdg', athrow.wp_sem]
  exact st
end
abbrev lk_E2 : String := "java/util/NoSuchElementException"
abbrev lk_Y1 : String := "java/lang/RuntimeException"
abbrev lk_r1 : List String := ["java/lang/Exception"]
abbrev lk_t2 : String := "no such what"
def ly_six : ByteArray := ⟨#[0x2a, 0x2b, 0xb7, 0x00, 0x0d, 0xb1]⟩
theorem ly_six_0 : decode ly_six 0 = .ok (.aload_n 0, 1) := by decide +kernel
theorem ly_six_1 : decode ly_six 1 = .ok (.aload_n 1, 1) := by decide +kernel
theorem ly_six_2 : decode ly_six 2 = .ok (.invokespecial 13, 3) := by decide +kernel
theorem ly_six_5 : decode ly_six 5 = .ok (.return_, 1) := by decide +kernel
/-- what follows the chain among a throw's words -/
def ly_end : List Cond := (Bundle.ownAtoms RX9 158 lk_E2 []).drop (Bundle.throwableAtoms.length + Bundle.throwableSAtoms.length + 5)
def ly_all : List Cond := Bundle.throwableAtoms ++ Bundle.throwableSAtoms ++ (Bundle.passSAtoms lk_E2 lk_Y1 13 ly_six ++ Bundle.chainSAtoms lk_Y1 lk_r1) ++ ly_end
theorem ly_m1 {x : Cond} (h : x ∈ Bundle.throwableAtoms) : x ∈ ly_all := List.mem_append_left _ (List.mem_append_left _ (List.mem_append_left _ h))
theorem ly_m2 {x : Cond} (h : x ∈ Bundle.throwableSAtoms) : x ∈ ly_all := List.mem_append_left _ (List.mem_append_left _ (List.mem_append_right _ h))
theorem ly_m3 {x : Cond} (h : x ∈ Bundle.passSAtoms lk_E2 lk_Y1 13 ly_six) : x ∈ ly_all := List.mem_append_left _ (List.mem_append_right _ (List.mem_append_left _ h))
theorem ly_m4 {x : Cond} (h : x ∈ Bundle.chainSAtoms lk_Y1 lk_r1) : x ∈ ly_all := List.mem_append_left _ (List.mem_append_right _ (List.mem_append_right _ h))
section
variable {p : Program} {l : Launch} {e : Env} {R : Room} {s : State} {m₀ : MethodId} {args : Array Value} {below : List Frame} {meth : Method} {c : Code} {W : State} {locs : List Loc} {cells slots : Nat}
set_option maxHeartbeats 1000000 in
theorem ly_ctor (X : Stand p l e R s m₀ args below meth c W locs cells slots) (hexec : p.tables.exec = Jvm.exec) (htr : e.platform.stackTraces = false)
    (hown : s.vm.findClass RX9 = some m₀.cls)
    (h : ∀ a ∈ ly_all, a.before args s = true)
    (hlocs : ∀ x ∈ locs, ∀ cell, s.heap[x.base]? = some cell → cell.vm.isStatics = false)
    {a : Addr} {cX : ClassId} {kX : Class} (hfoundX : s.vm.findClass lk_E2 = some cX) (hkX : s.vm.classes[cX]? = some kX) (hcell : W.heap[a]? = some (freshCell cX kX)) (hnew : s.heap.size ≤ a)
    {msg : Value} (hmsg : msg.isRef = true)
    {g : JFrame} (hg : g.method = m₀) (hsize : g.locals.size = c.maxLocals) {rest : List Value} (hstack : g.stack = msg :: .ref a :: .ref a :: rest)
    (hd6 : decode c.code g.pc = .ok (.invokespecial 158, 3))
    (hRframes : 5 < R.frames) (hRlocals : 2 * g.monitorRoom + ((Value.ref a :: rest).map fun v => v.category).sum + (13 * 3 + 42) ≤ R.locals) :
    ∃ (V : State) (ce : Cell) (L : List Loc), Stand p l e R s m₀ args below meth c (V.setCell a ce) (locs ++ L) cells slots ∧ (∀ y ∈ L, y.base = a) ∧ a < V.heap.size ∧ ce.cls = cX ∧ ce.vm = .none ∧
      ∀ target, Steps p.tables e below ((V.setCell a ce).setTop { g with stack := .ref a :: rest, pc := g.pc + 3 }) target → Steps p.tables e below (W.setTop g) target := by
  have howns : e.platform.frameOwnsMonitors = true := by rw [X.admits.platform]
  have hfin : e.platform.finalization = false := by rw [X.admits.platform]
  have hpl : e.platform.magicAccessors = ({} : Platform).magicAccessors := by rw [X.admits.platform]
  have a' : ∀ x, x ∈ ly_all → x.holds args s none s [] = true := fun x hx => h x hx
  obtain ⟨T, Z0, L, -, Y⟩ := ThrowableC.of_atoms (args := args) howns hfin hpl (fun x hx => h x (ly_m1 hx))
  obtain ⟨Z, M, LZ, LM, hnZ⟩ := Init0T.ofS_atoms (args := args) hpl L Y (fun x hx => h x (ly_m2 hx))
  obtain ⟨P1, L1, hP1m, hs1⟩ := PassC.ofS_atoms (args := args) (s := s) hpl (X := lk_E2) (Y := lk_Y1) (by decide +kernel) (by decide) ly_six_0 ly_six_1 ly_six_2 ly_six_5 (fun x hx => h x (ly_m3 hx))
  obtain ⟨P2, Ps, hlen, L2, hL, hP2m, hlink2, hlink⟩ := Bundle.chainS (args := args) hpl hnZ lk_r1 lk_Y1 (by decide +kernel) (by decide +kernel) (fun x hx => h x (ly_m4 hx))
  have hsup : P1.sup = P2.m := Option.some.inj (hs1.symm.trans hP2m)
  have hlen : Ps.length = 1 := hlen
  have hfound : s.vm.findClass lk_E2 = some P1.m.cls := findClass_of_methodNamed hP1m
  cases Option.some.inj (hfoundX.symm.trans hfound)
  obtain ⟨c1, kX', hc1, hk, hord, -, -, hn6⟩ := Cond.instantiable_spec (a' (.instantiable lk_E2 6) (by decide +kernel))
  cases Option.some.inj (hc1.symm.trans hfound)
  cases Option.some.inj (hkX.symm.trans hk)
  have hsel0 : selectMethod e.platform s.vm P1.m.cls T.fill0 = .method T.fill0 := by
    obtain ⟨c2, r2, m2, q1, q2, q3, q4, -⟩ := Cond.selects_spec (a' (.selects lk_E2 Bundle.tFill0 Bundle.tFill0) (by decide +kernel))
    cases Option.some.inj (q1.symm.trans hfound)
    cases Option.some.inj (q2.symm.trans (State.methodFound?_of_named Y.fill0 (by decide)))
    cases Option.some.inj (q3.symm.trans Y.fill0)
    rw [Launch.admits_selectMethod X.admits]; exact q4
  have hselF : selectMethod e.platform s.vm P1.m.cls T.fill = .method T.fill := by
    obtain ⟨c2, r2, m2, q1, q2, q3, q4, -⟩ := Cond.selects_spec (a' (.selects lk_E2 Bundle.tFill Bundle.tFill) (by decide +kernel))
    cases Option.some.inj (q1.symm.trans hfound)
    cases Option.some.inj (q2.symm.trans (State.methodFound?_of_named Y.fill (by decide)))
    cases Option.some.inj (q3.symm.trans Y.fill)
    rw [Launch.admits_selectMethod X.admits]; exact q4
  obtain ⟨cellS0, hcS0, hiss⟩ := Y.statics
  obtain ⟨u0, hu0⟩ := Cond.staticRefV Y.unassigned L.unassignedStatic L.statics hcS0 hiss (a' (.isRef (.static Bundle.tN "UNASSIGNED_STACK" Bundle.steD)) (by decide +kernel))
  obtain ⟨sen, hsen⟩ := Cond.staticRefV Y.sentinel L.sentinelStatic L.statics hcS0 hiss (a' (.isRef (.static Bundle.tN "SUPPRESSED_SENTINEL" Bundle.listD)) (by decide +kernel))
  obtain ⟨ci198, i198, fB, hk198, hg198, ha198, hsB, -, hnB, htB, hffB⟩ := Cond.ownField (t := .object "java/lang/Object") Y.found L.cls (by decide +kernel) (a' (.fieldLink Bundle.tN 198 Bundle.tN "backtrace" "Ljava/lang/Object;") (by decide +kernel)) (a' (.lays Bundle.tN Bundle.tN "backtrace" "Ljava/lang/Object;") (by decide +kernel)) e.platform hpl
  obtain ⟨cellS, hcS', heS, -, hkeep⟩ := X.same.2.2.2.2.2 T.aS cellS0 hcS0
  have hcellS : W.heap[T.aS]? = some cellS := hcS'
  have hout' : ∀ i, (⟨T.aS, i⟩ : Loc) ∉ locs := fun i hmem => by
    have := hlocs _ hmem cellS0 hcS0
    rw [hiss] at this; cases this
  have hknownS : cellS.vm ≠ .unknown := by
    rw [heS]; intro hu
    rw [show cellS0.vm = .unknown from hu] at hiss
    cases hiss
  have hneS : T.aS ≠ a := Nat.ne_of_lt (Nat.lt_of_lt_of_le (Array.getElem?_eq_some_iff.mp hcS0).1 hnew)
  obtain ⟨iM, hffM⟩ := Y.msg
  obtain ⟨tyC, dC, hdC, hdnC⟩ := Cond.laysAt hfound hk Y.cause (a' (.lays lk_E2 Bundle.tN "cause" "Ljava/lang/Throwable;") (by decide +kernel))
  obtain ⟨tyS, dS, hdS, hdnS⟩ := Cond.laysAt hfound hk Y.stack (a' (.lays lk_E2 Bundle.tN "stackTrace" Bundle.steD) (by decide +kernel))
  obtain ⟨tyP, dP, hdP, hdnP⟩ := Cond.laysAt hfound hk Y.supp (a' (.lays lk_E2 Bundle.tN "suppressedExceptions" Bundle.listD) (by decide +kernel))
  obtain ⟨tyM, dM, hdM, hdnM⟩ := Cond.laysAt hfound hk hffM (a' (.lays lk_E2 Bundle.tN "detailMessage" "Ljava/lang/String;") (by decide +kernel))
  obtain ⟨tyB, dB, hdB, hdnB⟩ := Cond.laysAt hfound hk hffB (a' (.lays lk_E2 Bundle.tN "backtrace" "Ljava/lang/Object;") (by decide +kernel))
  have bC := Cond.laysApart hdB hdC hdnB hdnC (by rw [hnB, Y.causeName]; decide)
  have bS := Cond.laysApart hdB hdS hdnB hdnS (by rw [hnB, Y.stackName]; decide)
  have bP := Cond.laysApart hdB hdP hdnB hdnP (by rw [hnB, Y.suppName]; decide)
  have hskip : SkipFacts T e.platform s (fun u => u) u0 ((preparedCellV T.toThrowableT (freshCell P1.m.cls kX) a u0 sen).withEntry W.cur) :=
    ⟨{ ci198 := ci198, i198 := i198, fBack := fB }, ⟨hk198, hg198, ha198, hsB⟩, by
      have := fresh_default (c := P1.m.cls) tyB
      rw [htB] at this
      simpa [preparedCellV, Cell.setSlot, Cell.withEntry, Array.getElem?_setIfInBounds, bC, bS, bP, bC.symm, bS.symm, bP.symm, defaultValue] using this, fun _ _ => rfl⟩
  obtain ⟨tm, methC, cdC, kC, vm₁, hnC, -, -, -, -, -, -, -, hW₁, st1⟩ := Steps.initColdS (tb := p.tables) (e := e) (below := below) (s := s) (U := W) X.here hexec X.warmed hpl hown (t := Bundle.initS lk_E2) rfl rfl (Bundle.fit_spec (n := lk_E2) (by decide +kernel)).2
    (a' (.methodLink RX9 158 (Bundle.initS lk_E2)) (by decide +kernel)) (h (.instanceMethod (Bundle.initS lk_E2)) (by decide +kernel)) (bytes := ly_six) (maxL := 2) (h (.code (Bundle.initS lk_E2) ly_six 2 none) (by decide +kernel))
    (f := g) hg (a := a) (msg := msg) (rest := .ref a :: rest) hstack hd6
  cases Option.some.inj (hnC.symm.trans hP1m)
  have X₁ := X.noted hW₁
  obtain ⟨vm₂, X₂, st2⟩ := X₁.ctorMessageOffV hexec (g := { g with stack := .ref a :: rest }) hg hsize T L Z LZ M LM (P1 :: P2 :: Ps)
    (fun P hP => by
      rcases List.mem_cons.mp hP with rfl | hP
      · exact L1
      · rcases List.mem_cons.mp hP with rfl | hP
        · exact L2
        · exact hL P hP) ⟨hsup, hlink2, hlink⟩ (u0 := u0) (sen := sen) (self := a) hmsg (cell := freshCell P1.m.cls kX) (cellS := cellS)
    hcell (fun _ => by simp) (by simp) rfl rfl hsel0 hselF hcellS hneS hknownS (by rw [hkeep _ (hout' _)]; exact hu0) (by rw [hkeep _ (hout' _)]; exact hsen)
    (Takes.of_laid hk hord tyC (by rw [Y.causeType]; rfl)) (Takes.of_laid hk hord tyS (by rw [Y.stackType]; exact fits_refV_array _ u0)) (Takes.of_laid hk hord tyP (by rw [Y.suppType]; exact fits_refV_object _ sen))
    (Takes.of_laid hk hord tyM (by rw [Y.msgType]; exact fits_refV_object _ ⟨msg, hmsg⟩)) Y.objLocals hskip htr [] hd6
    (by simp only [List.length_cons, hlen]; omega) (by simp only [List.length_cons, hlen]; exact hRlocals)
  have hlt : a < ((W.setVm vm₁).setVm vm₂).heap.size := (Array.getElem?_eq_some_iff.mp hcell).1
  refine ⟨(W.setVm vm₁).setVm vm₂, _, _, X₂, fun y hy => ?_, hlt, rfl, rfl, fun target hwalk => st1 _ (fun acts => ?_)⟩
  · simp only [List.mem_cons, List.not_mem_nil, or_false] at hy
    rcases hy with rfl | rfl | rfl | rfl | rfl <;> rfl
  · rw [doInvoke_state]
    exact st2 _ hwalk
end
theorem ly_ot : ∀ w ∈ Cond.classLink RX9 154 lk_E2 :: Cond.initialized lk_E2 :: ly_all.filter vx_no, vx_ot w = true := by decide +kernel
section
variable {p : Program} {l : Launch} {e : Env} {R : Room} {s : State} {m : MethodId} {args : Array Value} {below : List Frame} {meth : Method} {c : Code} {H : Heap} {locs : List Loc} {cells slots : Nat} {Q : State → Prop} {ls : Array Slot} {rest : List Value}
/-- the object, ready to be thrown -/
theorem ly_make {cc : ByteArray} {pc : Nat} (hexec : p.tables.exec = Jvm.exec) (hb : c.code = cc) (hl : l.stackTraces = false) {sa : Nat} {A : Nat → Prop} (hown : s.vm.findClass RX9 = some m.cls)
    (hk : (Cond.classLink RX9 154 lk_E2).before args s = true) (hini : (Cond.initialized lk_E2).before args s = true) (hstr : vk_R RX9 156 lk_t2 sa s) (hat : ∀ w ∈ ly_all.filter vx_no, w.before args s = true)
    (hU : vx_Zq Bundle.tN "UNASSIGNED_STACK" Bundle.steD A s s.heap) (hN : vx_Zq Bundle.tN "SUPPRESSED_SENTINEL" Bundle.listD A s s.heap) (hS : va_S A s.heap H locs) (hsize : ls.size = c.maxLocals)
    (d0 : decode cc pc = .ok (.new 154, 3)) (d3 : decode cc (pc + 3) = .ok (.dup, 1)) (d4 : decode cc (pc + 4) = .ok (.ldc 156, 2)) (d6 : decode cc (pc + 6) = .ok (.invokespecial 158, 3))
    (hRframes : 5 < R.frames) (hRlocals : (rest.map fun v => v.category).sum + (13 * 3 + 43) ≤ R.locals) (hRcells : cells + 1 ≤ R.cells) (hRslots : slots + 6 ≤ R.slots)
    (kk : ∀ (q : Nat) (ce : Cell) (H1 : Heap), H1[q]? = some ce → ce.vm = .none → s.vm.findClass lk_E2 = some ce.cls → H.size ≤ H1.size → (∀ z : Nat, z < H.size → H1[z]? = H[z]?) → W p l e R s m args below meth c H1 locs (cells + 1) (slots + 6) Q (F0 m (pc + 9) ls (.ref q :: rest))) :
    W p l e R s m args below meth c H locs cells slots Q (F0 m pc ls rest) := by
  intro T hT X
  subst hT
  have htr : e.platform.stackTraces = false := (show e.platform.stackTraces = l.stackTraces by rw [X.admits.platform]).trans hl
  have Y := vx_rebase X (R' := { frames := R.frames, locals := R.locals, cells := 1, slots := 6 }) (Nat.le_refl _) (Nat.le_refl _) hRcells hRslots
  obtain ⟨s', hA'⟩ : ∃ z, z = (T.setVm s.vm).setFrames (.invoking m args :: below) := ⟨_, rfl⟩
  rw [← hA'] at Y
  have hvm : s'.vm = s.vm := by rw [hA']; rfl
  have hhp : s'.heap = T.heap := by rw [hA']; rfl
  have hW0 : s.WarmedH s'.vm := by rw [hvm]; exact State.WarmedH.refl s
  have hat' : ∀ w ∈ ly_all.filter vx_no, w.before args s' = true := fun w hw => vx_ot_at hW0 hvm.symm (ly_ot w (List.mem_cons_of_mem _ (List.mem_cons_of_mem _ hw))) (hat w hw)
  have hk' : (Cond.classLink RX9 154 lk_E2).before args s' = true := vx_ot_at hW0 hvm.symm (ly_ot _ List.mem_cons_self) hk
  have hini' : (Cond.initialized lk_E2).before args s' = true := vx_ot_at hW0 hvm.symm (ly_ot _ (List.mem_cons_of_mem _ List.mem_cons_self)) hini
  have hU' : vx_Zq Bundle.tN "UNASSIGNED_STACK" Bundle.steD A s' s'.heap := by rw [hhp]; exact vx_Zq.moved hW0.alike (hU.kept hS.2.1)
  have hN' : vx_Zq Bundle.tN "SUPPRESSED_SENTINEL" Bundle.listD A s' s'.heap := by rw [hhp]; exact vx_Zq.moved hW0.alike (hN.kept hS.2.1)
  have h : ∀ w ∈ ly_all, w.before args s' = true := vx_own hat' (vx_isRefq hU'.1) (vx_isRefq hN'.1) hU'.2.word hN'.2.word
  have hown' : s'.vm.findClass RX9 = some m.cls := by rw [hvm]; exact hown
  have hins : (Cond.instantiable lk_E2 6).before args s' = true := h _ (by decide +kernel)
  obtain ⟨vm₁, cX, kX, hfX, hkX, -, -, X₁, st1⟩ := Y.newCold hexec (own := RX9) (C := lk_E2) (index := 154) (n := 6) hown' hk' hins hini'
    (g := F0 m pc ls rest) rfl (by rw [hb]; exact d0) (Nat.le_refl _) (Nat.le_refl _)
  generalize hT1 : (T.setVm vm₁).pushCell { cls := cX, slots := kX.instanceTypes.map defaultValue, vm := .none } = T1 at X₁ st1
  have hcat : (Value.ref T.heap.size).category = 1 := rfl
  have hcellA : T1.heap[T.heap.size]? = some (freshCell cX kX) := by rw [← hT1]; exact State.heap_pushCell_size _ _
  have d3' : decode c.code (pc + 3) = .ok (.dup, 1) := by rw [hb]; exact d3
  have d4' : decode c.code (pc + 4) = .ok (.ldc 156, 2) := by rw [hb]; exact d4
  have hstr' : vk_R RX9 156 lk_t2 sa s' := vk_R.warm hW0 hstr
  obtain ⟨V, ce, L, Z, hL, hlt, hcl9, hvm9, st⟩ := ly_ctor X₁ hexec htr hown' h (fun x hx => nomatch hx) hfX hkX hcellA (by rw [hhp]; exact Nat.le_refl _) (msg := .ref sa) rfl
    (g := { method := m, pc := pc + 6, locals := ls, stack := .ref sa :: .ref T.heap.size :: .ref T.heap.size :: rest, locked := none }) rfl hsize (rest := rest) rfl
    (by rw [hb]; exact d6) hRframes (by simp only [List.map_cons, List.sum_cons, hcat]; omega)
  have Z0 := Stand.forget (locs := []) Z (fun y hy => by rw [hL y hy, hhp]; exact Nat.le_refl _)
  obtain ⟨f1, f2⟩ := vx_frame Z0.same
  rw [hhp] at f1 f2
  have hh : (V.setCell T.heap.size ce).heap[T.heap.size]? = some ce := heapAt_setCell_self (s := V) ce hlt
  have hvm' : s'.vm = s.vm := hvm
  have hfX' : s.vm.findClass lk_E2 = some cX := by rw [← hvm']; exact hfX
  subst hA'
  have X5 := vx_back9 X Y Z0
  have X6 : Stand p l e R s m args below meth c (V.setCell T.heap.size ce) locs (cells + 1) (slots + 6) := { X5 with same := X5.same.mono (by omega) (by omega) }
  obtain ⟨t, a1, b1⟩ := kk T.heap.size ce (V.setCell T.heap.size ce).heap hh hvm9 (by rw [hcl9]; exact hfX') f1 (fun z hz => f2 z hz (fun y hy => nomatch hy)) _ rfl X6
  refine ⟨t, st1 _ ?_, b1⟩
  show Steps p.tables e below (T1.setTop { method := m, pc := pc + 3, locals := ls, stack := .ref T.heap.size :: rest, locked := none }) _
  jvm_step X₁.here [X₁.here.top, hexec, d3', Value.category]
  exact X₁.ldcString hexec (own := RX9) (text := lk_t2) (index := 156) (a := sa) hown' hstr'.1 hstr'.2
    (g := { method := m, pc := pc + 4, locals := ls, stack := .ref T.heap.size :: .ref T.heap.size :: rest, locked := none }) rfl d4' _ (st _ a1)
end
end
section
variable {Tc : gC} {Tm : gM}
abbrev lk_E : String := "java/lang/IndexOutOfBoundsException"
abbrev lk_N : List String := ["java/lang/RuntimeException", "java/lang/Exception"]
abbrev lk_t : String := "no such man"
def lx_Y (U : State) : Prop := va_Nw (.declares (Bundle.initS "java/lang/RuntimeException")) U ∧ va_Nw (.declares (Bundle.initS "java/lang/Exception")) U ∧ va_Nw (.declares (Bundle.initS "java/lang/Throwable")) U ∧ va_Nw (.castable lk_E lk_E) U ∧ va_Nw (.castable lk_E2 lk_E2) U ∧ va_Nc lk_E2 lk_E U
theorem lx_Y.warm {s U : State} (hW : s.WarmedH U.vm) (h : lx_Y s) : lx_Y U := ⟨h.1.warmD hW, h.2.1.warmD hW, h.2.2.1.warmD hW, h.2.2.2.1.warmC hW, h.2.2.2.2.1.warmC hW, va_Nc.moved hW.alike h.2.2.2.2.2⟩
theorem lx_Y.call {U : State} {g : JFrame} {mk : MethodId} {a : Array Value} (h : lx_Y U) : lx_Y (U.calling g mk a) := ⟨va_Nw.same rfl rfl h.1, va_Nw.same rfl rfl h.2.1, va_Nw.same rfl rfl h.2.2.1, va_Nw.same rfl rfl h.2.2.2.1, va_Nw.same rfl rfl h.2.2.2.2.1, va_Nc.moved (u := U) (Vm.Alike.refl U.vm) h.2.2.2.2.2⟩
def lk_S (A : Nat → Prop) (U : State) (H : Heap) : Prop := ((∃ sa, vk_R RX9 110 lk_t sa U) ∧ ∃ sa, vk_R RX9 156 lk_t2 sa U) ∧ vx_Zq Bundle.tN "UNASSIGNED_STACK" Bundle.steD A U H ∧ vx_Zq Bundle.tN "SUPPRESSED_SENTINEL" Bundle.listD A U H ∧ lx_Y U
theorem lk_at {args : Array Value} {s : State} (hts : ∀ w ∈ lw_g, w.before args s = true) (hY : lx_Y s) : ∀ w ∈ vx_atS RX9 112 lk_E lk_N, w.before args s = true := by
  intro w hw
  have h1 : vx_atS RX9 112 lk_E lk_N = ([140, 1267, 1276, 1279, 1282, 1284, 1268, 1269, 152, 153, 1270, 1275, 1280, 1300, 1257, 1301, 1259, 1302, 1261, 1271, 1273, 1263, 1296, 1297, 1299, 1263, 1287, 1288, 1289, 1290, 1249, 1290, 1291, 1292, 1293, 1251, 1293, 1294, 1295, 1296, 1253, 1286, 1246, 1247, 1254, 1255, 1256, 1258, 1260, 1262, 1266, 1265, 1264] : List Nat).filterMap (fun i => lw_tbl[i]?) := by decide +kernel
  have h2 : (vx_atS RX9 112 lk_E lk_N).all (fun w => goodWord w || (decide (w = .declares (Bundle.initS "java/lang/RuntimeException")) || (decide (w = .declares (Bundle.initS "java/lang/Exception")) || (decide (w = .declares (Bundle.initS "java/lang/Throwable")) || decide (w = .castable lk_E lk_E))))) = true := by decide +kernel
  have hg := List.all_eq_true.mp h2 w hw
  simp only [Bool.or_eq_true, decide_eq_true_eq] at hg
  rcases hg with hg | rfl | rfl | rfl | rfl
  · rw [h1] at hw
    obtain ⟨i, -, hi⟩ := List.mem_filterMap.mp hw
    exact hts _ (lw_g_mem i hi hg)
  · exact va_Nw.use rfl hY.1
  · exact va_Nw.use rfl hY.2.1
  · exact va_Nw.use rfl hY.2.2.1
  · exact va_Nw.use rfl hY.2.2.2.1
theorem ly_at {args : Array Value} {s : State} (hts : ∀ w ∈ lw_g, w.before args s = true) (hY : lx_Y s) : ∀ w ∈ ly_all.filter vx_no, w.before args s = true := by
  intro w hw
  have h1 : ly_all.filter vx_no = ([140, 1267, 1276, 1279, 1282, 1284, 1268, 1269, 152, 153, 1270, 1275, 1280, 1300, 1257, 1301, 1259, 1302, 1261, 1271, 1273, 1263, 1296, 1297, 1299, 1263, 1323, 1324, 1325, 1290, 1249, 1290, 1291, 1292, 1293, 1251, 1293, 1294, 1295, 1296, 1253, 1322, 1313, 1314, 1315, 1278, 1316, 1317, 1318, 1319, 1266, 1265, 1320] : List Nat).filterMap (fun i => lw_tbl[i]?) := by decide +kernel
  have h2 : (ly_all.filter vx_no).all (fun w => goodWord w || (decide (w = .declares (Bundle.initS "java/lang/RuntimeException")) || (decide (w = .declares (Bundle.initS "java/lang/Exception")) || (decide (w = .declares (Bundle.initS "java/lang/Throwable")) || decide (w = .castable lk_E2 lk_E2))))) = true := by decide +kernel
  have hg := List.all_eq_true.mp h2 w hw
  simp only [Bool.or_eq_true, decide_eq_true_eq] at hg
  rcases hg with hg | rfl | rfl | rfl | rfl
  · rw [h1] at hw
    obtain ⟨i, -, hi⟩ := List.mem_filterMap.mp hw
    exact hts _ (lw_g_mem i hi hg)
  · exact va_Nw.use rfl hY.1
  · exact va_Nw.use rfl hY.2.1
  · exact va_Nw.use rfl hY.2.2.1
  · exact va_Nw.use rfl hY.2.2.2.2.1
theorem lk_k : Cond.classLink RX9 108 lk_E ∈ lw_g := lw_g_mem 1245 (by decide +kernel) (by decide +kernel)
theorem lk_i : Cond.initialized lk_E ∈ lw_g := lw_g_mem 143 (by decide +kernel) (by decide +kernel)
theorem lk_ot : ∀ w ∈ Cond.classLink RX9 108 lk_E :: Cond.initialized lk_E :: vx_atS RX9 112 lk_E lk_N, vx_ot w = true := by decide +kernel
theorem lk_k2 : Cond.classLink RX9 154 lk_E2 ∈ lw_g := lw_g_mem 1312 (by decide +kernel) (by decide +kernel)
theorem lk_i2 : Cond.initialized lk_E2 ∈ lw_g := lw_g_mem 144 (by decide +kernel) (by decide +kernel)
theorem lk_S.moved {A : Nat → Prop} {s U : State} {H H1 : Heap} (hW : s.WarmedH U.vm) (hq : ∀ a : Nat, a < H.size → ¬ A a → H1[a]? = H[a]?) (h : lk_S A s H) : lk_S A U H1 := by
  obtain ⟨⟨⟨sa, h1⟩, sb, hb⟩, h2, h3, h4⟩ := h
  exact ⟨⟨⟨sa, h1.warm hW⟩, sb, hb.warm hW⟩, (h2.moved hW.alike).kept hq, (h3.moved hW.alike).kept hq, h4.warm hW⟩
theorem lk_S.call {A : Nat → Prop} {U : State} {H : Heap} {g : JFrame} {mk : MethodId} {a : Array Value} (h : lk_S A U H) : lk_S A (U.calling g mk a) H := by
  obtain ⟨⟨⟨sa, h1⟩, sb, hb⟩, h2, h3, h4⟩ := h
  exact ⟨⟨⟨sa, vk_R.same (u := U) rfl h1⟩, sb, vk_R.same (u := U) rfl hb⟩, vx_Zq.moved (u := U) (Vm.Alike.refl U.vm) h2, vx_Zq.moved (u := U) (Vm.Alike.refl U.vm) h3, h4.call⟩
abbrev lk_hh : List (Nat × Nat × Nat × Nat) := [(0, 10, 13, 13), (0, 10, 17, 15)]
theorem lk_cw : Cond.codeWith yL_look cL_look 5 (some .int) lk_hh ∈ lw_g := lw_g_mem 1238 (by decide +kernel) (by decide +kernel)
theorem lk_cl : Cond.classLink RL 13 lk_E ∈ lw_g := lw_g_mem 1239 (by decide +kernel) (by decide +kernel)
theorem lk_cl2 : Cond.classLink RL 15 lk_E2 ∈ lw_g := lw_g_mem 1240 (by decide +kernel) (by decide +kernel)
theorem lk_st : Cond.static yL_look ∈ lw_g := lw_g_mem 1237 (by decide +kernel) (by decide +kernel)
theorem lk_ml : Cond.methodLink RL 39 yL_look ∈ lw_g := lw_g_mem 1236 (by decide +kernel) (by decide +kernel)
theorem lk_in : Cond.initialized yL_look.cls ∈ lw_g := in_L
theorem lk_S.narrow {A B : Nat → Prop} {U : State} {H : Heap} (h : lk_S A U H) (hAB : ∀ q, B q → A q) : lk_S B U H := ⟨h.1, h.2.1.narrow hAB, h.2.2.1.narrow hAB, h.2.2.2⟩
def lk_P (D : va_G) (A : Nat → Nat → Nat) (cy : Nat → ClassId) (M : ti_M) (U : State) : Prop := va_P D vwCl (ti_W ti_LT A cy M) U.heap ∧ va_K D vwCl (ti_ty cy) U ∧ lk_S (ti_As ti_LT A) U U.heap
theorem lk_bl {D : va_G} {A : Nat → Nat → Nat} {cy : Nat → ClassId} {M : ti_M} {av : List Value} : FrameBlind (va_Pc av (lk_P D A cy M)) := fun a U g mk q => ⟨q.1, q.2.1, va_K.moved (u := U) (U := U.calling g mk a) (Vm.Alike.refl U.vm) q.2.2.1, q.2.2.2.call⟩
def lk_F (A : Nat → Nat → Nat) (q3 : Nat) : Nat → Prop := fun q => ti_As ti_LT A q ∨ q = q3
def lk_Q (D : va_G) (A : Nat → Nat → Nat) (cy : Nat → ClassId) (M : ti_M) (q3 : Nat) (f : Nat → Int64) (U : State) : Prop := va_P D vwCl (ti_W ti_LT A cy M) U.heap ∧ va_P D vwCl [(q3, .inl (cy 2, 1, .inr (.inl f)))] U.heap ∧ va_K D vwCl (ti_ty cy) U ∧ lk_S (lk_F A q3) U U.heap
theorem lk_blQ {D : va_G} {A : Nat → Nat → Nat} {cy : Nat → ClassId} {M : ti_M} {q3 : Nat} {f : Nat → Int64} {av : List Value} : FrameBlind (va_Pc av (lk_Q D A cy M q3 f)) := fun a U g mk q => ⟨q.1, q.2.1, q.2.2.1, va_K.moved (u := U) (U := U.calling g mk a) (Vm.Alike.refl U.vm) q.2.2.2.1, q.2.2.2.2.call⟩
def lk_X (D : va_G) (A : Nat → Nat → Nat) (cy : Nat → ClassId) (M : ti_M) : String → State → State → Prop := vx_X (fun _ : Unit => True) (fun E _ t => (E = lk_E ∨ E = lk_E2) ∧ va_P D vwCl (ti_W ti_LT A cy M) t.heap) (ti_As ti_LT A)
theorem lk_thr {s t : State} {D : va_G} {A : Nat → Nat → Nat} {cy : Nat → ClassId} {M : ti_M} {H : Heap} {locs : List Loc} {E : String} (hE : E = lk_E ∨ E = lk_E2) (hw : ti_H ti_LT D A cy s.heap M H locs) (hz : H.size ≤ t.heap.size) (hk : ∀ q : Nat, q < H.size → t.heap[q]? = H[q]?) : lk_X D A cy M E s t := by
  refine ⟨(), trivial, ⟨hE, hw.1.kept (fun k q hq => hk q.1 ((hw.1 k q hq).lt))⟩, Nat.le_trans hw.2.1 hz, fun q h1 h2 => ?_⟩
  rw [hk q (Nat.lt_of_lt_of_le h1 hw.2.1)]
  exact hw.2.2.1 q h1 h2
set_option maxHeartbeats 4000000 in
set_option maxRecDepth 100000 in
theorem s_X9_look (l : Launch) (hst : l.stackTraces = false) (D : va_G) (A : Nat → Nat → Nat) (cy : Nat → ClassId) (hJ : ti_inj ti_LT A) (M : ti_M) (hI : cI Tc M) (hF : cF Tc M) (z1 z2 : Int32) : vx_Met l yX9_look (.code yX9_look cX9_look 3 (some .int) :: lw_g) (ti_rmc 8 1 6) (va_Pc [.ref (A 0 0), .int z1, .int z2] (lk_P D A cy M)) (va_Qi (fun _ (M2 : ti_M) => M2 = M) (ti_B ti_LT D A cy) (ti_As ti_LT A)) (lk_X D A cy M) 1 6 (ti_As ti_LT A) := by
  refine vx_ofW (cc := cX9_look) (maxL := 3) (ret := some .int) yp_X9_look rfl ?_
  intro p e s m args below meth c s₁ B hml htab hv
  obtain ⟨rfl, hP, hK, ⟨⟨sa, hsa⟩, sb, hsb⟩, hU, hN, hY⟩ := hv
  rw [lg_entry_eq]
  have C : ti_C p s m c [.ref (A 0 0), .int z1, .int z2].toArray cX9_look RX9 3 D cy ti_LT A := ⟨B.exec, B.bytes, fun w h => atoms_spec (ws := .code yX9_look cX9_look 3 (some .int) :: lw_g) B.pre w (List.mem_cons_of_mem _ h), findClass_of_methodNamed B.named, hK, hml, hJ, ti_LT_nd⟩
  have hw : ti_H ti_LT D A cy s.heap M s.heap [] := ⟨hP, va_S.rf⟩
  have hl := lv_entry [.ref (A 0 0), .int z1, .int z2] (n := 3) (Nat.le_of_ble_eq_true rfl)
  generalize (lg_sl [.ref (A 0 0), .int z1, .int z2] ++ List.replicate (3 - (lg_sl [.ref (A 0 0), .int z1, .int z2]).length) Slot.unset).toArray = ls at hl ⊢
  have hl : lv_has ls 3 [(0, .ref (A 0 0)), (1, .int z1), (2, .int z2)] := hl
  have hx := C.1
  have hb := C.2.1
  have hQ : ∀ (pc : Nat) (ls : Array Slot) (r : Int32) (M2 : ti_M) (H : Heap) (locs : List Loc), ti_H ti_LT D A cy s.heap M2 H locs → narrow FieldType.int (.int r) = .int r → M2 = M → decode cX9_look pc = .ok (.ireturn, 1) → W p l e (ti_rmc 8 1 6) s m [.ref (A 0 0), .int z1, .int z2].toArray below meth c H locs 0 0 (vx_MQ below (va_Qi (fun _ (M2 : ti_M) => M2 = M) (ti_B ti_LT D A cy) (ti_As ti_LT A)) (lk_X D A cy M) [.ref (A 0 0), .int z1, .int z2].toArray s 1 6 (ti_As ti_LT A)) (F0 m pc ls [.int r]) := fun pc ls r M2 H locs hw hn hm hd => vx_ret (W.widen (k := 1) (n := 6) (Nat.zero_le _) (Nat.zero_le _) (W.zret hx hb B.returns hn (fun t ht _ => ⟨⟨r, M2, rfl, hm, by show va_P _ _ _ _; rw [ht]; exact hw.1⟩, hw.2.F ht⟩) hw.2.2.2 hd B.notSynchronized))
  obtain ⟨-, ⟨t1, ht1, hT1⟩, ⟨t2, ht2, hT2⟩, ⟨t, ht, hT⟩, hS, hM⟩ := id hF
  refine lv_aload_n hx hb dX9_look_0 rfl (lv_at hl 0 rfl) ?_
  refine lv_iload_n hx hb dX9_look_1 rfl (lv_at hl 1 rfl) ?_
  refine ti_callVi (ci := 9) (av := [.int z1]) C hw (s_X9_isMan l D A cy hJ M hI t1 ht1 (hT1) z1) ⟨ml_X9_104, ym_X9_isMan, yv_X9_isMan, yi_X9_isMan, yc_X9_isMan⟩ yd_X9_isMan ob_0 (by decide) rfl rfl hl.1 (Nat.le_of_ble_eq_true rfl) ⟨by decide, by decide⟩ ⟨Nat.zero_le _, Nat.zero_le _⟩ dX9_look_2 (fun r_1 M_2 H locs hp_2 hw => ?_)
  obtain ⟨hm, hz⟩ := hp_2
  have hw := hw.to hm
  rcases hz with ⟨rfl, d1_3, d2_3⟩ | rfl
  · refine sb_if_ne (tgt := 18) hx hb (by decide : (1 : Int32).toInt = 1) dX9_look_5 (by decide) (fun c_5_3 => ?_) (fun h => absurd h (by decide))
    refine lv_iload_n hx hb dX9_look_18 rfl (lv_at hl 2 rfl) ?_
    by_cases s_6_0 : z2 = 0
    · refine lv_tableIn (tgt := 76) (off := 57) hx hb dX9_look_19 (by rw [s_6_0]; decide) (by rw [s_6_0]; decide) (by rw [s_6_0]; decide) (by decide) ?_
      refine lv_aload_n hx hb dX9_look_76 rfl (lv_at hl 0 rfl) ?_
      refine ti_get (ci := 9) (k := 1) (N := 10) (T := TX9) (v := .ref (A t1 0)) C hw iw_9 rfl ob_0 (by decide) (by decide) fl_X9_19 rfl (ti_Tv (hT1)) dX9_look_77 ?_
      refine ti_get (ci := 8) (k := 0) (N := 12) (T := TX8) (v := .ref (A t1 1)) C hw iw_8 rfl (ob_t ht1) (by decide) (by decide) fl_X9_115 rfl rfl dX9_look_80 ?_
      refine lv_iload_n hx hb dX9_look_83 rfl (lv_at hl 1 rfl) ?_
      refine ti_aald (ci := 8) (k := 0) (n := 8) (t0 := 5) (Cn := RX2) (gg := (ti_men t1)) (j := z1.toNatClampNeg) C hw (ob_t ht1) (by decide) (fun _ _ => rfl) rfl (vp_in_iff.mpr (by omega)) rfl dX9_look_84 ?_
      have ob_7 : ti_ob ti_LT (ti_men t1 z1.toNatClampNeg) 2 := ob_m ht1 (i_nt rfl (by omega) (by omega))
      refine ti_get (ci := 2) (k := 1) (N := 10) (T := TX2) C hw iw_2 rfl ob_7 (by decide) (by decide) fl_X9_119 rfl rfl dX9_look_85 ?_
      refine lv_topi (fun x_8 ex_8 => ?_)
      exact hQ _ _ _ _ _ _ hw rfl rfl dX9_look_88
    · by_cases s_6_1 : z2 = 1
      · refine lv_tableIn (tgt := 89) (off := 70) hx hb dX9_look_19 (by rw [s_6_1]; decide) (by rw [s_6_1]; decide) (by rw [s_6_1]; decide) (by decide) ?_
        refine lv_aload_n hx hb dX9_look_89 rfl (lv_at hl 0 rfl) ?_
        refine ti_get (ci := 9) (k := 1) (N := 10) (T := TX9) (v := .ref (A t1 0)) C hw iw_9 rfl ob_0 (by decide) (by decide) fl_X9_19 rfl (ti_Tv (hT1)) dX9_look_90 ?_
        refine ti_get (ci := 8) (k := 0) (N := 12) (T := TX8) (v := .ref (A t1 1)) C hw iw_8 rfl (ob_t ht1) (by decide) (by decide) fl_X9_115 rfl rfl dX9_look_93 ?_
        refine lv_iload_n hx hb dX9_look_96 rfl (lv_at hl 1 rfl) ?_
        refine ti_aald (ci := 8) (k := 0) (n := 8) (t0 := 5) (Cn := RX2) (gg := (ti_men t1)) (j := z1.toNatClampNeg) C hw (ob_t ht1) (by decide) (fun _ _ => rfl) rfl (vp_in_iff.mpr (by omega)) rfl dX9_look_97 ?_
        have ob_9 : ti_ob ti_LT (ti_men t1 z1.toNatClampNeg) 2 := ob_m ht1 (i_nt rfl (by omega) (by omega))
        refine ti_get (ci := 2) (k := 2) (N := 10) (T := TX2) C hw iw_2 rfl ob_9 (by decide) (by decide) fl_X9_124 rfl rfl dX9_look_98 ?_
        refine lv_topi (fun x_10 ex_10 => ?_)
        exact hQ _ _ _ _ _ _ hw rfl rfl dX9_look_101
      · by_cases s_6_2 : z2 = 2
        · refine lv_tableIn (tgt := 102) (off := 83) hx hb dX9_look_19 (by rw [s_6_2]; decide) (by rw [s_6_2]; decide) (by rw [s_6_2]; decide) (by decide) ?_
          refine lv_aload_n hx hb dX9_look_102 rfl (lv_at hl 0 rfl) ?_
          refine ti_get (ci := 9) (k := 3) (N := 10) (T := TX9) (v := .ref (A 27 0)) C hw iw_9 rfl ob_0 (by decide) (by decide) fl_X9_29 rfl rfl dX9_look_103 ?_
          refine ti_get (ci := 3) (k := 10) (N := 17) (T := TX3) (v := .ref (A 27 11)) C hw iw_3 rfl ob_27 (by decide) (by decide) fl_X9_127 rfl rfl dX9_look_106 ?_
          refine lv_iload_n hx hb dX9_look_109 rfl (lv_at hl 1 rfl) ?_
          refine ti_iald (ci := 3) (k := 10) (n := 8) C hw ob_27 (by decide) (fun _ _ => rfl) (vp_in_iff.mpr (by omega)) dX9_look_110 ?_
          refine lv_topi (fun x_11 ex_11 => ?_)
          exact hQ _ _ _ _ _ _ hw rfl rfl dX9_look_111
        · by_cases s_6_3 : z2 = 3
          · refine lv_tableIn (tgt := 112) (off := 93) hx hb dX9_look_19 (by rw [s_6_3]; decide) (by rw [s_6_3]; decide) (by rw [s_6_3]; decide) (by decide) ?_
            refine lv_aload_n hx hb dX9_look_112 rfl (lv_at hl 0 rfl) ?_
            refine ti_get (ci := 9) (k := 3) (N := 10) (T := TX9) (v := .ref (A 27 0)) C hw iw_9 rfl ob_0 (by decide) (by decide) fl_X9_29 rfl rfl dX9_look_113 ?_
            refine ti_get (ci := 3) (k := 11) (N := 17) (T := TX3) (v := .ref (A 27 12)) C hw iw_3 rfl ob_27 (by decide) (by decide) fl_X9_130 rfl rfl dX9_look_116 ?_
            refine lv_iload_n hx hb dX9_look_119 rfl (lv_at hl 1 rfl) ?_
            refine ti_iald (ci := 3) (k := 11) (n := 8) C hw ob_27 (by decide) (fun _ _ => rfl) (vp_in_iff.mpr (by omega)) dX9_look_120 ?_
            refine lv_topi (fun x_12 ex_12 => ?_)
            exact hQ _ _ _ _ _ _ hw rfl rfl dX9_look_121
          · by_cases s_6_4 : z2 = 4
            · refine lv_tableIn (tgt := 122) (off := 103) hx hb dX9_look_19 (by rw [s_6_4]; decide) (by rw [s_6_4]; decide) (by rw [s_6_4]; decide) (by decide) ?_
              refine lv_aload_n hx hb dX9_look_122 rfl (lv_at hl 0 rfl) ?_
              refine ti_get (ci := 9) (k := 3) (N := 10) (T := TX9) (v := .ref (A 27 0)) C hw iw_9 rfl ob_0 (by decide) (by decide) fl_X9_29 rfl rfl dX9_look_123 ?_
              refine ti_get (ci := 3) (k := 12) (N := 17) (T := TX3) (v := .ref (A 27 13)) C hw iw_3 rfl ob_27 (by decide) (by decide) fl_X9_133 rfl rfl dX9_look_126 ?_
              refine lv_iload_n hx hb dX9_look_129 rfl (lv_at hl 1 rfl) ?_
              refine ti_iald (ci := 3) (k := 12) (n := 8) C hw ob_27 (by decide) (fun _ _ => rfl) (vp_in_iff.mpr (by omega)) dX9_look_130 ?_
              refine lv_topi (fun x_13 ex_13 => ?_)
              exact hQ _ _ _ _ _ _ hw rfl rfl dX9_look_131
            · by_cases s_6_5 : z2 = 5
              · refine lv_tableIn (tgt := 132) (off := 113) hx hb dX9_look_19 (by rw [s_6_5]; decide) (by rw [s_6_5]; decide) (by rw [s_6_5]; decide) (by decide) ?_
                refine lv_aload_n hx hb dX9_look_132 rfl (lv_at hl 0 rfl) ?_
                refine ti_get (ci := 9) (k := 3) (N := 10) (T := TX9) (v := .ref (A 27 0)) C hw iw_9 rfl ob_0 (by decide) (by decide) fl_X9_29 rfl rfl dX9_look_133 ?_
                refine lv_iload_n hx hb dX9_look_136 rfl (lv_at hl 1 rfl) ?_
                refine ti_callVi (ci := 3) (av := [.int z1]) C hw (s_X3_placeOf l D A cy hJ M hI 27 ob_27 z1) ⟨ml_X9_136, ym_X3_placeOf, yv_X3_placeOf, yi_X3_placeOf, yc_X3_placeOf⟩ yd_X3_placeOf ob_27 (by decide) rfl rfl hl.1 (Nat.le_of_ble_eq_true rfl) ⟨by decide, by decide⟩ ⟨Nat.zero_le _, Nat.zero_le _⟩ dX9_look_137 (fun r_14 M_15 H locs hp_15 hw => ?_)
                obtain ⟨hm, b0r_14, b1r_14⟩ := hp_15
                have hw := hw.to hm
                exact hQ _ _ _ _ _ _ hw rfl rfl dX9_look_140
              · by_cases s_6_6 : z2 = 6
                · refine lv_tableIn (tgt := 141) (off := 122) hx hb dX9_look_19 (by rw [s_6_6]; decide) (by rw [s_6_6]; decide) (by rw [s_6_6]; decide) (by decide) ?_
                  refine lv_aload_n hx hb dX9_look_141 rfl (lv_at hl 0 rfl) ?_
                  refine ti_get (ci := 9) (k := 3) (N := 10) (T := TX9) (v := .ref (A 27 0)) C hw iw_9 rfl ob_0 (by decide) (by decide) fl_X9_29 rfl rfl dX9_look_142 ?_
                  refine ti_get (ci := 3) (k := 8) (N := 17) (T := TX3) (v := .ref (A 27 9)) C hw iw_3 rfl ob_27 (by decide) (by decide) fl_X9_139 rfl rfl dX9_look_145 ?_
                  refine lv_iload_n hx hb dX9_look_148 rfl (lv_at hl 1 rfl) ?_
                  refine ti_iald (ci := 3) (k := 8) (n := 8) C hw ob_27 (by decide) (fun _ _ => rfl) (vp_in_iff.mpr (by omega)) dX9_look_149 ?_
                  refine lv_topi (fun x_16 ex_16 => ?_)
                  exact hQ _ _ _ _ _ _ hw rfl rfl dX9_look_150
                · by_cases s_6_7 : z2 = 7
                  · refine lv_tableIn (tgt := 151) (off := 132) hx hb dX9_look_19 (by rw [s_6_7]; decide) (by rw [s_6_7]; decide) (by rw [s_6_7]; decide) (by decide) ?_
                    refine lv_aload_n hx hb dX9_look_151 rfl (lv_at hl 0 rfl) ?_
                    refine ti_get (ci := 9) (k := 3) (N := 10) (T := TX9) (v := .ref (A 27 0)) C hw iw_9 rfl ob_0 (by decide) (by decide) fl_X9_29 rfl rfl dX9_look_152 ?_
                    refine lv_iload_n hx hb dX9_look_155 rfl (lv_at hl 1 rfl) ?_
                    refine ti_callVi (ci := 3) (av := [.int z1]) C hw (s_X3_waited l D A cy hJ M hI 27 ob_27 z1 (by omega) (by omega)) ⟨ml_X9_142, ym_X3_waited, yv_X3_waited, yi_X3_waited, yc_X3_waited⟩ yd_X3_waited ob_27 (by decide) rfl rfl hl.1 (Nat.le_of_ble_eq_true rfl) ⟨by decide, by decide⟩ ⟨Nat.zero_le _, Nat.zero_le _⟩ dX9_look_156 (fun r_17 M_18 H locs hp_18 hw => ?_)
                    have hm := hp_18
                    have hw := hw.to hm
                    exact hQ _ _ _ _ _ _ hw rfl rfl dX9_look_159
                  · by_cases s_6_8 : z2 = 8
                    · refine lv_tableIn (tgt := 160) (off := 141) hx hb dX9_look_19 (by rw [s_6_8]; decide) (by rw [s_6_8]; decide) (by rw [s_6_8]; decide) (by decide) ?_
                      refine lv_aload_n hx hb dX9_look_160 rfl (lv_at hl 0 rfl) ?_
                      refine ti_get (ci := 9) (k := 3) (N := 10) (T := TX9) (v := .ref (A 27 0)) C hw iw_9 rfl ob_0 (by decide) (by decide) fl_X9_29 rfl rfl dX9_look_161 ?_
                      refine ti_get (ci := 3) (k := 15) (N := 17) (T := TX3) (v := .ref (A 27 16)) C hw iw_3 rfl ob_27 (by decide) (by decide) fl_X9_145 rfl rfl dX9_look_164 ?_
                      refine lv_iload_n hx hb dX9_look_167 rfl (lv_at hl 1 rfl) ?_
                      refine ti_iald (ci := 3) (k := 15) (n := 8) C hw ob_27 (by decide) (fun _ _ => rfl) (vp_in_iff.mpr (by omega)) dX9_look_168 ?_
                      refine lv_topi (fun x_19 ex_19 => ?_)
                      exact hQ _ _ _ _ _ _ hw rfl rfl dX9_look_169
                    · by_cases s_6_9 : z2 = 9
                      · refine lv_tableIn (tgt := 170) (off := 151) hx hb dX9_look_19 (by rw [s_6_9]; decide) (by rw [s_6_9]; decide) (by rw [s_6_9]; decide) (by decide) ?_
                        refine lv_aload_n hx hb dX9_look_170 rfl (lv_at hl 0 rfl) ?_
                        refine ti_get (ci := 9) (k := 3) (N := 10) (T := TX9) (v := .ref (A 27 0)) C hw iw_9 rfl ob_0 (by decide) (by decide) fl_X9_29 rfl rfl dX9_look_171 ?_
                        refine ti_get (ci := 3) (k := 16) (N := 17) (T := TX3) (v := .ref (A 27 17)) C hw iw_3 rfl ob_27 (by decide) (by decide) fl_X9_148 rfl rfl dX9_look_174 ?_
                        refine lv_iload_n hx hb dX9_look_177 rfl (lv_at hl 1 rfl) ?_
                        refine ti_iald (ci := 3) (k := 16) (n := 8) C hw ob_27 (by decide) (fun _ _ => rfl) (vp_in_iff.mpr (by omega)) dX9_look_178 ?_
                        refine lv_topi (fun x_20 ex_20 => ?_)
                        exact hQ _ _ _ _ _ _ hw rfl rfl dX9_look_179
                      · by_cases s_6_10 : z2 = 10
                        · refine lv_tableIn (tgt := 180) (off := 161) hx hb dX9_look_19 (by rw [s_6_10]; decide) (by rw [s_6_10]; decide) (by rw [s_6_10]; decide) (by decide) ?_
                          refine lv_aload_n hx hb dX9_look_180 rfl (lv_at hl 0 rfl) ?_
                          refine ti_get (ci := 9) (k := 1) (N := 10) (T := TX9) (v := .ref (A t1 0)) C hw iw_9 rfl ob_0 (by decide) (by decide) fl_X9_19 rfl (ti_Tv (hT1)) dX9_look_181 ?_
                          refine ti_get (ci := 8) (k := 0) (N := 12) (T := TX8) (v := .ref (A t1 1)) C hw iw_8 rfl (ob_t ht1) (by decide) (by decide) fl_X9_115 rfl rfl dX9_look_184 ?_
                          refine lv_iload_n hx hb dX9_look_187 rfl (lv_at hl 1 rfl) ?_
                          refine ti_aald (ci := 8) (k := 0) (n := 8) (t0 := 5) (Cn := RX2) (gg := (ti_men t1)) (j := z1.toNatClampNeg) C hw (ob_t ht1) (by decide) (fun _ _ => rfl) rfl (vp_in_iff.mpr (by omega)) rfl dX9_look_188 ?_
                          have ob_21 : ti_ob ti_LT (ti_men t1 z1.toNatClampNeg) 2 := ob_m ht1 (i_nt rfl (by omega) (by omega))
                          refine ti_get (ci := 2) (k := 9) (N := 10) (T := TX2) C hw iw_2 rfl ob_21 (by decide) (by decide) fl_X9_151 rfl rfl dX9_look_189 ?_
                          refine lv_topi (fun x_22 ex_22 => ?_)
                          exact hQ _ _ _ _ _ _ hw rfl rfl dX9_look_192
                        · refine lv_tableOut (tgt := 193) hx hb dX9_look_19 (ti_out (lo := 0) (hi := 10) z2 (fun v h1 h2 => by rcases (show v = 0 ∨ v = 1 ∨ v = 2 ∨ v = 3 ∨ v = 4 ∨ v = 5 ∨ v = 6 ∨ v = 7 ∨ v = 8 ∨ v = 9 ∨ v = 10 by omega) with rfl | rfl | rfl | rfl | rfl | rfl | rfl | rfl | rfl | rfl | rfl <;> first | exact ti_nev 0 s_6_0 (by decide) | exact ti_nev 1 s_6_1 (by decide) | exact ti_nev 2 s_6_2 (by decide) | exact ti_nev 3 s_6_3 (by decide) | exact ti_nev 4 s_6_4 (by decide) | exact ti_nev 5 s_6_5 (by decide) | exact ti_nev 6 s_6_6 (by decide) | exact ti_nev 7 s_6_7 (by decide) | exact ti_nev 8 s_6_8 (by decide) | exact ti_nev 9 s_6_9 (by decide) | exact ti_nev 10 s_6_10 (by decide))) (by decide) ?_
                          refine ly_make hx hb hst C.2.2.2.1 (C.2.2.1 _ lk_k2) (C.2.2.1 _ lk_i2) hsb (ly_at C.2.2.1 hY) hU hN hw.2 (by rw [hml]; exact hl.1) dX9_look_193 dX9_look_196 dX9_look_197 dX9_look_199 (by decide) (by decide) (Nat.le_of_ble_eq_true rfl) (Nat.le_of_ble_eq_true rfl) (fun q ce H1 g1 g2 g3 g4 g5 => ?_)
                          refine vx_athrow hx hb dX9_look_202 ?_
                          exact vx_out (fun x h => (htab x h).elim) B.notSynchronized g1 g2 g3 (fun t ht _ => lk_thr (Or.inr rfl) hw (by rw [ht]; exact g4) (fun q hq => by rw [ht]; exact g5 q hq)) (fun z h => hw.2.2.2 z h) (Nat.le_of_ble_eq_true rfl) (Nat.le_of_ble_eq_true rfl)
  · refine sb_if_ne (tgt := 18) hx hb (by decide : (0 : Int32).toInt = 0) dX9_look_5 (by decide) (fun h => absurd h (by decide)) (fun c_5_4 => ?_)
    exact vx_throwS (names := lk_N) (text := lk_t) (A := ti_As ti_LT A) (cls := lk_E) hx hb hst C.2.2.2.1 (by decide) (by decide) (C.2.2.1 _ lk_k) (C.2.2.1 _ lk_i) hsa (lk_at C.2.2.1 hY) lk_ot hU hN hw.2 (by rw [hml]; exact hl.1) dX9_look_8 dX9_look_11 dX9_look_12 dX9_look_14 dX9_look_17 (fun x h => (htab x h).elim) (by decide) (by decide) (Nat.le_of_ble_eq_true rfl) (Nat.le_of_ble_eq_true rfl) B.notSynchronized (fun t hvm hz hk => lk_thr (Or.inl rfl) hw hz hk) (fun q h => hw.2.2.2 q h) (Nat.le_of_ble_eq_true rfl) (Nat.le_of_ble_eq_true rfl)
set_option maxHeartbeats 4000000 in
set_option maxRecDepth 100000 in
theorem s_L_look (l : Launch) (hst : l.stackTraces = false) (D : va_G) (A : Nat → Nat → Nat) (cy : Nat → ClassId) (hJ : ti_inj ti_LT A) (M : ti_M) (hF : cF Tc M) (z z2 : Int32) (q3 : Nat) (h3 : ¬ ti_As ti_LT A q3) (f : Nat → Int64) : vx_Met l yL_look (.codeWith yL_look cL_look 5 (some .int) lk_hh :: lw_g) (ti_rmc 10 1 6) (va_Pc [.ref (A 0 0), .int z, .int z2, .ref q3] (lk_Q D A cy M q3 f)) (va_Qi (fun _ (_ : Nat → Int64) => True) (fun g t => va_P D vwCl (ti_W ti_LT A cy M) t.heap ∧ va_P D vwCl [(q3, .inl (cy 2, 1, .inr (.inl g)))] t.heap) (lk_F A q3)) (vx_X (fun _ : Unit => False) (fun _ _ _ => True) (lk_F A q3)) 1 6 (lk_F A q3) := by
  refine vx_ofWH (cc := cL_look) (maxL := 5) (ret := some .int) (by decide +kernel) rfl ?_
  intro p e s m args below meth c s₁ B hml hv
  obtain ⟨rfl, hP, hO, hK, hZ⟩ := hv
  have hts : ∀ w ∈ lw_g, w.before [.ref (A 0 0), .int z, .int z2, .ref q3].toArray s = true := fun w h => atoms_spec (ws := .codeWith yL_look cL_look 5 (some .int) lk_hh :: lw_g) B.pre w (List.mem_cons_of_mem _ h)
  have htab := vx_table (x := yL_look) B (hts _ lk_cw)
  rw [lg_entry_eq]
  have C : ti_C p s m c [.ref (A 0 0), .int z, .int z2, .ref q3].toArray cL_look RL 5 D cy ti_LT A := ⟨B.exec, B.bytes, hts, findClass_of_methodNamed B.named, hK, hml, hJ, ti_LT_nd⟩
  have hw : ti_H ti_LT D A cy s.heap M s.heap [] := ⟨hP, va_S.rf⟩
  have hS0 : va_S (lk_F A q3) s.heap s.heap [] := va_S.rf
  have hl := lv_entry [.ref (A 0 0), .int z, .int z2, .ref q3] (n := 5) (Nat.le_of_ble_eq_true rfl)
  generalize (lg_sl [.ref (A 0 0), .int z, .int z2, .ref q3] ++ List.replicate (5 - (lg_sl [.ref (A 0 0), .int z, .int z2, .ref q3]).length) Slot.unset).toArray = ls at hl ⊢
  have hl : lv_has ls 5 [(0, .ref (A 0 0)), (1, .int z), (2, .int z2), (3, .ref q3)] := hl
  have hx := C.1
  have hb := C.2.1
  have hne : ∀ (k : Nat) (q : Nat × va_E), (ti_W ti_LT A cy M)[k]? = some q → q.1 ≠ q3 := fun k q hq e9 => h3 (e9 ▸ (ti_W_D hJ cy M).2 k q hq)
  have hQ : ∀ (pc : Nat) (ls : Array Slot) (r : Int32) (g : Nat → Int64) (H : Heap) (locs : List Loc), va_P D vwCl (ti_W ti_LT A cy M) H → va_P D vwCl [(q3, .inl (cy 2, 1, .inr (.inl g)))] H → va_S (lk_F A q3) s.heap H locs → decode cL_look pc = .ok (.ireturn, 1) → W p l e (ti_rmc 10 1 6) s m [.ref (A 0 0), .int z, .int z2, .ref q3].toArray below meth c H locs 1 6 (vx_MQ below (va_Qi (fun _ (_ : Nat → Int64) => True) (fun g t => va_P D vwCl (ti_W ti_LT A cy M) t.heap ∧ va_P D vwCl [(q3, .inl (cy 2, 1, .inr (.inl g)))] t.heap) (lk_F A q3)) (vx_X (fun _ : Unit => False) (fun _ _ _ => True) (lk_F A q3)) [.ref (A 0 0), .int z, .int z2, .ref q3].toArray s 1 6 (lk_F A q3)) (F0 m pc ls [.int r]) := fun pc ls r g H locs g1 g2 g3 hd => vx_ret (W.zret hx hb B.returns rfl (fun t ht _ => ⟨⟨r, g, rfl, trivial, by rw [ht]; exact g1, by rw [ht]; exact g2⟩, g3.F ht⟩) g3.2.2 hd B.notSynchronized)
  refine lv_aload_n hx hb dL_look_0 rfl (lv_at hl 3 rfl) ?_
  refine lv_iconst (v := 0) hx hb dL_look_1 (by decide) ?_
  refine lv_aload_n hx hb dL_look_2 rfl (lv_at hl 0 rfl) ?_
  refine lv_iload_n hx hb dL_look_3 rfl (lv_at hl 1 rfl) ?_
  refine lv_iload_n hx hb dL_look_4 rfl (lv_at hl 2 rfl) ?_
  have cw : CallW (ti_rmc 10 1 6) s [.ref (A 0 0), .int z, .int z2, .ref q3].toArray RL RX9 7 yX9_look cX9_look 3 (some .int) (.code yX9_look cX9_look 3 (some .int) :: lw_g) (ti_rmc 8 1 6) 1 6 2 := by
    refine cwV 2 hts (lw_g_good ?_) rfl rfl rfl ⟨rfl, yd_X9_look⟩ ⟨by decide, by decide⟩
    intro w hw
    simp only [wsV, List.cons_append, List.nil_append, List.mem_cons] at hw
    rcases hw with rfl | rfl | rfl | rfl | rfl | hw
    · exact ml_L_7
    · exact ym_X9_look
    · exact yv_X9_look
    · exact yi_X9_look
    · exact yc_X9_look
    · exact hw
  refine vx_calli (vx_runV (As := [.int z, .int z2]) (rest := [.int 0, .ref q3]) ⟨hx, hb, hml, C.2.2.2.1, hts⟩ (s_X9_look l hst D A cy hJ M hF.1 hF z z2) cw ⟨lk_bl, ti_recv C hw ob_0 (by decide) rfl, fun U hU hW => ⟨rfl, by rw [hU]; exact hw.1, va_K.moved hW.alike hK, by rw [hU]; exact (hZ.moved hW (fun _ _ _ => rfl)).narrow (fun q h => Or.inl h)⟩⟩ rfl rfl hl.1 rfl (lv_room (Nat.le_of_ble_eq_true rfl)) dL_look_5 ⟨Nat.le_of_ble_eq_true rfl, Nat.le_of_ble_eq_true rfl⟩) hS0 (fun q _ h => Or.inl h) (fun q h => Or.inl h) (fun q _ h => Or.inl h) ?_ ?_
  · intro E ce q9 u t H1 locs1 ht hvm hpx hB hz hk hS hce hcv hcl
    obtain ⟨hE, hP1⟩ := hB
    rw [ht] at hP1
    have hO1 : va_P D vwCl [(q3, .inl (cy 2, 1, .inr (.inl f)))] H1 := hO.kept (fun k q hq => by
      match k, hq with
      | 0, hq => cases hq; exact hk q3 ((hO 0 _ rfl).lt) h3
      | k + 1, hq => simp at hq)
    rcases hE with rfl | rfl
    · refine vx_catch (name := lk_E) C.2.2.2.1 [] ⟨0, 10, 13, 13⟩ [⟨0, 10, 17, 15⟩] (by rw [htab]; rfl) (fun z h => nomatch h) (by decide) (by decide) (hts _ lk_cl) (va_Nw.use rfl hZ.2.2.2.2.2.2.1) hce hcv hcl ?_
      refine lv_astore (lv' := [(4, .ref q9), (0, .ref (A 0 0)), (1, .int z), (2, .int z2), (3, .ref q3)]) hx hb dL_look_13 hl (by decide) rfl (fun ls hl => ?_)
      refine lv_iconst (v := 1) hx hb dL_look_15 (by decide) ?_
      exact hQ 16 _ _ f _ _ hP1 hO1 hS dL_look_16
    · refine vx_catch (name := lk_E2) C.2.2.2.1 [⟨0, 10, 13, 13⟩] ⟨0, 10, 17, 15⟩ [] (by rw [htab]; rfl) (fun z h => ?_) (by decide) (by decide) (hts _ lk_cl2) (va_Nw.use rfl hZ.2.2.2.2.2.2.2.1) hce hcv hcl ?_
      · obtain rfl := List.mem_singleton.mp h
        exact Or.inr ⟨by decide, lk_E, hts _ lk_cl, hZ.2.2.2.2.2.2.2.2⟩
      refine lv_astore (lv' := [(4, .ref q9), (0, .ref (A 0 0)), (1, .int z), (2, .int z2), (3, .ref q3)]) hx hb dL_look_17 hl (by decide) rfl (fun ls hl => ?_)
      refine lv_iconst (v := 2) hx hb dL_look_19 (by decide) ?_
      exact hQ 20 _ _ f _ _ hP1 hO1 hS dL_look_20
  · intro r u t H1 locs1 ht hvm hpo hB hz hk hS
    obtain rfl := hpo
    have hP1 : va_P D vwCl (ti_W ti_LT A cy u) H1 := by rw [← ht]; exact hB
    have hO1 : va_P D vwCl [(q3, .inl (cy 2, 1, .inr (.inl f)))] H1 := hO.kept (fun k q hq => by
      match k, hq with
      | 0, hq => cases hq; exact hk q3 ((hO 0 _ rfl).lt) h3
      | k + 1, hq => simp at hq)
    obtain ⟨y, ey⟩ : ∃ y : Int64, y = r.toInt64 := ⟨_, rfl⟩
    refine lv_i2l (v := y) hx hb dL_look_8 ey.symm ?_
    have hDq : va_D (lk_F A q3) [(q3, Sum.inl (cy 2, 1, .inr (.inl f)))] := ⟨fun i j p q hi hj _ => by
      have h1 := (List.getElem?_eq_some_iff.mp hi).1
      have h2 := (List.getElem?_eq_some_iff.mp hj).1
      simp only [List.length_cons, List.length_nil] at h1 h2
      omega, fun k q hq => by
      match k, hq with
      | 0, hq => cases hq; exact Or.inr rfl
      | k + 1, hq => simp at hq⟩
    have hP3 : va_P D vwCl ((ti_W ti_LT A cy u) ++ [(q3, .inl (cy 2, 1, .inr (.inl f)))]) H1 := hP1.app hO1
    have hD3 : va_D (lk_F A q3) ((ti_W ti_LT A cy u) ++ [(q3, .inl (cy 2, 1, .inr (.inl f)))]) := by
      have hD1 := ti_W_D hJ cy u
      refine ⟨fun i j p q hi hj e9 => ?_, fun k q hq => ?_⟩
      · by_cases c1 : i < (ti_W ti_LT A cy u).length
        · rw [List.getElem?_append_left c1] at hi
          by_cases c2 : j < (ti_W ti_LT A cy u).length
          · rw [List.getElem?_append_left c2] at hj
            exact hD1.1 i j p q hi hj e9
          · rw [List.getElem?_append_right (Nat.not_lt.mp c2)] at hj
            have c3 := (List.getElem?_eq_some_iff.mp hj).1
            simp only [List.length_cons, List.length_nil] at c3
            rw [show j - (ti_W ti_LT A cy u).length = 0 by omega] at hj
            cases hj
            exact absurd e9 (hne i p hi)
        · rw [List.getElem?_append_right (Nat.not_lt.mp c1)] at hi
          have c3 := (List.getElem?_eq_some_iff.mp hi).1
          simp only [List.length_cons, List.length_nil] at c3
          rw [show i - (ti_W ti_LT A cy u).length = 0 by omega] at hi
          cases hi
          by_cases c2 : j < (ti_W ti_LT A cy u).length
          · rw [List.getElem?_append_left c2] at hj
            exact absurd e9.symm (hne j q hj)
          · rw [List.getElem?_append_right (Nat.not_lt.mp c2)] at hj
            have c4 := (List.getElem?_eq_some_iff.mp hj).1
            simp only [List.length_cons, List.length_nil] at c4
            omega
      · by_cases c1 : k < (ti_W ti_LT A cy u).length
        · rw [List.getElem?_append_left c1] at hq
          exact Or.inl (hD1.2 k q hq)
        · rw [List.getElem?_append_right (Nat.not_lt.mp c1)] at hq
          have c3 := (List.getElem?_eq_some_iff.mp hq).1
          simp only [List.length_cons, List.length_nil] at c3
          rw [show k - (ti_W ti_LT A cy u).length = 0 by omega] at hq
          cases hq
          exact Or.inr rfl
    refine va_last (cA := cy 2) (n := 1) (f := f) hx hb hK hP3 hD3 hS (ti_W ti_LT A cy u).length 2 (by rw [List.getElem?_append_right (Nat.le_refl _), Nat.sub_self]; rfl) rfl (by unfold vp_in; decide) dL_look_9 (fun H2 locs2 hP4 hD4 hS4 => ?_)
    rw [List.set_append_right _ _ (Nat.le_refl _), Nat.sub_self] at hP4
    refine lv_goto (tgt := 21) hx hb dL_look_10 (by decide) ?_
    refine lv_iconst (v := 0) hx hb dL_look_21 (by decide) ?_
    exact hQ 22 _ _ _ _ _ (va_P_l hP4) (va_P_r hP4) hS4 dL_look_22
set_option maxHeartbeats 4000000 in
set_option maxRecDepth 100000 in
theorem lq_c4 {p : Program} {l : Launch} {e : Env} {s : State} {m : MethodId} {below : List Frame} {meth : Method} {c : Code} {D : va_G} {cy : Nat → ClassId} {A1 A2 : Nat → Nat → Nat} {M1 M2 : ti_M} {b q3 L cells slots : Nat} {iv : Int32} {xs : Nat → Int32} {H : Heap} {locs : List Loc} {ls : Array Slot} (hfl : l.flags = flags0) (h4 : lk_S (lq_F s) s s.heap) (Z : lq_Z p s m meth c D cy A1 A2 b L xs) (hcs : cells + 1 ≤ room_1.cells ∧ slots + 6 ≤ room_1.slots) (hw : lq_H s D cy A1 A2 q3 M1 M2 H locs) (hI : lq_I M1 M2) (hi : 0 ≤ iv.toInt ∧ iv.toInt + 6 ≤ L) (hl : lv_has ls 7 [(4, .int iv), (3, .ref q3), (2, .ref (A2 60 0)), (1, .ref (A1 0 0)), (0, .ref b)]) (kk : ∀ (M1 M2 : ti_M) (H : Heap) (locs : List Loc) (ls : Array Slot), lq_H s D cy A1 A2 q3 M1 M2 H locs → lq_I M1 M2 → lv_has ls 7 [(4, .int iv), (3, .ref q3), (2, .ref (A2 60 0)), (1, .ref (A1 0 0)), (0, .ref b)] → W p l e room_1 s m #[Value.ref b] below meth c H locs (cells + 1) (slots + 6) (lw_Z below #[Value.ref b] s) (F0 m 1521 ls [])) : W p l e room_1 s m #[Value.ref b] below meth c H locs cells slots (lw_Z below #[Value.ref b] s) (F0 m 356 ls []) := by
  have C := Z.1
  have hA := Z.2.1
  have hx := C.1
  have hb := C.2.1
  have hbA : ¬ lq_F s b := Nat.not_le.mpr Z.2.2.2.1
  have hL := Z.2.2.2.2.2.2.1
  have hE := Z.2.2.2.2.2.2.2
  obtain ⟨Tc, Tm, hF1, hF2, hE0, hB0, hR1, hR2, hS1, hS2, rg, htd1, htd2, hle⟩ := hI
  have hR := And.intro hR1 hR2
  have hts := C.2.2.1
  have hst : l.stackTraces = false := by rw [Launch.stackTraces, hfl]; decide +kernel
  refine lv_aload_n hx hb dL_law_356 rfl (lv_at hl 3 rfl) ?_
  refine lv_aload_n hx hb dL_law_357 rfl (lv_at hl 4 rfl) ?_
  refine lv_iload hx hb dL_law_358 (lv_at hl 0 rfl) ?_
  refine lv_iconst (v := 1) hx hb dL_law_360 (by decide) ?_
  refine lv_iadd hx hb dL_law_361 ?_
  refine va_sld (i := iv + 1) hx hb Z.2.2.1 Z.2.2.2.1 hbA hw.2.2.1 (lq_in hi hL (by decide) (by decide)) dL_law_362 ?_
  refine lv_aload_n hx hb dL_law_363 rfl (lv_at hl 4 rfl) ?_
  refine lv_iload hx hb dL_law_364 (lv_at hl 0 rfl) ?_
  refine lv_iconst (v := 2) hx hb dL_law_366 (by decide) ?_
  refine lv_iadd hx hb dL_law_367 ?_
  refine va_sld (i := iv + 2) hx hb Z.2.2.1 Z.2.2.2.1 hbA hw.2.2.1 (lq_in hi hL (by decide) (by decide)) dL_law_368 ?_
  refine lv_aload_n hx hb dL_law_369 rfl (lv_at hl 1 rfl) ?_
  have cw : vx_CSW room_1 s #[Value.ref b] RL 39 yL_look cL_look 5 (some .int) lk_hh (.codeWith yL_look cL_look 5 (some .int) lk_hh :: lw_g) (ti_rmc 10 1 6) 1 6 4 := by
    refine vx_cwSW 4 hts (lw_g_good ?_) rfl rfl rfl (by decide +kernel) ⟨by decide, by decide⟩
    intro w hw
    simp only [va_wsS, List.cons_append, List.nil_append, List.mem_cons] at hw
    rcases hw with rfl | rfl | rfl | rfl | hw
    all_goals first | exact lk_ml | exact lk_st | exact lk_in | exact lk_cw | exact hw
  obtain ⟨hq1, hq2, hq3, f, hf⟩ := hw.2.2.2
  have hLF : ∀ q, lk_F A1 q3 q → lq_F s q := fun q h => h.elim (fun h => hA.2.2.1 q h) (fun h => h ▸ hq1)
  refine vx_calli (vx_runSX (hh := lk_hh) (As := [.ref (A1 0 0), .int (xs (iv + 1 : Int32).toNatClampNeg), .int (xs (iv + 2 : Int32).toNatClampNeg), .ref q3]) (rest := []) ⟨hx, hb, C.2.2.2.2.2.1, C.2.2.2.1, hts⟩ (s_L_look l hst D A1 cy hA.1 M1 hF1 _ _ q3 hq2 f) cw ⟨lk_blQ, fun U hU hW => ⟨rfl, by rw [hU]; exact hw.1, by rw [hU]; exact hf, va_K.moved hW.alike C.2.2.2.2.1, by rw [hU]; exact (h4.moved hW (fun a h1 h2 => hw.2.2.1.2.1 a h1 h2)).narrow hLF⟩⟩ rfl rfl hl.1 rfl (lv_room (Nat.le_of_ble_eq_true rfl)) dL_law_370 hcs) hw.2.2.1 (fun q _ h => hLF q h) (fun q h => hLF q h) (fun q _ h => hLF q h) ?_ ?_
  · intro E ce q9 u t H1 locs1 ht hvm hpx
    exact hpx.elim
  intro r u t H1 locs1 ht hvm hpo hB hz hk hS
  have hK2 := hw.2.1.kept (H1 := H1) (fun k q hq => hk q.1 ((hw.2.1 k q hq).lt) (fun h => h.elim (fun h => hA.2.2.2.2 q.1 h ((ti_W_D hA.2.1 cy M2).2 k q hq)) (fun h => hq3 (h ▸ (ti_W_D hA.2.1 cy M2).2 k q hq))))
  have hw : lq_H s D cy A1 A2 q3 M1 M2 H1 locs1 := ⟨by rw [← ht]; exact hB.1, hK2, hS, hq1, hq2, hq3, u, by rw [← ht]; exact hB.2⟩
  refine lv_istore (lv' := [(5, .int r), (4, .int iv), (3, .ref q3), (2, .ref (A2 60 0)), (1, .ref (A1 0 0)), (0, .ref b)]) hx hb dL_law_373 hl (by decide) rfl (fun ls hl => ?_)
  refine lv_aload_n hx hb dL_law_375 rfl (lv_at hl 3 rfl) ?_
  refine lv_aload_n hx hb dL_law_376 rfl (lv_at hl 5 rfl) ?_
  refine lv_iload hx hb dL_law_377 (lv_at hl 1 rfl) ?_
  refine lv_iconst (v := 1) hx hb dL_law_379 (by decide) ?_
  refine lv_iadd hx hb dL_law_380 ?_
  refine va_sld (i := iv + 1) hx hb Z.2.2.1 Z.2.2.2.1 hbA hw.2.2.1 (lq_in hi hL (by decide) (by decide)) dL_law_381 ?_
  refine lv_aload_n hx hb dL_law_382 rfl (lv_at hl 5 rfl) ?_
  refine lv_iload hx hb dL_law_383 (lv_at hl 1 rfl) ?_
  refine lv_iconst (v := 2) hx hb dL_law_385 (by decide) ?_
  refine lv_iadd hx hb dL_law_386 ?_
  refine va_sld (i := iv + 2) hx hb Z.2.2.1 Z.2.2.2.1 hbA hw.2.2.1 (lq_in hi hL (by decide) (by decide)) dL_law_387 ?_
  refine lq_callMi (av := [.int (xs (iv + 1 : Int32).toNatClampNeg), .int (xs (iv + 2 : Int32).toNatClampNeg)]) C hA hw (f_X10_look l D A2 cy hA.2.1 M2 hF2.1 hF2 (xs (iv + 1 : Int32).toNatClampNeg) (xs (iv + 2 : Int32).toNatClampNeg)) ⟨ml_L_44, ym_X10_look, yv_X10_look, yi_X10_look, yc_X10_look⟩ yd_X10_look rfl rfl hl.1 (Nat.le_of_ble_eq_true rfl) ⟨by decide, by decide⟩ hcs dL_law_388 (fun rM N2 H locs hpM hw => ?_)
  refine lv_istore (lv' := [(6, .int rM), (5, .int r), (4, .int iv), (3, .ref q3), (2, .ref (A2 60 0)), (1, .ref (A1 0 0)), (0, .ref b)]) hx hb dL_law_391 hl (by decide) rfl (fun ls hl => ?_)
  refine lv_goto (tgt := 1521) hx hb dL_law_393 (by decide) ?_
  exact kk M1 N2 H locs ls hw ⟨Tc, Tm, hF1, hpM.2.1, hE0.trans hpM.2.2.1.symm, hB0, hR.1, hR.2, hS1, hS2, rg, htd1, tdR_lw htd2 hpM.2.2.2, lE_obs hle (fS.refl) (fun _ _ _ => rfl) hpM.1.1 (fun q => hpM.1.2.trans q) hpM.2.2.2⟩ (lv_sub hl [2, 3, 4, 5, 6] rfl)
end
section
theorem tx_mk {args : Array Value} {s : State} {own tx : String} {k n : Nat} {bytes : List Int32} {A : Nat → Prop} (hsr : (Cond.stringRef own k tx).before args s = true) (hex : (Cond.exactly (.string own k) RJ0).before args s = true) (hco : (Cond.eq (.field (.string own k) RJ0 "coder" "B") (.int 0)).before args s = true) (har : (Cond.arrayOf (.field (.string own k) RJ0 "value" "[B") .byte).before args s = true) (hle : (Cond.eq (.length (.field (.string own k) RJ0 "value" "[B")) (.int (Int32.ofNat n))).before args s = true) (hel : ∀ j : Nat, j < n → (Cond.eq (.elem (.field (.string own k) RJ0 "value" "[B") (.int (Int32.ofNat j))) (.int (bytes.getD j 0))).before args s = true) (hn : n < 2 ^ 31) (hA : ∀ a : Nat, a < s.heap.size → ¬ A a) : ∃ a v : Nat, vk_R own k tx a s ∧ tx_s a v n (fun j => bytes.getD j 0) A s s.heap := by
  obtain ⟨a, c, cA, kA, q1, q2, q3, q4, q5, q6, -⟩ := Cond.exactly_spec (args := args) (first := s) (o := none) (s := s) (idx := []) (t := .string own k) (cls := RJ0) hex
  obtain ⟨v, hv, hT⟩ := va_Tof (f := fun j => .int (bytes.getD j 0)) (A := A) hn har (va_eqt hle) (fun j hj => va_eqt (hel j hj)) hA
  exact ⟨a, v, vk_R.of hsr q1, ⟨cA, q3, q5, by rw [q6]; exact q2, hA a (Array.getElem?_eq_some_iff.mp q3).1⟩, vk_OFof q1 (va_eqt hco) hA, vk_OFof q1 hv hA, hT⟩
theorem tx_ls_RX7 : ((flatC (Jvm.Cond.and given_1 narrow_1)).drop 81).take 150 = (List.range 150).map (fun j => Cond.eq (.elem (.field (.string RX7 68) RJ0 "value" "[B") (.int (Int32.ofNat j))) (.int (tx_cb.getD j 0))) := by decide +kernel
theorem tx_el_RX7 : ∀ j : Nat, j < 150 → Cond.eq (.elem (.field (.string RX7 68) RJ0 "value" "[B") (.int (Int32.ofNat j))) (.int (tx_cb.getD j 0)) ∈ flatC (Jvm.Cond.and given_1 narrow_1) := by
  intro j hj
  have h : Cond.eq (.elem (.field (.string RX7 68) RJ0 "value" "[B") (.int (Int32.ofNat j))) (.int (tx_cb.getD j 0)) ∈ ((flatC (Jvm.Cond.and given_1 narrow_1)).drop 81).take 150 := by rw [tx_ls_RX7]; exact List.mem_map.mpr ⟨j, List.mem_range.mpr hj, rfl⟩
  exact List.mem_of_mem_drop (List.mem_of_mem_take h)
theorem tx_ls_RX10 : ((flatC (Jvm.Cond.and given_1 narrow_1)).drop 269).take 125 = (List.range 125).map (fun j => Cond.eq (.elem (.field (.string RX10 197) RJ0 "value" "[B") (.int (Int32.ofNat j))) (.int (tx_mb.getD j 0))) := by decide +kernel
theorem tx_el_RX10 : ∀ j : Nat, j < 125 → Cond.eq (.elem (.field (.string RX10 197) RJ0 "value" "[B") (.int (Int32.ofNat j))) (.int (tx_mb.getD j 0)) ∈ flatC (Jvm.Cond.and given_1 narrow_1) := by
  intro j hj
  have h : Cond.eq (.elem (.field (.string RX10 197) RJ0 "value" "[B") (.int (Int32.ofNat j))) (.int (tx_mb.getD j 0)) ∈ ((flatC (Jvm.Cond.and given_1 narrow_1)).drop 269).take 125 := by rw [tx_ls_RX10]; exact List.mem_map.mpr ⟨j, List.mem_range.mpr hj, rfl⟩
  exact List.mem_of_mem_drop (List.mem_of_mem_take h)
theorem lq_E {args : Array Value} {s : State} {A : Nat → Prop} (hts : ∀ w ∈ lw_tbl, w.before args s = true) (hflat : ∀ c ∈ flatC (Jvm.Cond.and given_1 narrow_1), c.before args s = true) (hA : ∀ a : Nat, a < s.heap.size → ¬ A a) : tx_E A s s.heap := by
  refine ⟨tx_mk (own := RX7) (k := 68) (tx := tx_c) (n := 150) (bytes := tx_cb) (hts _ (List.mem_of_getElem? (i := 638) (by decide +kernel))) (hflat _ (by decide +kernel)) (hflat _ (by decide +kernel)) (hflat _ (by decide +kernel)) (hflat _ (by decide +kernel)) (fun j hj => hflat _ (tx_el_RX7 j hj)) (by decide) hA, tx_mk (own := RX10) (k := 197) (tx := tx_m) (n := 125) (bytes := tx_mb) (hts _ (List.mem_of_getElem? (i := 1572) (by decide +kernel))) (hflat _ (by decide +kernel)) (hflat _ (by decide +kernel)) (hflat _ (by decide +kernel)) (hflat _ (by decide +kernel)) (fun j hj => hflat _ (tx_el_RX10 j hj)) (by decide) hA, ?_, ?_⟩
  · exact va_Zof (hts _ (List.mem_of_getElem? (i := 648) (by decide +kernel))) (hts _ (List.mem_of_getElem? (i := 136) (by decide +kernel))) (va_eqt (hflat _ (by decide +kernel))) hA
  · exact va_Zqof (hts _ (List.mem_of_getElem? (i := 656) (by decide +kernel))) (hts _ (List.mem_of_getElem? (i := 138) (by decide +kernel))) (hflat _ (by decide +kernel)) hA
theorem lq_arr {s : State} {args : Array Value} {ty : FieldType} (hp : ∀ C, ty ≠ .object C) (h : (Cond.arrayClass ty).before args s = true) : ∃ c : ClassId, ArrOfT s c ty ∧ va_RA s c ty := by
  obtain ⟨c, k, comp, h1, h2, h3⟩ := Cond.arrayClass_spec h
  refine ⟨c, fun n z => ⟨fun k h => (by cases h), k, h2, comp, h3⟩, ?_⟩
  cases ty <;> first | exact absurd rfl (hp _) | exact h1
theorem lq_aro {s : State} {args : Array Value} {C : String} (h : (Cond.arrayOver (.object C)).before args s = true) : ∃ c : ClassId, ArrOfT s c (.object C) ∧ va_RA s c (.object C) := by
  obtain ⟨comp, c, k, h1, h2, h3, h4, h5⟩ := Cond.arrayOver_spec h
  exact ⟨c, fun n z => ⟨fun k h => (by cases h), k, h3, comp, h4⟩, k, comp, h3, h4, h1, h5⟩
theorem lq_K {s : State} {args : Array Value} (hts : ∀ w ∈ lw_g, w.before args s = true) (ho1 : (Cond.arrayOver (.object RX1)).before args s = true) (ho2 : (Cond.arrayOver (.object RX2)).before args s = true) (ho3 : (Cond.arrayOver (.object RX3)).before args s = true) : ∃ (D : va_G) (cy : Nat → ClassId), va_K D vwCl (ti_ty cy) s := by
  obtain ⟨c0, iS0, hKn0⟩ := u_known (C := RX0) (T := TX0) (N := 6) (n := 6) hts iw_0 (hts _ is_X0)
  obtain ⟨c1, iS1, hKn1⟩ := u_known (C := RX1) (T := TX1) (N := 4) (n := 4) hts iw_1 (hts _ is_X1)
  obtain ⟨c2, iS2, hKn2⟩ := u_known (C := RX2) (T := TX2) (N := 10) (n := 10) hts iw_2 (hts _ is_X2)
  obtain ⟨c3, iS3, hKn3⟩ := u_known (C := RX3) (T := TX3) (N := 17) (n := 17) hts iw_3 (hts _ is_X3)
  obtain ⟨c4, iS4, hKn4⟩ := u_known (C := RX4) (T := TX4) (N := 6) (n := 6) hts iw_4 (hts _ is_X4)
  obtain ⟨c5, iS5, hKn5⟩ := u_known (C := RX5) (T := TX5) (N := 3) (n := 3) hts iw_5 (hts _ is_X5)
  obtain ⟨c6, iS6, hKn6⟩ := u_known (C := RX6) (T := TX6) (N := 13) (n := 13) hts iw_6 (hts _ is_X6)
  obtain ⟨c7, iS7, hKn7⟩ := u_known (C := RX7) (T := TX7) (N := 7) (n := 7) hts iw_7 (hts _ is_X7)
  obtain ⟨c8, iS8, hKn8⟩ := u_known (C := RX8) (T := TX8) (N := 12) (n := 12) hts iw_8 (hts _ is_X8)
  obtain ⟨c9, iS9, hKn9⟩ := u_known (C := RX9) (T := TX9) (N := 10) (n := 10) hts iw_9 (hts _ is_X9)
  obtain ⟨c10, iS10, hKn10⟩ := u_known (C := RX10) (T := TX10) (N := 67) (n := 67) hts iw_10 (hts _ is_X10)
  obtain ⟨a0, ha0⟩ := lq_arr (ty := .byte) (fun C h => by cases h) (hts _ ac_byte)
  obtain ⟨a1, ha1⟩ := lq_arr (ty := .int) (fun C h => by cases h) (hts _ ac_int)
  obtain ⟨a2, ha2⟩ := lq_arr (ty := .long) (fun C h => by cases h) (hts _ ac_long)
  obtain ⟨a3, ha3⟩ := lq_arr (ty := .boolean) (fun C h => by cases h) (hts _ ac_boolean)
  obtain ⟨a4, ha4⟩ := lq_aro ho1
  obtain ⟨a5, ha5⟩ := lq_aro ho2
  obtain ⟨a6, ha6⟩ := lq_aro ho3
  refine ⟨(fun k => match k with | 0 => c0 | 1 => c1 | 2 => c2 | 3 => c3 | 4 => c4 | 5 => c5 | 6 => c6 | 7 => c7 | 8 => c8 | 9 => c9 | _ => c10, fun k => match k with | 0 => iS0 | 1 => iS1 | 2 => iS2 | 3 => iS3 | 4 => iS4 | 5 => iS5 | 6 => iS6 | 7 => iS7 | 8 => iS8 | 9 => iS9 | _ => iS10), fun k => match k with | 0 => a0 | 1 => a1 | 2 => a2 | 3 => a3 | 4 => a4 | 5 => a5 | _ => a6, ?_, ?_⟩
  · intro k q hq
    match k, hq with
    | 0, hq => cases hq; exact hKn0
    | 1, hq => cases hq; exact hKn1
    | 2, hq => cases hq; exact hKn2
    | 3, hq => cases hq; exact hKn3
    | 4, hq => cases hq; exact hKn4
    | 5, hq => cases hq; exact hKn5
    | 6, hq => cases hq; exact hKn6
    | 7, hq => cases hq; exact hKn7
    | 8, hq => cases hq; exact hKn8
    | 9, hq => cases hq; exact hKn9
    | 10, hq => cases hq; exact hKn10
    | k + 11, hq => simp [vwCl] at hq
  · intro k q hq
    match k, hq with
    | 0, hq => cases hq; exact ha0
    | 1, hq => cases hq; exact ha1
    | 2, hq => cases hq; exact ha2
    | 3, hq => cases hq; exact ha3
    | 4, hq => cases hq; exact ha4
    | 5, hq => cases hq; exact ha5
    | 6, hq => cases hq; exact ha6
    | k + 7, hq => simp [ti_ty] at hq
set_option maxHeartbeats 4000000 in
set_option maxRecDepth 100000 in
theorem lq_loop {p : Program} {l : Launch} {e : Env} {s : State} {m : MethodId} {below : List Frame} {meth : Method} {c : Code} {D : va_G} {cy : Nat → ClassId} {A1 A2 : Nat → Nat → Nat} {b q3 L : Nat} {xs : Nat → Int32} (hfl : l.flags = flags0) (h4 : lk_S (lq_F s) s s.heap) (Z : lq_Z p s m meth c D cy A1 A2 b L xs) : ∀ (n : Nat) (iv : Int32) (M1 M2 : ti_M) (H : Heap) (locs : List Loc) (ls : Array Slot) (cells slots : Nat), (L : Int) - iv.toInt < n → 0 ≤ iv.toInt → iv.toInt ≤ 3072 → cells + n ≤ 601024 → slots + 6 * n ≤ 7293034 → lq_H s D cy A1 A2 q3 M1 M2 H locs → lq_I M1 M2 → lv_has ls 7 [(4, .int iv), (3, .ref q3), (2, .ref (A2 60 0)), (1, .ref (A1 0 0)), (0, .ref b)] → W p l e room_1 s m #[Value.ref b] below meth c H locs cells slots (lw_Z below #[Value.ref b] s) (F0 m 23 ls []) := by
  intro n
  induction n with
  | zero =>
    intro iv M1 M2 H locs ls cells slots hn h0 h1 hc1 hc2 hw hI hl
    have C := Z.1
    have hx := C.1
    have hb := C.2.1
    have hbA : ¬ lq_F s b := Nat.not_le.mpr Z.2.2.2.1
    have hL := Z.2.2.2.2.2.2.1
    have tz : (Int32.ofNat L - 6).toInt = (L : Int) - 6 := i_sub rfl (nI_toInt (by omega)) (by decide : (6 : Int32).toInt = 6) (by omega) (by omega)
    refine lv_iload hx hb dL_law_23 (lv_at hl 0 rfl) ?_
    refine lv_aload_n hx hb dL_law_25 rfl (lv_at hl 4 rfl) ?_
    refine va_slen hx hb Z.2.2.1 Z.2.2.2.1 hbA hw.2.2.1 dL_law_26 ?_
    refine lv_bipush (v := 6) hx hb dL_law_27 (by decide) ?_
    refine lv_isub hx hb dL_law_29 ?_
    refine sb_icmp_gt (tgt := 1527) hx hb rfl tz dL_law_30 (by decide) (fun c9 => ?_) (fun c9 => by omega)
    exact lq_ret hx hb Z.2.2.2.2.1 Z.2.2.2.2.2.1 hw.2.2.1 ⟨by omega, by omega⟩
  | succ n ih =>
    intro iv M1 M2 H locs ls cells slots hn h0 h1 hc1 hc2 hw hI hl
    have C := Z.1
    have hx := C.1
    have hb := C.2.1
    have hbA : ¬ lq_F s b := Nat.not_le.mpr Z.2.2.2.1
    have hL := Z.2.2.2.2.2.2.1
    have tz : (Int32.ofNat L - 6).toInt = (L : Int) - 6 := i_sub rfl (nI_toInt (by omega)) (by decide : (6 : Int32).toInt = 6) (by omega) (by omega)
    refine lv_iload hx hb dL_law_23 (lv_at hl 0 rfl) ?_
    refine lv_aload_n hx hb dL_law_25 rfl (lv_at hl 4 rfl) ?_
    refine va_slen hx hb Z.2.2.1 Z.2.2.2.1 hbA hw.2.2.1 dL_law_26 ?_
    refine lv_bipush (v := 6) hx hb dL_law_27 (by decide) ?_
    refine lv_isub hx hb dL_law_29 ?_
    refine sb_icmp_gt (tgt := 1527) hx hb rfl tz dL_law_30 (by decide) (fun c9 => ?_) (fun c9 => ?_)
    · exact lq_ret hx hb Z.2.2.2.2.1 Z.2.2.2.2.2.1 hw.2.2.1 ⟨by omega, by omega⟩
    have hi : 0 ≤ iv.toInt ∧ iv.toInt + 6 ≤ L := ⟨h0, by omega⟩
    have hcs4 : cells + 1 ≤ room_1.cells ∧ slots + 6 ≤ room_1.slots := ⟨Nat.le_trans (by omega) hc1, Nat.le_trans (by omega) hc2⟩
    have hcs : cells ≤ room_1.cells ∧ slots ≤ room_1.slots := ⟨Nat.le_trans (by omega) hc1, Nat.le_trans (by omega) hc2⟩
    have ti6 : (iv + 6).toInt = iv.toInt + 6 := i_add rfl rfl (by decide : (6 : Int32).toInt = 6) (by omega) (by omega)
    have kk1 : ∀ (M1 M2 : ti_M) (H : Heap) (locs : List Loc) (ls : Array Slot), lq_H s D cy A1 A2 q3 M1 M2 H locs → lq_I M1 M2 → lv_has ls 7 [(4, .int iv), (3, .ref q3), (2, .ref (A2 60 0)), (1, .ref (A1 0 0)), (0, .ref b)] → W p l e room_1 s m #[Value.ref b] below meth c H locs (cells + 1) (slots + 6) (lw_Z below #[Value.ref b] s) (F0 m 1521 ls []) := by
      intro M1 M2 H locs ls hw hI hl
      refine lv_iinc (v := iv + 6) (lv' := [(4, .int (iv + 6)), (3, .ref q3), (2, .ref (A2 60 0)), (1, .ref (A1 0 0)), (0, .ref b)]) hx hb dL_law_1521 hl (k := 0) rfl rfl (by decide) rfl (fun ls hl => ?_)
      refine lv_goto (tgt := 23) hx hb dL_law_1524 (by decide) ?_
      exact ih (iv + 6) M1 M2 H locs ls (cells + 1) (slots + 6) (by rw [ti6]; omega) (by rw [ti6]; omega) (by rw [ti6]; omega) (by omega) (by omega) hw hI hl
    have kk : ∀ (M1 M2 : ti_M) (H : Heap) (locs : List Loc) (ls : Array Slot), lq_H s D cy A1 A2 q3 M1 M2 H locs → lq_I M1 M2 → lv_has ls 7 [(4, .int iv), (3, .ref q3), (2, .ref (A2 60 0)), (1, .ref (A1 0 0)), (0, .ref b)] → W p l e room_1 s m #[Value.ref b] below meth c H locs cells slots (lw_Z below #[Value.ref b] s) (F0 m 1521 ls []) := fun M1 M2 H locs ls hw hI hl => W.widen (Nat.le_add_right _ _) (Nat.le_add_right _ _) (kk1 M1 M2 H locs ls hw hI hl)
    refine lv_aload_n hx hb dL_law_33 rfl (lv_at hl 4 rfl) ?_
    refine lv_iload hx hb dL_law_34 (lv_at hl 0 rfl) ?_
    refine va_sld hx hb Z.2.2.1 Z.2.2.2.1 hbA hw.2.2.1 (lq_in0 hi) dL_law_36 ?_
    refine lv_bipush (v := 63) hx hb dL_law_37 (by decide) ?_
    refine lv_iand hx hb dL_law_39 ?_
    refine lv_topi (fun z ez => ?_)
    by_cases s_0 : z = 0
    · refine lv_tableIn (tgt := 208) (off := 168) hx hb dL_law_40 (by rw [s_0]; decide) (by rw [s_0]; decide) (by rw [s_0]; decide) (by decide) ?_
      exact lq_c0 Z hcs hw hI hi hl kk
    by_cases s_1 : z = 1
    · refine lv_tableIn (tgt := 281) (off := 241) hx hb dL_law_40 (by rw [s_1]; decide) (by rw [s_1]; decide) (by rw [s_1]; decide) (by decide) ?_
      exact lq_c1 Z hcs hw hI hi hl kk
    by_cases s_2 : z = 2
    · refine lv_tableIn (tgt := 306) (off := 266) hx hb dL_law_40 (by rw [s_2]; decide) (by rw [s_2]; decide) (by rw [s_2]; decide) (by decide) ?_
      exact lq_c2 Z hcs hw hI hi hl kk
    by_cases s_3 : z = 3
    · refine lv_tableIn (tgt := 331) (off := 291) hx hb dL_law_40 (by rw [s_3]; decide) (by rw [s_3]; decide) (by rw [s_3]; decide) (by decide) ?_
      exact lq_c3 Z hcs hw hI hi hl kk
    by_cases s_4 : z = 4
    · refine lv_tableIn (tgt := 356) (off := 316) hx hb dL_law_40 (by rw [s_4]; decide) (by rw [s_4]; decide) (by rw [s_4]; decide) (by decide) ?_
      exact lq_c4 hfl h4 Z hcs4 hw hI hi hl kk1
    by_cases s_5 : z = 5
    · refine lv_tableIn (tgt := 396) (off := 356) hx hb dL_law_40 (by rw [s_5]; decide) (by rw [s_5]; decide) (by rw [s_5]; decide) (by decide) ?_
      exact lq_c5 Z hcs hw hI hi hl kk
    by_cases s_6 : z = 6
    · refine lv_tableIn (tgt := 421) (off := 381) hx hb dL_law_40 (by rw [s_6]; decide) (by rw [s_6]; decide) (by rw [s_6]; decide) (by decide) ?_
      exact lq_c6 Z hcs hw hI hi hl kk
    by_cases s_7 : z = 7
    · refine lv_tableIn (tgt := 446) (off := 406) hx hb dL_law_40 (by rw [s_7]; decide) (by rw [s_7]; decide) (by rw [s_7]; decide) (by decide) ?_
      exact lq_c7 Z hcs hw hI hi hl kk
    by_cases s_8 : z = 8
    · refine lv_tableIn (tgt := 483) (off := 443) hx hb dL_law_40 (by rw [s_8]; decide) (by rw [s_8]; decide) (by rw [s_8]; decide) (by decide) ?_
      exact lq_c8 Z hcs hw hI hi hl kk
    by_cases s_9 : z = 9
    · refine lv_tableIn (tgt := 508) (off := 468) hx hb dL_law_40 (by rw [s_9]; decide) (by rw [s_9]; decide) (by rw [s_9]; decide) (by decide) ?_
      exact lq_c9 Z hcs hw hI hi hl kk
    by_cases s_10 : z = 10
    · refine lv_tableIn (tgt := 533) (off := 493) hx hb dL_law_40 (by rw [s_10]; decide) (by rw [s_10]; decide) (by rw [s_10]; decide) (by decide) ?_
      exact lq_c10 Z hcs hw hI hi hl kk
    by_cases s_11 : z = 11
    · refine lv_tableIn (tgt := 558) (off := 518) hx hb dL_law_40 (by rw [s_11]; decide) (by rw [s_11]; decide) (by rw [s_11]; decide) (by decide) ?_
      exact lq_c11 Z hcs hw hI hi hl kk
    by_cases s_12 : z = 12
    · refine lv_tableIn (tgt := 607) (off := 567) hx hb dL_law_40 (by rw [s_12]; decide) (by rw [s_12]; decide) (by rw [s_12]; decide) (by decide) ?_
      exact lq_c12 Z hcs hw hI hi hl kk
    by_cases s_13 : z = 13
    · refine lv_tableIn (tgt := 644) (off := 604) hx hb dL_law_40 (by rw [s_13]; decide) (by rw [s_13]; decide) (by rw [s_13]; decide) (by decide) ?_
      exact lq_c13 Z hcs hw hI hi hl kk
    by_cases s_14 : z = 14
    · refine lv_tableIn (tgt := 669) (off := 629) hx hb dL_law_40 (by rw [s_14]; decide) (by rw [s_14]; decide) (by rw [s_14]; decide) (by decide) ?_
      exact lq_c14 Z hcs hw hI hi hl kk
    by_cases s_15 : z = 15
    · refine lv_tableIn (tgt := 706) (off := 666) hx hb dL_law_40 (by rw [s_15]; decide) (by rw [s_15]; decide) (by rw [s_15]; decide) (by decide) ?_
      exact lq_c15 Z hcs hw hI hi hl kk
    by_cases s_16 : z = 16
    · refine lv_tableIn (tgt := 743) (off := 703) hx hb dL_law_40 (by rw [s_16]; decide) (by rw [s_16]; decide) (by rw [s_16]; decide) (by decide) ?_
      exact lq_c16 Z hcs hw hI hi hl kk
    by_cases s_17 : z = 17
    · refine lv_tableIn (tgt := 780) (off := 740) hx hb dL_law_40 (by rw [s_17]; decide) (by rw [s_17]; decide) (by rw [s_17]; decide) (by decide) ?_
      exact lq_c17 Z hcs hw hI hi hl kk
    by_cases s_18 : z = 18
    · refine lv_tableIn (tgt := 805) (off := 765) hx hb dL_law_40 (by rw [s_18]; decide) (by rw [s_18]; decide) (by rw [s_18]; decide) (by decide) ?_
      exact lq_c18 Z hcs hw hI hi hl kk
    by_cases s_19 : z = 19
    · refine lv_tableIn (tgt := 854) (off := 814) hx hb dL_law_40 (by rw [s_19]; decide) (by rw [s_19]; decide) (by rw [s_19]; decide) (by decide) ?_
      exact lq_c19 Z hcs hw hI hi hl kk
    by_cases s_20 : z = 20
    · refine lv_tableIn (tgt := 903) (off := 863) hx hb dL_law_40 (by rw [s_20]; decide) (by rw [s_20]; decide) (by rw [s_20]; decide) (by decide) ?_
      exact lq_c20 Z hcs hw hI hi hl kk
    by_cases s_21 : z = 21
    · refine lv_tableIn (tgt := 916) (off := 876) hx hb dL_law_40 (by rw [s_21]; decide) (by rw [s_21]; decide) (by rw [s_21]; decide) (by decide) ?_
      exact lq_c21 Z hcs hw hI hi hl kk
    by_cases s_22 : z = 22
    · refine lv_tableIn (tgt := 965) (off := 925) hx hb dL_law_40 (by rw [s_22]; decide) (by rw [s_22]; decide) (by rw [s_22]; decide) (by decide) ?_
      exact lq_c22 Z hcs hw hI hi hl kk
    by_cases s_23 : z = 23
    · refine lv_tableIn (tgt := 1026) (off := 986) hx hb dL_law_40 (by rw [s_23]; decide) (by rw [s_23]; decide) (by rw [s_23]; decide) (by decide) ?_
      exact lq_c23 Z hcs hw hI hi hl kk
    by_cases s_24 : z = 24
    · refine lv_tableIn (tgt := 1087) (off := 1047) hx hb dL_law_40 (by rw [s_24]; decide) (by rw [s_24]; decide) (by rw [s_24]; decide) (by decide) ?_
      exact lq_c24 Z hcs hw hI hi hl kk
    by_cases s_25 : z = 25
    · refine lv_tableIn (tgt := 1136) (off := 1096) hx hb dL_law_40 (by rw [s_25]; decide) (by rw [s_25]; decide) (by rw [s_25]; decide) (by decide) ?_
      exact lq_c25 Z hcs hw hI hi hl kk
    by_cases s_26 : z = 26
    · refine lv_tableIn (tgt := 1173) (off := 1133) hx hb dL_law_40 (by rw [s_26]; decide) (by rw [s_26]; decide) (by rw [s_26]; decide) (by decide) ?_
      exact lq_c26 Z hcs hw hI hi hl kk
    by_cases s_27 : z = 27
    · refine lv_tableIn (tgt := 1222) (off := 1182) hx hb dL_law_40 (by rw [s_27]; decide) (by rw [s_27]; decide) (by rw [s_27]; decide) (by decide) ?_
      exact lq_c27 Z hcs hw hI hi hl kk
    by_cases s_28 : z = 28
    · refine lv_tableIn (tgt := 1247) (off := 1207) hx hb dL_law_40 (by rw [s_28]; decide) (by rw [s_28]; decide) (by rw [s_28]; decide) (by decide) ?_
      exact lq_c28 Z hcs hw hI hi hl kk
    by_cases s_29 : z = 29
    · refine lv_tableIn (tgt := 1272) (off := 1232) hx hb dL_law_40 (by rw [s_29]; decide) (by rw [s_29]; decide) (by rw [s_29]; decide) (by decide) ?_
      exact lq_c29 Z hcs hw hI hi hl kk
    by_cases s_30 : z = 30
    · refine lv_tableIn (tgt := 1285) (off := 1245) hx hb dL_law_40 (by rw [s_30]; decide) (by rw [s_30]; decide) (by rw [s_30]; decide) (by decide) ?_
      exact lq_c30 Z hcs hw hI hi hl kk
    by_cases s_31 : z = 31
    · refine lv_tableIn (tgt := 1322) (off := 1282) hx hb dL_law_40 (by rw [s_31]; decide) (by rw [s_31]; decide) (by rw [s_31]; decide) (by decide) ?_
      exact lq_c31 Z hcs hw hI hi hl kk
    by_cases s_32 : z = 32
    · refine lv_tableIn (tgt := 1359) (off := 1319) hx hb dL_law_40 (by rw [s_32]; decide) (by rw [s_32]; decide) (by rw [s_32]; decide) (by decide) ?_
      exact lq_c32 Z hcs hw hI hi hl kk
    by_cases s_33 : z = 33
    · refine lv_tableIn (tgt := 1408) (off := 1368) hx hb dL_law_40 (by rw [s_33]; decide) (by rw [s_33]; decide) (by rw [s_33]; decide) (by decide) ?_
      exact lq_c33 Z hcs hw hI hi hl kk
    by_cases s_34 : z = 34
    · refine lv_tableIn (tgt := 1457) (off := 1417) hx hb dL_law_40 (by rw [s_34]; decide) (by rw [s_34]; decide) (by rw [s_34]; decide) (by decide) ?_
      exact lq_c34 Z hcs hw hI hi hl kk
    by_cases s_35 : z = 35
    · refine lv_tableIn (tgt := 1470) (off := 1430) hx hb dL_law_40 (by rw [s_35]; decide) (by rw [s_35]; decide) (by rw [s_35]; decide) (by decide) ?_
      exact lq_c35 Z hcs hw hI hi hl kk
    by_cases s_36 : z = 36
    · refine lv_tableIn (tgt := 1483) (off := 1443) hx hb dL_law_40 (by rw [s_36]; decide) (by rw [s_36]; decide) (by rw [s_36]; decide) (by decide) ?_
      exact lq_c36 Z hcs hw hI hi hl kk
    by_cases s_37 : z = 37
    · refine lv_tableIn (tgt := 1496) (off := 1456) hx hb dL_law_40 (by rw [s_37]; decide) (by rw [s_37]; decide) (by rw [s_37]; decide) (by decide) ?_
      exact lq_c37 Z hcs hw hI hi hl kk
    refine lv_tableOut (tgt := 1521) hx hb dL_law_40 (ti_out (lo := 0) (hi := 37) z (by
        intro v h1 h2
        have h3 : v = 0 ∨ v = 1 ∨ v = 2 ∨ v = 3 ∨ v = 4 ∨ v = 5 ∨ v = 6 ∨ v = 7 ∨ v = 8 ∨ v = 9 ∨ v = 10 ∨ v = 11 ∨ v = 12 ∨ v = 13 ∨ v = 14 ∨ v = 15 ∨ v = 16 ∨ v = 17 ∨ v = 18 ∨ v = 19 ∨ v = 20 ∨ v = 21 ∨ v = 22 ∨ v = 23 ∨ v = 24 ∨ v = 25 ∨ v = 26 ∨ v = 27 ∨ v = 28 ∨ v = 29 ∨ v = 30 ∨ v = 31 ∨ v = 32 ∨ v = 33 ∨ v = 34 ∨ v = 35 ∨ v = 36 ∨ v = 37 := by omega
        rcases h3 with rfl | rfl | rfl | rfl | rfl | rfl | rfl | rfl | rfl | rfl | rfl | rfl | rfl | rfl | rfl | rfl | rfl | rfl | rfl | rfl | rfl | rfl | rfl | rfl | rfl | rfl | rfl | rfl | rfl | rfl | rfl | rfl | rfl | rfl | rfl | rfl | rfl | rfl <;> first | exact ti_nev 0 s_0 (by decide) | exact ti_nev 1 s_1 (by decide) | exact ti_nev 2 s_2 (by decide) | exact ti_nev 3 s_3 (by decide) | exact ti_nev 4 s_4 (by decide) | exact ti_nev 5 s_5 (by decide) | exact ti_nev 6 s_6 (by decide) | exact ti_nev 7 s_7 (by decide) | exact ti_nev 8 s_8 (by decide) | exact ti_nev 9 s_9 (by decide) | exact ti_nev 10 s_10 (by decide) | exact ti_nev 11 s_11 (by decide) | exact ti_nev 12 s_12 (by decide) | exact ti_nev 13 s_13 (by decide) | exact ti_nev 14 s_14 (by decide) | exact ti_nev 15 s_15 (by decide) | exact ti_nev 16 s_16 (by decide) | exact ti_nev 17 s_17 (by decide) | exact ti_nev 18 s_18 (by decide) | exact ti_nev 19 s_19 (by decide) | exact ti_nev 20 s_20 (by decide) | exact ti_nev 21 s_21 (by decide) | exact ti_nev 22 s_22 (by decide) | exact ti_nev 23 s_23 (by decide) | exact ti_nev 24 s_24 (by decide) | exact ti_nev 25 s_25 (by decide) | exact ti_nev 26 s_26 (by decide) | exact ti_nev 27 s_27 (by decide) | exact ti_nev 28 s_28 (by decide) | exact ti_nev 29 s_29 (by decide) | exact ti_nev 30 s_30 (by decide) | exact ti_nev 31 s_31 (by decide) | exact ti_nev 32 s_32 (by decide) | exact ti_nev 33 s_33 (by decide) | exact ti_nev 34 s_34 (by decide) | exact ti_nev 35 s_35 (by decide) | exact ti_nev 36 s_36 (by decide) | exact ti_nev 37 s_37 (by decide))) (by decide) ?_
    exact kk M1 M2 H locs ls hw hI hl
set_option maxHeartbeats 4000000 in
set_option maxRecDepth 100000 in
theorem whole_start {p : Program} {e : Env} {s : State} {m : MethodId} {below : List Frame} {meth : Method} {c : Code} (l : Launch) (hflags : l.flags = flags0) {b L : Nat} {xs : Nat → Int32} (hL : L ≤ 3072) (C0 : lw_At p s m meth c b L xs) : W p l e room_1 s m #[Value.ref b] below meth c s.heap [] 0 0 (lw_Z below #[Value.ref b] s) (entryFrame m ([Value.ref b] : List Value).toArray 7) := by
  obtain ⟨hx, hb, hr, hml, hown, hts, hX, hbl, hlocks, hgv⟩ := id C0
  have hA : ∀ q : Nat, s.heap.size ≤ q → lq_F s q := fun _ h => h
  have hbA : ¬ lq_F s b := Nat.not_le.mpr hbl
  have ho1 : (Cond.arrayOver (.object RX1)).before #[Value.ref b] s = true := hts _ (List.mem_of_getElem? (i := 224) (by decide +kernel))
  have ho2 : (Cond.arrayOver (.object RX2)).before #[Value.ref b] s = true := hts _ (List.mem_of_getElem? (i := 222) (by decide +kernel))
  have ho3 : (Cond.arrayOver (.object RX3)).before #[Value.ref b] s = true := hts _ (List.mem_of_getElem? (i := 460) (by decide +kernel))
  obtain ⟨D, cy, hK⟩ := lq_K (lw_g_hts hts) ho1 ho2 ho3
  have hN : ti_N s := ⟨va_Nw.of rfl (hts _ (List.mem_of_getElem? (i := 156) (by decide +kernel))), va_Nw.of rfl (hts _ (List.mem_of_getElem? (i := 162) (by decide +kernel))), va_Nw.of rfl (hts _ (List.mem_of_getElem? (i := 226) (by decide +kernel))), va_Nw.of rfl (hts _ (List.mem_of_getElem? (i := 279) (by decide +kernel))), va_Nw.of rfl (hts _ (List.mem_of_getElem? (i := 372) (by decide +kernel))), va_Nw.of rfl (hts _ (List.mem_of_getElem? (i := 461) (by decide +kernel))), va_Nw.of rfl (hts _ (List.mem_of_getElem? (i := 475) (by decide +kernel))), va_Nw.of rfl (hts _ (List.mem_of_getElem? (i := 480) (by decide +kernel))), va_Nw.of rfl (hts _ (List.mem_of_getElem? (i := 527) (by decide +kernel))), va_Nw.of rfl (hts _ (List.mem_of_getElem? (i := 532) (by decide +kernel))), va_AO.of ho1, va_AO.of ho2, va_AO.of ho3⟩
  have C : lq_B p s m c #[Value.ref b] cL_law RL 7 D cy := ⟨hx, hb, lw_g_hts hts, hown, hK, hml, trivial, hN⟩
  have hini : (Cond.initialized Bundle.tN).before #[Value.ref b] s = true := hts _ (List.mem_of_getElem? (i := 140) (by decide +kernel))
  have hflat := flat_of_before _ hgv
  have hAn : ∀ a : Nat, a < s.heap.size → ¬ lq_F s a := fun a h1 h2 => Nat.not_le.mpr h1 h2
  have hE : tx_E (lq_F s) s s.heap := lq_E hts hflat hAn
  have h4 : lk_S (lq_F s) s s.heap := by
    have hsr : (Cond.stringRef RX9 110 lk_t).before #[Value.ref b] s = true := hts _ (List.mem_of_getElem? (i := 1285) (by decide +kernel))
    have hs2 : (Cond.stringRef RX9 156 lk_t2).before #[Value.ref b] s = true := hts _ (List.mem_of_getElem? (i := 1321) (by decide +kernel))
    obtain ⟨-, -, -, sa, -, -, -, -, -, hev⟩ := Cond.stringRef_spec (hK.1 9 _ rfl).2.1 hsr
    obtain ⟨-, -, -, sb, -, -, -, -, -, hev2⟩ := Cond.stringRef_spec (hK.1 9 _ rfl).2.1 hs2
    exact ⟨⟨⟨sa, vk_R.of hsr hev⟩, sb, vk_R.of hs2 hev2⟩, vx_Zqof (hts _ (List.mem_of_getElem? (i := 1272) (by decide +kernel))) hini (hflat _ (by decide +kernel)) hAn, vx_Zqof (hts _ (List.mem_of_getElem? (i := 1274) (by decide +kernel))) hini (hflat _ (by decide +kernel)) hAn, va_Nw.of rfl (hts _ (List.mem_of_getElem? (i := 1249) (by decide +kernel))), va_Nw.of rfl (hts _ (List.mem_of_getElem? (i := 1251) (by decide +kernel))), va_Nw.of rfl (hts _ (List.mem_of_getElem? (i := 1253) (by decide +kernel))), va_Nw.of rfl (hts _ (List.mem_of_getElem? (i := 1247) (by decide +kernel))), va_Nw.of rfl (hts _ (List.mem_of_getElem? (i := 1314) (by decide +kernel))), va_Nc.of (hflat _ (by decide +kernel))⟩
  have hP : va_P D vwCl [] s.heap := fun k q h => by simp at h
  have hD : va_D (lq_F s) [] := ⟨fun i j p q h => by simp at h, fun k q h => by simp at h⟩
  have hS : va_S (lq_F s) s.heap s.heap [] := va_S.rf
  have hl := lv_entry ([.ref b]) (n := 7) (Nat.le_of_ble_eq_true rfl)
  rw [lg_entry_eq]
  generalize (lg_sl ([.ref b]) ++ List.replicate (7 - (lg_sl ([.ref b])).length) Slot.unset).toArray = ls at hl ⊢
  have hl : lv_has ls 7 [(0, .ref b)] := hl
  refine lq_nO (ci := 9) (fs := [.null, .null, .null, .null, .null, .null, .null, .int 0, .null, .null]) (T := TX9) (N := 10) tyX9 tyX9_ok C iw_9 ck_L_8 is_X9 in_X9 rfl hP hD hS hA nf_9 1 10 (Nat.le_of_ble_eq_true rfl) (Nat.le_of_ble_eq_true rfl) ⟨Nat.le_of_ble_eq_true rfl, Nat.le_of_ble_eq_true rfl⟩ dL_law_0 (fun q9 H hP hD hS => ?_)
  refine lv_dup hx hb dL_law_3 rfl ?_
  refine lq_callCI C (z_X9_init l D cy q9 H.size) ml_L_17 rfl ym_X9_init yi_X9_init yc_X9_init yd_X9_init hP hD hS hA hl.1 (Nat.le_of_ble_eq_true rfl) ⟨by decide, by decide⟩ 378 5869 (Nat.le_of_ble_eq_true rfl) (Nat.le_of_ble_eq_true rfl) ⟨Nat.le_of_ble_eq_true rfl, Nat.le_of_ble_eq_true rfl⟩ dL_law_4 (fun u9 Hc9 locs9 hp9 hPc9 hDc9 hSc9 => ?_)
  obtain ⟨A1, M1⟩ := u9
  obtain ⟨rfl, h1, h1b, c1, c2, c3, c4, c5, c6, c7, c8, c9, c10, c11, J9, c12⟩ := hp9
  refine lv_astore_n (lv' := [(1, .ref (A1 0 0)), (0, .ref b)]) hx hb dL_law_7 rfl hl (by decide) rfl (fun ls hl => ?_)
  have hP : va_P D vwCl (ti_W ti_LT A1 cy M1) Hc9 := hPc9
  have hD : va_D (lq_F s) (ti_W ti_LT A1 cy M1) := hDc9
  have hS := hSc9
  refine lq_nO (ci := 10) (fs := [.int 0, .null, .int 0, .null, .null, .null, .null, .null, .null, .null, .null, .null, .null, .null, .null, .null, .null, .null, .int 0, .int 0, .int 0, .int 0, .int 0, .int 0, .int 0, .int 0, .int 0, .int 0, .int 0, .int 0, .int 0, .null, .null, .int 0, .null, .null, .null, .null, .null, .null, .null, .null, .null, .null, .null, .null, .null, .null, .null, .null, .null, .int 0, .int 0, .int 0, .null, .null, .int 0, .null, .int 0, .int 0, .null, .null, .null, .null, .null, .int 0, .int 0]) (T := TX10) (N := 67) tyX10 tyX10_ok C iw_10 ck_L_18 is_X10 in_X10 rfl hP hD hS hA nf_10 379 5936 (Nat.le_of_ble_eq_true rfl) (Nat.le_of_ble_eq_true rfl) ⟨Nat.le_of_ble_eq_true rfl, Nat.le_of_ble_eq_true rfl⟩ dL_law_8 (fun q10 H hP hD hS => ?_)
  refine lv_dup hx hb dL_law_11 rfl ?_
  refine lq_callCI C (z_X10_init l D cy q10 H.size J9) ml_L_20 rfl ym_X10_init yi_X10_init yc_X10_init yd_X10_init hP hD hS hA hl.1 (Nat.le_of_ble_eq_true rfl) ⟨by decide, by decide⟩ 422 10060 (Nat.le_of_ble_eq_true rfl) (Nat.le_of_ble_eq_true rfl) ⟨Nat.le_of_ble_eq_true rfl, Nat.le_of_ble_eq_true rfl⟩ dL_law_12 (fun u10 Hc10 locs10 hp10 hPc10 hDc10 hSc10 => ?_)
  obtain ⟨A2, M2⟩ := u10
  obtain ⟨rfl, h2, h2b, h2c, d1, d2, d3, d4, d5, d6⟩ := hp10
  refine lv_astore_n (lv' := [(2, .ref (A2 60 0)), (1, .ref (A1 0 0)), (0, .ref b)]) hx hb dL_law_15 rfl hl (by decide) rfl (fun ls hl => ?_)
  have hP : va_P D vwCl (ti_W ti_LT A1 cy M1 ++ ti_W ti_LM A2 cy M2) Hc10 := hPc10
  have hD : va_D (lq_F s) (ti_W ti_LT A1 cy M1 ++ ti_W ti_LM A2 cy M2) := hDc10
  have hS := hSc10
  refine lv_iconst (v := 1) hx hb dL_law_16 (by decide) ?_
  refine lq_nA (atype := .long) (a0 := (1, .inr (.inl (fun _ => 0)))) 2 C ac_long rfl (fun C h => by cases h) rfl hP hD hS hA (fun _ => rfl) (by decide) (by decide) (Nat.le_of_ble_eq_true rfl) 423 10061 (Nat.le_of_ble_eq_true rfl) (Nat.le_of_ble_eq_true rfl) ⟨Nat.le_of_ble_eq_true rfl, Nat.le_of_ble_eq_true rfl⟩ dL_law_17 (fun q3 H hP hD hS => ?_)
  refine lv_astore_n (lv' := [(3, .ref q3), (2, .ref (A2 60 0)), (1, .ref (A1 0 0)), (0, .ref b)]) hx hb dL_law_19 rfl hl (by decide) rfl (fun ls hl => ?_)
  refine lv_iconst (v := 0) hx hb dL_law_20 (by decide) ?_
  refine lv_istore (lv' := [(4, .int 0), (3, .ref q3), (2, .ref (A2 60 0)), (1, .ref (A1 0 0)), (0, .ref b)]) hx hb dL_law_21 hl (by decide) rfl (fun ls hl => ?_)
  obtain ⟨hAA, hw⟩ := lq_mk hP hD hS
  have z0 : (0 : Int32).toInt = 0 := by decide
  exact lq_loop hflags h4 ⟨C, hAA, hX, hbl, hr, hlocks, hL, hE⟩ (L + 1) 0 M1 M2 H _ ls 423 10061 (by rw [z0]; omega) (by rw [z0]; omega) (by rw [z0]; omega) (by omega) (by omega) hw ⟨_, _, h1, h2, h1b.trans h2b.symm, (fun i hi => by rw [h1b] at hi; have z1 : (0 : Int32).toInt = 0 := (by decide); omega), (by rw [c1]), (by rw [c2]), (congrArg Int32.toInt c6), (congrArg Int32.toInt c7), (td_0 c3 c4 c5 h2c).elim (fun rg h => ⟨rg, h.1, h.2, lE_new (Or.inl rfl) c11 c3 c8 c12 c9 c10 tW_0 d1 d2 d3 d4 d5 d6⟩)⟩ hl
end

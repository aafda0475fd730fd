/-! THE CLAIM OUT OF ONE WALK OF THE LAW'S BODY. Your part is whole_start (and what it stands on); all else here is the same for every law, but numbers. -/
def R_law : String := "ThirdInLineLaw"
def lw_P (b : Addr) (xs : List Int32) (args : Array Value) (s : State) : Prop := args = #[.ref b] ∧ s.IntsAt b xs ∧ xs.length ≤ 3072 ∧ (Jvm.Cond.and given_1 narrow_1).before args s = true
def lw_Q (_ : Array Value) (s : State) (o : Outcome) (t : State) : Prop := o = .returned (some (.int 1)) ∧ Framed s o t [] 601024 7293034
def lw_Z (below : List Frame) (a : Array Value) (s : State) : State → Prop := fun t => ∃ o, t.status = .running ∧ Ended t below o ∧ lw_Q a s o t
/-- the law's own end, with 1 on the stack, nothing written that was there before, its room as the claim has it -/
theorem lw_ret {p : Program} {l : Launch} {e : Env} {s : State} {m : MethodId} {below : List Frame} {meth : Method} {c : Code} {b : Nat} (hx : p.tables.exec = Jvm.exec) (hb : c.code = code) (hr : meth.sig.returnType = ret) (hlocks : meth.locks = false) {pc : Nat} {H : Heap} {ls : Array Slot} (hdg : decode code pc = .ok (.ireturn, 1)) : W p l e room_1 s m #[Value.ref b] below meth c H [] 601024 7293034 (lw_Z below #[Value.ref b] s) (F0 m pc ls [.int 1]) := by
  intro T hT X
  obtain ⟨fs, hret, hrun, hended, hW, hframe⟩ := X.leave (v := some (.int 1)) (hlocks := hlocks) (fun h => by rw [hr] at h; cases h)
  have hmeth' : T.vm.method? m = some meth := X.method'
  refine ⟨T.setFrames fs, ?_, .returned (some (.int 1)), hrun, hended, rfl, ⟨_, rfl⟩, hW, hframe⟩
  jvm_step X.here [X.here.top, hx, hb, hdg, hmeth', hr, ret, narrow_b1]
  (try refine ⟨rfl, ?_⟩); (try refine ⟨rfl, ?_⟩)
  first | (intro acts; rw [hret _ acts rfl rfl rfl]) | rw [hret _ _ rfl rfl rfl]
  exact Steps.refl _
/-- what holds at the law's entry: the machine, the code, the tables' words (any of lw_tbl by 'hts w (by decide +kernel)'), the script of L ints xs at the cell b, what the Statement gives of the start (any of its parts by flat_of_before) -/
def lw_At (p : Program) (s : State) (m : MethodId) (meth : Method) (c : Code) (b L : Nat) (xs : Nat → Int32) : Prop :=
  p.tables.exec = Jvm.exec ∧ c.code = code ∧ meth.sig.returnType = ret ∧ c.maxLocals = 7 ∧ s.vm.findClass R_law = some m.cls ∧ (∀ w ∈ lw_tbl, w.before #[Value.ref b] s = true) ∧ va_X b L xs s s.heap ∧ b < s.heap.size ∧ meth.locks = false ∧ (Jvm.Cond.and given_1 narrow_1).before #[Value.ref b] s = true
def lq_Z (p : Program) (s : State) (m : MethodId) (meth : Method) (c : Code) (D : va_G) (cy : Nat → ClassId) (A1 A2 : Nat → Nat → Nat) (b L : Nat) (xs : Nat → Int32) : Prop :=
  lq_B p s m c #[Value.ref b] cL_law RL 7 D cy ∧ lq_A s A1 A2 ∧ va_X b L xs s s.heap ∧ b < s.heap.size ∧ meth.sig.returnType = ret ∧ meth.locks = false ∧ L ≤ 3072 ∧ tx_E (lq_F s) s s.heap
theorem lq_ret {p : Program} {l : Launch} {e : Env} {s : State} {m : MethodId} {below : List Frame} {meth : Method} {c : Code} {b : Nat} {H : Heap} {locs : List Loc} {ls : Array Slot} {cells slots : Nat} (hx : p.tables.exec = Jvm.exec) (hb : c.code = cL_law) (hr : meth.sig.returnType = ret) (hlk : meth.locks = false) (hS : va_S (lq_F s) s.heap H locs) (hc : cells ≤ 601024 ∧ slots ≤ 7293034) : W p l e room_1 s m #[Value.ref b] below meth c H locs cells slots (lw_Z below #[Value.ref b] s) (F0 m 1527 ls []) := by
  refine lv_iconst (v := 1) hx hb dL_law_1527 (by decide) ?_
  refine va_forget (fun q hq => hS.2.2 q hq) ?_
  refine W.widen (k := 601024) (n := 7293034) hc.1 hc.2 ?_
  exact lw_ret hx hb hr hlk dL_law_1528
set_option maxRecDepth 100000 in
theorem lq_c0 {p : Program} {l : Launch} {e : Env} {s : State} {m : MethodId} {below : List Frame} {meth : Method} {c : Code} {D : va_G} {cy : Nat → ClassId} {A1 A2 : Nat → Nat → Nat} {M1 M2 : ti_M} {b q3 L cells slots : Nat} {iv : Int32} {xs : Nat → Int32} {H : Heap} {locs : List Loc} {ls : Array Slot} (Z : lq_Z p s m meth c D cy A1 A2 b L xs) (hcs : cells ≤ room_1.cells ∧ slots ≤ room_1.slots) (hw : lq_H s D cy A1 A2 q3 M1 M2 H locs) (hI : lq_I M1 M2) (hi : 0 ≤ iv.toInt ∧ iv.toInt + 6 ≤ L) (hl : lv_has ls 7 [(4, .int iv), (3, .ref q3), (2, .ref (A2 60 0)), (1, .ref (A1 0 0)), (0, .ref b)]) (kk : ∀ (M1 M2 : ti_M) (H : Heap) (locs : List Loc) (ls : Array Slot), lq_H s D cy A1 A2 q3 M1 M2 H locs → lq_I M1 M2 → lv_has ls 7 [(4, .int iv), (3, .ref q3), (2, .ref (A2 60 0)), (1, .ref (A1 0 0)), (0, .ref b)] → W p l e room_1 s m #[Value.ref b] below meth c H locs cells slots (lw_Z below #[Value.ref b] s) (F0 m 1521 ls [])) : W p l e room_1 s m #[Value.ref b] below meth c H locs cells slots (lw_Z below #[Value.ref b] s) (F0 m 208 ls []) := by
  have C := Z.1
  have hA := Z.2.1
  have hx := C.1
  have hb := C.2.1
  have hbA : ¬ lq_F s b := Nat.not_le.mpr Z.2.2.2.1
  have hL := Z.2.2.2.2.2.2.1
  have hE := Z.2.2.2.2.2.2.2
  obtain ⟨Tc, Tm, hF1, hF2, hE0, hB0, hR1, hR2, hS1, hS2, rg, htd1, htd2, hle⟩ := hI
  have hR := And.intro hR1 hR2
  have hS := And.intro hS1 hS2
  refine lv_aload_n hx hb dL_law_208 rfl (lv_at hl 3 rfl) ?_
  refine lv_aload_n hx hb dL_law_209 rfl (lv_at hl 4 rfl) ?_
  refine lv_iload hx hb dL_law_210 (lv_at hl 0 rfl) ?_
  refine lv_iconst (v := 1) hx hb dL_law_212 (by decide) ?_
  refine lv_iadd hx hb dL_law_213 ?_
  refine va_sld (i := iv + 1) hx hb Z.2.2.1 Z.2.2.2.1 hbA hw.2.2.1 (lq_in hi hL (by decide) (by decide)) dL_law_214 ?_
  refine lv_aload_n hx hb dL_law_215 rfl (lv_at hl 4 rfl) ?_
  refine lv_iload hx hb dL_law_216 (lv_at hl 0 rfl) ?_
  refine lv_iconst (v := 2) hx hb dL_law_218 (by decide) ?_
  refine lv_iadd hx hb dL_law_219 ?_
  refine va_sld (i := iv + 2) hx hb Z.2.2.1 Z.2.2.2.1 hbA hw.2.2.1 (lq_in hi hL (by decide) (by decide)) dL_law_220 ?_
  refine lv_aload_n hx hb dL_law_221 rfl (lv_at hl 4 rfl) ?_
  refine lv_iload hx hb dL_law_222 (lv_at hl 0 rfl) ?_
  refine lv_iconst (v := 3) hx hb dL_law_224 (by decide) ?_
  refine lv_iadd hx hb dL_law_225 ?_
  refine va_sld (i := iv + 3) hx hb Z.2.2.1 Z.2.2.2.1 hbA hw.2.2.1 (lq_in hi hL (by decide) (by decide)) dL_law_226 ?_
  refine lv_aload_n hx hb dL_law_227 rfl (lv_at hl 4 rfl) ?_
  refine lv_iload hx hb dL_law_228 (lv_at hl 0 rfl) ?_
  refine lv_iconst (v := 4) hx hb dL_law_230 (by decide) ?_
  refine lv_iadd hx hb dL_law_231 ?_
  refine va_sld (i := iv + 4) hx hb Z.2.2.1 Z.2.2.2.1 hbA hw.2.2.1 (lq_in hi hL (by decide) (by decide)) dL_law_232 ?_
  refine lv_aload_n hx hb dL_law_233 rfl (lv_at hl 4 rfl) ?_
  refine lv_iload hx hb dL_law_234 (lv_at hl 0 rfl) ?_
  refine lv_iconst (v := 5) hx hb dL_law_236 (by decide) ?_
  refine lv_iadd hx hb dL_law_237 ?_
  refine va_sld (i := iv + 5) hx hb Z.2.2.1 Z.2.2.2.1 hbA hw.2.2.1 (lq_in hi hL (by decide) (by decide)) dL_law_238 ?_
  refine lq_callTi (av := [.int (xs (iv + 1 : Int32).toNatClampNeg), .int (xs (iv + 2 : Int32).toNatClampNeg), .int (xs (iv + 3 : Int32).toNatClampNeg), .int (xs (iv + 4 : Int32).toNatClampNeg), .int (xs (iv + 5 : Int32).toNatClampNeg)]) C hA hw (w_X9_feed l D A1 cy hA.1 M1 hF1.1 hF1 (xs (iv + 1 : Int32).toNatClampNeg) (xs (iv + 2 : Int32).toNatClampNeg) (xs (iv + 3 : Int32).toNatClampNeg) (xs (iv + 4 : Int32).toNatClampNeg) (xs (iv + 5 : Int32).toNatClampNeg)) ⟨ml_L_21, ym_X9_feed, yv_X9_feed, yi_X9_feed, yc_X9_feed⟩ yd_X9_feed rfl rfl hl.1 (Nat.le_of_ble_eq_true rfl) ⟨by decide, by decide⟩ hcs dL_law_239 (fun rT N1 H locs hpT hw => ?_)
  refine lv_pop hx hb dL_law_242 rfl ?_
  refine lv_aload_n hx hb dL_law_243 rfl (lv_at hl 2 rfl) ?_
  refine lv_aload_n hx hb dL_law_244 rfl (lv_at hl 4 rfl) ?_
  refine lv_iload hx hb dL_law_245 (lv_at hl 0 rfl) ?_
  refine lv_iconst (v := 1) hx hb dL_law_247 (by decide) ?_
  refine lv_iadd hx hb dL_law_248 ?_
  refine va_sld (i := iv + 1) hx hb Z.2.2.1 Z.2.2.2.1 hbA hw.2.2.1 (lq_in hi hL (by decide) (by decide)) dL_law_249 ?_
  refine lv_aload_n hx hb dL_law_250 rfl (lv_at hl 4 rfl) ?_
  refine lv_iload hx hb dL_law_251 (lv_at hl 0 rfl) ?_
  refine lv_iconst (v := 2) hx hb dL_law_253 (by decide) ?_
  refine lv_iadd hx hb dL_law_254 ?_
  refine va_sld (i := iv + 2) hx hb Z.2.2.1 Z.2.2.2.1 hbA hw.2.2.1 (lq_in hi hL (by decide) (by decide)) dL_law_255 ?_
  refine lv_aload_n hx hb dL_law_256 rfl (lv_at hl 4 rfl) ?_
  refine lv_iload hx hb dL_law_257 (lv_at hl 0 rfl) ?_
  refine lv_iconst (v := 3) hx hb dL_law_259 (by decide) ?_
  refine lv_iadd hx hb dL_law_260 ?_
  refine va_sld (i := iv + 3) hx hb Z.2.2.1 Z.2.2.2.1 hbA hw.2.2.1 (lq_in hi hL (by decide) (by decide)) dL_law_261 ?_
  refine lv_aload_n hx hb dL_law_262 rfl (lv_at hl 4 rfl) ?_
  refine lv_iload hx hb dL_law_263 (lv_at hl 0 rfl) ?_
  refine lv_iconst (v := 4) hx hb dL_law_265 (by decide) ?_
  refine lv_iadd hx hb dL_law_266 ?_
  refine va_sld (i := iv + 4) hx hb Z.2.2.1 Z.2.2.2.1 hbA hw.2.2.1 (lq_in hi hL (by decide) (by decide)) dL_law_267 ?_
  refine lv_aload_n hx hb dL_law_268 rfl (lv_at hl 4 rfl) ?_
  refine lv_iload hx hb dL_law_269 (lv_at hl 0 rfl) ?_
  refine lv_iconst (v := 5) hx hb dL_law_271 (by decide) ?_
  refine lv_iadd hx hb dL_law_272 ?_
  refine va_sld (i := iv + 5) hx hb Z.2.2.1 Z.2.2.2.1 hbA hw.2.2.1 (lq_in hi hL (by decide) (by decide)) dL_law_273 ?_
  refine lq_callMi (av := [.int (xs (iv + 1 : Int32).toNatClampNeg), .int (xs (iv + 2 : Int32).toNatClampNeg), .int (xs (iv + 3 : Int32).toNatClampNeg), .int (xs (iv + 4 : Int32).toNatClampNeg), .int (xs (iv + 5 : Int32).toNatClampNeg)]) C hA hw (w_X10_feed l D A2 cy hA.2.1 M2 (mI_self hF2.1) hF2 (xs (iv + 1 : Int32).toNatClampNeg) (xs (iv + 2 : Int32).toNatClampNeg) (xs (iv + 3 : Int32).toNatClampNeg) (xs (iv + 4 : Int32).toNatClampNeg) (xs (iv + 5 : Int32).toNatClampNeg)) ⟨ml_L_25, ym_X10_feed, yv_X10_feed, yi_X10_feed, yc_X10_feed⟩ yd_X10_feed rfl rfl hl.1 (Nat.le_of_ble_eq_true rfl) ⟨by decide, by decide⟩ hcs dL_law_274 (fun rM N2 H locs hpM hw => ?_)
  refine lv_pop hx hb dL_law_277 rfl ?_
  obtain ⟨hpT, hT5, hTT⟩ := hpT
  obtain ⟨hpM, hM5, hMq⟩ := hpM
  have q := lq_fd hF1 hF2 hE0 hB0 hR hS (fun k => hT5.1 50 k (by decide)) (tdC_5 htd1 ⟨fun o k h => hT5.1 o k (by omega), tT_fr hTT, tT_fr hTT⟩) (tdR_lw htd2 hM5) (lE_eo hle hT5 (Or.inl rfl) hTT hMq hM5) hpT hpM
  refine lv_goto (tgt := 1521) hx hb dL_law_278 (by decide) ?_
  exact kk N1 N2 H locs ls hw q.2 hl
set_option maxRecDepth 100000 in
theorem lq_c1 {p : Program} {l : Launch} {e : Env} {s : State} {m : MethodId} {below : List Frame} {meth : Method} {c : Code} {D : va_G} {cy : Nat → ClassId} {A1 A2 : Nat → Nat → Nat} {M1 M2 : ti_M} {b q3 L cells slots : Nat} {iv : Int32} {xs : Nat → Int32} {H : Heap} {locs : List Loc} {ls : Array Slot} (Z : lq_Z p s m meth c D cy A1 A2 b L xs) (hcs : cells ≤ room_1.cells ∧ slots ≤ room_1.slots) (hw : lq_H s D cy A1 A2 q3 M1 M2 H locs) (hI : lq_I M1 M2) (hi : 0 ≤ iv.toInt ∧ iv.toInt + 6 ≤ L) (hl : lv_has ls 7 [(4, .int iv), (3, .ref q3), (2, .ref (A2 60 0)), (1, .ref (A1 0 0)), (0, .ref b)]) (kk : ∀ (M1 M2 : ti_M) (H : Heap) (locs : List Loc) (ls : Array Slot), lq_H s D cy A1 A2 q3 M1 M2 H locs → lq_I M1 M2 → lv_has ls 7 [(4, .int iv), (3, .ref q3), (2, .ref (A2 60 0)), (1, .ref (A1 0 0)), (0, .ref b)] → W p l e room_1 s m #[Value.ref b] below meth c H locs cells slots (lw_Z below #[Value.ref b] s) (F0 m 1521 ls [])) : W p l e room_1 s m #[Value.ref b] below meth c H locs cells slots (lw_Z below #[Value.ref b] s) (F0 m 281 ls []) := by
  have C := Z.1
  have hA := Z.2.1
  have hx := C.1
  have hb := C.2.1
  have hbA : ¬ lq_F s b := Nat.not_le.mpr Z.2.2.2.1
  have hL := Z.2.2.2.2.2.2.1
  have hE := Z.2.2.2.2.2.2.2
  obtain ⟨Tc, Tm, hF1, hF2, hE0, hB0, hR1, hR2, hS1, hS2, rg, htd1, htd2, hle⟩ := hI
  have hR := And.intro hR1 hR2
  have hS := And.intro hS1 hS2
  refine lv_aload_n hx hb dL_law_281 rfl (lv_at hl 3 rfl) ?_
  refine lv_aload_n hx hb dL_law_282 rfl (lv_at hl 4 rfl) ?_
  refine lv_iload hx hb dL_law_283 (lv_at hl 0 rfl) ?_
  refine lv_iconst (v := 1) hx hb dL_law_285 (by decide) ?_
  refine lv_iadd hx hb dL_law_286 ?_
  refine va_sld (i := iv + 1) hx hb Z.2.2.1 Z.2.2.2.1 hbA hw.2.2.1 (lq_in hi hL (by decide) (by decide)) dL_law_287 ?_
  refine lq_callTiE (av := [.int (xs (iv + 1 : Int32).toNatClampNeg)]) C hA hE hw (z_X9_text l D A1 cy hA.1 M1 hF1.1 hF1 (xs (iv + 1 : Int32).toNatClampNeg) (fun i => (Tc.1 i &&& 255).toInt) _ rfl rfl rg htd1) ⟨ml_L_26, ym_X9_text, yv_X9_text, yi_X9_text, yc_X9_text⟩ yd_X9_text rfl rfl hl.1 (Nat.le_of_ble_eq_true rfl) ⟨by decide, by decide⟩ hcs dL_law_288 (fun rT N1 H locs hpT hw => ?_)
  obtain ⟨J, K, J2, hpT⟩ := lq_tJ hpT
  refine lv_pop hx hb dL_law_291 rfl ?_
  refine lv_aload_n hx hb dL_law_292 rfl (lv_at hl 2 rfl) ?_
  refine lv_aload_n hx hb dL_law_293 rfl (lv_at hl 4 rfl) ?_
  refine lv_iload hx hb dL_law_294 (lv_at hl 0 rfl) ?_
  refine lv_iconst (v := 1) hx hb dL_law_296 (by decide) ?_
  refine lv_iadd hx hb dL_law_297 ?_
  refine va_sld (i := iv + 1) hx hb Z.2.2.1 Z.2.2.2.1 hbA hw.2.2.1 (lq_in hi hL (by decide) (by decide)) dL_law_298 ?_
  refine lq_callMiE (av := [.int (xs (iv + 1 : Int32).toNatClampNeg)]) C hA hE hw (z_X10_text l D A2 cy hA.2.1 M2 hF2.1 hF2 (xs (iv + 1 : Int32).toNatClampNeg) (fun i => (Tc.1 i &&& 255).toInt) J (fun hn i hi => by rw [show tY M2 60 1 = Tm.1 from congrArg (fun t => t.1) hF2.1.2.2.2]; exact (hB0 i (by rw [hE0]; omega)).symm) K J2) ⟨ml_L_30, ym_X10_text, yv_X10_text, yi_X10_text, yc_X10_text⟩ yd_X10_text rfl rfl hl.1 (Nat.le_of_ble_eq_true rfl) ⟨by decide, by decide⟩ hcs dL_law_299 (fun rM N2 H locs hpM hw => ?_)
  refine lv_pop hx hb dL_law_302 rfl ?_
  have q := lq_tx hF1 hF2 hE0 hB0 hR hS htd1 htd2 hle hpT hpM
  refine lv_goto (tgt := 1521) hx hb dL_law_303 (by decide) ?_
  exact kk N1 N2 H locs ls hw q.2 hl
set_option maxRecDepth 100000 in
theorem lq_c2 {p : Program} {l : Launch} {e : Env} {s : State} {m : MethodId} {below : List Frame} {meth : Method} {c : Code} {D : va_G} {cy : Nat → ClassId} {A1 A2 : Nat → Nat → Nat} {M1 M2 : ti_M} {b q3 L cells slots : Nat} {iv : Int32} {xs : Nat → Int32} {H : Heap} {locs : List Loc} {ls : Array Slot} (Z : lq_Z p s m meth c D cy A1 A2 b L xs) (hcs : cells ≤ room_1.cells ∧ slots ≤ room_1.slots) (hw : lq_H s D cy A1 A2 q3 M1 M2 H locs) (hI : lq_I M1 M2) (hi : 0 ≤ iv.toInt ∧ iv.toInt + 6 ≤ L) (hl : lv_has ls 7 [(4, .int iv), (3, .ref q3), (2, .ref (A2 60 0)), (1, .ref (A1 0 0)), (0, .ref b)]) (kk : ∀ (M1 M2 : ti_M) (H : Heap) (locs : List Loc) (ls : Array Slot), lq_H s D cy A1 A2 q3 M1 M2 H locs → lq_I M1 M2 → lv_has ls 7 [(4, .int iv), (3, .ref q3), (2, .ref (A2 60 0)), (1, .ref (A1 0 0)), (0, .ref b)] → W p l e room_1 s m #[Value.ref b] below meth c H locs cells slots (lw_Z below #[Value.ref b] s) (F0 m 1521 ls [])) : W p l e room_1 s m #[Value.ref b] below meth c H locs cells slots (lw_Z below #[Value.ref b] s) (F0 m 306 ls []) := by
  have C := Z.1
  have hA := Z.2.1
  have hx := C.1
  have hb := C.2.1
  have hbA : ¬ lq_F s b := Nat.not_le.mpr Z.2.2.2.1
  have hL := Z.2.2.2.2.2.2.1
  have hE := Z.2.2.2.2.2.2.2
  obtain ⟨Tc, Tm, hF1, hF2, hE0, hB0, hR1, hR2, hS1, hS2, rg, htd1, htd2, hle⟩ := hI
  have hR := And.intro hR1 hR2
  have hS := And.intro hS1 hS2
  refine lv_aload_n hx hb dL_law_306 rfl (lv_at hl 3 rfl) ?_
  refine lv_aload_n hx hb dL_law_307 rfl (lv_at hl 4 rfl) ?_
  refine lv_iload hx hb dL_law_308 (lv_at hl 0 rfl) ?_
  refine lv_iconst (v := 1) hx hb dL_law_310 (by decide) ?_
  refine lv_iadd hx hb dL_law_311 ?_
  refine va_sld (i := iv + 1) hx hb Z.2.2.1 Z.2.2.2.1 hbA hw.2.2.1 (lq_in hi hL (by decide) (by decide)) dL_law_312 ?_
  refine lq_callTi (av := [.int (xs (iv + 1 : Int32).toNatClampNeg)]) C hA hw (f_X9_fault l D A1 cy hA.1 M1 hF1.1 hF1 (xs (iv + 1 : Int32).toNatClampNeg)) ⟨ml_L_31, ym_X9_fault, yv_X9_fault, yi_X9_fault, yc_X9_fault⟩ yd_X9_fault rfl rfl hl.1 (Nat.le_of_ble_eq_true rfl) ⟨by decide, by decide⟩ hcs dL_law_313 (fun rT N1 H locs hpT hw => ?_)
  refine lv_pop hx hb dL_law_316 rfl ?_
  refine lv_aload_n hx hb dL_law_317 rfl (lv_at hl 2 rfl) ?_
  refine lv_aload_n hx hb dL_law_318 rfl (lv_at hl 4 rfl) ?_
  refine lv_iload hx hb dL_law_319 (lv_at hl 0 rfl) ?_
  refine lv_iconst (v := 1) hx hb dL_law_321 (by decide) ?_
  refine lv_iadd hx hb dL_law_322 ?_
  refine va_sld (i := iv + 1) hx hb Z.2.2.1 Z.2.2.2.1 hbA hw.2.2.1 (lq_in hi hL (by decide) (by decide)) dL_law_323 ?_
  refine lq_callMi (av := [.int (xs (iv + 1 : Int32).toNatClampNeg)]) C hA hw (f_X10_fault l D A2 cy hA.2.1 M2 hF2.1 hF2 (xs (iv + 1 : Int32).toNatClampNeg)) ⟨ml_L_34, ym_X10_fault, yv_X10_fault, yi_X10_fault, yc_X10_fault⟩ yd_X10_fault rfl rfl hl.1 (Nat.le_of_ble_eq_true rfl) ⟨by decide, by decide⟩ hcs dL_law_324 (fun rM N2 H locs hpM hw => ?_)
  refine lv_pop hx hb dL_law_327 rfl ?_
  refine lv_goto (tgt := 1521) hx hb dL_law_328 (by decide) ?_
  exact kk N1 N2 H locs ls hw ⟨Tc, Tm, hpT.2.2.1, hpM.2.1, hpT.2.2.2.1.trans (hE0.trans (show tI N2 60 2 = tI M2 60 2 from hpM.2.2.1).symm), (fun i hi => hB0 i (by rw [← hpT.2.2.2.1]; exact hi)), (congrArg Int32.toInt (hpT.2.2.2.2.1 1 4 (by decide) (by decide))).trans hR.1, (congrArg Int32.toInt (hpT.2.2.2.2.1 1 5 (by decide) (by decide))).trans hR.2, hS1, hS2, rg, tdC_tl htd1 hpT.2.2.2.2, tdR_lw htd2 hpM.2.2.2, lE_obs hle hpT.1 hpT.2.1 hpM.1.1 (fun q => hpM.1.2.trans q) hpM.2.2.2⟩ hl
set_option maxRecDepth 100000 in
theorem lq_c3 {p : Program} {l : Launch} {e : Env} {s : State} {m : MethodId} {below : List Frame} {meth : Method} {c : Code} {D : va_G} {cy : Nat → ClassId} {A1 A2 : Nat → Nat → Nat} {M1 M2 : ti_M} {b q3 L cells slots : Nat} {iv : Int32} {xs : Nat → Int32} {H : Heap} {locs : List Loc} {ls : Array Slot} (Z : lq_Z p s m meth c D cy A1 A2 b L xs) (hcs : cells ≤ room_1.cells ∧ slots ≤ room_1.slots) (hw : lq_H s D cy A1 A2 q3 M1 M2 H locs) (hI : lq_I M1 M2) (hi : 0 ≤ iv.toInt ∧ iv.toInt + 6 ≤ L) (hl : lv_has ls 7 [(4, .int iv), (3, .ref q3), (2, .ref (A2 60 0)), (1, .ref (A1 0 0)), (0, .ref b)]) (kk : ∀ (M1 M2 : ti_M) (H : Heap) (locs : List Loc) (ls : Array Slot), lq_H s D cy A1 A2 q3 M1 M2 H locs → lq_I M1 M2 → lv_has ls 7 [(4, .int iv), (3, .ref q3), (2, .ref (A2 60 0)), (1, .ref (A1 0 0)), (0, .ref b)] → W p l e room_1 s m #[Value.ref b] below meth c H locs cells slots (lw_Z below #[Value.ref b] s) (F0 m 1521 ls [])) : W p l e room_1 s m #[Value.ref b] below meth c H locs cells slots (lw_Z below #[Value.ref b] s) (F0 m 331 ls []) := by
  have C := Z.1
  have hA := Z.2.1
  have hx := C.1
  have hb := C.2.1
  have hbA : ¬ lq_F s b := Nat.not_le.mpr Z.2.2.2.1
  have hL := Z.2.2.2.2.2.2.1
  have hE := Z.2.2.2.2.2.2.2
  obtain ⟨Tc, Tm, hF1, hF2, hE0, hB0, hR1, hR2, hS1, hS2, rg, htd1, htd2, hle⟩ := hI
  have hR := And.intro hR1 hR2
  have hS := And.intro hS1 hS2
  refine lv_aload_n hx hb dL_law_331 rfl (lv_at hl 3 rfl) ?_
  refine lv_aload_n hx hb dL_law_332 rfl (lv_at hl 4 rfl) ?_
  refine lv_iload hx hb dL_law_333 (lv_at hl 0 rfl) ?_
  refine lv_iconst (v := 1) hx hb dL_law_335 (by decide) ?_
  refine lv_iadd hx hb dL_law_336 ?_
  refine va_sld (i := iv + 1) hx hb Z.2.2.1 Z.2.2.2.1 hbA hw.2.2.1 (lq_in hi hL (by decide) (by decide)) dL_law_337 ?_
  refine lq_callTi (av := [.int (xs (iv + 1 : Int32).toNatClampNeg)]) C hA hw (f_X9_named l D A1 cy hA.1 M1 hF1.1 hF1 (xs (iv + 1 : Int32).toNatClampNeg)) ⟨ml_L_35, ym_X9_named, yv_X9_named, yi_X9_named, yc_X9_named⟩ yd_X9_named rfl rfl hl.1 (Nat.le_of_ble_eq_true rfl) ⟨by decide, by decide⟩ hcs dL_law_338 (fun rT N1 H locs hpT hw => ?_)
  refine lv_pop hx hb dL_law_341 rfl ?_
  refine lv_aload_n hx hb dL_law_342 rfl (lv_at hl 2 rfl) ?_
  refine lv_aload_n hx hb dL_law_343 rfl (lv_at hl 4 rfl) ?_
  refine lv_iload hx hb dL_law_344 (lv_at hl 0 rfl) ?_
  refine lv_iconst (v := 1) hx hb dL_law_346 (by decide) ?_
  refine lv_iadd hx hb dL_law_347 ?_
  refine va_sld (i := iv + 1) hx hb Z.2.2.1 Z.2.2.2.1 hbA hw.2.2.1 (lq_in hi hL (by decide) (by decide)) dL_law_348 ?_
  refine lq_callMi (av := [.int (xs (iv + 1 : Int32).toNatClampNeg)]) C hA hw (f_X10_named l D A2 cy hA.2.1 M2 hF2.1 hF2 (xs (iv + 1 : Int32).toNatClampNeg)) ⟨ml_L_38, ym_X10_named, yv_X10_named, yi_X10_named, yc_X10_named⟩ yd_X10_named rfl rfl hl.1 (Nat.le_of_ble_eq_true rfl) ⟨by decide, by decide⟩ hcs dL_law_349 (fun rM N2 H locs hpM hw => ?_)
  refine lv_pop hx hb dL_law_352 rfl ?_
  refine lv_goto (tgt := 1521) hx hb dL_law_353 (by decide) ?_
  exact kk N1 N2 H locs ls hw ⟨Tc, Tm, hpT.2.2.1, hpM.2.1, hpT.2.2.2.1.trans (hE0.trans (show tI N2 60 2 = tI M2 60 2 from hpM.2.2.1).symm), (fun i hi => hB0 i (by rw [← hpT.2.2.2.1]; exact hi)), (congrArg Int32.toInt (hpT.2.2.2.2.1 1 4 (by decide) (by decide))).trans hR.1, (congrArg Int32.toInt (hpT.2.2.2.2.1 1 5 (by decide) (by decide))).trans hR.2, hS1, hS2, rg, tdC_tl htd1 hpT.2.2.2.2, tdR_lw htd2 hpM.2.2.2, lE_obs hle hpT.1 hpT.2.1 hpM.1.1 (fun q => hpM.1.2.trans q) hpM.2.2.2⟩ hl
set_option maxRecDepth 100000 in
theorem lq_c5 {p : Program} {l : Launch} {e : Env} {s : State} {m : MethodId} {below : List Frame} {meth : Method} {c : Code} {D : va_G} {cy : Nat → ClassId} {A1 A2 : Nat → Nat → Nat} {M1 M2 : ti_M} {b q3 L cells slots : Nat} {iv : Int32} {xs : Nat → Int32} {H : Heap} {locs : List Loc} {ls : Array Slot} (Z : lq_Z p s m meth c D cy A1 A2 b L xs) (hcs : cells ≤ room_1.cells ∧ slots ≤ room_1.slots) (hw : lq_H s D cy A1 A2 q3 M1 M2 H locs) (hI : lq_I M1 M2) (hi : 0 ≤ iv.toInt ∧ iv.toInt + 6 ≤ L) (hl : lv_has ls 7 [(4, .int iv), (3, .ref q3), (2, .ref (A2 60 0)), (1, .ref (A1 0 0)), (0, .ref b)]) (kk : ∀ (M1 M2 : ti_M) (H : Heap) (locs : List Loc) (ls : Array Slot), lq_H s D cy A1 A2 q3 M1 M2 H locs → lq_I M1 M2 → lv_has ls 7 [(4, .int iv), (3, .ref q3), (2, .ref (A2 60 0)), (1, .ref (A1 0 0)), (0, .ref b)] → W p l e room_1 s m #[Value.ref b] below meth c H locs cells slots (lw_Z below #[Value.ref b] s) (F0 m 1521 ls [])) : W p l e room_1 s m #[Value.ref b] below meth c H locs cells slots (lw_Z below #[Value.ref b] s) (F0 m 396 ls []) := by
  have C := Z.1
  have hA := Z.2.1
  have hx := C.1
  have hb := C.2.1
  have hbA : ¬ lq_F s b := Nat.not_le.mpr Z.2.2.2.1
  have hL := Z.2.2.2.2.2.2.1
  have hE := Z.2.2.2.2.2.2.2
  obtain ⟨Tc, Tm, hF1, hF2, hE0, hB0, hR1, hR2, hS1, hS2, rg, htd1, htd2, hle⟩ := hI
  have hR := And.intro hR1 hR2
  have hS := And.intro hS1 hS2
  obtain ⟨t9, tx9, s9, p9, si9, u9, c9, hb9⟩ := id hle
  obtain ⟨ht9, hkC9, hkR9, hW9, ⟨hw9, h19⟩, hU9, hi9⟩ := id hb9
  have m9 : 0 ≤ s9 2 ∧ s9 2 ≤ 120 := by
    have b : ib 0 120 (tY M2 60 34 0) := hF2.1.2.1 34 0 (by decide)
    rw [hkR9.2.1.1.1]; exact b
  refine lv_aload_n hx hb dL_law_396 rfl (lv_at hl 3 rfl) ?_
  refine lv_aload_n hx hb dL_law_397 rfl (lv_at hl 4 rfl) ?_
  refine lv_iload hx hb dL_law_398 (lv_at hl 0 rfl) ?_
  refine lv_iconst (v := 1) hx hb dL_law_400 (by decide) ?_
  refine lv_iadd hx hb dL_law_401 ?_
  refine va_sld (i := iv + 1) hx hb Z.2.2.1 Z.2.2.2.1 hbA hw.2.2.1 (lq_in hi hL (by decide) (by decide)) dL_law_402 ?_
  refine lq_callTi (av := [.int (xs (iv + 1 : Int32).toNatClampNeg)]) C hA hw (z_X9_stands l D A1 cy hA.1 M1 hF1.1 hF1 t9 ht9 tx9 s9 p9 u9 c9 hkC9 (xs (iv + 1 : Int32).toNatClampNeg)) ⟨ml_L_45, ym_X9_stands, yv_X9_stands, yi_X9_stands, yc_X9_stands⟩ yd_X9_stands rfl rfl hl.1 (Nat.le_of_ble_eq_true rfl) ⟨by decide, by decide⟩ hcs dL_law_403 (fun rT N1 H locs hpT hw => ?_)
  refine lv_pop hx hb dL_law_406 rfl ?_
  refine lv_aload_n hx hb dL_law_407 rfl (lv_at hl 2 rfl) ?_
  refine lv_aload_n hx hb dL_law_408 rfl (lv_at hl 4 rfl) ?_
  refine lv_iload hx hb dL_law_409 (lv_at hl 0 rfl) ?_
  refine lv_iconst (v := 1) hx hb dL_law_411 (by decide) ?_
  refine lv_iadd hx hb dL_law_412 ?_
  refine va_sld (i := iv + 1) hx hb Z.2.2.1 Z.2.2.2.1 hbA hw.2.2.1 (lq_in hi hL (by decide) (by decide)) dL_law_413 ?_
  refine lq_callMi (av := [.int (xs (iv + 1 : Int32).toNatClampNeg)]) C hA hw (z_X10_stands l D A2 cy hA.2.1 M2 hF2.1 hF2 (xs (iv + 1 : Int32).toNatClampNeg) tx9 s9 p9 u9 c9 hW9.1 hW9 hw9 h19 hkR9) ⟨ml_L_48, ym_X10_stands, yv_X10_stands, yi_X10_stands, yc_X10_stands⟩ yd_X10_stands rfl rfl hl.1 (Nat.le_of_ble_eq_true rfl) ⟨by decide, by decide⟩ hcs dL_law_414 (fun rM N2 H locs hpM hw => ?_)
  refine lv_pop hx hb dL_law_417 rfl ?_
  have q := lq_ob hF1 hE0 hB0 hR hS htd1 htd2 hpT hpM rfl (fun i y => ⟨_, _, _, _, _, _, _, lB_no hb9 i y⟩)
  refine lv_goto (tgt := 1521) hx hb dL_law_418 (by decide) ?_
  exact kk N1 N2 H locs ls hw q.2 hl
set_option maxRecDepth 100000 in
theorem lq_c6 {p : Program} {l : Launch} {e : Env} {s : State} {m : MethodId} {below : List Frame} {meth : Method} {c : Code} {D : va_G} {cy : Nat → ClassId} {A1 A2 : Nat → Nat → Nat} {M1 M2 : ti_M} {b q3 L cells slots : Nat} {iv : Int32} {xs : Nat → Int32} {H : Heap} {locs : List Loc} {ls : Array Slot} (Z : lq_Z p s m meth c D cy A1 A2 b L xs) (hcs : cells ≤ room_1.cells ∧ slots ≤ room_1.slots) (hw : lq_H s D cy A1 A2 q3 M1 M2 H locs) (hI : lq_I M1 M2) (hi : 0 ≤ iv.toInt ∧ iv.toInt + 6 ≤ L) (hl : lv_has ls 7 [(4, .int iv), (3, .ref q3), (2, .ref (A2 60 0)), (1, .ref (A1 0 0)), (0, .ref b)]) (kk : ∀ (M1 M2 : ti_M) (H : Heap) (locs : List Loc) (ls : Array Slot), lq_H s D cy A1 A2 q3 M1 M2 H locs → lq_I M1 M2 → lv_has ls 7 [(4, .int iv), (3, .ref q3), (2, .ref (A2 60 0)), (1, .ref (A1 0 0)), (0, .ref b)] → W p l e room_1 s m #[Value.ref b] below meth c H locs cells slots (lw_Z below #[Value.ref b] s) (F0 m 1521 ls [])) : W p l e room_1 s m #[Value.ref b] below meth c H locs cells slots (lw_Z below #[Value.ref b] s) (F0 m 421 ls []) := by
  have C := Z.1
  have hA := Z.2.1
  have hx := C.1
  have hb := C.2.1
  have hbA : ¬ lq_F s b := Nat.not_le.mpr Z.2.2.2.1
  have hL := Z.2.2.2.2.2.2.1
  have hE := Z.2.2.2.2.2.2.2
  obtain ⟨Tc, Tm, hF1, hF2, hE0, hB0, hR1, hR2, hS1, hS2, rg, htd1, htd2, hle⟩ := hI
  have hR := And.intro hR1 hR2
  have hS := And.intro hS1 hS2
  obtain ⟨t9, tx9, s9, p9, si9, u9, c9, hb9⟩ := id hle
  obtain ⟨ht9, hkC9, hkR9, hW9, ⟨hw9, h19⟩, hU9, hi9⟩ := id hb9
  have m9 : 0 ≤ s9 2 ∧ s9 2 ≤ 120 := by
    have b : ib 0 120 (tY M2 60 34 0) := hF2.1.2.1 34 0 (by decide)
    rw [hkR9.2.1.1.1]; exact b
  refine lv_aload_n hx hb dL_law_421 rfl (lv_at hl 3 rfl) ?_
  refine lv_aload_n hx hb dL_law_422 rfl (lv_at hl 4 rfl) ?_
  refine lv_iload hx hb dL_law_423 (lv_at hl 0 rfl) ?_
  refine lv_iconst (v := 1) hx hb dL_law_425 (by decide) ?_
  refine lv_iadd hx hb dL_law_426 ?_
  refine va_sld (i := iv + 1) hx hb Z.2.2.1 Z.2.2.2.1 hbA hw.2.2.1 (lq_in hi hL (by decide) (by decide)) dL_law_427 ?_
  refine lq_callTi (av := [.int (xs (iv + 1 : Int32).toNatClampNeg)]) C hA hw (z_X9_holder l D A1 cy hA.1 M1 hF1.1 hF1 t9 ht9 tx9 s9 p9 u9 c9 hkC9 (xs (iv + 1 : Int32).toNatClampNeg)) ⟨ml_L_49, ym_X9_holder, yv_X9_holder, yi_X9_holder, yc_X9_holder⟩ yd_X9_holder rfl rfl hl.1 (Nat.le_of_ble_eq_true rfl) ⟨by decide, by decide⟩ hcs dL_law_428 (fun rT N1 H locs hpT hw => ?_)
  refine lv_pop hx hb dL_law_431 rfl ?_
  refine lv_aload_n hx hb dL_law_432 rfl (lv_at hl 2 rfl) ?_
  refine lv_aload_n hx hb dL_law_433 rfl (lv_at hl 4 rfl) ?_
  refine lv_iload hx hb dL_law_434 (lv_at hl 0 rfl) ?_
  refine lv_iconst (v := 1) hx hb dL_law_436 (by decide) ?_
  refine lv_iadd hx hb dL_law_437 ?_
  refine va_sld (i := iv + 1) hx hb Z.2.2.1 Z.2.2.2.1 hbA hw.2.2.1 (lq_in hi hL (by decide) (by decide)) dL_law_438 ?_
  refine lq_callMi (av := [.int (xs (iv + 1 : Int32).toNatClampNeg)]) C hA hw (z_X10_holder l D A2 cy hA.2.1 M2 hF2.1 hF2 (xs (iv + 1 : Int32).toNatClampNeg) tx9 s9 p9 u9 c9 hW9.1 hW9 hw9 h19 hkR9) ⟨ml_L_52, ym_X10_holder, yv_X10_holder, yi_X10_holder, yc_X10_holder⟩ yd_X10_holder rfl rfl hl.1 (Nat.le_of_ble_eq_true rfl) ⟨by decide, by decide⟩ hcs dL_law_439 (fun rM N2 H locs hpM hw => ?_)
  refine lv_pop hx hb dL_law_442 rfl ?_
  have q := lq_ob hF1 hE0 hB0 hR hS htd1 htd2 hpT hpM rfl (fun i y => ⟨_, _, _, _, _, _, _, lB_no hb9 i y⟩)
  refine lv_goto (tgt := 1521) hx hb dL_law_443 (by decide) ?_
  exact kk N1 N2 H locs ls hw q.2 hl
set_option maxRecDepth 100000 in
theorem lq_c7 {p : Program} {l : Launch} {e : Env} {s : State} {m : MethodId} {below : List Frame} {meth : Method} {c : Code} {D : va_G} {cy : Nat → ClassId} {A1 A2 : Nat → Nat → Nat} {M1 M2 : ti_M} {b q3 L cells slots : Nat} {iv : Int32} {xs : Nat → Int32} {H : Heap} {locs : List Loc} {ls : Array Slot} (Z : lq_Z p s m meth c D cy A1 A2 b L xs) (hcs : cells ≤ room_1.cells ∧ slots ≤ room_1.slots) (hw : lq_H s D cy A1 A2 q3 M1 M2 H locs) (hI : lq_I M1 M2) (hi : 0 ≤ iv.toInt ∧ iv.toInt + 6 ≤ L) (hl : lv_has ls 7 [(4, .int iv), (3, .ref q3), (2, .ref (A2 60 0)), (1, .ref (A1 0 0)), (0, .ref b)]) (kk : ∀ (M1 M2 : ti_M) (H : Heap) (locs : List Loc) (ls : Array Slot), lq_H s D cy A1 A2 q3 M1 M2 H locs → lq_I M1 M2 → lv_has ls 7 [(4, .int iv), (3, .ref q3), (2, .ref (A2 60 0)), (1, .ref (A1 0 0)), (0, .ref b)] → W p l e room_1 s m #[Value.ref b] below meth c H locs cells slots (lw_Z below #[Value.ref b] s) (F0 m 1521 ls [])) : W p l e room_1 s m #[Value.ref b] below meth c H locs cells slots (lw_Z below #[Value.ref b] s) (F0 m 446 ls []) := by
  have C := Z.1
  have hA := Z.2.1
  have hx := C.1
  have hb := C.2.1
  have hbA : ¬ lq_F s b := Nat.not_le.mpr Z.2.2.2.1
  have hL := Z.2.2.2.2.2.2.1
  have hE := Z.2.2.2.2.2.2.2
  obtain ⟨Tc, Tm, hF1, hF2, hE0, hB0, hR1, hR2, hS1, hS2, rg, htd1, htd2, hle⟩ := hI
  have hR := And.intro hR1 hR2
  have hS := And.intro hS1 hS2
  refine lv_aload_n hx hb dL_law_446 rfl (lv_at hl 3 rfl) ?_
  refine lv_aload_n hx hb dL_law_447 rfl (lv_at hl 4 rfl) ?_
  refine lv_iload hx hb dL_law_448 (lv_at hl 0 rfl) ?_
  refine lv_iconst (v := 1) hx hb dL_law_450 (by decide) ?_
  refine lv_iadd hx hb dL_law_451 ?_
  refine va_sld (i := iv + 1) hx hb Z.2.2.1 Z.2.2.2.1 hbA hw.2.2.1 (lq_in hi hL (by decide) (by decide)) dL_law_452 ?_
  refine lv_aload_n hx hb dL_law_453 rfl (lv_at hl 4 rfl) ?_
  refine lv_iload hx hb dL_law_454 (lv_at hl 0 rfl) ?_
  refine lv_iconst (v := 2) hx hb dL_law_456 (by decide) ?_
  refine lv_iadd hx hb dL_law_457 ?_
  refine va_sld (i := iv + 2) hx hb Z.2.2.1 Z.2.2.2.1 hbA hw.2.2.1 (lq_in hi hL (by decide) (by decide)) dL_law_458 ?_
  refine lq_callTl (av := [.int (xs (iv + 1 : Int32).toNatClampNeg), .int (xs (iv + 2 : Int32).toNatClampNeg)]) C hA hw (f_X9_law l D A1 cy hA.1 M1 hF1.1 hF1 (xs (iv + 1 : Int32).toNatClampNeg) (xs (iv + 2 : Int32).toNatClampNeg)) ⟨ml_L_53, ym_X9_law, yv_X9_law, yi_X9_law, yc_X9_law⟩ yd_X9_law rfl rfl hl.1 (Nat.le_of_ble_eq_true rfl) ⟨by decide, by decide⟩ hcs dL_law_459 (fun rT N1 H locs hpT hw => ?_)
  refine lv_pop2_2 hx hb dL_law_462 rfl ?_
  refine lv_aload_n hx hb dL_law_463 rfl (lv_at hl 2 rfl) ?_
  refine lv_aload_n hx hb dL_law_464 rfl (lv_at hl 4 rfl) ?_
  refine lv_iload hx hb dL_law_465 (lv_at hl 0 rfl) ?_
  refine lv_iconst (v := 1) hx hb dL_law_467 (by decide) ?_
  refine lv_iadd hx hb dL_law_468 ?_
  refine va_sld (i := iv + 1) hx hb Z.2.2.1 Z.2.2.2.1 hbA hw.2.2.1 (lq_in hi hL (by decide) (by decide)) dL_law_469 ?_
  refine lv_aload_n hx hb dL_law_470 rfl (lv_at hl 4 rfl) ?_
  refine lv_iload hx hb dL_law_471 (lv_at hl 0 rfl) ?_
  refine lv_iconst (v := 2) hx hb dL_law_473 (by decide) ?_
  refine lv_iadd hx hb dL_law_474 ?_
  refine va_sld (i := iv + 2) hx hb Z.2.2.1 Z.2.2.2.1 hbA hw.2.2.1 (lq_in hi hL (by decide) (by decide)) dL_law_475 ?_
  refine lq_callMl (av := [.int (xs (iv + 1 : Int32).toNatClampNeg), .int (xs (iv + 2 : Int32).toNatClampNeg)]) C hA hw (f_X10_law l D A2 cy hA.2.1 M2 hF2.1 hF2 (xs (iv + 1 : Int32).toNatClampNeg) (xs (iv + 2 : Int32).toNatClampNeg)) ⟨ml_L_57, ym_X10_law, yv_X10_law, yi_X10_law, yc_X10_law⟩ yd_X10_law rfl rfl hl.1 (Nat.le_of_ble_eq_true rfl) ⟨by decide, by decide⟩ hcs dL_law_476 (fun rM N2 H locs hpM hw => ?_)
  refine lv_pop2_2 hx hb dL_law_479 rfl ?_
  refine lv_goto (tgt := 1521) hx hb dL_law_480 (by decide) ?_
  exact kk N1 N2 H locs ls hw ⟨Tc, Tm, hpT.2.2.1, hpM.2.1, hpT.2.2.2.1.trans (hE0.trans (show tI N2 60 2 = tI M2 60 2 from hpM.2.2.1).symm), (fun i hi => hB0 i (by rw [← hpT.2.2.2.1]; exact hi)), (congrArg Int32.toInt (hpT.2.2.2.2.1 1 4 (by decide) (by decide))).trans hR.1, (congrArg Int32.toInt (hpT.2.2.2.2.1 1 5 (by decide) (by decide))).trans hR.2, hS1, hS2, rg, tdC_tl htd1 hpT.2.2.2.2, tdR_lw htd2 hpM.2.2.2, lE_obs hle hpT.1 hpT.2.1 hpM.1.1 (fun q => hpM.1.2.trans q) hpM.2.2.2⟩ hl
set_option maxRecDepth 100000 in
theorem lq_c8 {p : Program} {l : Launch} {e : Env} {s : State} {m : MethodId} {below : List Frame} {meth : Method} {c : Code} {D : va_G} {cy : Nat → ClassId} {A1 A2 : Nat → Nat → Nat} {M1 M2 : ti_M} {b q3 L cells slots : Nat} {iv : Int32} {xs : Nat → Int32} {H : Heap} {locs : List Loc} {ls : Array Slot} (Z : lq_Z p s m meth c D cy A1 A2 b L xs) (hcs : cells ≤ room_1.cells ∧ slots ≤ room_1.slots) (hw : lq_H s D cy A1 A2 q3 M1 M2 H locs) (hI : lq_I M1 M2) (hi : 0 ≤ iv.toInt ∧ iv.toInt + 6 ≤ L) (hl : lv_has ls 7 [(4, .int iv), (3, .ref q3), (2, .ref (A2 60 0)), (1, .ref (A1 0 0)), (0, .ref b)]) (kk : ∀ (M1 M2 : ti_M) (H : Heap) (locs : List Loc) (ls : Array Slot), lq_H s D cy A1 A2 q3 M1 M2 H locs → lq_I M1 M2 → lv_has ls 7 [(4, .int iv), (3, .ref q3), (2, .ref (A2 60 0)), (1, .ref (A1 0 0)), (0, .ref b)] → W p l e room_1 s m #[Value.ref b] below meth c H locs cells slots (lw_Z below #[Value.ref b] s) (F0 m 1521 ls [])) : W p l e room_1 s m #[Value.ref b] below meth c H locs cells slots (lw_Z below #[Value.ref b] s) (F0 m 483 ls []) := by
  have C := Z.1
  have hA := Z.2.1
  have hx := C.1
  have hb := C.2.1
  have hbA : ¬ lq_F s b := Nat.not_le.mpr Z.2.2.2.1
  have hL := Z.2.2.2.2.2.2.1
  have hE := Z.2.2.2.2.2.2.2
  obtain ⟨Tc, Tm, hF1, hF2, hE0, hB0, hR1, hR2, hS1, hS2, rg, htd1, htd2, hle⟩ := hI
  have hR := And.intro hR1 hR2
  have hS := And.intro hS1 hS2
  obtain ⟨t9, tx9, s9, p9, si9, u9, c9, hb9⟩ := id hle
  obtain ⟨ht9, hkC9, hkR9, hW9, ⟨hw9, h19⟩, hU9, hi9⟩ := id hb9
  have m9 : 0 ≤ s9 2 ∧ s9 2 ≤ 120 := by
    have b : ib 0 120 (tY M2 60 34 0) := hF2.1.2.1 34 0 (by decide)
    rw [hkR9.2.1.1.1]; exact b
  refine lv_aload_n hx hb dL_law_483 rfl (lv_at hl 3 rfl) ?_
  refine lv_aload_n hx hb dL_law_484 rfl (lv_at hl 4 rfl) ?_
  refine lv_iload hx hb dL_law_485 (lv_at hl 0 rfl) ?_
  refine lv_iconst (v := 1) hx hb dL_law_487 (by decide) ?_
  refine lv_iadd hx hb dL_law_488 ?_
  refine va_sld (i := iv + 1) hx hb Z.2.2.1 Z.2.2.2.1 hbA hw.2.2.1 (lq_in hi hL (by decide) (by decide)) dL_law_489 ?_
  refine lq_callTi (av := [.int (xs (iv + 1 : Int32).toNatClampNeg)]) C hA hw (z_X9_go l D A1 cy hA.1 M1 hF1.1 hF1 t9 ht9 tx9 s9 p9 u9 c9 hkC9 h19 hw9.2.1.2 (xs (iv + 1 : Int32).toNatClampNeg)) ⟨ml_L_58, ym_X9_go, yv_X9_go, yi_X9_go, yc_X9_go⟩ yd_X9_go rfl rfl hl.1 (Nat.le_of_ble_eq_true rfl) ⟨by decide, by decide⟩ hcs dL_law_490 (fun rT N1 H locs hpT hw => ?_)
  refine lv_aload_n hx hb dL_law_493 rfl (lv_at hl 2 rfl) ?_
  refine lv_aload_n hx hb dL_law_494 rfl (lv_at hl 4 rfl) ?_
  refine lv_iload hx hb dL_law_495 (lv_at hl 0 rfl) ?_
  refine lv_iconst (v := 1) hx hb dL_law_497 (by decide) ?_
  refine lv_iadd hx hb dL_law_498 ?_
  refine va_sld (i := iv + 1) hx hb Z.2.2.1 Z.2.2.2.1 hbA hw.2.2.1 (lq_in hi hL (by decide) (by decide)) dL_law_499 ?_
  refine lq_callMi (av := [.int (xs (iv + 1 : Int32).toNatClampNeg)]) C hA hw (z_X10_go l D A2 cy hA.2.1 M2 hF2.1 hF2 (xs (iv + 1 : Int32).toNatClampNeg) tx9 s9 p9 u9 c9 hW9.1 hW9 hw9 h19 hkR9) ⟨ml_L_61, ym_X10_go, yv_X10_go, yi_X10_go, yc_X10_go⟩ yd_X10_go rfl rfl hl.1 (Nat.le_of_ble_eq_true rfl) ⟨by decide, by decide⟩ hcs dL_law_500 (fun rM N2 H locs hpM hw => ?_)
  have q := lq_sp hF1 hE0 hB0 hR hS htd1 htd2 hpT hpM (fun _ => rfl) (fun a b => a b) (fun a b => a b) (fun i y => ⟨_, _, _, _, _, _, _, lB_no hb9 i y⟩) (fun q g i x y => ⟨_, _, _, _, _, _, _, lB_go hb9 g i m9.1 (by omega) (by rw [show (((xs (iv + 1 : Int32).toNatClampNeg).toInt.toNat : Nat) : Int) = (xs (iv + 1 : Int32).toNatClampNeg).toInt by omega]) x y⟩)
  refine sb_icmp_eq (tgt := 1521) hx hb rfl rfl dL_law_503 (by decide) (fun _ => ?_) (fun c => absurd q.1 c)
  exact kk N1 N2 H locs ls hw q.2 hl
set_option maxRecDepth 100000 in
theorem lq_c9 {p : Program} {l : Launch} {e : Env} {s : State} {m : MethodId} {below : List Frame} {meth : Method} {c : Code} {D : va_G} {cy : Nat → ClassId} {A1 A2 : Nat → Nat → Nat} {M1 M2 : ti_M} {b q3 L cells slots : Nat} {iv : Int32} {xs : Nat → Int32} {H : Heap} {locs : List Loc} {ls : Array Slot} (Z : lq_Z p s m meth c D cy A1 A2 b L xs) (hcs : cells ≤ room_1.cells ∧ slots ≤ room_1.slots) (hw : lq_H s D cy A1 A2 q3 M1 M2 H locs) (hI : lq_I M1 M2) (hi : 0 ≤ iv.toInt ∧ iv.toInt + 6 ≤ L) (hl : lv_has ls 7 [(4, .int iv), (3, .ref q3), (2, .ref (A2 60 0)), (1, .ref (A1 0 0)), (0, .ref b)]) (kk : ∀ (M1 M2 : ti_M) (H : Heap) (locs : List Loc) (ls : Array Slot), lq_H s D cy A1 A2 q3 M1 M2 H locs → lq_I M1 M2 → lv_has ls 7 [(4, .int iv), (3, .ref q3), (2, .ref (A2 60 0)), (1, .ref (A1 0 0)), (0, .ref b)] → W p l e room_1 s m #[Value.ref b] below meth c H locs cells slots (lw_Z below #[Value.ref b] s) (F0 m 1521 ls [])) : W p l e room_1 s m #[Value.ref b] below meth c H locs cells slots (lw_Z below #[Value.ref b] s) (F0 m 508 ls []) := by
  have C := Z.1
  have hA := Z.2.1
  have hx := C.1
  have hb := C.2.1
  have hbA : ¬ lq_F s b := Nat.not_le.mpr Z.2.2.2.1
  have hL := Z.2.2.2.2.2.2.1
  have hE := Z.2.2.2.2.2.2.2
  obtain ⟨Tc, Tm, hF1, hF2, hE0, hB0, hR1, hR2, hS1, hS2, rg, htd1, htd2, hle⟩ := hI
  have hR := And.intro hR1 hR2
  have hS := And.intro hS1 hS2
  obtain ⟨t9, tx9, s9, p9, si9, u9, c9, hb9⟩ := id hle
  obtain ⟨ht9, hkC9, hkR9, hW9, ⟨hw9, h19⟩, hU9, hi9⟩ := id hb9
  have m9 : 0 ≤ s9 2 ∧ s9 2 ≤ 120 := by
    have b : ib 0 120 (tY M2 60 34 0) := hF2.1.2.1 34 0 (by decide)
    rw [hkR9.2.1.1.1]; exact b
  refine lv_aload_n hx hb dL_law_508 rfl (lv_at hl 3 rfl) ?_
  refine lv_aload_n hx hb dL_law_509 rfl (lv_at hl 4 rfl) ?_
  refine lv_iload hx hb dL_law_510 (lv_at hl 0 rfl) ?_
  refine lv_iconst (v := 1) hx hb dL_law_512 (by decide) ?_
  refine lv_iadd hx hb dL_law_513 ?_
  refine va_sld (i := iv + 1) hx hb Z.2.2.1 Z.2.2.2.1 hbA hw.2.2.1 (lq_in hi hL (by decide) (by decide)) dL_law_514 ?_
  refine lq_callTi (av := [.int (xs (iv + 1 : Int32).toNatClampNeg)]) C hA hw (z_X9_join l D A1 cy hA.1 M1 hF1.1 hF1 t9 ht9 tx9 s9 p9 u9 c9 hkC9 (xs (iv + 1 : Int32).toNatClampNeg)) ⟨ml_L_62, ym_X9_join, yv_X9_join, yi_X9_join, yc_X9_join⟩ yd_X9_join rfl rfl hl.1 (Nat.le_of_ble_eq_true rfl) ⟨by decide, by decide⟩ hcs dL_law_515 (fun rT N1 H locs hpT hw => ?_)
  refine lv_pop hx hb dL_law_518 rfl ?_
  refine lv_aload_n hx hb dL_law_519 rfl (lv_at hl 2 rfl) ?_
  refine lv_aload_n hx hb dL_law_520 rfl (lv_at hl 4 rfl) ?_
  refine lv_iload hx hb dL_law_521 (lv_at hl 0 rfl) ?_
  refine lv_iconst (v := 1) hx hb dL_law_523 (by decide) ?_
  refine lv_iadd hx hb dL_law_524 ?_
  refine va_sld (i := iv + 1) hx hb Z.2.2.1 Z.2.2.2.1 hbA hw.2.2.1 (lq_in hi hL (by decide) (by decide)) dL_law_525 ?_
  refine lq_callMi (av := [.int (xs (iv + 1 : Int32).toNatClampNeg)]) C hA hw (z_X10_join l D A2 cy hA.2.1 M2 hF2.1 hF2 (xs (iv + 1 : Int32).toNatClampNeg) tx9 s9 p9 u9 c9 hW9.1 hW9 hw9 h19 hkR9) ⟨ml_L_65, ym_X10_join, yv_X10_join, yi_X10_join, yc_X10_join⟩ yd_X10_join rfl rfl hl.1 (Nat.le_of_ble_eq_true rfl) ⟨by decide, by decide⟩ hcs dL_law_526 (fun rM N2 H locs hpM hw => ?_)
  refine lv_pop hx hb dL_law_529 rfl ?_
  have q := lq_sp hF1 hE0 hB0 hR hS htd1 htd2 hpT hpM (fun q => po_ap hw9 hW9 q.1 q.2.1 q.2.2) (fun a b => a b) (fun a b => a b) (fun i y => ⟨_, _, _, _, _, _, _, lB_no hb9 i y⟩) (fun q g i x y => ⟨_, _, _, _, _, _, _, lB_st hb9 g i x y (wF_ap hW9 hw9 q.1 q.2.1 q.2.2).1 ((ap_k ⟨by decide, by decide⟩).trans h19) (ap_k ⟨by decide, by decide⟩)⟩)
  refine lv_goto (tgt := 1521) hx hb dL_law_530 (by decide) ?_
  exact kk N1 N2 H locs ls hw q.2 hl
set_option maxRecDepth 100000 in
theorem lq_c10 {p : Program} {l : Launch} {e : Env} {s : State} {m : MethodId} {below : List Frame} {meth : Method} {c : Code} {D : va_G} {cy : Nat → ClassId} {A1 A2 : Nat → Nat → Nat} {M1 M2 : ti_M} {b q3 L cells slots : Nat} {iv : Int32} {xs : Nat → Int32} {H : Heap} {locs : List Loc} {ls : Array Slot} (Z : lq_Z p s m meth c D cy A1 A2 b L xs) (hcs : cells ≤ room_1.cells ∧ slots ≤ room_1.slots) (hw : lq_H s D cy A1 A2 q3 M1 M2 H locs) (hI : lq_I M1 M2) (hi : 0 ≤ iv.toInt ∧ iv.toInt + 6 ≤ L) (hl : lv_has ls 7 [(4, .int iv), (3, .ref q3), (2, .ref (A2 60 0)), (1, .ref (A1 0 0)), (0, .ref b)]) (kk : ∀ (M1 M2 : ti_M) (H : Heap) (locs : List Loc) (ls : Array Slot), lq_H s D cy A1 A2 q3 M1 M2 H locs → lq_I M1 M2 → lv_has ls 7 [(4, .int iv), (3, .ref q3), (2, .ref (A2 60 0)), (1, .ref (A1 0 0)), (0, .ref b)] → W p l e room_1 s m #[Value.ref b] below meth c H locs cells slots (lw_Z below #[Value.ref b] s) (F0 m 1521 ls [])) : W p l e room_1 s m #[Value.ref b] below meth c H locs cells slots (lw_Z below #[Value.ref b] s) (F0 m 533 ls []) := by
  have C := Z.1
  have hA := Z.2.1
  have hx := C.1
  have hb := C.2.1
  have hbA : ¬ lq_F s b := Nat.not_le.mpr Z.2.2.2.1
  have hL := Z.2.2.2.2.2.2.1
  have hE := Z.2.2.2.2.2.2.2
  obtain ⟨Tc, Tm, hF1, hF2, hE0, hB0, hR1, hR2, hS1, hS2, rg, htd1, htd2, hle⟩ := hI
  have hR := And.intro hR1 hR2
  have hS := And.intro hS1 hS2
  obtain ⟨t9, tx9, s9, p9, si9, u9, c9, hb9⟩ := id hle
  obtain ⟨ht9, hkC9, hkR9, hW9, ⟨hw9, h19⟩, hU9, hi9⟩ := id hb9
  have m9 : 0 ≤ s9 2 ∧ s9 2 ≤ 120 := by
    have b : ib 0 120 (tY M2 60 34 0) := hF2.1.2.1 34 0 (by decide)
    rw [hkR9.2.1.1.1]; exact b
  refine lv_aload_n hx hb dL_law_533 rfl (lv_at hl 3 rfl) ?_
  refine lv_aload_n hx hb dL_law_534 rfl (lv_at hl 4 rfl) ?_
  refine lv_iload hx hb dL_law_535 (lv_at hl 0 rfl) ?_
  refine lv_iconst (v := 1) hx hb dL_law_537 (by decide) ?_
  refine lv_iadd hx hb dL_law_538 ?_
  refine va_sld (i := iv + 1) hx hb Z.2.2.1 Z.2.2.2.1 hbA hw.2.2.1 (lq_in hi hL (by decide) (by decide)) dL_law_539 ?_
  refine lq_callTi (av := [.int (xs (iv + 1 : Int32).toNatClampNeg)]) C hA hw (z_X9_out l D A1 cy hA.1 M1 hF1.1 hF1 t9 ht9 tx9 s9 p9 u9 c9 hkC9 (xs (iv + 1 : Int32).toNatClampNeg)) ⟨ml_L_66, ym_X9_out, yv_X9_out, yi_X9_out, yc_X9_out⟩ yd_X9_out rfl rfl hl.1 (Nat.le_of_ble_eq_true rfl) ⟨by decide, by decide⟩ hcs dL_law_540 (fun rT N1 H locs hpT hw => ?_)
  refine lv_pop hx hb dL_law_543 rfl ?_
  refine lv_aload_n hx hb dL_law_544 rfl (lv_at hl 2 rfl) ?_
  refine lv_aload_n hx hb dL_law_545 rfl (lv_at hl 4 rfl) ?_
  refine lv_iload hx hb dL_law_546 (lv_at hl 0 rfl) ?_
  refine lv_iconst (v := 1) hx hb dL_law_548 (by decide) ?_
  refine lv_iadd hx hb dL_law_549 ?_
  refine va_sld (i := iv + 1) hx hb Z.2.2.1 Z.2.2.2.1 hbA hw.2.2.1 (lq_in hi hL (by decide) (by decide)) dL_law_550 ?_
  refine lq_callMi (av := [.int (xs (iv + 1 : Int32).toNatClampNeg)]) C hA hw (z_X10_out l D A2 cy hA.2.1 M2 hF2.1 hF2 (xs (iv + 1 : Int32).toNatClampNeg) tx9 s9 p9 u9 c9 hW9.1 hW9 hw9 h19 hkR9) ⟨ml_L_70, ym_X10_out, yv_X10_out, yi_X10_out, yc_X10_out⟩ yd_X10_out rfl rfl hl.1 (Nat.le_of_ble_eq_true rfl) ⟨by decide, by decide⟩ hcs dL_law_551 (fun rM N2 H locs hpM hw => ?_)
  refine lv_pop hx hb dL_law_554 rfl ?_
  have q := lq_sp hF1 hE0 hB0 hR hS htd1 htd2 hpT hpM (fun _ => rfl) (fun a b => a b) (fun a b => a b) (fun i y => ⟨_, _, _, _, _, _, _, lB_no hb9 i y⟩) (fun q g i x y => ⟨_, _, _, _, _, _, _, lB_st hb9 g i x y (wF_out hW9 hw9 q.1 q.2.1 q.2.2) ((rm_k ⟨by decide, by decide⟩).trans h19) (rm_k ⟨by decide, by decide⟩)⟩)
  refine lv_goto (tgt := 1521) hx hb dL_law_555 (by decide) ?_
  exact kk N1 N2 H locs ls hw q.2 hl
set_option maxRecDepth 100000 in
theorem lq_c11 {p : Program} {l : Launch} {e : Env} {s : State} {m : MethodId} {below : List Frame} {meth : Method} {c : Code} {D : va_G} {cy : Nat → ClassId} {A1 A2 : Nat → Nat → Nat} {M1 M2 : ti_M} {b q3 L cells slots : Nat} {iv : Int32} {xs : Nat → Int32} {H : Heap} {locs : List Loc} {ls : Array Slot} (Z : lq_Z p s m meth c D cy A1 A2 b L xs) (hcs : cells ≤ room_1.cells ∧ slots ≤ room_1.slots) (hw : lq_H s D cy A1 A2 q3 M1 M2 H locs) (hI : lq_I M1 M2) (hi : 0 ≤ iv.toInt ∧ iv.toInt + 6 ≤ L) (hl : lv_has ls 7 [(4, .int iv), (3, .ref q3), (2, .ref (A2 60 0)), (1, .ref (A1 0 0)), (0, .ref b)]) (kk : ∀ (M1 M2 : ti_M) (H : Heap) (locs : List Loc) (ls : Array Slot), lq_H s D cy A1 A2 q3 M1 M2 H locs → lq_I M1 M2 → lv_has ls 7 [(4, .int iv), (3, .ref q3), (2, .ref (A2 60 0)), (1, .ref (A1 0 0)), (0, .ref b)] → W p l e room_1 s m #[Value.ref b] below meth c H locs cells slots (lw_Z below #[Value.ref b] s) (F0 m 1521 ls [])) : W p l e room_1 s m #[Value.ref b] below meth c H locs cells slots (lw_Z below #[Value.ref b] s) (F0 m 558 ls []) := by
  have C := Z.1
  have hA := Z.2.1
  have hx := C.1
  have hb := C.2.1
  have hbA : ¬ lq_F s b := Nat.not_le.mpr Z.2.2.2.1
  have hL := Z.2.2.2.2.2.2.1
  have hE := Z.2.2.2.2.2.2.2
  obtain ⟨Tc, Tm, hF1, hF2, hE0, hB0, hR1, hR2, hS1, hS2, rg, htd1, htd2, hle⟩ := hI
  have hR := And.intro hR1 hR2
  have hS := And.intro hS1 hS2
  obtain ⟨t9, tx9, s9, p9, si9, u9, c9, hb9⟩ := id hle
  obtain ⟨ht9, hkC9, hkR9, hW9, ⟨hw9, h19⟩, hU9, hi9⟩ := id hb9
  have m9 : 0 ≤ s9 2 ∧ s9 2 ≤ 120 := by
    have b : ib 0 120 (tY M2 60 34 0) := hF2.1.2.1 34 0 (by decide)
    rw [hkR9.2.1.1.1]; exact b
  refine lv_aload_n hx hb dL_law_558 rfl (lv_at hl 3 rfl) ?_
  refine lv_aload_n hx hb dL_law_559 rfl (lv_at hl 4 rfl) ?_
  refine lv_iload hx hb dL_law_560 (lv_at hl 0 rfl) ?_
  refine lv_iconst (v := 1) hx hb dL_law_562 (by decide) ?_
  refine lv_iadd hx hb dL_law_563 ?_
  refine va_sld (i := iv + 1) hx hb Z.2.2.1 Z.2.2.2.1 hbA hw.2.2.1 (lq_in hi hL (by decide) (by decide)) dL_law_564 ?_
  refine lv_aload_n hx hb dL_law_565 rfl (lv_at hl 4 rfl) ?_
  refine lv_iload hx hb dL_law_566 (lv_at hl 0 rfl) ?_
  refine lv_iconst (v := 2) hx hb dL_law_568 (by decide) ?_
  refine lv_iadd hx hb dL_law_569 ?_
  refine va_sld (i := iv + 2) hx hb Z.2.2.1 Z.2.2.2.1 hbA hw.2.2.1 (lq_in hi hL (by decide) (by decide)) dL_law_570 ?_
  refine lv_aload_n hx hb dL_law_571 rfl (lv_at hl 4 rfl) ?_
  refine lv_iload hx hb dL_law_572 (lv_at hl 0 rfl) ?_
  refine lv_iconst (v := 3) hx hb dL_law_574 (by decide) ?_
  refine lv_iadd hx hb dL_law_575 ?_
  refine va_sld (i := iv + 3) hx hb Z.2.2.1 Z.2.2.2.1 hbA hw.2.2.1 (lq_in hi hL (by decide) (by decide)) dL_law_576 ?_
  refine lq_callTi (av := [.int (xs (iv + 1 : Int32).toNatClampNeg), .int (xs (iv + 2 : Int32).toNatClampNeg), .int (xs (iv + 3 : Int32).toNatClampNeg)]) C hA hw (z_X9_swap l D A1 cy hA.1 M1 hF1.1 hF1 t9 ht9 tx9 s9 p9 u9 c9 hkC9 (xs (iv + 1 : Int32).toNatClampNeg) (xs (iv + 2 : Int32).toNatClampNeg) (xs (iv + 3 : Int32).toNatClampNeg)) ⟨ml_L_71, ym_X9_swap, yv_X9_swap, yi_X9_swap, yc_X9_swap⟩ yd_X9_swap rfl rfl hl.1 (Nat.le_of_ble_eq_true rfl) ⟨by decide, by decide⟩ hcs dL_law_577 (fun rT N1 H locs hpT hw => ?_)
  refine lv_pop hx hb dL_law_580 rfl ?_
  refine lv_aload_n hx hb dL_law_581 rfl (lv_at hl 2 rfl) ?_
  refine lv_aload_n hx hb dL_law_582 rfl (lv_at hl 4 rfl) ?_
  refine lv_iload hx hb dL_law_583 (lv_at hl 0 rfl) ?_
  refine lv_iconst (v := 1) hx hb dL_law_585 (by decide) ?_
  refine lv_iadd hx hb dL_law_586 ?_
  refine va_sld (i := iv + 1) hx hb Z.2.2.1 Z.2.2.2.1 hbA hw.2.2.1 (lq_in hi hL (by decide) (by decide)) dL_law_587 ?_
  refine lv_aload_n hx hb dL_law_588 rfl (lv_at hl 4 rfl) ?_
  refine lv_iload hx hb dL_law_589 (lv_at hl 0 rfl) ?_
  refine lv_iconst (v := 2) hx hb dL_law_591 (by decide) ?_
  refine lv_iadd hx hb dL_law_592 ?_
  refine va_sld (i := iv + 2) hx hb Z.2.2.1 Z.2.2.2.1 hbA hw.2.2.1 (lq_in hi hL (by decide) (by decide)) dL_law_593 ?_
  refine lv_aload_n hx hb dL_law_594 rfl (lv_at hl 4 rfl) ?_
  refine lv_iload hx hb dL_law_595 (lv_at hl 0 rfl) ?_
  refine lv_iconst (v := 3) hx hb dL_law_597 (by decide) ?_
  refine lv_iadd hx hb dL_law_598 ?_
  refine va_sld (i := iv + 3) hx hb Z.2.2.1 Z.2.2.2.1 hbA hw.2.2.1 (lq_in hi hL (by decide) (by decide)) dL_law_599 ?_
  refine lq_callMi (av := [.int (xs (iv + 1 : Int32).toNatClampNeg), .int (xs (iv + 2 : Int32).toNatClampNeg), .int (xs (iv + 3 : Int32).toNatClampNeg)]) C hA hw (z_X10_swap l D A2 cy hA.2.1 M2 hF2.1 hF2 (xs (iv + 1 : Int32).toNatClampNeg) (xs (iv + 2 : Int32).toNatClampNeg) (xs (iv + 3 : Int32).toNatClampNeg) tx9 s9 p9 u9 c9 hW9.1 hW9 hw9 h19 hkR9) ⟨ml_L_75, ym_X10_swap, yv_X10_swap, yi_X10_swap, yc_X10_swap⟩ yd_X10_swap rfl rfl hl.1 (Nat.le_of_ble_eq_true rfl) ⟨by decide, by decide⟩ hcs dL_law_600 (fun rM N2 H locs hpM hw => ?_)
  refine lv_pop hx hb dL_law_603 rfl ?_
  have q := lq_sp hF1 hE0 hB0 hR hS htd1 htd2 hpT hpM (fun _ => rfl) (fun a b => a b) (fun a b => a b) (fun i y => ⟨_, _, _, _, _, _, _, lB_no hb9 i y⟩) (fun q g i x y => ⟨_, _, _, _, _, _, _, lB_st hb9 g i x y (wF_sw hW9 hw9 q.1.1 q.1.2.1 q.1.2.2 q.2.1.1 q.2.1.2.1 q.2.1.2.2) ((sw_lo (by decide)).trans h19) (sw_lo (by decide))⟩)
  refine lv_goto (tgt := 1521) hx hb dL_law_604 (by decide) ?_
  exact kk N1 N2 H locs ls hw q.2 hl
set_option maxRecDepth 100000 in
theorem lq_c12 {p : Program} {l : Launch} {e : Env} {s : State} {m : MethodId} {below : List Frame} {meth : Method} {c : Code} {D : va_G} {cy : Nat → ClassId} {A1 A2 : Nat → Nat → Nat} {M1 M2 : ti_M} {b q3 L cells slots : Nat} {iv : Int32} {xs : Nat → Int32} {H : Heap} {locs : List Loc} {ls : Array Slot} (Z : lq_Z p s m meth c D cy A1 A2 b L xs) (hcs : cells ≤ room_1.cells ∧ slots ≤ room_1.slots) (hw : lq_H s D cy A1 A2 q3 M1 M2 H locs) (hI : lq_I M1 M2) (hi : 0 ≤ iv.toInt ∧ iv.toInt + 6 ≤ L) (hl : lv_has ls 7 [(4, .int iv), (3, .ref q3), (2, .ref (A2 60 0)), (1, .ref (A1 0 0)), (0, .ref b)]) (kk : ∀ (M1 M2 : ti_M) (H : Heap) (locs : List Loc) (ls : Array Slot), lq_H s D cy A1 A2 q3 M1 M2 H locs → lq_I M1 M2 → lv_has ls 7 [(4, .int iv), (3, .ref q3), (2, .ref (A2 60 0)), (1, .ref (A1 0 0)), (0, .ref b)] → W p l e room_1 s m #[Value.ref b] below meth c H locs cells slots (lw_Z below #[Value.ref b] s) (F0 m 1521 ls [])) : W p l e room_1 s m #[Value.ref b] below meth c H locs cells slots (lw_Z below #[Value.ref b] s) (F0 m 607 ls []) := by
  have C := Z.1
  have hA := Z.2.1
  have hx := C.1
  have hb := C.2.1
  have hbA : ¬ lq_F s b := Nat.not_le.mpr Z.2.2.2.1
  have hL := Z.2.2.2.2.2.2.1
  have hE := Z.2.2.2.2.2.2.2
  obtain ⟨Tc, Tm, hF1, hF2, hE0, hB0, hR1, hR2, hS1, hS2, rg, htd1, htd2, hle⟩ := hI
  have hR := And.intro hR1 hR2
  have hS := And.intro hS1 hS2
  obtain ⟨t9, tx9, s9, p9, si9, u9, c9, hb9⟩ := id hle
  obtain ⟨ht9, hkC9, hkR9, hW9, ⟨hw9, h19⟩, hU9, hi9⟩ := id hb9
  have m9 : 0 ≤ s9 2 ∧ s9 2 ≤ 120 := by
    have b : ib 0 120 (tY M2 60 34 0) := hF2.1.2.1 34 0 (by decide)
    rw [hkR9.2.1.1.1]; exact b
  refine lv_aload_n hx hb dL_law_607 rfl (lv_at hl 3 rfl) ?_
  refine lv_aload_n hx hb dL_law_608 rfl (lv_at hl 4 rfl) ?_
  refine lv_iload hx hb dL_law_609 (lv_at hl 0 rfl) ?_
  refine lv_iconst (v := 1) hx hb dL_law_611 (by decide) ?_
  refine lv_iadd hx hb dL_law_612 ?_
  refine va_sld (i := iv + 1) hx hb Z.2.2.1 Z.2.2.2.1 hbA hw.2.2.1 (lq_in hi hL (by decide) (by decide)) dL_law_613 ?_
  refine lv_aload_n hx hb dL_law_614 rfl (lv_at hl 4 rfl) ?_
  refine lv_iload hx hb dL_law_615 (lv_at hl 0 rfl) ?_
  refine lv_iconst (v := 2) hx hb dL_law_617 (by decide) ?_
  refine lv_iadd hx hb dL_law_618 ?_
  refine va_sld (i := iv + 2) hx hb Z.2.2.1 Z.2.2.2.1 hbA hw.2.2.1 (lq_in hi hL (by decide) (by decide)) dL_law_619 ?_
  refine lq_callTi (av := [.int (xs (iv + 1 : Int32).toNatClampNeg), .int (xs (iv + 2 : Int32).toNatClampNeg)]) C hA hw (z_X9_kneel l D A1 cy hA.1 M1 hF1.1 hF1 t9 ht9 tx9 s9 p9 u9 c9 hkC9 (xs (iv + 1 : Int32).toNatClampNeg) (xs (iv + 2 : Int32).toNatClampNeg)) ⟨ml_L_76, ym_X9_kneel, yv_X9_kneel, yi_X9_kneel, yc_X9_kneel⟩ yd_X9_kneel rfl rfl hl.1 (Nat.le_of_ble_eq_true rfl) ⟨by decide, by decide⟩ hcs dL_law_620 (fun rT N1 H locs hpT hw => ?_)
  refine lv_pop hx hb dL_law_623 rfl ?_
  refine lv_aload_n hx hb dL_law_624 rfl (lv_at hl 2 rfl) ?_
  refine lv_aload_n hx hb dL_law_625 rfl (lv_at hl 4 rfl) ?_
  refine lv_iload hx hb dL_law_626 (lv_at hl 0 rfl) ?_
  refine lv_iconst (v := 1) hx hb dL_law_628 (by decide) ?_
  refine lv_iadd hx hb dL_law_629 ?_
  refine va_sld (i := iv + 1) hx hb Z.2.2.1 Z.2.2.2.1 hbA hw.2.2.1 (lq_in hi hL (by decide) (by decide)) dL_law_630 ?_
  refine lv_aload_n hx hb dL_law_631 rfl (lv_at hl 4 rfl) ?_
  refine lv_iload hx hb dL_law_632 (lv_at hl 0 rfl) ?_
  refine lv_iconst (v := 2) hx hb dL_law_634 (by decide) ?_
  refine lv_iadd hx hb dL_law_635 ?_
  refine va_sld (i := iv + 2) hx hb Z.2.2.1 Z.2.2.2.1 hbA hw.2.2.1 (lq_in hi hL (by decide) (by decide)) dL_law_636 ?_
  refine lq_callMi (av := [.int (xs (iv + 1 : Int32).toNatClampNeg), .int (xs (iv + 2 : Int32).toNatClampNeg)]) C hA hw (z_X10_kneel l D A2 cy hA.2.1 M2 hF2.1 hF2 (xs (iv + 1 : Int32).toNatClampNeg) (xs (iv + 2 : Int32).toNatClampNeg) tx9 s9 p9 u9 c9 hW9.1 hW9 hw9 h19 hkR9) ⟨ml_L_80, ym_X10_kneel, yv_X10_kneel, yi_X10_kneel, yc_X10_kneel⟩ yd_X10_kneel rfl rfl hl.1 (Nat.le_of_ble_eq_true rfl) ⟨by decide, by decide⟩ hcs dL_law_637 (fun rM N2 H locs hpM hw => ?_)
  refine lv_pop hx hb dL_law_640 rfl ?_
  have q := lq_sp hF1 hE0 hB0 hR hS htd1 htd2 hpT hpM (fun _ => rfl) (fun a b => a b) (fun a b => a b) (fun i y => ⟨_, _, _, _, _, _, _, lB_no hb9 i y⟩) (fun q g i x y => ⟨_, _, _, _, _, _, _, lB_st hb9 g i x y (wF_k hW9 hw9 (Or.inl (by have a1 := q.1; have a2 := q.2; have a3 := hW9.1; omega))) ((su_n (by omega)).trans h19) (su_n (by omega))⟩)
  refine lv_goto (tgt := 1521) hx hb dL_law_641 (by decide) ?_
  exact kk N1 N2 H locs ls hw q.2 hl
set_option maxRecDepth 100000 in
theorem lq_c13 {p : Program} {l : Launch} {e : Env} {s : State} {m : MethodId} {below : List Frame} {meth : Method} {c : Code} {D : va_G} {cy : Nat → ClassId} {A1 A2 : Nat → Nat → Nat} {M1 M2 : ti_M} {b q3 L cells slots : Nat} {iv : Int32} {xs : Nat → Int32} {H : Heap} {locs : List Loc} {ls : Array Slot} (Z : lq_Z p s m meth c D cy A1 A2 b L xs) (hcs : cells ≤ room_1.cells ∧ slots ≤ room_1.slots) (hw : lq_H s D cy A1 A2 q3 M1 M2 H locs) (hI : lq_I M1 M2) (hi : 0 ≤ iv.toInt ∧ iv.toInt + 6 ≤ L) (hl : lv_has ls 7 [(4, .int iv), (3, .ref q3), (2, .ref (A2 60 0)), (1, .ref (A1 0 0)), (0, .ref b)]) (kk : ∀ (M1 M2 : ti_M) (H : Heap) (locs : List Loc) (ls : Array Slot), lq_H s D cy A1 A2 q3 M1 M2 H locs → lq_I M1 M2 → lv_has ls 7 [(4, .int iv), (3, .ref q3), (2, .ref (A2 60 0)), (1, .ref (A1 0 0)), (0, .ref b)] → W p l e room_1 s m #[Value.ref b] below meth c H locs cells slots (lw_Z below #[Value.ref b] s) (F0 m 1521 ls [])) : W p l e room_1 s m #[Value.ref b] below meth c H locs cells slots (lw_Z below #[Value.ref b] s) (F0 m 644 ls []) := by
  have C := Z.1
  have hA := Z.2.1
  have hx := C.1
  have hb := C.2.1
  have hbA : ¬ lq_F s b := Nat.not_le.mpr Z.2.2.2.1
  have hL := Z.2.2.2.2.2.2.1
  have hE := Z.2.2.2.2.2.2.2
  obtain ⟨Tc, Tm, hF1, hF2, hE0, hB0, hR1, hR2, hS1, hS2, rg, htd1, htd2, hle⟩ := hI
  have hR := And.intro hR1 hR2
  have hS := And.intro hS1 hS2
  obtain ⟨t9, tx9, s9, p9, si9, u9, c9, hb9⟩ := id hle
  obtain ⟨ht9, hkC9, hkR9, hW9, ⟨hw9, h19⟩, hU9, hi9⟩ := id hb9
  have m9 : 0 ≤ s9 2 ∧ s9 2 ≤ 120 := by
    have b : ib 0 120 (tY M2 60 34 0) := hF2.1.2.1 34 0 (by decide)
    rw [hkR9.2.1.1.1]; exact b
  refine lv_aload_n hx hb dL_law_644 rfl (lv_at hl 3 rfl) ?_
  refine lv_aload_n hx hb dL_law_645 rfl (lv_at hl 4 rfl) ?_
  refine lv_iload hx hb dL_law_646 (lv_at hl 0 rfl) ?_
  refine lv_iconst (v := 1) hx hb dL_law_648 (by decide) ?_
  refine lv_iadd hx hb dL_law_649 ?_
  refine va_sld (i := iv + 1) hx hb Z.2.2.1 Z.2.2.2.1 hbA hw.2.2.1 (lq_in hi hL (by decide) (by decide)) dL_law_650 ?_
  refine lq_callTi (av := [.int (xs (iv + 1 : Int32).toNatClampNeg)]) C hA hw (z_X9_cough l D A1 cy hA.1 M1 hF1.1 hF1 t9 ht9 tx9 s9 p9 u9 c9 hkC9 (xs (iv + 1 : Int32).toNatClampNeg)) ⟨ml_L_81, ym_X9_cough, yv_X9_cough, yi_X9_cough, yc_X9_cough⟩ yd_X9_cough rfl rfl hl.1 (Nat.le_of_ble_eq_true rfl) ⟨by decide, by decide⟩ hcs dL_law_651 (fun rT N1 H locs hpT hw => ?_)
  refine lv_pop hx hb dL_law_654 rfl ?_
  refine lv_aload_n hx hb dL_law_655 rfl (lv_at hl 2 rfl) ?_
  refine lv_aload_n hx hb dL_law_656 rfl (lv_at hl 4 rfl) ?_
  refine lv_iload hx hb dL_law_657 (lv_at hl 0 rfl) ?_
  refine lv_iconst (v := 1) hx hb dL_law_659 (by decide) ?_
  refine lv_iadd hx hb dL_law_660 ?_
  refine va_sld (i := iv + 1) hx hb Z.2.2.1 Z.2.2.2.1 hbA hw.2.2.1 (lq_in hi hL (by decide) (by decide)) dL_law_661 ?_
  refine lq_callMi (av := [.int (xs (iv + 1 : Int32).toNatClampNeg)]) C hA hw (z_X10_cough l D A2 cy hA.2.1 M2 hF2.1 hF2 (xs (iv + 1 : Int32).toNatClampNeg) tx9 s9 p9 u9 c9 hW9.1 hW9 hw9 h19 hkR9) ⟨ml_L_84, ym_X10_cough, yv_X10_cough, yi_X10_cough, yc_X10_cough⟩ yd_X10_cough rfl rfl hl.1 (Nat.le_of_ble_eq_true rfl) ⟨by decide, by decide⟩ hcs dL_law_662 (fun rM N2 H locs hpM hw => ?_)
  refine lv_pop hx hb dL_law_665 rfl ?_
  have q := lq_sp hF1 hE0 hB0 hR hS htd1 htd2 hpT hpM (fun _ => rfl) (fun a b => a b) (fun a b => a b) (fun i y => ⟨_, _, _, _, _, _, _, lB_no hb9 i y⟩) (fun q g i x y => ⟨_, _, _, _, _, _, _, lB_st hb9 g i x y (wF_k hW9 hw9 (Or.inr (Or.inl (by have a1 := q.1; have a2 := q.2; have a3 := hW9.1; omega)))) ((su_n (by omega)).trans h19) (su_n (by omega))⟩)
  refine lv_goto (tgt := 1521) hx hb dL_law_666 (by decide) ?_
  exact kk N1 N2 H locs ls hw q.2 hl
set_option maxRecDepth 100000 in
theorem lq_c14 {p : Program} {l : Launch} {e : Env} {s : State} {m : MethodId} {below : List Frame} {meth : Method} {c : Code} {D : va_G} {cy : Nat → ClassId} {A1 A2 : Nat → Nat → Nat} {M1 M2 : ti_M} {b q3 L cells slots : Nat} {iv : Int32} {xs : Nat → Int32} {H : Heap} {locs : List Loc} {ls : Array Slot} (Z : lq_Z p s m meth c D cy A1 A2 b L xs) (hcs : cells ≤ room_1.cells ∧ slots ≤ room_1.slots) (hw : lq_H s D cy A1 A2 q3 M1 M2 H locs) (hI : lq_I M1 M2) (hi : 0 ≤ iv.toInt ∧ iv.toInt + 6 ≤ L) (hl : lv_has ls 7 [(4, .int iv), (3, .ref q3), (2, .ref (A2 60 0)), (1, .ref (A1 0 0)), (0, .ref b)]) (kk : ∀ (M1 M2 : ti_M) (H : Heap) (locs : List Loc) (ls : Array Slot), lq_H s D cy A1 A2 q3 M1 M2 H locs → lq_I M1 M2 → lv_has ls 7 [(4, .int iv), (3, .ref q3), (2, .ref (A2 60 0)), (1, .ref (A1 0 0)), (0, .ref b)] → W p l e room_1 s m #[Value.ref b] below meth c H locs cells slots (lw_Z below #[Value.ref b] s) (F0 m 1521 ls [])) : W p l e room_1 s m #[Value.ref b] below meth c H locs cells slots (lw_Z below #[Value.ref b] s) (F0 m 669 ls []) := by
  have C := Z.1
  have hA := Z.2.1
  have hx := C.1
  have hb := C.2.1
  have hbA : ¬ lq_F s b := Nat.not_le.mpr Z.2.2.2.1
  have hL := Z.2.2.2.2.2.2.1
  have hE := Z.2.2.2.2.2.2.2
  obtain ⟨Tc, Tm, hF1, hF2, hE0, hB0, hR1, hR2, hS1, hS2, rg, htd1, htd2, hle⟩ := hI
  have hR := And.intro hR1 hR2
  have hS := And.intro hS1 hS2
  obtain ⟨t9, tx9, s9, p9, si9, u9, c9, hb9⟩ := id hle
  obtain ⟨ht9, hkC9, hkR9, hW9, ⟨hw9, h19⟩, hU9, hi9⟩ := id hb9
  have m9 : 0 ≤ s9 2 ∧ s9 2 ≤ 120 := by
    have b : ib 0 120 (tY M2 60 34 0) := hF2.1.2.1 34 0 (by decide)
    rw [hkR9.2.1.1.1]; exact b
  refine lv_aload_n hx hb dL_law_669 rfl (lv_at hl 3 rfl) ?_
  refine lv_aload_n hx hb dL_law_670 rfl (lv_at hl 4 rfl) ?_
  refine lv_iload hx hb dL_law_671 (lv_at hl 0 rfl) ?_
  refine lv_iconst (v := 1) hx hb dL_law_673 (by decide) ?_
  refine lv_iadd hx hb dL_law_674 ?_
  refine va_sld (i := iv + 1) hx hb Z.2.2.1 Z.2.2.2.1 hbA hw.2.2.1 (lq_in hi hL (by decide) (by decide)) dL_law_675 ?_
  refine lv_aload_n hx hb dL_law_676 rfl (lv_at hl 4 rfl) ?_
  refine lv_iload hx hb dL_law_677 (lv_at hl 0 rfl) ?_
  refine lv_iconst (v := 2) hx hb dL_law_679 (by decide) ?_
  refine lv_iadd hx hb dL_law_680 ?_
  refine va_sld (i := iv + 2) hx hb Z.2.2.1 Z.2.2.2.1 hbA hw.2.2.1 (lq_in hi hL (by decide) (by decide)) dL_law_681 ?_
  refine lq_callTi (av := [.int (xs (iv + 1 : Int32).toNatClampNeg), .int (xs (iv + 2 : Int32).toNatClampNeg)]) C hA hw (z_X9_move l D A1 cy hA.1 M1 hF1.1 hF1 t9 ht9 tx9 s9 p9 u9 c9 hkC9 (xs (iv + 1 : Int32).toNatClampNeg) (xs (iv + 2 : Int32).toNatClampNeg)) ⟨ml_L_85, ym_X9_move, yv_X9_move, yi_X9_move, yc_X9_move⟩ yd_X9_move rfl rfl hl.1 (Nat.le_of_ble_eq_true rfl) ⟨by decide, by decide⟩ hcs dL_law_682 (fun rT N1 H locs hpT hw => ?_)
  refine lv_pop hx hb dL_law_685 rfl ?_
  refine lv_aload_n hx hb dL_law_686 rfl (lv_at hl 2 rfl) ?_
  refine lv_aload_n hx hb dL_law_687 rfl (lv_at hl 4 rfl) ?_
  refine lv_iload hx hb dL_law_688 (lv_at hl 0 rfl) ?_
  refine lv_iconst (v := 1) hx hb dL_law_690 (by decide) ?_
  refine lv_iadd hx hb dL_law_691 ?_
  refine va_sld (i := iv + 1) hx hb Z.2.2.1 Z.2.2.2.1 hbA hw.2.2.1 (lq_in hi hL (by decide) (by decide)) dL_law_692 ?_
  refine lv_aload_n hx hb dL_law_693 rfl (lv_at hl 4 rfl) ?_
  refine lv_iload hx hb dL_law_694 (lv_at hl 0 rfl) ?_
  refine lv_iconst (v := 2) hx hb dL_law_696 (by decide) ?_
  refine lv_iadd hx hb dL_law_697 ?_
  refine va_sld (i := iv + 2) hx hb Z.2.2.1 Z.2.2.2.1 hbA hw.2.2.1 (lq_in hi hL (by decide) (by decide)) dL_law_698 ?_
  refine lq_callMi (av := [.int (xs (iv + 1 : Int32).toNatClampNeg), .int (xs (iv + 2 : Int32).toNatClampNeg)]) C hA hw (z_X10_move l D A2 cy hA.2.1 M2 hF2.1 hF2 (xs (iv + 1 : Int32).toNatClampNeg) (xs (iv + 2 : Int32).toNatClampNeg) tx9 s9 p9 u9 c9 hW9.1 hW9 hw9 h19 hkR9) ⟨ml_L_88, ym_X10_move, yv_X10_move, yi_X10_move, yc_X10_move⟩ yd_X10_move rfl rfl hl.1 (Nat.le_of_ble_eq_true rfl) ⟨by decide, by decide⟩ hcs dL_law_699 (fun rM N2 H locs hpM hw => ?_)
  refine lv_pop hx hb dL_law_702 rfl ?_
  have q := lq_sp hF1 hE0 hB0 hR hS htd1 htd2 hpT hpM (fun _ => rfl) (fun a b => a b) (fun a b => a b) (fun i y => ⟨_, _, _, _, _, _, _, lB_no hb9 i y⟩) (fun q g i x y => ⟨_, _, _, _, _, _, _, lB_st hb9 g i x y (wF_k hW9 hw9 (Or.inr (Or.inr (by have a1 := q.1; have a2 := q.2; have a3 := hW9.1; omega)))) ((su_n (by omega)).trans h19) (su_n (by omega))⟩)
  refine lv_goto (tgt := 1521) hx hb dL_law_703 (by decide) ?_
  exact kk N1 N2 H locs ls hw q.2 hl
set_option maxRecDepth 100000 in
theorem lq_c15 {p : Program} {l : Launch} {e : Env} {s : State} {m : MethodId} {below : List Frame} {meth : Method} {c : Code} {D : va_G} {cy : Nat → ClassId} {A1 A2 : Nat → Nat → Nat} {M1 M2 : ti_M} {b q3 L cells slots : Nat} {iv : Int32} {xs : Nat → Int32} {H : Heap} {locs : List Loc} {ls : Array Slot} (Z : lq_Z p s m meth c D cy A1 A2 b L xs) (hcs : cells ≤ room_1.cells ∧ slots ≤ room_1.slots) (hw : lq_H s D cy A1 A2 q3 M1 M2 H locs) (hI : lq_I M1 M2) (hi : 0 ≤ iv.toInt ∧ iv.toInt + 6 ≤ L) (hl : lv_has ls 7 [(4, .int iv), (3, .ref q3), (2, .ref (A2 60 0)), (1, .ref (A1 0 0)), (0, .ref b)]) (kk : ∀ (M1 M2 : ti_M) (H : Heap) (locs : List Loc) (ls : Array Slot), lq_H s D cy A1 A2 q3 M1 M2 H locs → lq_I M1 M2 → lv_has ls 7 [(4, .int iv), (3, .ref q3), (2, .ref (A2 60 0)), (1, .ref (A1 0 0)), (0, .ref b)] → W p l e room_1 s m #[Value.ref b] below meth c H locs cells slots (lw_Z below #[Value.ref b] s) (F0 m 1521 ls [])) : W p l e room_1 s m #[Value.ref b] below meth c H locs cells slots (lw_Z below #[Value.ref b] s) (F0 m 706 ls []) := by
  have C := Z.1
  have hA := Z.2.1
  have hx := C.1
  have hb := C.2.1
  have hbA : ¬ lq_F s b := Nat.not_le.mpr Z.2.2.2.1
  have hL := Z.2.2.2.2.2.2.1
  have hE := Z.2.2.2.2.2.2.2
  obtain ⟨Tc, Tm, hF1, hF2, hE0, hB0, hR1, hR2, hS1, hS2, rg, htd1, htd2, hle⟩ := hI
  have hR := And.intro hR1 hR2
  have hS := And.intro hS1 hS2
  obtain ⟨t9, tx9, s9, p9, si9, u9, c9, hb9⟩ := id hle
  obtain ⟨ht9, hkC9, hkR9, hW9, ⟨hw9, h19⟩, hU9, hi9⟩ := id hb9
  have m9 : 0 ≤ s9 2 ∧ s9 2 ≤ 120 := by
    have b : ib 0 120 (tY M2 60 34 0) := hF2.1.2.1 34 0 (by decide)
    rw [hkR9.2.1.1.1]; exact b
  refine lv_aload_n hx hb dL_law_706 rfl (lv_at hl 3 rfl) ?_
  refine lv_aload_n hx hb dL_law_707 rfl (lv_at hl 4 rfl) ?_
  refine lv_iload hx hb dL_law_708 (lv_at hl 0 rfl) ?_
  refine lv_iconst (v := 1) hx hb dL_law_710 (by decide) ?_
  refine lv_iadd hx hb dL_law_711 ?_
  refine va_sld (i := iv + 1) hx hb Z.2.2.1 Z.2.2.2.1 hbA hw.2.2.1 (lq_in hi hL (by decide) (by decide)) dL_law_712 ?_
  refine lv_aload_n hx hb dL_law_713 rfl (lv_at hl 4 rfl) ?_
  refine lv_iload hx hb dL_law_714 (lv_at hl 0 rfl) ?_
  refine lv_iconst (v := 2) hx hb dL_law_716 (by decide) ?_
  refine lv_iadd hx hb dL_law_717 ?_
  refine va_sld (i := iv + 2) hx hb Z.2.2.1 Z.2.2.2.1 hbA hw.2.2.1 (lq_in hi hL (by decide) (by decide)) dL_law_718 ?_
  refine lq_callTi (av := [.int (xs (iv + 1 : Int32).toNatClampNeg), .int (xs (iv + 2 : Int32).toNatClampNeg)]) C hA hw (z_X9_was l D A1 cy hA.1 M1 hF1.1 hF1 t9 ht9 tx9 s9 p9 u9 c9 hkC9 (xs (iv + 1 : Int32).toNatClampNeg) (xs (iv + 2 : Int32).toNatClampNeg)) ⟨ml_L_89, ym_X9_was, yv_X9_was, yi_X9_was, yc_X9_was⟩ yd_X9_was rfl rfl hl.1 (Nat.le_of_ble_eq_true rfl) ⟨by decide, by decide⟩ hcs dL_law_719 (fun rT N1 H locs hpT hw => ?_)
  refine lv_pop hx hb dL_law_722 rfl ?_
  refine lv_aload_n hx hb dL_law_723 rfl (lv_at hl 2 rfl) ?_
  refine lv_aload_n hx hb dL_law_724 rfl (lv_at hl 4 rfl) ?_
  refine lv_iload hx hb dL_law_725 (lv_at hl 0 rfl) ?_
  refine lv_iconst (v := 1) hx hb dL_law_727 (by decide) ?_
  refine lv_iadd hx hb dL_law_728 ?_
  refine va_sld (i := iv + 1) hx hb Z.2.2.1 Z.2.2.2.1 hbA hw.2.2.1 (lq_in hi hL (by decide) (by decide)) dL_law_729 ?_
  refine lv_aload_n hx hb dL_law_730 rfl (lv_at hl 4 rfl) ?_
  refine lv_iload hx hb dL_law_731 (lv_at hl 0 rfl) ?_
  refine lv_iconst (v := 2) hx hb dL_law_733 (by decide) ?_
  refine lv_iadd hx hb dL_law_734 ?_
  refine va_sld (i := iv + 2) hx hb Z.2.2.1 Z.2.2.2.1 hbA hw.2.2.1 (lq_in hi hL (by decide) (by decide)) dL_law_735 ?_
  refine lq_callMi (av := [.int (xs (iv + 1 : Int32).toNatClampNeg), .int (xs (iv + 2 : Int32).toNatClampNeg)]) C hA hw (z_X10_was l D A2 cy hA.2.1 M2 hF2.1 hF2 (xs (iv + 1 : Int32).toNatClampNeg) (xs (iv + 2 : Int32).toNatClampNeg) tx9 s9 p9 u9 c9 hW9.1 hW9 hw9 h19 hkR9) ⟨ml_L_92, ym_X10_was, yv_X10_was, yi_X10_was, yc_X10_was⟩ yd_X10_was rfl rfl hl.1 (Nat.le_of_ble_eq_true rfl) ⟨by decide, by decide⟩ hcs dL_law_736 (fun rM N2 H locs hpM hw => ?_)
  refine lv_pop hx hb dL_law_739 rfl ?_
  have q := lq_ob hF1 hE0 hB0 hR hS htd1 htd2 hpT hpM rfl (fun i y => ⟨_, _, _, _, _, _, _, lB_no hb9 i y⟩)
  refine lv_goto (tgt := 1521) hx hb dL_law_740 (by decide) ?_
  exact kk N1 N2 H locs ls hw q.2 hl
set_option maxRecDepth 100000 in
theorem lq_c16 {p : Program} {l : Launch} {e : Env} {s : State} {m : MethodId} {below : List Frame} {meth : Method} {c : Code} {D : va_G} {cy : Nat → ClassId} {A1 A2 : Nat → Nat → Nat} {M1 M2 : ti_M} {b q3 L cells slots : Nat} {iv : Int32} {xs : Nat → Int32} {H : Heap} {locs : List Loc} {ls : Array Slot} (Z : lq_Z p s m meth c D cy A1 A2 b L xs) (hcs : cells ≤ room_1.cells ∧ slots ≤ room_1.slots) (hw : lq_H s D cy A1 A2 q3 M1 M2 H locs) (hI : lq_I M1 M2) (hi : 0 ≤ iv.toInt ∧ iv.toInt + 6 ≤ L) (hl : lv_has ls 7 [(4, .int iv), (3, .ref q3), (2, .ref (A2 60 0)), (1, .ref (A1 0 0)), (0, .ref b)]) (kk : ∀ (M1 M2 : ti_M) (H : Heap) (locs : List Loc) (ls : Array Slot), lq_H s D cy A1 A2 q3 M1 M2 H locs → lq_I M1 M2 → lv_has ls 7 [(4, .int iv), (3, .ref q3), (2, .ref (A2 60 0)), (1, .ref (A1 0 0)), (0, .ref b)] → W p l e room_1 s m #[Value.ref b] below meth c H locs cells slots (lw_Z below #[Value.ref b] s) (F0 m 1521 ls [])) : W p l e room_1 s m #[Value.ref b] below meth c H locs cells slots (lw_Z below #[Value.ref b] s) (F0 m 743 ls []) := by
  have C := Z.1
  have hA := Z.2.1
  have hx := C.1
  have hb := C.2.1
  have hbA : ¬ lq_F s b := Nat.not_le.mpr Z.2.2.2.1
  have hL := Z.2.2.2.2.2.2.1
  have hE := Z.2.2.2.2.2.2.2
  obtain ⟨Tc, Tm, hF1, hF2, hE0, hB0, hR1, hR2, hS1, hS2, rg, htd1, htd2, hle⟩ := hI
  have hR := And.intro hR1 hR2
  have hS := And.intro hS1 hS2
  refine lv_aload_n hx hb dL_law_743 rfl (lv_at hl 3 rfl) ?_
  refine lv_aload_n hx hb dL_law_744 rfl (lv_at hl 4 rfl) ?_
  refine lv_iload hx hb dL_law_745 (lv_at hl 0 rfl) ?_
  refine lv_iconst (v := 1) hx hb dL_law_747 (by decide) ?_
  refine lv_iadd hx hb dL_law_748 ?_
  refine va_sld (i := iv + 1) hx hb Z.2.2.1 Z.2.2.2.1 hbA hw.2.2.1 (lq_in hi hL (by decide) (by decide)) dL_law_749 ?_
  refine lv_aload_n hx hb dL_law_750 rfl (lv_at hl 4 rfl) ?_
  refine lv_iload hx hb dL_law_751 (lv_at hl 0 rfl) ?_
  refine lv_iconst (v := 2) hx hb dL_law_753 (by decide) ?_
  refine lv_iadd hx hb dL_law_754 ?_
  refine va_sld (i := iv + 2) hx hb Z.2.2.1 Z.2.2.2.1 hbA hw.2.2.1 (lq_in hi hL (by decide) (by decide)) dL_law_755 ?_
  refine lq_callTi (av := [.int (xs (iv + 1 : Int32).toNatClampNeg), .int (xs (iv + 2 : Int32).toNatClampNeg)]) C hA hw (f_X9_ruled l D A1 cy hA.1 M1 hF1.1 hF1 (xs (iv + 1 : Int32).toNatClampNeg) (xs (iv + 2 : Int32).toNatClampNeg)) ⟨ml_L_93, ym_X9_ruled, yv_X9_ruled, yi_X9_ruled, yc_X9_ruled⟩ yd_X9_ruled rfl rfl hl.1 (Nat.le_of_ble_eq_true rfl) ⟨by decide, by decide⟩ hcs dL_law_756 (fun rT N1 H locs hpT hw => ?_)
  refine lv_pop hx hb dL_law_759 rfl ?_
  refine lv_aload_n hx hb dL_law_760 rfl (lv_at hl 2 rfl) ?_
  refine lv_aload_n hx hb dL_law_761 rfl (lv_at hl 4 rfl) ?_
  refine lv_iload hx hb dL_law_762 (lv_at hl 0 rfl) ?_
  refine lv_iconst (v := 1) hx hb dL_law_764 (by decide) ?_
  refine lv_iadd hx hb dL_law_765 ?_
  refine va_sld (i := iv + 1) hx hb Z.2.2.1 Z.2.2.2.1 hbA hw.2.2.1 (lq_in hi hL (by decide) (by decide)) dL_law_766 ?_
  refine lv_aload_n hx hb dL_law_767 rfl (lv_at hl 4 rfl) ?_
  refine lv_iload hx hb dL_law_768 (lv_at hl 0 rfl) ?_
  refine lv_iconst (v := 2) hx hb dL_law_770 (by decide) ?_
  refine lv_iadd hx hb dL_law_771 ?_
  refine va_sld (i := iv + 2) hx hb Z.2.2.1 Z.2.2.2.1 hbA hw.2.2.1 (lq_in hi hL (by decide) (by decide)) dL_law_772 ?_
  refine lq_callMi (av := [.int (xs (iv + 1 : Int32).toNatClampNeg), .int (xs (iv + 2 : Int32).toNatClampNeg)]) C hA hw (f_X10_ruled l D A2 cy hA.2.1 M2 hF2.1 hF2 (xs (iv + 1 : Int32).toNatClampNeg) (xs (iv + 2 : Int32).toNatClampNeg)) ⟨ml_L_96, ym_X10_ruled, yv_X10_ruled, yi_X10_ruled, yc_X10_ruled⟩ yd_X10_ruled rfl rfl hl.1 (Nat.le_of_ble_eq_true rfl) ⟨by decide, by decide⟩ hcs dL_law_773 (fun rM N2 H locs hpM hw => ?_)
  refine lv_pop hx hb dL_law_776 rfl ?_
  refine lv_goto (tgt := 1521) hx hb dL_law_777 (by decide) ?_
  exact kk N1 N2 H locs ls hw ⟨Tc, Tm, hpT.2.2.1, hpM.2.1, hpT.2.2.2.1.trans (hE0.trans (show tI N2 60 2 = tI M2 60 2 from hpM.2.2.1).symm), (fun i hi => hB0 i (by rw [← hpT.2.2.2.1]; exact hi)), (congrArg Int32.toInt (hpT.2.2.2.2.1 1 4 (by decide) (by decide))).trans hR.1, (congrArg Int32.toInt (hpT.2.2.2.2.1 1 5 (by decide) (by decide))).trans hR.2, hS1, hS2, rg, tdC_tl htd1 hpT.2.2.2.2, tdR_lw htd2 hpM.2.2.2, lE_obs hle hpT.1 hpT.2.1 hpM.1.1 (fun q => hpM.1.2.trans q) hpM.2.2.2⟩ hl
set_option maxRecDepth 100000 in
theorem lq_c17 {p : Program} {l : Launch} {e : Env} {s : State} {m : MethodId} {below : List Frame} {meth : Method} {c : Code} {D : va_G} {cy : Nat → ClassId} {A1 A2 : Nat → Nat → Nat} {M1 M2 : ti_M} {b q3 L cells slots : Nat} {iv : Int32} {xs : Nat → Int32} {H : Heap} {locs : List Loc} {ls : Array Slot} (Z : lq_Z p s m meth c D cy A1 A2 b L xs) (hcs : cells ≤ room_1.cells ∧ slots ≤ room_1.slots) (hw : lq_H s D cy A1 A2 q3 M1 M2 H locs) (hI : lq_I M1 M2) (hi : 0 ≤ iv.toInt ∧ iv.toInt + 6 ≤ L) (hl : lv_has ls 7 [(4, .int iv), (3, .ref q3), (2, .ref (A2 60 0)), (1, .ref (A1 0 0)), (0, .ref b)]) (kk : ∀ (M1 M2 : ti_M) (H : Heap) (locs : List Loc) (ls : Array Slot), lq_H s D cy A1 A2 q3 M1 M2 H locs → lq_I M1 M2 → lv_has ls 7 [(4, .int iv), (3, .ref q3), (2, .ref (A2 60 0)), (1, .ref (A1 0 0)), (0, .ref b)] → W p l e room_1 s m #[Value.ref b] below meth c H locs cells slots (lw_Z below #[Value.ref b] s) (F0 m 1521 ls [])) : W p l e room_1 s m #[Value.ref b] below meth c H locs cells slots (lw_Z below #[Value.ref b] s) (F0 m 780 ls []) := by
  have C := Z.1
  have hA := Z.2.1
  have hx := C.1
  have hb := C.2.1
  have hbA : ¬ lq_F s b := Nat.not_le.mpr Z.2.2.2.1
  have hL := Z.2.2.2.2.2.2.1
  have hE := Z.2.2.2.2.2.2.2
  obtain ⟨Tc, Tm, hF1, hF2, hE0, hB0, hR1, hR2, hS1, hS2, rg, htd1, htd2, hle⟩ := hI
  have hR := And.intro hR1 hR2
  have hS := And.intro hS1 hS2
  refine lv_aload_n hx hb dL_law_780 rfl (lv_at hl 3 rfl) ?_
  refine lv_aload_n hx hb dL_law_781 rfl (lv_at hl 4 rfl) ?_
  refine lv_iload hx hb dL_law_782 (lv_at hl 0 rfl) ?_
  refine lv_iconst (v := 1) hx hb dL_law_784 (by decide) ?_
  refine lv_iadd hx hb dL_law_785 ?_
  refine va_sld (i := iv + 1) hx hb Z.2.2.1 Z.2.2.2.1 hbA hw.2.2.1 (lq_in hi hL (by decide) (by decide)) dL_law_786 ?_
  refine lq_callTi (av := [.int (xs (iv + 1 : Int32).toNatClampNeg)]) C hA hw (f_X9_served l D A1 cy hA.1 M1 hF1.1 hF1 (xs (iv + 1 : Int32).toNatClampNeg)) ⟨ml_L_97, ym_X9_served, yv_X9_served, yi_X9_served, yc_X9_served⟩ yd_X9_served rfl rfl hl.1 (Nat.le_of_ble_eq_true rfl) ⟨by decide, by decide⟩ hcs dL_law_787 (fun rT N1 H locs hpT hw => ?_)
  refine lv_pop hx hb dL_law_790 rfl ?_
  refine lv_aload_n hx hb dL_law_791 rfl (lv_at hl 2 rfl) ?_
  refine lv_aload_n hx hb dL_law_792 rfl (lv_at hl 4 rfl) ?_
  refine lv_iload hx hb dL_law_793 (lv_at hl 0 rfl) ?_
  refine lv_iconst (v := 1) hx hb dL_law_795 (by decide) ?_
  refine lv_iadd hx hb dL_law_796 ?_
  refine va_sld (i := iv + 1) hx hb Z.2.2.1 Z.2.2.2.1 hbA hw.2.2.1 (lq_in hi hL (by decide) (by decide)) dL_law_797 ?_
  refine lq_callMi (av := [.int (xs (iv + 1 : Int32).toNatClampNeg)]) C hA hw (f_X10_served l D A2 cy hA.2.1 M2 hF2.1 hF2 (xs (iv + 1 : Int32).toNatClampNeg)) ⟨ml_L_100, ym_X10_served, yv_X10_served, yi_X10_served, yc_X10_served⟩ yd_X10_served rfl rfl hl.1 (Nat.le_of_ble_eq_true rfl) ⟨by decide, by decide⟩ hcs dL_law_798 (fun rM N2 H locs hpM hw => ?_)
  refine lv_pop hx hb dL_law_801 rfl ?_
  refine lv_goto (tgt := 1521) hx hb dL_law_802 (by decide) ?_
  exact kk N1 N2 H locs ls hw ⟨Tc, Tm, hpT.2.2.1, hpM.2.1, hpT.2.2.2.1.trans (hE0.trans (show tI N2 60 2 = tI M2 60 2 from hpM.2.2.1).symm), (fun i hi => hB0 i (by rw [← hpT.2.2.2.1]; exact hi)), (congrArg Int32.toInt (hpT.2.2.2.2.1 1 4 (by decide) (by decide))).trans hR.1, (congrArg Int32.toInt (hpT.2.2.2.2.1 1 5 (by decide) (by decide))).trans hR.2, hS1, hS2, rg, tdC_tl htd1 hpT.2.2.2.2, tdR_lw htd2 hpM.2.2.2, lE_obs hle hpT.1 hpT.2.1 hpM.1.1 (fun q => hpM.1.2.trans q) hpM.2.2.2⟩ hl
set_option maxRecDepth 100000 in
theorem lq_c18 {p : Program} {l : Launch} {e : Env} {s : State} {m : MethodId} {below : List Frame} {meth : Method} {c : Code} {D : va_G} {cy : Nat → ClassId} {A1 A2 : Nat → Nat → Nat} {M1 M2 : ti_M} {b q3 L cells slots : Nat} {iv : Int32} {xs : Nat → Int32} {H : Heap} {locs : List Loc} {ls : Array Slot} (Z : lq_Z p s m meth c D cy A1 A2 b L xs) (hcs : cells ≤ room_1.cells ∧ slots ≤ room_1.slots) (hw : lq_H s D cy A1 A2 q3 M1 M2 H locs) (hI : lq_I M1 M2) (hi : 0 ≤ iv.toInt ∧ iv.toInt + 6 ≤ L) (hl : lv_has ls 7 [(4, .int iv), (3, .ref q3), (2, .ref (A2 60 0)), (1, .ref (A1 0 0)), (0, .ref b)]) (kk : ∀ (M1 M2 : ti_M) (H : Heap) (locs : List Loc) (ls : Array Slot), lq_H s D cy A1 A2 q3 M1 M2 H locs → lq_I M1 M2 → lv_has ls 7 [(4, .int iv), (3, .ref q3), (2, .ref (A2 60 0)), (1, .ref (A1 0 0)), (0, .ref b)] → W p l e room_1 s m #[Value.ref b] below meth c H locs cells slots (lw_Z below #[Value.ref b] s) (F0 m 1521 ls [])) : W p l e room_1 s m #[Value.ref b] below meth c H locs cells slots (lw_Z below #[Value.ref b] s) (F0 m 805 ls []) := by
  have C := Z.1
  have hA := Z.2.1
  have hx := C.1
  have hb := C.2.1
  have hbA : ¬ lq_F s b := Nat.not_le.mpr Z.2.2.2.1
  have hL := Z.2.2.2.2.2.2.1
  have hE := Z.2.2.2.2.2.2.2
  obtain ⟨Tc, Tm, hF1, hF2, hE0, hB0, hR1, hR2, hS1, hS2, rg, htd1, htd2, hle⟩ := hI
  have hR := And.intro hR1 hR2
  have hS := And.intro hS1 hS2
  refine lv_aload_n hx hb dL_law_805 rfl (lv_at hl 3 rfl) ?_
  refine lv_aload_n hx hb dL_law_806 rfl (lv_at hl 4 rfl) ?_
  refine lv_iload hx hb dL_law_807 (lv_at hl 0 rfl) ?_
  refine lv_iconst (v := 1) hx hb dL_law_809 (by decide) ?_
  refine lv_iadd hx hb dL_law_810 ?_
  refine va_sld (i := iv + 1) hx hb Z.2.2.1 Z.2.2.2.1 hbA hw.2.2.1 (lq_in hi hL (by decide) (by decide)) dL_law_811 ?_
  refine lv_aload_n hx hb dL_law_812 rfl (lv_at hl 4 rfl) ?_
  refine lv_iload hx hb dL_law_813 (lv_at hl 0 rfl) ?_
  refine lv_iconst (v := 2) hx hb dL_law_815 (by decide) ?_
  refine lv_iadd hx hb dL_law_816 ?_
  refine va_sld (i := iv + 2) hx hb Z.2.2.1 Z.2.2.2.1 hbA hw.2.2.1 (lq_in hi hL (by decide) (by decide)) dL_law_817 ?_
  refine lv_aload_n hx hb dL_law_818 rfl (lv_at hl 4 rfl) ?_
  refine lv_iload hx hb dL_law_819 (lv_at hl 0 rfl) ?_
  refine lv_iconst (v := 3) hx hb dL_law_821 (by decide) ?_
  refine lv_iadd hx hb dL_law_822 ?_
  refine va_sld (i := iv + 3) hx hb Z.2.2.1 Z.2.2.2.1 hbA hw.2.2.1 (lq_in hi hL (by decide) (by decide)) dL_law_823 ?_
  refine lq_callTi (av := [.int (xs (iv + 1 : Int32).toNatClampNeg), .int (xs (iv + 2 : Int32).toNatClampNeg), .int (xs (iv + 3 : Int32).toNatClampNeg)]) C hA hw (f_X9_coming l D A1 cy hA.1 M1 hF1.1 hF1 (xs (iv + 1 : Int32).toNatClampNeg) (xs (iv + 2 : Int32).toNatClampNeg) (xs (iv + 3 : Int32).toNatClampNeg)) ⟨ml_L_101, ym_X9_coming, yv_X9_coming, yi_X9_coming, yc_X9_coming⟩ yd_X9_coming rfl rfl hl.1 (Nat.le_of_ble_eq_true rfl) ⟨by decide, by decide⟩ hcs dL_law_824 (fun rT N1 H locs hpT hw => ?_)
  refine lv_pop hx hb dL_law_827 rfl ?_
  refine lv_aload_n hx hb dL_law_828 rfl (lv_at hl 2 rfl) ?_
  refine lv_aload_n hx hb dL_law_829 rfl (lv_at hl 4 rfl) ?_
  refine lv_iload hx hb dL_law_830 (lv_at hl 0 rfl) ?_
  refine lv_iconst (v := 1) hx hb dL_law_832 (by decide) ?_
  refine lv_iadd hx hb dL_law_833 ?_
  refine va_sld (i := iv + 1) hx hb Z.2.2.1 Z.2.2.2.1 hbA hw.2.2.1 (lq_in hi hL (by decide) (by decide)) dL_law_834 ?_
  refine lv_aload_n hx hb dL_law_835 rfl (lv_at hl 4 rfl) ?_
  refine lv_iload hx hb dL_law_836 (lv_at hl 0 rfl) ?_
  refine lv_iconst (v := 2) hx hb dL_law_838 (by decide) ?_
  refine lv_iadd hx hb dL_law_839 ?_
  refine va_sld (i := iv + 2) hx hb Z.2.2.1 Z.2.2.2.1 hbA hw.2.2.1 (lq_in hi hL (by decide) (by decide)) dL_law_840 ?_
  refine lv_aload_n hx hb dL_law_841 rfl (lv_at hl 4 rfl) ?_
  refine lv_iload hx hb dL_law_842 (lv_at hl 0 rfl) ?_
  refine lv_iconst (v := 3) hx hb dL_law_844 (by decide) ?_
  refine lv_iadd hx hb dL_law_845 ?_
  refine va_sld (i := iv + 3) hx hb Z.2.2.1 Z.2.2.2.1 hbA hw.2.2.1 (lq_in hi hL (by decide) (by decide)) dL_law_846 ?_
  refine lq_callMi (av := [.int (xs (iv + 1 : Int32).toNatClampNeg), .int (xs (iv + 2 : Int32).toNatClampNeg), .int (xs (iv + 3 : Int32).toNatClampNeg)]) C hA hw (f_X10_coming l D A2 cy hA.2.1 M2 hF2.1 hF2 (xs (iv + 1 : Int32).toNatClampNeg) (xs (iv + 2 : Int32).toNatClampNeg) (xs (iv + 3 : Int32).toNatClampNeg)) ⟨ml_L_105, ym_X10_coming, yv_X10_coming, yi_X10_coming, yc_X10_coming⟩ yd_X10_coming rfl rfl hl.1 (Nat.le_of_ble_eq_true rfl) ⟨by decide, by decide⟩ hcs dL_law_847 (fun rM N2 H locs hpM hw => ?_)
  refine lv_pop hx hb dL_law_850 rfl ?_
  refine lv_goto (tgt := 1521) hx hb dL_law_851 (by decide) ?_
  exact kk N1 N2 H locs ls hw ⟨Tc, Tm, hpT.2.2.1, hpM.2.1, hpT.2.2.2.1.trans (hE0.trans (show tI N2 60 2 = tI M2 60 2 from hpM.2.2.1).symm), (fun i hi => hB0 i (by rw [← hpT.2.2.2.1]; exact hi)), (congrArg Int32.toInt (hpT.2.2.2.2.1 1 4 (by decide) (by decide))).trans hR.1, (congrArg Int32.toInt (hpT.2.2.2.2.1 1 5 (by decide) (by decide))).trans hR.2, hS1, hS2, rg, tdC_tl htd1 hpT.2.2.2.2, tdR_lw htd2 hpM.2.2.2, lE_obs hle hpT.1 hpT.2.1 hpM.1.1 (fun q => hpM.1.2.trans q) hpM.2.2.2⟩ hl
set_option maxRecDepth 100000 in
theorem lq_c19 {p : Program} {l : Launch} {e : Env} {s : State} {m : MethodId} {below : List Frame} {meth : Method} {c : Code} {D : va_G} {cy : Nat → ClassId} {A1 A2 : Nat → Nat → Nat} {M1 M2 : ti_M} {b q3 L cells slots : Nat} {iv : Int32} {xs : Nat → Int32} {H : Heap} {locs : List Loc} {ls : Array Slot} (Z : lq_Z p s m meth c D cy A1 A2 b L xs) (hcs : cells ≤ room_1.cells ∧ slots ≤ room_1.slots) (hw : lq_H s D cy A1 A2 q3 M1 M2 H locs) (hI : lq_I M1 M2) (hi : 0 ≤ iv.toInt ∧ iv.toInt + 6 ≤ L) (hl : lv_has ls 7 [(4, .int iv), (3, .ref q3), (2, .ref (A2 60 0)), (1, .ref (A1 0 0)), (0, .ref b)]) (kk : ∀ (M1 M2 : ti_M) (H : Heap) (locs : List Loc) (ls : Array Slot), lq_H s D cy A1 A2 q3 M1 M2 H locs → lq_I M1 M2 → lv_has ls 7 [(4, .int iv), (3, .ref q3), (2, .ref (A2 60 0)), (1, .ref (A1 0 0)), (0, .ref b)] → W p l e room_1 s m #[Value.ref b] below meth c H locs cells slots (lw_Z below #[Value.ref b] s) (F0 m 1521 ls [])) : W p l e room_1 s m #[Value.ref b] below meth c H locs cells slots (lw_Z below #[Value.ref b] s) (F0 m 854 ls []) := by
  have C := Z.1
  have hA := Z.2.1
  have hx := C.1
  have hb := C.2.1
  have hbA : ¬ lq_F s b := Nat.not_le.mpr Z.2.2.2.1
  have hL := Z.2.2.2.2.2.2.1
  have hE := Z.2.2.2.2.2.2.2
  obtain ⟨Tc, Tm, hF1, hF2, hE0, hB0, hR1, hR2, hS1, hS2, rg, htd1, htd2, hle⟩ := hI
  have hR := And.intro hR1 hR2
  have hS := And.intro hS1 hS2
  refine lv_aload_n hx hb dL_law_854 rfl (lv_at hl 3 rfl) ?_
  refine lv_aload_n hx hb dL_law_855 rfl (lv_at hl 4 rfl) ?_
  refine lv_iload hx hb dL_law_856 (lv_at hl 0 rfl) ?_
  refine lv_iconst (v := 1) hx hb dL_law_858 (by decide) ?_
  refine lv_iadd hx hb dL_law_859 ?_
  refine va_sld (i := iv + 1) hx hb Z.2.2.1 Z.2.2.2.1 hbA hw.2.2.1 (lq_in hi hL (by decide) (by decide)) dL_law_860 ?_
  refine lv_aload_n hx hb dL_law_861 rfl (lv_at hl 4 rfl) ?_
  refine lv_iload hx hb dL_law_862 (lv_at hl 0 rfl) ?_
  refine lv_iconst (v := 2) hx hb dL_law_864 (by decide) ?_
  refine lv_iadd hx hb dL_law_865 ?_
  refine va_sld (i := iv + 2) hx hb Z.2.2.1 Z.2.2.2.1 hbA hw.2.2.1 (lq_in hi hL (by decide) (by decide)) dL_law_866 ?_
  refine lv_aload_n hx hb dL_law_867 rfl (lv_at hl 4 rfl) ?_
  refine lv_iload hx hb dL_law_868 (lv_at hl 0 rfl) ?_
  refine lv_iconst (v := 3) hx hb dL_law_870 (by decide) ?_
  refine lv_iadd hx hb dL_law_871 ?_
  refine va_sld (i := iv + 3) hx hb Z.2.2.1 Z.2.2.2.1 hbA hw.2.2.1 (lq_in hi hL (by decide) (by decide)) dL_law_872 ?_
  refine lq_callTi (av := [.int (xs (iv + 1 : Int32).toNatClampNeg), .int (xs (iv + 2 : Int32).toNatClampNeg), .int (xs (iv + 3 : Int32).toNatClampNeg)]) C hA hw (f_X9_decree l D A1 cy hA.1 M1 hF1.1 hF1 (xs (iv + 1 : Int32).toNatClampNeg) (xs (iv + 2 : Int32).toNatClampNeg) (xs (iv + 3 : Int32).toNatClampNeg)) ⟨ml_L_106, ym_X9_decree, yv_X9_decree, yi_X9_decree, yc_X9_decree⟩ yd_X9_decree rfl rfl hl.1 (Nat.le_of_ble_eq_true rfl) ⟨by decide, by decide⟩ hcs dL_law_873 (fun rT N1 H locs hpT hw => ?_)
  refine lv_pop hx hb dL_law_876 rfl ?_
  refine lv_aload_n hx hb dL_law_877 rfl (lv_at hl 2 rfl) ?_
  refine lv_aload_n hx hb dL_law_878 rfl (lv_at hl 4 rfl) ?_
  refine lv_iload hx hb dL_law_879 (lv_at hl 0 rfl) ?_
  refine lv_iconst (v := 1) hx hb dL_law_881 (by decide) ?_
  refine lv_iadd hx hb dL_law_882 ?_
  refine va_sld (i := iv + 1) hx hb Z.2.2.1 Z.2.2.2.1 hbA hw.2.2.1 (lq_in hi hL (by decide) (by decide)) dL_law_883 ?_
  refine lv_aload_n hx hb dL_law_884 rfl (lv_at hl 4 rfl) ?_
  refine lv_iload hx hb dL_law_885 (lv_at hl 0 rfl) ?_
  refine lv_iconst (v := 2) hx hb dL_law_887 (by decide) ?_
  refine lv_iadd hx hb dL_law_888 ?_
  refine va_sld (i := iv + 2) hx hb Z.2.2.1 Z.2.2.2.1 hbA hw.2.2.1 (lq_in hi hL (by decide) (by decide)) dL_law_889 ?_
  refine lv_aload_n hx hb dL_law_890 rfl (lv_at hl 4 rfl) ?_
  refine lv_iload hx hb dL_law_891 (lv_at hl 0 rfl) ?_
  refine lv_iconst (v := 3) hx hb dL_law_893 (by decide) ?_
  refine lv_iadd hx hb dL_law_894 ?_
  refine va_sld (i := iv + 3) hx hb Z.2.2.1 Z.2.2.2.1 hbA hw.2.2.1 (lq_in hi hL (by decide) (by decide)) dL_law_895 ?_
  refine lq_callMi (av := [.int (xs (iv + 1 : Int32).toNatClampNeg), .int (xs (iv + 2 : Int32).toNatClampNeg), .int (xs (iv + 3 : Int32).toNatClampNeg)]) C hA hw (f_X10_decree l D A2 cy hA.2.1 M2 hF2.1 hF2 (xs (iv + 1 : Int32).toNatClampNeg) (xs (iv + 2 : Int32).toNatClampNeg) (xs (iv + 3 : Int32).toNatClampNeg)) ⟨ml_L_109, ym_X10_decree, yv_X10_decree, yi_X10_decree, yc_X10_decree⟩ yd_X10_decree rfl rfl hl.1 (Nat.le_of_ble_eq_true rfl) ⟨by decide, by decide⟩ hcs dL_law_896 (fun rM N2 H locs hpM hw => ?_)
  refine lv_pop hx hb dL_law_899 rfl ?_
  refine lv_goto (tgt := 1521) hx hb dL_law_900 (by decide) ?_
  exact kk N1 N2 H locs ls hw ⟨Tc, Tm, hpT.2.2.1, hpM.2.1, hpT.2.2.2.1.trans (hE0.trans (show tI N2 60 2 = tI M2 60 2 from hpM.2.2.1).symm), (fun i hi => hB0 i (by rw [← hpT.2.2.2.1]; exact hi)), (congrArg Int32.toInt (hpT.2.2.2.2.1 1 4 (by decide) (by decide))).trans hR.1, (congrArg Int32.toInt (hpT.2.2.2.2.1 1 5 (by decide) (by decide))).trans hR.2, hS1, hS2, rg, tdC_tl htd1 hpT.2.2.2.2, tdR_lw htd2 hpM.2.2.2, lE_obs hle hpT.1 hpT.2.1 hpM.1.1 (fun q => hpM.1.2.trans q) hpM.2.2.2⟩ hl
set_option maxRecDepth 100000 in
theorem lq_c20 {p : Program} {l : Launch} {e : Env} {s : State} {m : MethodId} {below : List Frame} {meth : Method} {c : Code} {D : va_G} {cy : Nat → ClassId} {A1 A2 : Nat → Nat → Nat} {M1 M2 : ti_M} {b q3 L cells slots : Nat} {iv : Int32} {xs : Nat → Int32} {H : Heap} {locs : List Loc} {ls : Array Slot} (Z : lq_Z p s m meth c D cy A1 A2 b L xs) (hcs : cells ≤ room_1.cells ∧ slots ≤ room_1.slots) (hw : lq_H s D cy A1 A2 q3 M1 M2 H locs) (hI : lq_I M1 M2) (hi : 0 ≤ iv.toInt ∧ iv.toInt + 6 ≤ L) (hl : lv_has ls 7 [(4, .int iv), (3, .ref q3), (2, .ref (A2 60 0)), (1, .ref (A1 0 0)), (0, .ref b)]) (kk : ∀ (M1 M2 : ti_M) (H : Heap) (locs : List Loc) (ls : Array Slot), lq_H s D cy A1 A2 q3 M1 M2 H locs → lq_I M1 M2 → lv_has ls 7 [(4, .int iv), (3, .ref q3), (2, .ref (A2 60 0)), (1, .ref (A1 0 0)), (0, .ref b)] → W p l e room_1 s m #[Value.ref b] below meth c H locs cells slots (lw_Z below #[Value.ref b] s) (F0 m 1521 ls [])) : W p l e room_1 s m #[Value.ref b] below meth c H locs cells slots (lw_Z below #[Value.ref b] s) (F0 m 903 ls []) := by
  have C := Z.1
  have hA := Z.2.1
  have hx := C.1
  have hb := C.2.1
  have hbA : ¬ lq_F s b := Nat.not_le.mpr Z.2.2.2.1
  have hL := Z.2.2.2.2.2.2.1
  have hE := Z.2.2.2.2.2.2.2
  obtain ⟨Tc, Tm, hF1, hF2, hE0, hB0, hR1, hR2, hS1, hS2, rg, htd1, htd2, hle⟩ := hI
  have hR := And.intro hR1 hR2
  have hS := And.intro hS1 hS2
  refine lv_aload_n hx hb dL_law_903 rfl (lv_at hl 3 rfl) ?_
  refine lq_callTi (av := []) C hA hw (f_X9_coup l D A1 cy hA.1 M1 hF1.1 hF1) ⟨ml_L_110, ym_X9_coup, yv_X9_coup, yi_X9_coup, yc_X9_coup⟩ yd_X9_coup rfl rfl hl.1 (Nat.le_of_ble_eq_true rfl) ⟨by decide, by decide⟩ hcs dL_law_904 (fun rT N1 H locs hpT hw => ?_)
  refine lv_pop hx hb dL_law_907 rfl ?_
  refine lv_aload_n hx hb dL_law_908 rfl (lv_at hl 2 rfl) ?_
  refine lq_callMi (av := []) C hA hw (f_X10_coup l D A2 cy hA.2.1 M2 hF2.1 hF2) ⟨ml_L_114, ym_X10_coup, yv_X10_coup, yi_X10_coup, yc_X10_coup⟩ yd_X10_coup rfl rfl hl.1 (Nat.le_of_ble_eq_true rfl) ⟨by decide, by decide⟩ hcs dL_law_909 (fun rM N2 H locs hpM hw => ?_)
  refine lv_pop hx hb dL_law_912 rfl ?_
  refine lv_goto (tgt := 1521) hx hb dL_law_913 (by decide) ?_
  exact kk N1 N2 H locs ls hw ⟨Tc, Tm, hpT.2.2.1, hpM.2.1, hpT.2.2.2.1.trans (hE0.trans (show tI N2 60 2 = tI M2 60 2 from hpM.2.2.1).symm), (fun i hi => hB0 i (by rw [← hpT.2.2.2.1]; exact hi)), (congrArg Int32.toInt (hpT.2.2.2.2.1 1 4 (by decide) (by decide))).trans hR.1, (congrArg Int32.toInt (hpT.2.2.2.2.1 1 5 (by decide) (by decide))).trans hR.2, hS1, hS2, rg, tdC_tl htd1 hpT.2.2.2.2, tdR_lw htd2 hpM.2.2.2, lE_obs hle hpT.1 hpT.2.1 hpM.1.1 (fun q => hpM.1.2.trans q) hpM.2.2.2⟩ hl
set_option maxRecDepth 100000 in
theorem lq_c21 {p : Program} {l : Launch} {e : Env} {s : State} {m : MethodId} {below : List Frame} {meth : Method} {c : Code} {D : va_G} {cy : Nat → ClassId} {A1 A2 : Nat → Nat → Nat} {M1 M2 : ti_M} {b q3 L cells slots : Nat} {iv : Int32} {xs : Nat → Int32} {H : Heap} {locs : List Loc} {ls : Array Slot} (Z : lq_Z p s m meth c D cy A1 A2 b L xs) (hcs : cells ≤ room_1.cells ∧ slots ≤ room_1.slots) (hw : lq_H s D cy A1 A2 q3 M1 M2 H locs) (hI : lq_I M1 M2) (hi : 0 ≤ iv.toInt ∧ iv.toInt + 6 ≤ L) (hl : lv_has ls 7 [(4, .int iv), (3, .ref q3), (2, .ref (A2 60 0)), (1, .ref (A1 0 0)), (0, .ref b)]) (kk : ∀ (M1 M2 : ti_M) (H : Heap) (locs : List Loc) (ls : Array Slot), lq_H s D cy A1 A2 q3 M1 M2 H locs → lq_I M1 M2 → lv_has ls 7 [(4, .int iv), (3, .ref q3), (2, .ref (A2 60 0)), (1, .ref (A1 0 0)), (0, .ref b)] → W p l e room_1 s m #[Value.ref b] below meth c H locs cells slots (lw_Z below #[Value.ref b] s) (F0 m 1521 ls [])) : W p l e room_1 s m #[Value.ref b] below meth c H locs cells slots (lw_Z below #[Value.ref b] s) (F0 m 916 ls []) := by
  have C := Z.1
  have hA := Z.2.1
  have hx := C.1
  have hb := C.2.1
  have hbA : ¬ lq_F s b := Nat.not_le.mpr Z.2.2.2.1
  have hL := Z.2.2.2.2.2.2.1
  have hE := Z.2.2.2.2.2.2.2
  obtain ⟨Tc, Tm, hF1, hF2, hE0, hB0, hR1, hR2, hS1, hS2, rg, htd1, htd2, hle⟩ := hI
  have hR := And.intro hR1 hR2
  have hS := And.intro hS1 hS2
  refine lv_aload_n hx hb dL_law_916 rfl (lv_at hl 3 rfl) ?_
  refine lv_aload_n hx hb dL_law_917 rfl (lv_at hl 4 rfl) ?_
  refine lv_iload hx hb dL_law_918 (lv_at hl 0 rfl) ?_
  refine lv_iconst (v := 1) hx hb dL_law_920 (by decide) ?_
  refine lv_iadd hx hb dL_law_921 ?_
  refine va_sld (i := iv + 1) hx hb Z.2.2.1 Z.2.2.2.1 hbA hw.2.2.1 (lq_in hi hL (by decide) (by decide)) dL_law_922 ?_
  refine lv_aload_n hx hb dL_law_923 rfl (lv_at hl 4 rfl) ?_
  refine lv_iload hx hb dL_law_924 (lv_at hl 0 rfl) ?_
  refine lv_iconst (v := 2) hx hb dL_law_926 (by decide) ?_
  refine lv_iadd hx hb dL_law_927 ?_
  refine va_sld (i := iv + 2) hx hb Z.2.2.1 Z.2.2.2.1 hbA hw.2.2.1 (lq_in hi hL (by decide) (by decide)) dL_law_928 ?_
  refine lv_aload_n hx hb dL_law_929 rfl (lv_at hl 4 rfl) ?_
  refine lv_iload hx hb dL_law_930 (lv_at hl 0 rfl) ?_
  refine lv_iconst (v := 3) hx hb dL_law_932 (by decide) ?_
  refine lv_iadd hx hb dL_law_933 ?_
  refine va_sld (i := iv + 3) hx hb Z.2.2.1 Z.2.2.2.1 hbA hw.2.2.1 (lq_in hi hL (by decide) (by decide)) dL_law_934 ?_
  refine lq_callTi (av := [.int (xs (iv + 1 : Int32).toNatClampNeg), .int (xs (iv + 2 : Int32).toNatClampNeg), .int (xs (iv + 3 : Int32).toNatClampNeg)]) C hA hw (f_X9_rests l D A1 cy hA.1 M1 hF1.1 hF1 (xs (iv + 1 : Int32).toNatClampNeg) (xs (iv + 2 : Int32).toNatClampNeg) (xs (iv + 3 : Int32).toNatClampNeg)) ⟨ml_L_115, ym_X9_rests, yv_X9_rests, yi_X9_rests, yc_X9_rests⟩ yd_X9_rests rfl rfl hl.1 (Nat.le_of_ble_eq_true rfl) ⟨by decide, by decide⟩ hcs dL_law_935 (fun rT N1 H locs hpT hw => ?_)
  refine lv_pop hx hb dL_law_938 rfl ?_
  refine lv_aload_n hx hb dL_law_939 rfl (lv_at hl 2 rfl) ?_
  refine lv_aload_n hx hb dL_law_940 rfl (lv_at hl 4 rfl) ?_
  refine lv_iload hx hb dL_law_941 (lv_at hl 0 rfl) ?_
  refine lv_iconst (v := 1) hx hb dL_law_943 (by decide) ?_
  refine lv_iadd hx hb dL_law_944 ?_
  refine va_sld (i := iv + 1) hx hb Z.2.2.1 Z.2.2.2.1 hbA hw.2.2.1 (lq_in hi hL (by decide) (by decide)) dL_law_945 ?_
  refine lv_aload_n hx hb dL_law_946 rfl (lv_at hl 4 rfl) ?_
  refine lv_iload hx hb dL_law_947 (lv_at hl 0 rfl) ?_
  refine lv_iconst (v := 2) hx hb dL_law_949 (by decide) ?_
  refine lv_iadd hx hb dL_law_950 ?_
  refine va_sld (i := iv + 2) hx hb Z.2.2.1 Z.2.2.2.1 hbA hw.2.2.1 (lq_in hi hL (by decide) (by decide)) dL_law_951 ?_
  refine lv_aload_n hx hb dL_law_952 rfl (lv_at hl 4 rfl) ?_
  refine lv_iload hx hb dL_law_953 (lv_at hl 0 rfl) ?_
  refine lv_iconst (v := 3) hx hb dL_law_955 (by decide) ?_
  refine lv_iadd hx hb dL_law_956 ?_
  refine va_sld (i := iv + 3) hx hb Z.2.2.1 Z.2.2.2.1 hbA hw.2.2.1 (lq_in hi hL (by decide) (by decide)) dL_law_957 ?_
  refine lq_callMi (av := [.int (xs (iv + 1 : Int32).toNatClampNeg), .int (xs (iv + 2 : Int32).toNatClampNeg), .int (xs (iv + 3 : Int32).toNatClampNeg)]) C hA hw (f_X10_rests l D A2 cy hA.2.1 M2 hF2.1 hF2 (xs (iv + 1 : Int32).toNatClampNeg) (xs (iv + 2 : Int32).toNatClampNeg) (xs (iv + 3 : Int32).toNatClampNeg)) ⟨ml_L_118, ym_X10_rests, yv_X10_rests, yi_X10_rests, yc_X10_rests⟩ yd_X10_rests rfl rfl hl.1 (Nat.le_of_ble_eq_true rfl) ⟨by decide, by decide⟩ hcs dL_law_958 (fun rM N2 H locs hpM hw => ?_)
  refine lv_pop hx hb dL_law_961 rfl ?_
  refine lv_goto (tgt := 1521) hx hb dL_law_962 (by decide) ?_
  exact kk N1 N2 H locs ls hw ⟨Tc, Tm, hpT.2.2.1, hpM.2.1, hpT.2.2.2.1.trans (hE0.trans (show tI N2 60 2 = tI M2 60 2 from hpM.2.2.1).symm), (fun i hi => hB0 i (by rw [← hpT.2.2.2.1]; exact hi)), (congrArg Int32.toInt (hpT.2.2.2.2.1 1 4 (by decide) (by decide))).trans hR.1, (congrArg Int32.toInt (hpT.2.2.2.2.1 1 5 (by decide) (by decide))).trans hR.2, hS1, hS2, rg, tdC_tl htd1 hpT.2.2.2.2, tdR_lw htd2 hpM.2.2.2, lE_obs hle hpT.1 hpT.2.1 hpM.1.1 (fun q => hpM.1.2.trans q) hpM.2.2.2⟩ hl
set_option maxRecDepth 100000 in
theorem lq_c22 {p : Program} {l : Launch} {e : Env} {s : State} {m : MethodId} {below : List Frame} {meth : Method} {c : Code} {D : va_G} {cy : Nat → ClassId} {A1 A2 : Nat → Nat → Nat} {M1 M2 : ti_M} {b q3 L cells slots : Nat} {iv : Int32} {xs : Nat → Int32} {H : Heap} {locs : List Loc} {ls : Array Slot} (Z : lq_Z p s m meth c D cy A1 A2 b L xs) (hcs : cells ≤ room_1.cells ∧ slots ≤ room_1.slots) (hw : lq_H s D cy A1 A2 q3 M1 M2 H locs) (hI : lq_I M1 M2) (hi : 0 ≤ iv.toInt ∧ iv.toInt + 6 ≤ L) (hl : lv_has ls 7 [(4, .int iv), (3, .ref q3), (2, .ref (A2 60 0)), (1, .ref (A1 0 0)), (0, .ref b)]) (kk : ∀ (M1 M2 : ti_M) (H : Heap) (locs : List Loc) (ls : Array Slot), lq_H s D cy A1 A2 q3 M1 M2 H locs → lq_I M1 M2 → lv_has ls 7 [(4, .int iv), (3, .ref q3), (2, .ref (A2 60 0)), (1, .ref (A1 0 0)), (0, .ref b)] → W p l e room_1 s m #[Value.ref b] below meth c H locs cells slots (lw_Z below #[Value.ref b] s) (F0 m 1521 ls [])) : W p l e room_1 s m #[Value.ref b] below meth c H locs cells slots (lw_Z below #[Value.ref b] s) (F0 m 965 ls []) := by
  have C := Z.1
  have hA := Z.2.1
  have hx := C.1
  have hb := C.2.1
  have hbA : ¬ lq_F s b := Nat.not_le.mpr Z.2.2.2.1
  have hL := Z.2.2.2.2.2.2.1
  have hE := Z.2.2.2.2.2.2.2
  obtain ⟨Tc, Tm, hF1, hF2, hE0, hB0, hR1, hR2, hS1, hS2, rg, htd1, htd2, hle⟩ := hI
  have hR := And.intro hR1 hR2
  have hS := And.intro hS1 hS2
  refine lv_aload_n hx hb dL_law_965 rfl (lv_at hl 3 rfl) ?_
  refine lv_aload_n hx hb dL_law_966 rfl (lv_at hl 4 rfl) ?_
  refine lv_iload hx hb dL_law_967 (lv_at hl 0 rfl) ?_
  refine lv_iconst (v := 1) hx hb dL_law_969 (by decide) ?_
  refine lv_iadd hx hb dL_law_970 ?_
  refine va_sld (i := iv + 1) hx hb Z.2.2.1 Z.2.2.2.1 hbA hw.2.2.1 (lq_in hi hL (by decide) (by decide)) dL_law_971 ?_
  refine lv_aload_n hx hb dL_law_972 rfl (lv_at hl 4 rfl) ?_
  refine lv_iload hx hb dL_law_973 (lv_at hl 0 rfl) ?_
  refine lv_iconst (v := 2) hx hb dL_law_975 (by decide) ?_
  refine lv_iadd hx hb dL_law_976 ?_
  refine va_sld (i := iv + 2) hx hb Z.2.2.1 Z.2.2.2.1 hbA hw.2.2.1 (lq_in hi hL (by decide) (by decide)) dL_law_977 ?_
  refine lv_aload_n hx hb dL_law_978 rfl (lv_at hl 4 rfl) ?_
  refine lv_iload hx hb dL_law_979 (lv_at hl 0 rfl) ?_
  refine lv_iconst (v := 3) hx hb dL_law_981 (by decide) ?_
  refine lv_iadd hx hb dL_law_982 ?_
  refine va_sld (i := iv + 3) hx hb Z.2.2.1 Z.2.2.2.1 hbA hw.2.2.1 (lq_in hi hL (by decide) (by decide)) dL_law_983 ?_
  refine lv_aload_n hx hb dL_law_984 rfl (lv_at hl 4 rfl) ?_
  refine lv_iload hx hb dL_law_985 (lv_at hl 0 rfl) ?_
  refine lv_iconst (v := 4) hx hb dL_law_987 (by decide) ?_
  refine lv_iadd hx hb dL_law_988 ?_
  refine va_sld (i := iv + 4) hx hb Z.2.2.1 Z.2.2.2.1 hbA hw.2.2.1 (lq_in hi hL (by decide) (by decide)) dL_law_989 ?_
  refine lq_callTi (av := [.int (xs (iv + 1 : Int32).toNatClampNeg), .int (xs (iv + 2 : Int32).toNatClampNeg), .int (xs (iv + 3 : Int32).toNatClampNeg), .int (xs (iv + 4 : Int32).toNatClampNeg)]) C hA hw (f_X9_rest l D A1 cy hA.1 M1 hF1.1 hF1 (xs (iv + 1 : Int32).toNatClampNeg) (xs (iv + 2 : Int32).toNatClampNeg) (xs (iv + 3 : Int32).toNatClampNeg) (xs (iv + 4 : Int32).toNatClampNeg)) ⟨ml_L_119, ym_X9_rest, yv_X9_rest, yi_X9_rest, yc_X9_rest⟩ yd_X9_rest rfl rfl hl.1 (Nat.le_of_ble_eq_true rfl) ⟨by decide, by decide⟩ hcs dL_law_990 (fun rT N1 H locs hpT hw => ?_)
  refine lv_pop hx hb dL_law_993 rfl ?_
  refine lv_aload_n hx hb dL_law_994 rfl (lv_at hl 2 rfl) ?_
  refine lv_aload_n hx hb dL_law_995 rfl (lv_at hl 4 rfl) ?_
  refine lv_iload hx hb dL_law_996 (lv_at hl 0 rfl) ?_
  refine lv_iconst (v := 1) hx hb dL_law_998 (by decide) ?_
  refine lv_iadd hx hb dL_law_999 ?_
  refine va_sld (i := iv + 1) hx hb Z.2.2.1 Z.2.2.2.1 hbA hw.2.2.1 (lq_in hi hL (by decide) (by decide)) dL_law_1000 ?_
  refine lv_aload_n hx hb dL_law_1001 rfl (lv_at hl 4 rfl) ?_
  refine lv_iload hx hb dL_law_1002 (lv_at hl 0 rfl) ?_
  refine lv_iconst (v := 2) hx hb dL_law_1004 (by decide) ?_
  refine lv_iadd hx hb dL_law_1005 ?_
  refine va_sld (i := iv + 2) hx hb Z.2.2.1 Z.2.2.2.1 hbA hw.2.2.1 (lq_in hi hL (by decide) (by decide)) dL_law_1006 ?_
  refine lv_aload_n hx hb dL_law_1007 rfl (lv_at hl 4 rfl) ?_
  refine lv_iload hx hb dL_law_1008 (lv_at hl 0 rfl) ?_
  refine lv_iconst (v := 3) hx hb dL_law_1010 (by decide) ?_
  refine lv_iadd hx hb dL_law_1011 ?_
  refine va_sld (i := iv + 3) hx hb Z.2.2.1 Z.2.2.2.1 hbA hw.2.2.1 (lq_in hi hL (by decide) (by decide)) dL_law_1012 ?_
  refine lv_aload_n hx hb dL_law_1013 rfl (lv_at hl 4 rfl) ?_
  refine lv_iload hx hb dL_law_1014 (lv_at hl 0 rfl) ?_
  refine lv_iconst (v := 4) hx hb dL_law_1016 (by decide) ?_
  refine lv_iadd hx hb dL_law_1017 ?_
  refine va_sld (i := iv + 4) hx hb Z.2.2.1 Z.2.2.2.1 hbA hw.2.2.1 (lq_in hi hL (by decide) (by decide)) dL_law_1018 ?_
  refine lq_callMi (av := [.int (xs (iv + 1 : Int32).toNatClampNeg), .int (xs (iv + 2 : Int32).toNatClampNeg), .int (xs (iv + 3 : Int32).toNatClampNeg), .int (xs (iv + 4 : Int32).toNatClampNeg)]) C hA hw (f_X10_rest l D A2 cy hA.2.1 M2 hF2.1 hF2 (xs (iv + 1 : Int32).toNatClampNeg) (xs (iv + 2 : Int32).toNatClampNeg) (xs (iv + 3 : Int32).toNatClampNeg) (xs (iv + 4 : Int32).toNatClampNeg)) ⟨ml_L_123, ym_X10_rest, yv_X10_rest, yi_X10_rest, yc_X10_rest⟩ yd_X10_rest rfl rfl hl.1 (Nat.le_of_ble_eq_true rfl) ⟨by decide, by decide⟩ hcs dL_law_1019 (fun rM N2 H locs hpM hw => ?_)
  refine lv_pop hx hb dL_law_1022 rfl ?_
  refine lv_goto (tgt := 1521) hx hb dL_law_1023 (by decide) ?_
  exact kk N1 N2 H locs ls hw ⟨Tc, Tm, hpT.2.2.1, hpM.2.1, hpT.2.2.2.1.trans (hE0.trans (show tI N2 60 2 = tI M2 60 2 from hpM.2.2.1).symm), (fun i hi => hB0 i (by rw [← hpT.2.2.2.1]; exact hi)), (congrArg Int32.toInt (hpT.2.2.2.2.1 1 4 (by decide) (by decide))).trans hR.1, (congrArg Int32.toInt (hpT.2.2.2.2.1 1 5 (by decide) (by decide))).trans hR.2, hS1, hS2, rg, tdC_tl htd1 hpT.2.2.2.2, tdR_lw htd2 hpM.2.2.2, lE_obs hle hpT.1 hpT.2.1 hpM.1.1 (fun q => hpM.1.2.trans q) hpM.2.2.2⟩ hl
set_option maxRecDepth 100000 in
theorem lq_c23 {p : Program} {l : Launch} {e : Env} {s : State} {m : MethodId} {below : List Frame} {meth : Method} {c : Code} {D : va_G} {cy : Nat → ClassId} {A1 A2 : Nat → Nat → Nat} {M1 M2 : ti_M} {b q3 L cells slots : Nat} {iv : Int32} {xs : Nat → Int32} {H : Heap} {locs : List Loc} {ls : Array Slot} (Z : lq_Z p s m meth c D cy A1 A2 b L xs) (hcs : cells ≤ room_1.cells ∧ slots ≤ room_1.slots) (hw : lq_H s D cy A1 A2 q3 M1 M2 H locs) (hI : lq_I M1 M2) (hi : 0 ≤ iv.toInt ∧ iv.toInt + 6 ≤ L) (hl : lv_has ls 7 [(4, .int iv), (3, .ref q3), (2, .ref (A2 60 0)), (1, .ref (A1 0 0)), (0, .ref b)]) (kk : ∀ (M1 M2 : ti_M) (H : Heap) (locs : List Loc) (ls : Array Slot), lq_H s D cy A1 A2 q3 M1 M2 H locs → lq_I M1 M2 → lv_has ls 7 [(4, .int iv), (3, .ref q3), (2, .ref (A2 60 0)), (1, .ref (A1 0 0)), (0, .ref b)] → W p l e room_1 s m #[Value.ref b] below meth c H locs cells slots (lw_Z below #[Value.ref b] s) (F0 m 1521 ls [])) : W p l e room_1 s m #[Value.ref b] below meth c H locs cells slots (lw_Z below #[Value.ref b] s) (F0 m 1026 ls []) := by
  have C := Z.1
  have hA := Z.2.1
  have hx := C.1
  have hb := C.2.1
  have hbA : ¬ lq_F s b := Nat.not_le.mpr Z.2.2.2.1
  have hL := Z.2.2.2.2.2.2.1
  have hE := Z.2.2.2.2.2.2.2
  obtain ⟨Tc, Tm, hF1, hF2, hE0, hB0, hR1, hR2, hS1, hS2, rg, htd1, htd2, hle⟩ := hI
  have hR := And.intro hR1 hR2
  have hS := And.intro hS1 hS2
  refine lv_aload_n hx hb dL_law_1026 rfl (lv_at hl 3 rfl) ?_
  refine lv_aload_n hx hb dL_law_1027 rfl (lv_at hl 4 rfl) ?_
  refine lv_iload hx hb dL_law_1028 (lv_at hl 0 rfl) ?_
  refine lv_iconst (v := 1) hx hb dL_law_1030 (by decide) ?_
  refine lv_iadd hx hb dL_law_1031 ?_
  refine va_sld (i := iv + 1) hx hb Z.2.2.1 Z.2.2.2.1 hbA hw.2.2.1 (lq_in hi hL (by decide) (by decide)) dL_law_1032 ?_
  refine lv_aload_n hx hb dL_law_1033 rfl (lv_at hl 4 rfl) ?_
  refine lv_iload hx hb dL_law_1034 (lv_at hl 0 rfl) ?_
  refine lv_iconst (v := 2) hx hb dL_law_1036 (by decide) ?_
  refine lv_iadd hx hb dL_law_1037 ?_
  refine va_sld (i := iv + 2) hx hb Z.2.2.1 Z.2.2.2.1 hbA hw.2.2.1 (lq_in hi hL (by decide) (by decide)) dL_law_1038 ?_
  refine lv_aload_n hx hb dL_law_1039 rfl (lv_at hl 4 rfl) ?_
  refine lv_iload hx hb dL_law_1040 (lv_at hl 0 rfl) ?_
  refine lv_iconst (v := 3) hx hb dL_law_1042 (by decide) ?_
  refine lv_iadd hx hb dL_law_1043 ?_
  refine va_sld (i := iv + 3) hx hb Z.2.2.1 Z.2.2.2.1 hbA hw.2.2.1 (lq_in hi hL (by decide) (by decide)) dL_law_1044 ?_
  refine lv_aload_n hx hb dL_law_1045 rfl (lv_at hl 4 rfl) ?_
  refine lv_iload hx hb dL_law_1046 (lv_at hl 0 rfl) ?_
  refine lv_iconst (v := 4) hx hb dL_law_1048 (by decide) ?_
  refine lv_iadd hx hb dL_law_1049 ?_
  refine va_sld (i := iv + 4) hx hb Z.2.2.1 Z.2.2.2.1 hbA hw.2.2.1 (lq_in hi hL (by decide) (by decide)) dL_law_1050 ?_
  refine lq_callTi (av := [.int (xs (iv + 1 : Int32).toNatClampNeg), .int (xs (iv + 2 : Int32).toNatClampNeg), .int (xs (iv + 3 : Int32).toNatClampNeg), .int (xs (iv + 4 : Int32).toNatClampNeg)]) C hA hw (f_X9_best l D A1 cy hA.1 M1 hF1.1 hF1 (xs (iv + 1 : Int32).toNatClampNeg) (xs (iv + 2 : Int32).toNatClampNeg) (xs (iv + 3 : Int32).toNatClampNeg) (xs (iv + 4 : Int32).toNatClampNeg)) ⟨ml_L_124, ym_X9_best, yv_X9_best, yi_X9_best, yc_X9_best⟩ yd_X9_best rfl rfl hl.1 (Nat.le_of_ble_eq_true rfl) ⟨by decide, by decide⟩ hcs dL_law_1051 (fun rT N1 H locs hpT hw => ?_)
  refine lv_pop hx hb dL_law_1054 rfl ?_
  refine lv_aload_n hx hb dL_law_1055 rfl (lv_at hl 2 rfl) ?_
  refine lv_aload_n hx hb dL_law_1056 rfl (lv_at hl 4 rfl) ?_
  refine lv_iload hx hb dL_law_1057 (lv_at hl 0 rfl) ?_
  refine lv_iconst (v := 1) hx hb dL_law_1059 (by decide) ?_
  refine lv_iadd hx hb dL_law_1060 ?_
  refine va_sld (i := iv + 1) hx hb Z.2.2.1 Z.2.2.2.1 hbA hw.2.2.1 (lq_in hi hL (by decide) (by decide)) dL_law_1061 ?_
  refine lv_aload_n hx hb dL_law_1062 rfl (lv_at hl 4 rfl) ?_
  refine lv_iload hx hb dL_law_1063 (lv_at hl 0 rfl) ?_
  refine lv_iconst (v := 2) hx hb dL_law_1065 (by decide) ?_
  refine lv_iadd hx hb dL_law_1066 ?_
  refine va_sld (i := iv + 2) hx hb Z.2.2.1 Z.2.2.2.1 hbA hw.2.2.1 (lq_in hi hL (by decide) (by decide)) dL_law_1067 ?_
  refine lv_aload_n hx hb dL_law_1068 rfl (lv_at hl 4 rfl) ?_
  refine lv_iload hx hb dL_law_1069 (lv_at hl 0 rfl) ?_
  refine lv_iconst (v := 3) hx hb dL_law_1071 (by decide) ?_
  refine lv_iadd hx hb dL_law_1072 ?_
  refine va_sld (i := iv + 3) hx hb Z.2.2.1 Z.2.2.2.1 hbA hw.2.2.1 (lq_in hi hL (by decide) (by decide)) dL_law_1073 ?_
  refine lv_aload_n hx hb dL_law_1074 rfl (lv_at hl 4 rfl) ?_
  refine lv_iload hx hb dL_law_1075 (lv_at hl 0 rfl) ?_
  refine lv_iconst (v := 4) hx hb dL_law_1077 (by decide) ?_
  refine lv_iadd hx hb dL_law_1078 ?_
  refine va_sld (i := iv + 4) hx hb Z.2.2.1 Z.2.2.2.1 hbA hw.2.2.1 (lq_in hi hL (by decide) (by decide)) dL_law_1079 ?_
  refine lq_callMi (av := [.int (xs (iv + 1 : Int32).toNatClampNeg), .int (xs (iv + 2 : Int32).toNatClampNeg), .int (xs (iv + 3 : Int32).toNatClampNeg), .int (xs (iv + 4 : Int32).toNatClampNeg)]) C hA hw (f_X10_best l D A2 cy hA.2.1 M2 hF2.1 hF2 (xs (iv + 1 : Int32).toNatClampNeg) (xs (iv + 2 : Int32).toNatClampNeg) (xs (iv + 3 : Int32).toNatClampNeg) (xs (iv + 4 : Int32).toNatClampNeg)) ⟨ml_L_127, ym_X10_best, yv_X10_best, yi_X10_best, yc_X10_best⟩ yd_X10_best rfl rfl hl.1 (Nat.le_of_ble_eq_true rfl) ⟨by decide, by decide⟩ hcs dL_law_1080 (fun rM N2 H locs hpM hw => ?_)
  refine lv_pop hx hb dL_law_1083 rfl ?_
  refine lv_goto (tgt := 1521) hx hb dL_law_1084 (by decide) ?_
  exact kk N1 N2 H locs ls hw ⟨Tc, Tm, hpT.2.2.1, hpM.2.1, hpT.2.2.2.1.trans (hE0.trans (show tI N2 60 2 = tI M2 60 2 from hpM.2.2.1).symm), (fun i hi => hB0 i (by rw [← hpT.2.2.2.1]; exact hi)), (congrArg Int32.toInt (hpT.2.2.2.2.1 1 4 (by decide) (by decide))).trans hR.1, (congrArg Int32.toInt (hpT.2.2.2.2.1 1 5 (by decide) (by decide))).trans hR.2, hS1, hS2, rg, tdC_tl htd1 hpT.2.2.2.2, tdR_lw htd2 hpM.2.2.2, lE_obs hle hpT.1 hpT.2.1 hpM.1.1 (fun q => hpM.1.2.trans q) hpM.2.2.2⟩ hl
set_option maxRecDepth 100000 in
theorem lq_c24 {p : Program} {l : Launch} {e : Env} {s : State} {m : MethodId} {below : List Frame} {meth : Method} {c : Code} {D : va_G} {cy : Nat → ClassId} {A1 A2 : Nat → Nat → Nat} {M1 M2 : ti_M} {b q3 L cells slots : Nat} {iv : Int32} {xs : Nat → Int32} {H : Heap} {locs : List Loc} {ls : Array Slot} (Z : lq_Z p s m meth c D cy A1 A2 b L xs) (hcs : cells ≤ room_1.cells ∧ slots ≤ room_1.slots) (hw : lq_H s D cy A1 A2 q3 M1 M2 H locs) (hI : lq_I M1 M2) (hi : 0 ≤ iv.toInt ∧ iv.toInt + 6 ≤ L) (hl : lv_has ls 7 [(4, .int iv), (3, .ref q3), (2, .ref (A2 60 0)), (1, .ref (A1 0 0)), (0, .ref b)]) (kk : ∀ (M1 M2 : ti_M) (H : Heap) (locs : List Loc) (ls : Array Slot), lq_H s D cy A1 A2 q3 M1 M2 H locs → lq_I M1 M2 → lv_has ls 7 [(4, .int iv), (3, .ref q3), (2, .ref (A2 60 0)), (1, .ref (A1 0 0)), (0, .ref b)] → W p l e room_1 s m #[Value.ref b] below meth c H locs cells slots (lw_Z below #[Value.ref b] s) (F0 m 1521 ls [])) : W p l e room_1 s m #[Value.ref b] below meth c H locs cells slots (lw_Z below #[Value.ref b] s) (F0 m 1087 ls []) := by
  have C := Z.1
  have hA := Z.2.1
  have hx := C.1
  have hb := C.2.1
  have hbA : ¬ lq_F s b := Nat.not_le.mpr Z.2.2.2.1
  have hL := Z.2.2.2.2.2.2.1
  have hE := Z.2.2.2.2.2.2.2
  obtain ⟨Tc, Tm, hF1, hF2, hE0, hB0, hR1, hR2, hS1, hS2, rg, htd1, htd2, hle⟩ := hI
  have hR := And.intro hR1 hR2
  have hS := And.intro hS1 hS2
  refine lv_aload_n hx hb dL_law_1087 rfl (lv_at hl 3 rfl) ?_
  refine lv_aload_n hx hb dL_law_1088 rfl (lv_at hl 4 rfl) ?_
  refine lv_iload hx hb dL_law_1089 (lv_at hl 0 rfl) ?_
  refine lv_iconst (v := 1) hx hb dL_law_1091 (by decide) ?_
  refine lv_iadd hx hb dL_law_1092 ?_
  refine va_sld (i := iv + 1) hx hb Z.2.2.1 Z.2.2.2.1 hbA hw.2.2.1 (lq_in hi hL (by decide) (by decide)) dL_law_1093 ?_
  refine lv_aload_n hx hb dL_law_1094 rfl (lv_at hl 4 rfl) ?_
  refine lv_iload hx hb dL_law_1095 (lv_at hl 0 rfl) ?_
  refine lv_iconst (v := 2) hx hb dL_law_1097 (by decide) ?_
  refine lv_iadd hx hb dL_law_1098 ?_
  refine va_sld (i := iv + 2) hx hb Z.2.2.1 Z.2.2.2.1 hbA hw.2.2.1 (lq_in hi hL (by decide) (by decide)) dL_law_1099 ?_
  refine lv_aload_n hx hb dL_law_1100 rfl (lv_at hl 4 rfl) ?_
  refine lv_iload hx hb dL_law_1101 (lv_at hl 0 rfl) ?_
  refine lv_iconst (v := 3) hx hb dL_law_1103 (by decide) ?_
  refine lv_iadd hx hb dL_law_1104 ?_
  refine va_sld (i := iv + 3) hx hb Z.2.2.1 Z.2.2.2.1 hbA hw.2.2.1 (lq_in hi hL (by decide) (by decide)) dL_law_1105 ?_
  refine lq_callTi (av := [.int (xs (iv + 1 : Int32).toNatClampNeg), .int (xs (iv + 2 : Int32).toNatClampNeg), .int (xs (iv + 3 : Int32).toNatClampNeg)]) C hA hw (f_X9_fairest l D A1 cy hA.1 M1 hF1.1 hF1 (xs (iv + 1 : Int32).toNatClampNeg) (xs (iv + 2 : Int32).toNatClampNeg) (xs (iv + 3 : Int32).toNatClampNeg)) ⟨ml_L_128, ym_X9_fairest, yv_X9_fairest, yi_X9_fairest, yc_X9_fairest⟩ yd_X9_fairest rfl rfl hl.1 (Nat.le_of_ble_eq_true rfl) ⟨by decide, by decide⟩ hcs dL_law_1106 (fun rT N1 H locs hpT hw => ?_)
  refine lv_pop hx hb dL_law_1109 rfl ?_
  refine lv_aload_n hx hb dL_law_1110 rfl (lv_at hl 2 rfl) ?_
  refine lv_aload_n hx hb dL_law_1111 rfl (lv_at hl 4 rfl) ?_
  refine lv_iload hx hb dL_law_1112 (lv_at hl 0 rfl) ?_
  refine lv_iconst (v := 1) hx hb dL_law_1114 (by decide) ?_
  refine lv_iadd hx hb dL_law_1115 ?_
  refine va_sld (i := iv + 1) hx hb Z.2.2.1 Z.2.2.2.1 hbA hw.2.2.1 (lq_in hi hL (by decide) (by decide)) dL_law_1116 ?_
  refine lv_aload_n hx hb dL_law_1117 rfl (lv_at hl 4 rfl) ?_
  refine lv_iload hx hb dL_law_1118 (lv_at hl 0 rfl) ?_
  refine lv_iconst (v := 2) hx hb dL_law_1120 (by decide) ?_
  refine lv_iadd hx hb dL_law_1121 ?_
  refine va_sld (i := iv + 2) hx hb Z.2.2.1 Z.2.2.2.1 hbA hw.2.2.1 (lq_in hi hL (by decide) (by decide)) dL_law_1122 ?_
  refine lv_aload_n hx hb dL_law_1123 rfl (lv_at hl 4 rfl) ?_
  refine lv_iload hx hb dL_law_1124 (lv_at hl 0 rfl) ?_
  refine lv_iconst (v := 3) hx hb dL_law_1126 (by decide) ?_
  refine lv_iadd hx hb dL_law_1127 ?_
  refine va_sld (i := iv + 3) hx hb Z.2.2.1 Z.2.2.2.1 hbA hw.2.2.1 (lq_in hi hL (by decide) (by decide)) dL_law_1128 ?_
  refine lq_callMi (av := [.int (xs (iv + 1 : Int32).toNatClampNeg), .int (xs (iv + 2 : Int32).toNatClampNeg), .int (xs (iv + 3 : Int32).toNatClampNeg)]) C hA hw (f_X10_fairest l D A2 cy hA.2.1 M2 hF2.1 hF2 (xs (iv + 1 : Int32).toNatClampNeg) (xs (iv + 2 : Int32).toNatClampNeg) (xs (iv + 3 : Int32).toNatClampNeg)) ⟨ml_L_131, ym_X10_fairest, yv_X10_fairest, yi_X10_fairest, yc_X10_fairest⟩ yd_X10_fairest rfl rfl hl.1 (Nat.le_of_ble_eq_true rfl) ⟨by decide, by decide⟩ hcs dL_law_1129 (fun rM N2 H locs hpM hw => ?_)
  refine lv_pop hx hb dL_law_1132 rfl ?_
  refine lv_goto (tgt := 1521) hx hb dL_law_1133 (by decide) ?_
  exact kk N1 N2 H locs ls hw ⟨Tc, Tm, hpT.2.2.1, hpM.2.1, hpT.2.2.2.1.trans (hE0.trans (show tI N2 60 2 = tI M2 60 2 from hpM.2.2.1).symm), (fun i hi => hB0 i (by rw [← hpT.2.2.2.1]; exact hi)), (congrArg Int32.toInt (hpT.2.2.2.2.1 1 4 (by decide) (by decide))).trans hR.1, (congrArg Int32.toInt (hpT.2.2.2.2.1 1 5 (by decide) (by decide))).trans hR.2, hS1, hS2, rg, tdC_tl htd1 hpT.2.2.2.2, tdR_lw htd2 hpM.2.2.2, lE_obs hle hpT.1 hpT.2.1 hpM.1.1 (fun q => hpM.1.2.trans q) hpM.2.2.2⟩ hl
set_option maxRecDepth 100000 in
theorem lq_c25 {p : Program} {l : Launch} {e : Env} {s : State} {m : MethodId} {below : List Frame} {meth : Method} {c : Code} {D : va_G} {cy : Nat → ClassId} {A1 A2 : Nat → Nat → Nat} {M1 M2 : ti_M} {b q3 L cells slots : Nat} {iv : Int32} {xs : Nat → Int32} {H : Heap} {locs : List Loc} {ls : Array Slot} (Z : lq_Z p s m meth c D cy A1 A2 b L xs) (hcs : cells ≤ room_1.cells ∧ slots ≤ room_1.slots) (hw : lq_H s D cy A1 A2 q3 M1 M2 H locs) (hI : lq_I M1 M2) (hi : 0 ≤ iv.toInt ∧ iv.toInt + 6 ≤ L) (hl : lv_has ls 7 [(4, .int iv), (3, .ref q3), (2, .ref (A2 60 0)), (1, .ref (A1 0 0)), (0, .ref b)]) (kk : ∀ (M1 M2 : ti_M) (H : Heap) (locs : List Loc) (ls : Array Slot), lq_H s D cy A1 A2 q3 M1 M2 H locs → lq_I M1 M2 → lv_has ls 7 [(4, .int iv), (3, .ref q3), (2, .ref (A2 60 0)), (1, .ref (A1 0 0)), (0, .ref b)] → W p l e room_1 s m #[Value.ref b] below meth c H locs cells slots (lw_Z below #[Value.ref b] s) (F0 m 1521 ls [])) : W p l e room_1 s m #[Value.ref b] below meth c H locs cells slots (lw_Z below #[Value.ref b] s) (F0 m 1136 ls []) := by
  have C := Z.1
  have hA := Z.2.1
  have hx := C.1
  have hb := C.2.1
  have hbA : ¬ lq_F s b := Nat.not_le.mpr Z.2.2.2.1
  have hL := Z.2.2.2.2.2.2.1
  have hE := Z.2.2.2.2.2.2.2
  obtain ⟨Tc, Tm, hF1, hF2, hE0, hB0, hR1, hR2, hS1, hS2, rg, htd1, htd2, hle⟩ := hI
  have hR := And.intro hR1 hR2
  have hS := And.intro hS1 hS2
  refine lv_aload_n hx hb dL_law_1136 rfl (lv_at hl 3 rfl) ?_
  refine lv_aload_n hx hb dL_law_1137 rfl (lv_at hl 4 rfl) ?_
  refine lv_iload hx hb dL_law_1138 (lv_at hl 0 rfl) ?_
  refine lv_iconst (v := 1) hx hb dL_law_1140 (by decide) ?_
  refine lv_iadd hx hb dL_law_1141 ?_
  refine va_sld (i := iv + 1) hx hb Z.2.2.1 Z.2.2.2.1 hbA hw.2.2.1 (lq_in hi hL (by decide) (by decide)) dL_law_1142 ?_
  refine lv_aload_n hx hb dL_law_1143 rfl (lv_at hl 4 rfl) ?_
  refine lv_iload hx hb dL_law_1144 (lv_at hl 0 rfl) ?_
  refine lv_iconst (v := 2) hx hb dL_law_1146 (by decide) ?_
  refine lv_iadd hx hb dL_law_1147 ?_
  refine va_sld (i := iv + 2) hx hb Z.2.2.1 Z.2.2.2.1 hbA hw.2.2.1 (lq_in hi hL (by decide) (by decide)) dL_law_1148 ?_
  refine lq_callTi (av := [.int (xs (iv + 1 : Int32).toNatClampNeg), .int (xs (iv + 2 : Int32).toNatClampNeg)]) C hA hw (f_X9_gain l D A1 cy hA.1 M1 hF1.1 hF1 (xs (iv + 1 : Int32).toNatClampNeg) (xs (iv + 2 : Int32).toNatClampNeg)) ⟨ml_L_132, ym_X9_gain, yv_X9_gain, yi_X9_gain, yc_X9_gain⟩ yd_X9_gain rfl rfl hl.1 (Nat.le_of_ble_eq_true rfl) ⟨by decide, by decide⟩ hcs dL_law_1149 (fun rT N1 H locs hpT hw => ?_)
  refine lv_pop hx hb dL_law_1152 rfl ?_
  refine lv_aload_n hx hb dL_law_1153 rfl (lv_at hl 2 rfl) ?_
  refine lv_aload_n hx hb dL_law_1154 rfl (lv_at hl 4 rfl) ?_
  refine lv_iload hx hb dL_law_1155 (lv_at hl 0 rfl) ?_
  refine lv_iconst (v := 1) hx hb dL_law_1157 (by decide) ?_
  refine lv_iadd hx hb dL_law_1158 ?_
  refine va_sld (i := iv + 1) hx hb Z.2.2.1 Z.2.2.2.1 hbA hw.2.2.1 (lq_in hi hL (by decide) (by decide)) dL_law_1159 ?_
  refine lv_aload_n hx hb dL_law_1160 rfl (lv_at hl 4 rfl) ?_
  refine lv_iload hx hb dL_law_1161 (lv_at hl 0 rfl) ?_
  refine lv_iconst (v := 2) hx hb dL_law_1163 (by decide) ?_
  refine lv_iadd hx hb dL_law_1164 ?_
  refine va_sld (i := iv + 2) hx hb Z.2.2.1 Z.2.2.2.1 hbA hw.2.2.1 (lq_in hi hL (by decide) (by decide)) dL_law_1165 ?_
  refine lq_callMi (av := [.int (xs (iv + 1 : Int32).toNatClampNeg), .int (xs (iv + 2 : Int32).toNatClampNeg)]) C hA hw (f_X10_gain l D A2 cy hA.2.1 M2 hF2.1 hF2 (xs (iv + 1 : Int32).toNatClampNeg) (xs (iv + 2 : Int32).toNatClampNeg)) ⟨ml_L_135, ym_X10_gain, yv_X10_gain, yi_X10_gain, yc_X10_gain⟩ yd_X10_gain rfl rfl hl.1 (Nat.le_of_ble_eq_true rfl) ⟨by decide, by decide⟩ hcs dL_law_1166 (fun rM N2 H locs hpM hw => ?_)
  refine lv_pop hx hb dL_law_1169 rfl ?_
  refine lv_goto (tgt := 1521) hx hb dL_law_1170 (by decide) ?_
  exact kk N1 N2 H locs ls hw ⟨Tc, Tm, hpT.2.2.1, hpM.2.1, hpT.2.2.2.1.trans (hE0.trans (show tI N2 60 2 = tI M2 60 2 from hpM.2.2.1).symm), (fun i hi => hB0 i (by rw [← hpT.2.2.2.1]; exact hi)), (congrArg Int32.toInt (hpT.2.2.2.2.1 1 4 (by decide) (by decide))).trans hR.1, (congrArg Int32.toInt (hpT.2.2.2.2.1 1 5 (by decide) (by decide))).trans hR.2, hS1, hS2, rg, tdC_tl htd1 hpT.2.2.2.2, tdR_lw htd2 hpM.2.2.2, lE_obs hle hpT.1 hpT.2.1 hpM.1.1 (fun q => hpM.1.2.trans q) hpM.2.2.2⟩ hl
set_option maxRecDepth 100000 in
theorem lq_c26 {p : Program} {l : Launch} {e : Env} {s : State} {m : MethodId} {below : List Frame} {meth : Method} {c : Code} {D : va_G} {cy : Nat → ClassId} {A1 A2 : Nat → Nat → Nat} {M1 M2 : ti_M} {b q3 L cells slots : Nat} {iv : Int32} {xs : Nat → Int32} {H : Heap} {locs : List Loc} {ls : Array Slot} (Z : lq_Z p s m meth c D cy A1 A2 b L xs) (hcs : cells ≤ room_1.cells ∧ slots ≤ room_1.slots) (hw : lq_H s D cy A1 A2 q3 M1 M2 H locs) (hI : lq_I M1 M2) (hi : 0 ≤ iv.toInt ∧ iv.toInt + 6 ≤ L) (hl : lv_has ls 7 [(4, .int iv), (3, .ref q3), (2, .ref (A2 60 0)), (1, .ref (A1 0 0)), (0, .ref b)]) (kk : ∀ (M1 M2 : ti_M) (H : Heap) (locs : List Loc) (ls : Array Slot), lq_H s D cy A1 A2 q3 M1 M2 H locs → lq_I M1 M2 → lv_has ls 7 [(4, .int iv), (3, .ref q3), (2, .ref (A2 60 0)), (1, .ref (A1 0 0)), (0, .ref b)] → W p l e room_1 s m #[Value.ref b] below meth c H locs cells slots (lw_Z below #[Value.ref b] s) (F0 m 1521 ls [])) : W p l e room_1 s m #[Value.ref b] below meth c H locs cells slots (lw_Z below #[Value.ref b] s) (F0 m 1173 ls []) := by
  have C := Z.1
  have hA := Z.2.1
  have hx := C.1
  have hb := C.2.1
  have hbA : ¬ lq_F s b := Nat.not_le.mpr Z.2.2.2.1
  have hL := Z.2.2.2.2.2.2.1
  have hE := Z.2.2.2.2.2.2.2
  obtain ⟨Tc, Tm, hF1, hF2, hE0, hB0, hR1, hR2, hS1, hS2, rg, htd1, htd2, hle⟩ := hI
  have hR := And.intro hR1 hR2
  have hS := And.intro hS1 hS2
  refine lv_aload_n hx hb dL_law_1173 rfl (lv_at hl 3 rfl) ?_
  refine lv_aload_n hx hb dL_law_1174 rfl (lv_at hl 4 rfl) ?_
  refine lv_iload hx hb dL_law_1175 (lv_at hl 0 rfl) ?_
  refine lv_iconst (v := 1) hx hb dL_law_1177 (by decide) ?_
  refine lv_iadd hx hb dL_law_1178 ?_
  refine va_sld (i := iv + 1) hx hb Z.2.2.1 Z.2.2.2.1 hbA hw.2.2.1 (lq_in hi hL (by decide) (by decide)) dL_law_1179 ?_
  refine lv_aload_n hx hb dL_law_1180 rfl (lv_at hl 4 rfl) ?_
  refine lv_iload hx hb dL_law_1181 (lv_at hl 0 rfl) ?_
  refine lv_iconst (v := 2) hx hb dL_law_1183 (by decide) ?_
  refine lv_iadd hx hb dL_law_1184 ?_
  refine va_sld (i := iv + 2) hx hb Z.2.2.1 Z.2.2.2.1 hbA hw.2.2.1 (lq_in hi hL (by decide) (by decide)) dL_law_1185 ?_
  refine lv_aload_n hx hb dL_law_1186 rfl (lv_at hl 4 rfl) ?_
  refine lv_iload hx hb dL_law_1187 (lv_at hl 0 rfl) ?_
  refine lv_iconst (v := 3) hx hb dL_law_1189 (by decide) ?_
  refine lv_iadd hx hb dL_law_1190 ?_
  refine va_sld (i := iv + 3) hx hb Z.2.2.1 Z.2.2.2.1 hbA hw.2.2.1 (lq_in hi hL (by decide) (by decide)) dL_law_1191 ?_
  refine lq_callTi (av := [.int (xs (iv + 1 : Int32).toNatClampNeg), .int (xs (iv + 2 : Int32).toNatClampNeg), .int (xs (iv + 3 : Int32).toNatClampNeg)]) C hA hw (w_X9_stone l D A1 cy hA.1 M1 hF1.1 hF1 (xs (iv + 1 : Int32).toNatClampNeg) (xs (iv + 2 : Int32).toNatClampNeg) (xs (iv + 3 : Int32).toNatClampNeg) rg htd1) ⟨ml_L_136, ym_X9_stone, yv_X9_stone, yi_X9_stone, yc_X9_stone⟩ yd_X9_stone rfl rfl hl.1 (Nat.le_of_ble_eq_true rfl) ⟨by decide, by decide⟩ hcs dL_law_1192 (fun rT N1 H locs hpT hw => ?_)
  refine lv_pop hx hb dL_law_1195 rfl ?_
  refine lv_aload_n hx hb dL_law_1196 rfl (lv_at hl 2 rfl) ?_
  refine lv_aload_n hx hb dL_law_1197 rfl (lv_at hl 4 rfl) ?_
  refine lv_iload hx hb dL_law_1198 (lv_at hl 0 rfl) ?_
  refine lv_iconst (v := 1) hx hb dL_law_1200 (by decide) ?_
  refine lv_iadd hx hb dL_law_1201 ?_
  refine va_sld (i := iv + 1) hx hb Z.2.2.1 Z.2.2.2.1 hbA hw.2.2.1 (lq_in hi hL (by decide) (by decide)) dL_law_1202 ?_
  refine lv_aload_n hx hb dL_law_1203 rfl (lv_at hl 4 rfl) ?_
  refine lv_iload hx hb dL_law_1204 (lv_at hl 0 rfl) ?_
  refine lv_iconst (v := 2) hx hb dL_law_1206 (by decide) ?_
  refine lv_iadd hx hb dL_law_1207 ?_
  refine va_sld (i := iv + 2) hx hb Z.2.2.1 Z.2.2.2.1 hbA hw.2.2.1 (lq_in hi hL (by decide) (by decide)) dL_law_1208 ?_
  refine lv_aload_n hx hb dL_law_1209 rfl (lv_at hl 4 rfl) ?_
  refine lv_iload hx hb dL_law_1210 (lv_at hl 0 rfl) ?_
  refine lv_iconst (v := 3) hx hb dL_law_1212 (by decide) ?_
  refine lv_iadd hx hb dL_law_1213 ?_
  refine va_sld (i := iv + 3) hx hb Z.2.2.1 Z.2.2.2.1 hbA hw.2.2.1 (lq_in hi hL (by decide) (by decide)) dL_law_1214 ?_
  refine lq_callMi (av := [.int (xs (iv + 1 : Int32).toNatClampNeg), .int (xs (iv + 2 : Int32).toNatClampNeg), .int (xs (iv + 3 : Int32).toNatClampNeg)]) C hA hw (w_X10_stone l D A2 cy hA.2.1 M2 hF2.1 hF2 (xs (iv + 1 : Int32).toNatClampNeg) (xs (iv + 2 : Int32).toNatClampNeg) (xs (iv + 3 : Int32).toNatClampNeg) rg htd2) ⟨ml_L_139, ym_X10_stone, yv_X10_stone, yi_X10_stone, yc_X10_stone⟩ yd_X10_stone rfl rfl hl.1 (Nat.le_of_ble_eq_true rfl) ⟨by decide, by decide⟩ hcs dL_law_1215 (fun rM N2 H locs hpM hw => ?_)
  refine lv_pop hx hb dL_law_1218 rfl ?_
  have hC5 : (tI M1 50 5).toInt = (tI M2 60 58).toInt := (congrArg (fun t => Int32.toInt t.2.1) hF1.1.2.2).trans (hS1.trans (congrArg (fun t => Int32.toInt t.2.2.2.1) hF2.1.2.2.2).symm)
  have hC6 : (tI M1 50 6).toInt = (tI M2 60 59).toInt := (congrArg (fun t => Int32.toInt t.2.2.1) hF1.1.2.2).trans (hS2.trans (congrArg (fun t => Int32.toInt t.2.2.2.2.1) hF2.1.2.2.2).symm)
  have q := lq_st hF1 hF2 hE0 hB0 hR hS htd1 htd2 (by rw [hC5]) (fun g o w => ⟨hC5, g.2.2.1.trans ((congrArg (· + 1) hC5).trans o.2.1.symm), (congrArg Int32.toInt g.2.2.2).trans (hC6.trans (congrArg Int32.toInt o.2.2).symm), lE_eo hle g.1 (Or.inr rfl) g.2.1 o.1 w⟩) hle hpT hpM
  refine lv_goto (tgt := 1521) hx hb dL_law_1219 (by decide) ?_
  exact kk N1 N2 H locs ls hw q.2 hl
set_option maxRecDepth 100000 in
theorem lq_c27 {p : Program} {l : Launch} {e : Env} {s : State} {m : MethodId} {below : List Frame} {meth : Method} {c : Code} {D : va_G} {cy : Nat → ClassId} {A1 A2 : Nat → Nat → Nat} {M1 M2 : ti_M} {b q3 L cells slots : Nat} {iv : Int32} {xs : Nat → Int32} {H : Heap} {locs : List Loc} {ls : Array Slot} (Z : lq_Z p s m meth c D cy A1 A2 b L xs) (hcs : cells ≤ room_1.cells ∧ slots ≤ room_1.slots) (hw : lq_H s D cy A1 A2 q3 M1 M2 H locs) (hI : lq_I M1 M2) (hi : 0 ≤ iv.toInt ∧ iv.toInt + 6 ≤ L) (hl : lv_has ls 7 [(4, .int iv), (3, .ref q3), (2, .ref (A2 60 0)), (1, .ref (A1 0 0)), (0, .ref b)]) (kk : ∀ (M1 M2 : ti_M) (H : Heap) (locs : List Loc) (ls : Array Slot), lq_H s D cy A1 A2 q3 M1 M2 H locs → lq_I M1 M2 → lv_has ls 7 [(4, .int iv), (3, .ref q3), (2, .ref (A2 60 0)), (1, .ref (A1 0 0)), (0, .ref b)] → W p l e room_1 s m #[Value.ref b] below meth c H locs cells slots (lw_Z below #[Value.ref b] s) (F0 m 1521 ls [])) : W p l e room_1 s m #[Value.ref b] below meth c H locs cells slots (lw_Z below #[Value.ref b] s) (F0 m 1222 ls []) := by
  have C := Z.1
  have hA := Z.2.1
  have hx := C.1
  have hb := C.2.1
  have hbA : ¬ lq_F s b := Nat.not_le.mpr Z.2.2.2.1
  have hL := Z.2.2.2.2.2.2.1
  have hE := Z.2.2.2.2.2.2.2
  obtain ⟨Tc, Tm, hF1, hF2, hE0, hB0, hR1, hR2, hS1, hS2, rg, htd1, htd2, hle⟩ := hI
  have hR := And.intro hR1 hR2
  have hS := And.intro hS1 hS2
  refine lv_aload_n hx hb dL_law_1222 rfl (lv_at hl 3 rfl) ?_
  refine lv_aload_n hx hb dL_law_1223 rfl (lv_at hl 4 rfl) ?_
  refine lv_iload hx hb dL_law_1224 (lv_at hl 0 rfl) ?_
  refine lv_iconst (v := 1) hx hb dL_law_1226 (by decide) ?_
  refine lv_iadd hx hb dL_law_1227 ?_
  refine va_sld (i := iv + 1) hx hb Z.2.2.1 Z.2.2.2.1 hbA hw.2.2.1 (lq_in hi hL (by decide) (by decide)) dL_law_1228 ?_
  refine lq_callTi (av := [.int (xs (iv + 1 : Int32).toNatClampNeg)]) C hA hw (w_X9_strike l D A1 cy hA.1 M1 hF1.1 hF1 (xs (iv + 1 : Int32).toNatClampNeg) rg htd1) ⟨ml_L_140, ym_X9_strike, yv_X9_strike, yi_X9_strike, yc_X9_strike⟩ yd_X9_strike rfl rfl hl.1 (Nat.le_of_ble_eq_true rfl) ⟨by decide, by decide⟩ hcs dL_law_1229 (fun rT N1 H locs hpT hw => ?_)
  refine lv_pop hx hb dL_law_1232 rfl ?_
  refine lv_aload_n hx hb dL_law_1233 rfl (lv_at hl 2 rfl) ?_
  refine lv_aload_n hx hb dL_law_1234 rfl (lv_at hl 4 rfl) ?_
  refine lv_iload hx hb dL_law_1235 (lv_at hl 0 rfl) ?_
  refine lv_iconst (v := 1) hx hb dL_law_1237 (by decide) ?_
  refine lv_iadd hx hb dL_law_1238 ?_
  refine va_sld (i := iv + 1) hx hb Z.2.2.1 Z.2.2.2.1 hbA hw.2.2.1 (lq_in hi hL (by decide) (by decide)) dL_law_1239 ?_
  refine lq_callMi (av := [.int (xs (iv + 1 : Int32).toNatClampNeg)]) C hA hw (w_X10_strike l D A2 cy hA.2.1 M2 hF2.1 hF2 (xs (iv + 1 : Int32).toNatClampNeg) rg htd2) ⟨ml_L_143, ym_X10_strike, yv_X10_strike, yi_X10_strike, yc_X10_strike⟩ yd_X10_strike rfl rfl hl.1 (Nat.le_of_ble_eq_true rfl) ⟨by decide, by decide⟩ hcs dL_law_1240 (fun rM N2 H locs hpM hw => ?_)
  refine lv_pop hx hb dL_law_1243 rfl ?_
  have hC5 : (tI M1 50 5).toInt = (tI M2 60 58).toInt := (congrArg (fun t => Int32.toInt t.2.1) hF1.1.2.2).trans (hS1.trans (congrArg (fun t => Int32.toInt t.2.2.2.1) hF2.1.2.2.2).symm)
  have hC6 : (tI M1 50 6).toInt = (tI M2 60 59).toInt := (congrArg (fun t => Int32.toInt t.2.2.1) hF1.1.2.2).trans (hS2.trans (congrArg (fun t => Int32.toInt t.2.2.2.2.1) hF2.1.2.2.2).symm)
  have q := lq_st hF1 hF2 hE0 hB0 hR hS htd1 htd2 (by rw [hC5]) (fun g o w => ⟨hC5, g.2.2.1.trans ((congrArg (· + 1) hC5).trans o.2.1.symm), (congrArg Int32.toInt g.2.2.2).trans (hC6.trans (congrArg Int32.toInt o.2.2).symm), lE_eo hle g.1 (Or.inr rfl) g.2.1 o.1 w⟩) hle hpT hpM
  refine lv_goto (tgt := 1521) hx hb dL_law_1244 (by decide) ?_
  exact kk N1 N2 H locs ls hw q.2 hl
set_option maxRecDepth 100000 in
theorem lq_c28 {p : Program} {l : Launch} {e : Env} {s : State} {m : MethodId} {below : List Frame} {meth : Method} {c : Code} {D : va_G} {cy : Nat → ClassId} {A1 A2 : Nat → Nat → Nat} {M1 M2 : ti_M} {b q3 L cells slots : Nat} {iv : Int32} {xs : Nat → Int32} {H : Heap} {locs : List Loc} {ls : Array Slot} (Z : lq_Z p s m meth c D cy A1 A2 b L xs) (hcs : cells ≤ room_1.cells ∧ slots ≤ room_1.slots) (hw : lq_H s D cy A1 A2 q3 M1 M2 H locs) (hI : lq_I M1 M2) (hi : 0 ≤ iv.toInt ∧ iv.toInt + 6 ≤ L) (hl : lv_has ls 7 [(4, .int iv), (3, .ref q3), (2, .ref (A2 60 0)), (1, .ref (A1 0 0)), (0, .ref b)]) (kk : ∀ (M1 M2 : ti_M) (H : Heap) (locs : List Loc) (ls : Array Slot), lq_H s D cy A1 A2 q3 M1 M2 H locs → lq_I M1 M2 → lv_has ls 7 [(4, .int iv), (3, .ref q3), (2, .ref (A2 60 0)), (1, .ref (A1 0 0)), (0, .ref b)] → W p l e room_1 s m #[Value.ref b] below meth c H locs cells slots (lw_Z below #[Value.ref b] s) (F0 m 1521 ls [])) : W p l e room_1 s m #[Value.ref b] below meth c H locs cells slots (lw_Z below #[Value.ref b] s) (F0 m 1247 ls []) := by
  have C := Z.1
  have hA := Z.2.1
  have hx := C.1
  have hb := C.2.1
  have hbA : ¬ lq_F s b := Nat.not_le.mpr Z.2.2.2.1
  have hL := Z.2.2.2.2.2.2.1
  have hE := Z.2.2.2.2.2.2.2
  obtain ⟨Tc, Tm, hF1, hF2, hE0, hB0, hR1, hR2, hS1, hS2, rg, htd1, htd2, hle⟩ := hI
  have hR := And.intro hR1 hR2
  have hS := And.intro hS1 hS2
  refine lv_aload_n hx hb dL_law_1247 rfl (lv_at hl 3 rfl) ?_
  refine lv_aload_n hx hb dL_law_1248 rfl (lv_at hl 4 rfl) ?_
  refine lv_iload hx hb dL_law_1249 (lv_at hl 0 rfl) ?_
  refine lv_iconst (v := 1) hx hb dL_law_1251 (by decide) ?_
  refine lv_iadd hx hb dL_law_1252 ?_
  refine va_sld (i := iv + 1) hx hb Z.2.2.1 Z.2.2.2.1 hbA hw.2.2.1 (lq_in hi hL (by decide) (by decide)) dL_law_1253 ?_
  refine lq_callTi (av := [.int (xs (iv + 1 : Int32).toNatClampNeg)]) C hA hw (w_X9_known l D A1 cy hA.1 M1 hF1.1 hF1 (xs (iv + 1 : Int32).toNatClampNeg) rg htd1) ⟨ml_L_144, ym_X9_known, yv_X9_known, yi_X9_known, yc_X9_known⟩ yd_X9_known rfl rfl hl.1 (Nat.le_of_ble_eq_true rfl) ⟨by decide, by decide⟩ hcs dL_law_1254 (fun rT N1 H locs hpT hw => ?_)
  refine lv_pop hx hb dL_law_1257 rfl ?_
  refine lv_aload_n hx hb dL_law_1258 rfl (lv_at hl 2 rfl) ?_
  refine lv_aload_n hx hb dL_law_1259 rfl (lv_at hl 4 rfl) ?_
  refine lv_iload hx hb dL_law_1260 (lv_at hl 0 rfl) ?_
  refine lv_iconst (v := 1) hx hb dL_law_1262 (by decide) ?_
  refine lv_iadd hx hb dL_law_1263 ?_
  refine va_sld (i := iv + 1) hx hb Z.2.2.1 Z.2.2.2.1 hbA hw.2.2.1 (lq_in hi hL (by decide) (by decide)) dL_law_1264 ?_
  refine lq_callMi (av := [.int (xs (iv + 1 : Int32).toNatClampNeg)]) C hA hw (w_X10_known l D A2 cy hA.2.1 M2 hF2.1 hF2 (xs (iv + 1 : Int32).toNatClampNeg) rg htd2) ⟨ml_L_147, ym_X10_known, yv_X10_known, yi_X10_known, yc_X10_known⟩ yd_X10_known rfl rfl hl.1 (Nat.le_of_ble_eq_true rfl) ⟨by decide, by decide⟩ hcs dL_law_1265 (fun rM N2 H locs hpM hw => ?_)
  refine lv_pop hx hb dL_law_1268 rfl ?_
  have hC5 : (tI M1 50 5).toInt = (tI M2 60 58).toInt := (congrArg (fun t => Int32.toInt t.2.1) hF1.1.2.2).trans (hS1.trans (congrArg (fun t => Int32.toInt t.2.2.2.1) hF2.1.2.2.2).symm)
  have hC6 : (tI M1 50 6).toInt = (tI M2 60 59).toInt := (congrArg (fun t => Int32.toInt t.2.2.1) hF1.1.2.2).trans (hS2.trans (congrArg (fun t => Int32.toInt t.2.2.2.2.1) hF2.1.2.2.2).symm)
  have q := lq_st hF1 hF2 hE0 hB0 hR hS htd1 htd2 (by rw [hC5]) (fun g o w => ⟨rfl, (congrArg Int32.toInt g.2.2.1).trans (hC5.trans (congrArg Int32.toInt o.2.1).symm), congrArg Int32.toInt (g.2.2.2.trans o.2.2.symm), lE_eo hle g.1 (Or.inr rfl) g.2.1 o.1 w⟩) hle hpT hpM
  refine lv_goto (tgt := 1521) hx hb dL_law_1269 (by decide) ?_
  exact kk N1 N2 H locs ls hw q.2 hl
set_option maxRecDepth 100000 in
theorem lq_c29 {p : Program} {l : Launch} {e : Env} {s : State} {m : MethodId} {below : List Frame} {meth : Method} {c : Code} {D : va_G} {cy : Nat → ClassId} {A1 A2 : Nat → Nat → Nat} {M1 M2 : ti_M} {b q3 L cells slots : Nat} {iv : Int32} {xs : Nat → Int32} {H : Heap} {locs : List Loc} {ls : Array Slot} (Z : lq_Z p s m meth c D cy A1 A2 b L xs) (hcs : cells ≤ room_1.cells ∧ slots ≤ room_1.slots) (hw : lq_H s D cy A1 A2 q3 M1 M2 H locs) (hI : lq_I M1 M2) (hi : 0 ≤ iv.toInt ∧ iv.toInt + 6 ≤ L) (hl : lv_has ls 7 [(4, .int iv), (3, .ref q3), (2, .ref (A2 60 0)), (1, .ref (A1 0 0)), (0, .ref b)]) (kk : ∀ (M1 M2 : ti_M) (H : Heap) (locs : List Loc) (ls : Array Slot), lq_H s D cy A1 A2 q3 M1 M2 H locs → lq_I M1 M2 → lv_has ls 7 [(4, .int iv), (3, .ref q3), (2, .ref (A2 60 0)), (1, .ref (A1 0 0)), (0, .ref b)] → W p l e room_1 s m #[Value.ref b] below meth c H locs cells slots (lw_Z below #[Value.ref b] s) (F0 m 1521 ls [])) : W p l e room_1 s m #[Value.ref b] below meth c H locs cells slots (lw_Z below #[Value.ref b] s) (F0 m 1272 ls []) := by
  have C := Z.1
  have hA := Z.2.1
  have hx := C.1
  have hb := C.2.1
  have hbA : ¬ lq_F s b := Nat.not_le.mpr Z.2.2.2.1
  have hL := Z.2.2.2.2.2.2.1
  have hE := Z.2.2.2.2.2.2.2
  obtain ⟨Tc, Tm, hF1, hF2, hE0, hB0, hR1, hR2, hS1, hS2, rg, htd1, htd2, hle⟩ := hI
  have hR := And.intro hR1 hR2
  have hS := And.intro hS1 hS2
  refine lv_aload_n hx hb dL_law_1272 rfl (lv_at hl 3 rfl) ?_
  refine lq_callTi (av := []) C hA hw (f_X9_came l D A1 cy hA.1 M1 hF1.1 hF1) ⟨ml_L_148, ym_X9_came, yv_X9_came, yi_X9_came, yc_X9_came⟩ yd_X9_came rfl rfl hl.1 (Nat.le_of_ble_eq_true rfl) ⟨by decide, by decide⟩ hcs dL_law_1273 (fun rT N1 H locs hpT hw => ?_)
  refine lv_pop hx hb dL_law_1276 rfl ?_
  refine lv_aload_n hx hb dL_law_1277 rfl (lv_at hl 2 rfl) ?_
  refine lq_callMi (av := []) C hA hw (f_X10_came l D A2 cy hA.2.1 M2 hF2.1 hF2) ⟨ml_L_151, ym_X10_came, yv_X10_came, yi_X10_came, yc_X10_came⟩ yd_X10_came rfl rfl hl.1 (Nat.le_of_ble_eq_true rfl) ⟨by decide, by decide⟩ hcs dL_law_1278 (fun rM N2 H locs hpM hw => ?_)
  refine lv_pop hx hb dL_law_1281 rfl ?_
  refine lv_goto (tgt := 1521) hx hb dL_law_1282 (by decide) ?_
  exact kk N1 N2 H locs ls hw ⟨Tc, Tm, hpT.2.2.1, hpM.2.1, hpT.2.2.2.1.trans (hE0.trans (show tI N2 60 2 = tI M2 60 2 from hpM.2.2.1).symm), (fun i hi => hB0 i (by rw [← hpT.2.2.2.1]; exact hi)), (congrArg Int32.toInt (hpT.2.2.2.2.1 1 4 (by decide) (by decide))).trans hR.1, (congrArg Int32.toInt (hpT.2.2.2.2.1 1 5 (by decide) (by decide))).trans hR.2, hS1, hS2, rg, tdC_tl htd1 hpT.2.2.2.2, tdR_lw htd2 hpM.2.2.2, lE_obs hle hpT.1 hpT.2.1 hpM.1.1 (fun q => hpM.1.2.trans q) hpM.2.2.2⟩ hl
set_option maxRecDepth 100000 in
theorem lq_c30 {p : Program} {l : Launch} {e : Env} {s : State} {m : MethodId} {below : List Frame} {meth : Method} {c : Code} {D : va_G} {cy : Nat → ClassId} {A1 A2 : Nat → Nat → Nat} {M1 M2 : ti_M} {b q3 L cells slots : Nat} {iv : Int32} {xs : Nat → Int32} {H : Heap} {locs : List Loc} {ls : Array Slot} (Z : lq_Z p s m meth c D cy A1 A2 b L xs) (hcs : cells ≤ room_1.cells ∧ slots ≤ room_1.slots) (hw : lq_H s D cy A1 A2 q3 M1 M2 H locs) (hI : lq_I M1 M2) (hi : 0 ≤ iv.toInt ∧ iv.toInt + 6 ≤ L) (hl : lv_has ls 7 [(4, .int iv), (3, .ref q3), (2, .ref (A2 60 0)), (1, .ref (A1 0 0)), (0, .ref b)]) (kk : ∀ (M1 M2 : ti_M) (H : Heap) (locs : List Loc) (ls : Array Slot), lq_H s D cy A1 A2 q3 M1 M2 H locs → lq_I M1 M2 → lv_has ls 7 [(4, .int iv), (3, .ref q3), (2, .ref (A2 60 0)), (1, .ref (A1 0 0)), (0, .ref b)] → W p l e room_1 s m #[Value.ref b] below meth c H locs cells slots (lw_Z below #[Value.ref b] s) (F0 m 1521 ls [])) : W p l e room_1 s m #[Value.ref b] below meth c H locs cells slots (lw_Z below #[Value.ref b] s) (F0 m 1285 ls []) := by
  have C := Z.1
  have hA := Z.2.1
  have hx := C.1
  have hb := C.2.1
  have hbA : ¬ lq_F s b := Nat.not_le.mpr Z.2.2.2.1
  have hL := Z.2.2.2.2.2.2.1
  have hE := Z.2.2.2.2.2.2.2
  obtain ⟨Tc, Tm, hF1, hF2, hE0, hB0, hR1, hR2, hS1, hS2, rg, htd1, htd2, hle⟩ := hI
  have hR := And.intro hR1 hR2
  have hS := And.intro hS1 hS2
  refine lv_aload_n hx hb dL_law_1285 rfl (lv_at hl 3 rfl) ?_
  refine lv_aload_n hx hb dL_law_1286 rfl (lv_at hl 4 rfl) ?_
  refine lv_iload hx hb dL_law_1287 (lv_at hl 0 rfl) ?_
  refine lv_iconst (v := 1) hx hb dL_law_1289 (by decide) ?_
  refine lv_iadd hx hb dL_law_1290 ?_
  refine va_sld (i := iv + 1) hx hb Z.2.2.1 Z.2.2.2.1 hbA hw.2.2.1 (lq_in hi hL (by decide) (by decide)) dL_law_1291 ?_
  refine lv_aload_n hx hb dL_law_1292 rfl (lv_at hl 4 rfl) ?_
  refine lv_iload hx hb dL_law_1293 (lv_at hl 0 rfl) ?_
  refine lv_iconst (v := 2) hx hb dL_law_1295 (by decide) ?_
  refine lv_iadd hx hb dL_law_1296 ?_
  refine va_sld (i := iv + 2) hx hb Z.2.2.1 Z.2.2.2.1 hbA hw.2.2.1 (lq_in hi hL (by decide) (by decide)) dL_law_1297 ?_
  refine lq_callTi (av := [.int (xs (iv + 1 : Int32).toNatClampNeg), .int (xs (iv + 2 : Int32).toNatClampNeg)]) C hA hw (f_X9_one l D A1 cy hA.1 M1 hF1.1 hF1 (xs (iv + 1 : Int32).toNatClampNeg) (xs (iv + 2 : Int32).toNatClampNeg)) ⟨ml_L_152, ym_X9_one, yv_X9_one, yi_X9_one, yc_X9_one⟩ yd_X9_one rfl rfl hl.1 (Nat.le_of_ble_eq_true rfl) ⟨by decide, by decide⟩ hcs dL_law_1298 (fun rT N1 H locs hpT hw => ?_)
  refine lv_pop hx hb dL_law_1301 rfl ?_
  refine lv_aload_n hx hb dL_law_1302 rfl (lv_at hl 2 rfl) ?_
  refine lv_aload_n hx hb dL_law_1303 rfl (lv_at hl 4 rfl) ?_
  refine lv_iload hx hb dL_law_1304 (lv_at hl 0 rfl) ?_
  refine lv_iconst (v := 1) hx hb dL_law_1306 (by decide) ?_
  refine lv_iadd hx hb dL_law_1307 ?_
  refine va_sld (i := iv + 1) hx hb Z.2.2.1 Z.2.2.2.1 hbA hw.2.2.1 (lq_in hi hL (by decide) (by decide)) dL_law_1308 ?_
  refine lv_aload_n hx hb dL_law_1309 rfl (lv_at hl 4 rfl) ?_
  refine lv_iload hx hb dL_law_1310 (lv_at hl 0 rfl) ?_
  refine lv_iconst (v := 2) hx hb dL_law_1312 (by decide) ?_
  refine lv_iadd hx hb dL_law_1313 ?_
  refine va_sld (i := iv + 2) hx hb Z.2.2.1 Z.2.2.2.1 hbA hw.2.2.1 (lq_in hi hL (by decide) (by decide)) dL_law_1314 ?_
  refine lq_callMi (av := [.int (xs (iv + 1 : Int32).toNatClampNeg), .int (xs (iv + 2 : Int32).toNatClampNeg)]) C hA hw (f_X10_one l D A2 cy hA.2.1 M2 hF2.1 hF2 (xs (iv + 1 : Int32).toNatClampNeg) (xs (iv + 2 : Int32).toNatClampNeg)) ⟨ml_L_155, ym_X10_one, yv_X10_one, yi_X10_one, yc_X10_one⟩ yd_X10_one rfl rfl hl.1 (Nat.le_of_ble_eq_true rfl) ⟨by decide, by decide⟩ hcs dL_law_1315 (fun rM N2 H locs hpM hw => ?_)
  refine lv_pop hx hb dL_law_1318 rfl ?_
  refine lv_goto (tgt := 1521) hx hb dL_law_1319 (by decide) ?_
  exact kk N1 N2 H locs ls hw ⟨Tc, Tm, hpT.2.2.1, hpM.2.1, hpT.2.2.2.1.trans (hE0.trans (show tI N2 60 2 = tI M2 60 2 from hpM.2.2.1).symm), (fun i hi => hB0 i (by rw [← hpT.2.2.2.1]; exact hi)), (congrArg Int32.toInt (hpT.2.2.2.2.1 1 4 (by decide) (by decide))).trans hR.1, (congrArg Int32.toInt (hpT.2.2.2.2.1 1 5 (by decide) (by decide))).trans hR.2, hS1, hS2, rg, tdC_tl htd1 hpT.2.2.2.2, tdR_lw htd2 hpM.2.2.2, lE_obs hle hpT.1 hpT.2.1 hpM.1.1 (fun q => hpM.1.2.trans q) hpM.2.2.2⟩ hl
set_option maxRecDepth 100000 in
theorem lq_c31 {p : Program} {l : Launch} {e : Env} {s : State} {m : MethodId} {below : List Frame} {meth : Method} {c : Code} {D : va_G} {cy : Nat → ClassId} {A1 A2 : Nat → Nat → Nat} {M1 M2 : ti_M} {b q3 L cells slots : Nat} {iv : Int32} {xs : Nat → Int32} {H : Heap} {locs : List Loc} {ls : Array Slot} (Z : lq_Z p s m meth c D cy A1 A2 b L xs) (hcs : cells ≤ room_1.cells ∧ slots ≤ room_1.slots) (hw : lq_H s D cy A1 A2 q3 M1 M2 H locs) (hI : lq_I M1 M2) (hi : 0 ≤ iv.toInt ∧ iv.toInt + 6 ≤ L) (hl : lv_has ls 7 [(4, .int iv), (3, .ref q3), (2, .ref (A2 60 0)), (1, .ref (A1 0 0)), (0, .ref b)]) (kk : ∀ (M1 M2 : ti_M) (H : Heap) (locs : List Loc) (ls : Array Slot), lq_H s D cy A1 A2 q3 M1 M2 H locs → lq_I M1 M2 → lv_has ls 7 [(4, .int iv), (3, .ref q3), (2, .ref (A2 60 0)), (1, .ref (A1 0 0)), (0, .ref b)] → W p l e room_1 s m #[Value.ref b] below meth c H locs cells slots (lw_Z below #[Value.ref b] s) (F0 m 1521 ls [])) : W p l e room_1 s m #[Value.ref b] below meth c H locs cells slots (lw_Z below #[Value.ref b] s) (F0 m 1322 ls []) := by
  have C := Z.1
  have hA := Z.2.1
  have hx := C.1
  have hb := C.2.1
  have hbA : ¬ lq_F s b := Nat.not_le.mpr Z.2.2.2.1
  have hL := Z.2.2.2.2.2.2.1
  have hE := Z.2.2.2.2.2.2.2
  obtain ⟨Tc, Tm, hF1, hF2, hE0, hB0, hR1, hR2, hS1, hS2, rg, htd1, htd2, hle⟩ := hI
  have hR := And.intro hR1 hR2
  have hS := And.intro hS1 hS2
  refine lv_aload_n hx hb dL_law_1322 rfl (lv_at hl 3 rfl) ?_
  refine lv_aload_n hx hb dL_law_1323 rfl (lv_at hl 4 rfl) ?_
  refine lv_iload hx hb dL_law_1324 (lv_at hl 0 rfl) ?_
  refine lv_iconst (v := 1) hx hb dL_law_1326 (by decide) ?_
  refine lv_iadd hx hb dL_law_1327 ?_
  refine va_sld (i := iv + 1) hx hb Z.2.2.1 Z.2.2.2.1 hbA hw.2.2.1 (lq_in hi hL (by decide) (by decide)) dL_law_1328 ?_
  refine lv_aload_n hx hb dL_law_1329 rfl (lv_at hl 4 rfl) ?_
  refine lv_iload hx hb dL_law_1330 (lv_at hl 0 rfl) ?_
  refine lv_iconst (v := 2) hx hb dL_law_1332 (by decide) ?_
  refine lv_iadd hx hb dL_law_1333 ?_
  refine va_sld (i := iv + 2) hx hb Z.2.2.1 Z.2.2.2.1 hbA hw.2.2.1 (lq_in hi hL (by decide) (by decide)) dL_law_1334 ?_
  refine lq_callTi (av := [.int (xs (iv + 1 : Int32).toNatClampNeg), .int (xs (iv + 2 : Int32).toNatClampNeg)]) C hA hw (f_X9_empty l D A1 cy hA.1 M1 hF1.1 hF1 (xs (iv + 1 : Int32).toNatClampNeg) (xs (iv + 2 : Int32).toNatClampNeg)) ⟨ml_L_156, ym_X9_empty, yv_X9_empty, yi_X9_empty, yc_X9_empty⟩ yd_X9_empty rfl rfl hl.1 (Nat.le_of_ble_eq_true rfl) ⟨by decide, by decide⟩ hcs dL_law_1335 (fun rT N1 H locs hpT hw => ?_)
  refine lv_pop hx hb dL_law_1338 rfl ?_
  refine lv_aload_n hx hb dL_law_1339 rfl (lv_at hl 2 rfl) ?_
  refine lv_aload_n hx hb dL_law_1340 rfl (lv_at hl 4 rfl) ?_
  refine lv_iload hx hb dL_law_1341 (lv_at hl 0 rfl) ?_
  refine lv_iconst (v := 1) hx hb dL_law_1343 (by decide) ?_
  refine lv_iadd hx hb dL_law_1344 ?_
  refine va_sld (i := iv + 1) hx hb Z.2.2.1 Z.2.2.2.1 hbA hw.2.2.1 (lq_in hi hL (by decide) (by decide)) dL_law_1345 ?_
  refine lv_aload_n hx hb dL_law_1346 rfl (lv_at hl 4 rfl) ?_
  refine lv_iload hx hb dL_law_1347 (lv_at hl 0 rfl) ?_
  refine lv_iconst (v := 2) hx hb dL_law_1349 (by decide) ?_
  refine lv_iadd hx hb dL_law_1350 ?_
  refine va_sld (i := iv + 2) hx hb Z.2.2.1 Z.2.2.2.1 hbA hw.2.2.1 (lq_in hi hL (by decide) (by decide)) dL_law_1351 ?_
  refine lq_callMi (av := [.int (xs (iv + 1 : Int32).toNatClampNeg), .int (xs (iv + 2 : Int32).toNatClampNeg)]) C hA hw (f_X10_empty l D A2 cy hA.2.1 M2 hF2.1 hF2 (xs (iv + 1 : Int32).toNatClampNeg) (xs (iv + 2 : Int32).toNatClampNeg)) ⟨ml_L_159, ym_X10_empty, yv_X10_empty, yi_X10_empty, yc_X10_empty⟩ yd_X10_empty rfl rfl hl.1 (Nat.le_of_ble_eq_true rfl) ⟨by decide, by decide⟩ hcs dL_law_1352 (fun rM N2 H locs hpM hw => ?_)
  refine lv_pop hx hb dL_law_1355 rfl ?_
  refine lv_goto (tgt := 1521) hx hb dL_law_1356 (by decide) ?_
  exact kk N1 N2 H locs ls hw ⟨Tc, Tm, hpT.2.2.1, hpM.2.1, hpT.2.2.2.1.trans (hE0.trans (show tI N2 60 2 = tI M2 60 2 from hpM.2.2.1).symm), (fun i hi => hB0 i (by rw [← hpT.2.2.2.1]; exact hi)), (congrArg Int32.toInt (hpT.2.2.2.2.1 1 4 (by decide) (by decide))).trans hR.1, (congrArg Int32.toInt (hpT.2.2.2.2.1 1 5 (by decide) (by decide))).trans hR.2, hS1, hS2, rg, tdC_tl htd1 hpT.2.2.2.2, tdR_lw htd2 hpM.2.2.2, lE_obs hle hpT.1 hpT.2.1 hpM.1.1 (fun q => hpM.1.2.trans q) hpM.2.2.2⟩ hl
set_option maxRecDepth 100000 in
theorem lq_c32 {p : Program} {l : Launch} {e : Env} {s : State} {m : MethodId} {below : List Frame} {meth : Method} {c : Code} {D : va_G} {cy : Nat → ClassId} {A1 A2 : Nat → Nat → Nat} {M1 M2 : ti_M} {b q3 L cells slots : Nat} {iv : Int32} {xs : Nat → Int32} {H : Heap} {locs : List Loc} {ls : Array Slot} (Z : lq_Z p s m meth c D cy A1 A2 b L xs) (hcs : cells ≤ room_1.cells ∧ slots ≤ room_1.slots) (hw : lq_H s D cy A1 A2 q3 M1 M2 H locs) (hI : lq_I M1 M2) (hi : 0 ≤ iv.toInt ∧ iv.toInt + 6 ≤ L) (hl : lv_has ls 7 [(4, .int iv), (3, .ref q3), (2, .ref (A2 60 0)), (1, .ref (A1 0 0)), (0, .ref b)]) (kk : ∀ (M1 M2 : ti_M) (H : Heap) (locs : List Loc) (ls : Array Slot), lq_H s D cy A1 A2 q3 M1 M2 H locs → lq_I M1 M2 → lv_has ls 7 [(4, .int iv), (3, .ref q3), (2, .ref (A2 60 0)), (1, .ref (A1 0 0)), (0, .ref b)] → W p l e room_1 s m #[Value.ref b] below meth c H locs cells slots (lw_Z below #[Value.ref b] s) (F0 m 1521 ls [])) : W p l e room_1 s m #[Value.ref b] below meth c H locs cells slots (lw_Z below #[Value.ref b] s) (F0 m 1359 ls []) := by
  have C := Z.1
  have hA := Z.2.1
  have hx := C.1
  have hb := C.2.1
  have hbA : ¬ lq_F s b := Nat.not_le.mpr Z.2.2.2.1
  have hL := Z.2.2.2.2.2.2.1
  have hE := Z.2.2.2.2.2.2.2
  obtain ⟨Tc, Tm, hF1, hF2, hE0, hB0, hR1, hR2, hS1, hS2, rg, htd1, htd2, hle⟩ := hI
  have hR := And.intro hR1 hR2
  have hS := And.intro hS1 hS2
  refine lv_aload_n hx hb dL_law_1359 rfl (lv_at hl 3 rfl) ?_
  refine lv_aload_n hx hb dL_law_1360 rfl (lv_at hl 4 rfl) ?_
  refine lv_iload hx hb dL_law_1361 (lv_at hl 0 rfl) ?_
  refine lv_iconst (v := 1) hx hb dL_law_1363 (by decide) ?_
  refine lv_iadd hx hb dL_law_1364 ?_
  refine va_sld (i := iv + 1) hx hb Z.2.2.1 Z.2.2.2.1 hbA hw.2.2.1 (lq_in hi hL (by decide) (by decide)) dL_law_1365 ?_
  refine lv_aload_n hx hb dL_law_1366 rfl (lv_at hl 4 rfl) ?_
  refine lv_iload hx hb dL_law_1367 (lv_at hl 0 rfl) ?_
  refine lv_iconst (v := 2) hx hb dL_law_1369 (by decide) ?_
  refine lv_iadd hx hb dL_law_1370 ?_
  refine va_sld (i := iv + 2) hx hb Z.2.2.1 Z.2.2.2.1 hbA hw.2.2.1 (lq_in hi hL (by decide) (by decide)) dL_law_1371 ?_
  refine lv_aload_n hx hb dL_law_1372 rfl (lv_at hl 4 rfl) ?_
  refine lv_iload hx hb dL_law_1373 (lv_at hl 0 rfl) ?_
  refine lv_iconst (v := 3) hx hb dL_law_1375 (by decide) ?_
  refine lv_iadd hx hb dL_law_1376 ?_
  refine va_sld (i := iv + 3) hx hb Z.2.2.1 Z.2.2.2.1 hbA hw.2.2.1 (lq_in hi hL (by decide) (by decide)) dL_law_1377 ?_
  refine lq_callTi (av := [.int (xs (iv + 1 : Int32).toNatClampNeg), .int (xs (iv + 2 : Int32).toNatClampNeg), .int (xs (iv + 3 : Int32).toNatClampNeg)]) C hA hw (f_X9_chance l D A1 cy hA.1 M1 hF1.1 hF1 (xs (iv + 1 : Int32).toNatClampNeg) (xs (iv + 2 : Int32).toNatClampNeg) (xs (iv + 3 : Int32).toNatClampNeg)) ⟨ml_L_160, ym_X9_chance, yv_X9_chance, yi_X9_chance, yc_X9_chance⟩ yd_X9_chance rfl rfl hl.1 (Nat.le_of_ble_eq_true rfl) ⟨by decide, by decide⟩ hcs dL_law_1378 (fun rT N1 H locs hpT hw => ?_)
  refine lv_pop hx hb dL_law_1381 rfl ?_
  refine lv_aload_n hx hb dL_law_1382 rfl (lv_at hl 2 rfl) ?_
  refine lv_aload_n hx hb dL_law_1383 rfl (lv_at hl 4 rfl) ?_
  refine lv_iload hx hb dL_law_1384 (lv_at hl 0 rfl) ?_
  refine lv_iconst (v := 1) hx hb dL_law_1386 (by decide) ?_
  refine lv_iadd hx hb dL_law_1387 ?_
  refine va_sld (i := iv + 1) hx hb Z.2.2.1 Z.2.2.2.1 hbA hw.2.2.1 (lq_in hi hL (by decide) (by decide)) dL_law_1388 ?_
  refine lv_aload_n hx hb dL_law_1389 rfl (lv_at hl 4 rfl) ?_
  refine lv_iload hx hb dL_law_1390 (lv_at hl 0 rfl) ?_
  refine lv_iconst (v := 2) hx hb dL_law_1392 (by decide) ?_
  refine lv_iadd hx hb dL_law_1393 ?_
  refine va_sld (i := iv + 2) hx hb Z.2.2.1 Z.2.2.2.1 hbA hw.2.2.1 (lq_in hi hL (by decide) (by decide)) dL_law_1394 ?_
  refine lv_aload_n hx hb dL_law_1395 rfl (lv_at hl 4 rfl) ?_
  refine lv_iload hx hb dL_law_1396 (lv_at hl 0 rfl) ?_
  refine lv_iconst (v := 3) hx hb dL_law_1398 (by decide) ?_
  refine lv_iadd hx hb dL_law_1399 ?_
  refine va_sld (i := iv + 3) hx hb Z.2.2.1 Z.2.2.2.1 hbA hw.2.2.1 (lq_in hi hL (by decide) (by decide)) dL_law_1400 ?_
  refine lq_callMi (av := [.int (xs (iv + 1 : Int32).toNatClampNeg), .int (xs (iv + 2 : Int32).toNatClampNeg), .int (xs (iv + 3 : Int32).toNatClampNeg)]) C hA hw (f_X10_chance l D A2 cy hA.2.1 M2 hF2.1 hF2 (xs (iv + 1 : Int32).toNatClampNeg) (xs (iv + 2 : Int32).toNatClampNeg) (xs (iv + 3 : Int32).toNatClampNeg)) ⟨ml_L_163, ym_X10_chance, yv_X10_chance, yi_X10_chance, yc_X10_chance⟩ yd_X10_chance rfl rfl hl.1 (Nat.le_of_ble_eq_true rfl) ⟨by decide, by decide⟩ hcs dL_law_1401 (fun rM N2 H locs hpM hw => ?_)
  refine lv_pop hx hb dL_law_1404 rfl ?_
  refine lv_goto (tgt := 1521) hx hb dL_law_1405 (by decide) ?_
  exact kk N1 N2 H locs ls hw ⟨Tc, Tm, hpT.2.2.1, hpM.2.1, hpT.2.2.2.1.trans (hE0.trans (show tI N2 60 2 = tI M2 60 2 from hpM.2.2.1).symm), (fun i hi => hB0 i (by rw [← hpT.2.2.2.1]; exact hi)), (congrArg Int32.toInt (hpT.2.2.2.2.1 1 4 (by decide) (by decide))).trans hR.1, (congrArg Int32.toInt (hpT.2.2.2.2.1 1 5 (by decide) (by decide))).trans hR.2, hS1, hS2, rg, tdC_tl htd1 hpT.2.2.2.2, tdR_lw htd2 hpM.2.2.2, lE_obs hle hpT.1 hpT.2.1 hpM.1.1 (fun q => hpM.1.2.trans q) hpM.2.2.2⟩ hl
set_option maxRecDepth 100000 in
theorem lq_c33 {p : Program} {l : Launch} {e : Env} {s : State} {m : MethodId} {below : List Frame} {meth : Method} {c : Code} {D : va_G} {cy : Nat → ClassId} {A1 A2 : Nat → Nat → Nat} {M1 M2 : ti_M} {b q3 L cells slots : Nat} {iv : Int32} {xs : Nat → Int32} {H : Heap} {locs : List Loc} {ls : Array Slot} (Z : lq_Z p s m meth c D cy A1 A2 b L xs) (hcs : cells ≤ room_1.cells ∧ slots ≤ room_1.slots) (hw : lq_H s D cy A1 A2 q3 M1 M2 H locs) (hI : lq_I M1 M2) (hi : 0 ≤ iv.toInt ∧ iv.toInt + 6 ≤ L) (hl : lv_has ls 7 [(4, .int iv), (3, .ref q3), (2, .ref (A2 60 0)), (1, .ref (A1 0 0)), (0, .ref b)]) (kk : ∀ (M1 M2 : ti_M) (H : Heap) (locs : List Loc) (ls : Array Slot), lq_H s D cy A1 A2 q3 M1 M2 H locs → lq_I M1 M2 → lv_has ls 7 [(4, .int iv), (3, .ref q3), (2, .ref (A2 60 0)), (1, .ref (A1 0 0)), (0, .ref b)] → W p l e room_1 s m #[Value.ref b] below meth c H locs cells slots (lw_Z below #[Value.ref b] s) (F0 m 1521 ls [])) : W p l e room_1 s m #[Value.ref b] below meth c H locs cells slots (lw_Z below #[Value.ref b] s) (F0 m 1408 ls []) := by
  have C := Z.1
  have hA := Z.2.1
  have hx := C.1
  have hb := C.2.1
  have hbA : ¬ lq_F s b := Nat.not_le.mpr Z.2.2.2.1
  have hL := Z.2.2.2.2.2.2.1
  have hE := Z.2.2.2.2.2.2.2
  obtain ⟨Tc, Tm, hF1, hF2, hE0, hB0, hR1, hR2, hS1, hS2, rg, htd1, htd2, hle⟩ := hI
  have hR := And.intro hR1 hR2
  have hS := And.intro hS1 hS2
  refine lv_aload_n hx hb dL_law_1408 rfl (lv_at hl 3 rfl) ?_
  refine lv_aload_n hx hb dL_law_1409 rfl (lv_at hl 4 rfl) ?_
  refine lv_iload hx hb dL_law_1410 (lv_at hl 0 rfl) ?_
  refine lv_iconst (v := 1) hx hb dL_law_1412 (by decide) ?_
  refine lv_iadd hx hb dL_law_1413 ?_
  refine va_sld (i := iv + 1) hx hb Z.2.2.1 Z.2.2.2.1 hbA hw.2.2.1 (lq_in hi hL (by decide) (by decide)) dL_law_1414 ?_
  refine lv_aload_n hx hb dL_law_1415 rfl (lv_at hl 4 rfl) ?_
  refine lv_iload hx hb dL_law_1416 (lv_at hl 0 rfl) ?_
  refine lv_iconst (v := 2) hx hb dL_law_1418 (by decide) ?_
  refine lv_iadd hx hb dL_law_1419 ?_
  refine va_sld (i := iv + 2) hx hb Z.2.2.1 Z.2.2.2.1 hbA hw.2.2.1 (lq_in hi hL (by decide) (by decide)) dL_law_1420 ?_
  refine lv_aload_n hx hb dL_law_1421 rfl (lv_at hl 4 rfl) ?_
  refine lv_iload hx hb dL_law_1422 (lv_at hl 0 rfl) ?_
  refine lv_iconst (v := 3) hx hb dL_law_1424 (by decide) ?_
  refine lv_iadd hx hb dL_law_1425 ?_
  refine va_sld (i := iv + 3) hx hb Z.2.2.1 Z.2.2.2.1 hbA hw.2.2.1 (lq_in hi hL (by decide) (by decide)) dL_law_1426 ?_
  refine lq_callTi (av := [.int (xs (iv + 1 : Int32).toNatClampNeg), .int (xs (iv + 2 : Int32).toNatClampNeg), .int (xs (iv + 3 : Int32).toNatClampNeg)]) C hA hw (f_X9_tried l D A1 cy hA.1 M1 hF1.1 hF1 (xs (iv + 1 : Int32).toNatClampNeg) (xs (iv + 2 : Int32).toNatClampNeg) (xs (iv + 3 : Int32).toNatClampNeg)) ⟨ml_L_164, ym_X9_tried, yv_X9_tried, yi_X9_tried, yc_X9_tried⟩ yd_X9_tried rfl rfl hl.1 (Nat.le_of_ble_eq_true rfl) ⟨by decide, by decide⟩ hcs dL_law_1427 (fun rT N1 H locs hpT hw => ?_)
  refine lv_pop hx hb dL_law_1430 rfl ?_
  refine lv_aload_n hx hb dL_law_1431 rfl (lv_at hl 2 rfl) ?_
  refine lv_aload_n hx hb dL_law_1432 rfl (lv_at hl 4 rfl) ?_
  refine lv_iload hx hb dL_law_1433 (lv_at hl 0 rfl) ?_
  refine lv_iconst (v := 1) hx hb dL_law_1435 (by decide) ?_
  refine lv_iadd hx hb dL_law_1436 ?_
  refine va_sld (i := iv + 1) hx hb Z.2.2.1 Z.2.2.2.1 hbA hw.2.2.1 (lq_in hi hL (by decide) (by decide)) dL_law_1437 ?_
  refine lv_aload_n hx hb dL_law_1438 rfl (lv_at hl 4 rfl) ?_
  refine lv_iload hx hb dL_law_1439 (lv_at hl 0 rfl) ?_
  refine lv_iconst (v := 2) hx hb dL_law_1441 (by decide) ?_
  refine lv_iadd hx hb dL_law_1442 ?_
  refine va_sld (i := iv + 2) hx hb Z.2.2.1 Z.2.2.2.1 hbA hw.2.2.1 (lq_in hi hL (by decide) (by decide)) dL_law_1443 ?_
  refine lv_aload_n hx hb dL_law_1444 rfl (lv_at hl 4 rfl) ?_
  refine lv_iload hx hb dL_law_1445 (lv_at hl 0 rfl) ?_
  refine lv_iconst (v := 3) hx hb dL_law_1447 (by decide) ?_
  refine lv_iadd hx hb dL_law_1448 ?_
  refine va_sld (i := iv + 3) hx hb Z.2.2.1 Z.2.2.2.1 hbA hw.2.2.1 (lq_in hi hL (by decide) (by decide)) dL_law_1449 ?_
  refine lq_callMi (av := [.int (xs (iv + 1 : Int32).toNatClampNeg), .int (xs (iv + 2 : Int32).toNatClampNeg), .int (xs (iv + 3 : Int32).toNatClampNeg)]) C hA hw (f_X10_tried l D A2 cy hA.2.1 M2 hF2.1 hF2 (xs (iv + 1 : Int32).toNatClampNeg) (xs (iv + 2 : Int32).toNatClampNeg) (xs (iv + 3 : Int32).toNatClampNeg)) ⟨ml_L_167, ym_X10_tried, yv_X10_tried, yi_X10_tried, yc_X10_tried⟩ yd_X10_tried rfl rfl hl.1 (Nat.le_of_ble_eq_true rfl) ⟨by decide, by decide⟩ hcs dL_law_1450 (fun rM N2 H locs hpM hw => ?_)
  refine lv_pop hx hb dL_law_1453 rfl ?_
  refine lv_goto (tgt := 1521) hx hb dL_law_1454 (by decide) ?_
  exact kk N1 N2 H locs ls hw ⟨Tc, Tm, hpT.2.2.1, hpM.2.2.1, hpT.2.2.2.1.trans (hE0.trans (show tI N2 60 2 = tI M2 60 2 from hpM.2.2.2.1).symm), (fun i hi => hB0 i (by rw [← hpT.2.2.2.1]; exact hi)), (congrArg Int32.toInt (hpT.2.2.2.2.1 1 4 (by decide) (by decide))).trans hR.1, (congrArg Int32.toInt (hpT.2.2.2.2.1 1 5 (by decide) (by decide))).trans hR.2, hS1, hS2, rg, tdC_tl htd1 hpT.2.2.2.2, tdR_lw htd2 hpM.2.2.2.2, lE_obs hle hpT.1 hpT.2.1 hpM.1 hpM.2.1 hpM.2.2.2.2⟩ hl
set_option maxRecDepth 100000 in
theorem lq_c34 {p : Program} {l : Launch} {e : Env} {s : State} {m : MethodId} {below : List Frame} {meth : Method} {c : Code} {D : va_G} {cy : Nat → ClassId} {A1 A2 : Nat → Nat → Nat} {M1 M2 : ti_M} {b q3 L cells slots : Nat} {iv : Int32} {xs : Nat → Int32} {H : Heap} {locs : List Loc} {ls : Array Slot} (Z : lq_Z p s m meth c D cy A1 A2 b L xs) (hcs : cells ≤ room_1.cells ∧ slots ≤ room_1.slots) (hw : lq_H s D cy A1 A2 q3 M1 M2 H locs) (hI : lq_I M1 M2) (hi : 0 ≤ iv.toInt ∧ iv.toInt + 6 ≤ L) (hl : lv_has ls 7 [(4, .int iv), (3, .ref q3), (2, .ref (A2 60 0)), (1, .ref (A1 0 0)), (0, .ref b)]) (kk : ∀ (M1 M2 : ti_M) (H : Heap) (locs : List Loc) (ls : Array Slot), lq_H s D cy A1 A2 q3 M1 M2 H locs → lq_I M1 M2 → lv_has ls 7 [(4, .int iv), (3, .ref q3), (2, .ref (A2 60 0)), (1, .ref (A1 0 0)), (0, .ref b)] → W p l e room_1 s m #[Value.ref b] below meth c H locs cells slots (lw_Z below #[Value.ref b] s) (F0 m 1521 ls [])) : W p l e room_1 s m #[Value.ref b] below meth c H locs cells slots (lw_Z below #[Value.ref b] s) (F0 m 1457 ls []) := by
  have C := Z.1
  have hA := Z.2.1
  have hx := C.1
  have hb := C.2.1
  have hbA : ¬ lq_F s b := Nat.not_le.mpr Z.2.2.2.1
  have hL := Z.2.2.2.2.2.2.1
  have hE := Z.2.2.2.2.2.2.2
  obtain ⟨Tc, Tm, hF1, hF2, hE0, hB0, hR1, hR2, hS1, hS2, rg, htd1, htd2, hle⟩ := hI
  have hR := And.intro hR1 hR2
  have hS := And.intro hS1 hS2
  obtain ⟨t9, tx9, s9, p9, si9, u9, c9, hb9⟩ := id hle
  obtain ⟨ht9, hkC9, hkR9, hW9, ⟨hw9, h19⟩, hU9, hi9⟩ := id hb9
  have m9 : 0 ≤ s9 2 ∧ s9 2 ≤ 120 := by
    have b : ib 0 120 (tY M2 60 34 0) := hF2.1.2.1 34 0 (by decide)
    rw [hkR9.2.1.1.1]; exact b
  refine lv_aload_n hx hb dL_law_1457 rfl (lv_at hl 3 rfl) ?_
  refine lq_callTi (av := []) C hA hw (z_X9_undo l D A1 cy hA.1 M1 hF1.1 hF1 t9 ht9 tx9 s9 p9 u9 c9 hkC9) ⟨ml_L_168, ym_X9_undo, yv_X9_undo, yi_X9_undo, yc_X9_undo⟩ yd_X9_undo rfl rfl hl.1 (Nat.le_of_ble_eq_true rfl) ⟨by decide, by decide⟩ hcs dL_law_1458 (fun rT N1 H locs hpT hw => ?_)
  refine lv_pop hx hb dL_law_1461 rfl ?_
  refine lv_aload_n hx hb dL_law_1462 rfl (lv_at hl 2 rfl) ?_
  refine lq_callMi (av := []) C hA hw (z_X10_undo l D A2 cy hA.2.1 M2 hF2.1 hF2 tx9 s9 p9 u9 c9 hW9.1 hW9 hw9 h19 hkR9 (fun i hi => (hU9.2 i hi).2.2)) ⟨ml_L_171, ym_X10_undo, yv_X10_undo, yi_X10_undo, yc_X10_undo⟩ yd_X10_undo rfl rfl hl.1 (Nat.le_of_ble_eq_true rfl) ⟨by decide, by decide⟩ hcs dL_law_1463 (fun rM N2 H locs hpM hw => ?_)
  refine lv_pop hx hb dL_law_1466 rfl ?_
  have q := lq_sp hF1 hE0 hB0 hR hS htd1 htd2 hpT hpM (fun _ => rfl) (fun a b => by omega) (fun a b => by omega) (fun i y => ⟨_, _, _, _, _, _, _, lB_no hb9 i y⟩) (fun q g i x y => ⟨_, _, _, _, _, _, _, lB_un hb9 g i q x y⟩)
  refine lv_goto (tgt := 1521) hx hb dL_law_1467 (by decide) ?_
  exact kk N1 N2 H locs ls hw q.2 hl
set_option maxRecDepth 100000 in
theorem lq_c35 {p : Program} {l : Launch} {e : Env} {s : State} {m : MethodId} {below : List Frame} {meth : Method} {c : Code} {D : va_G} {cy : Nat → ClassId} {A1 A2 : Nat → Nat → Nat} {M1 M2 : ti_M} {b q3 L cells slots : Nat} {iv : Int32} {xs : Nat → Int32} {H : Heap} {locs : List Loc} {ls : Array Slot} (Z : lq_Z p s m meth c D cy A1 A2 b L xs) (hcs : cells ≤ room_1.cells ∧ slots ≤ room_1.slots) (hw : lq_H s D cy A1 A2 q3 M1 M2 H locs) (hI : lq_I M1 M2) (hi : 0 ≤ iv.toInt ∧ iv.toInt + 6 ≤ L) (hl : lv_has ls 7 [(4, .int iv), (3, .ref q3), (2, .ref (A2 60 0)), (1, .ref (A1 0 0)), (0, .ref b)]) (kk : ∀ (M1 M2 : ti_M) (H : Heap) (locs : List Loc) (ls : Array Slot), lq_H s D cy A1 A2 q3 M1 M2 H locs → lq_I M1 M2 → lv_has ls 7 [(4, .int iv), (3, .ref q3), (2, .ref (A2 60 0)), (1, .ref (A1 0 0)), (0, .ref b)] → W p l e room_1 s m #[Value.ref b] below meth c H locs cells slots (lw_Z below #[Value.ref b] s) (F0 m 1521 ls [])) : W p l e room_1 s m #[Value.ref b] below meth c H locs cells slots (lw_Z below #[Value.ref b] s) (F0 m 1470 ls []) := by
  have C := Z.1
  have hA := Z.2.1
  have hx := C.1
  have hb := C.2.1
  have hbA : ¬ lq_F s b := Nat.not_le.mpr Z.2.2.2.1
  have hL := Z.2.2.2.2.2.2.1
  have hE := Z.2.2.2.2.2.2.2
  obtain ⟨Tc, Tm, hF1, hF2, hE0, hB0, hR1, hR2, hS1, hS2, rg, htd1, htd2, hle⟩ := hI
  have hR := And.intro hR1 hR2
  have hS := And.intro hS1 hS2
  obtain ⟨t9, tx9, s9, p9, si9, u9, c9, hb9⟩ := id hle
  obtain ⟨ht9, hkC9, hkR9, hW9, ⟨hw9, h19⟩, hU9, hi9⟩ := id hb9
  have m9 : 0 ≤ s9 2 ∧ s9 2 ≤ 120 := by
    have b : ib 0 120 (tY M2 60 34 0) := hF2.1.2.1 34 0 (by decide)
    rw [hkR9.2.1.1.1]; exact b
  refine lv_aload_n hx hb dL_law_1470 rfl (lv_at hl 3 rfl) ?_
  refine lq_callTi (av := []) C hA hw (z_X9_keep l D A1 cy hA.1 M1 hF1.1 hF1 t9 ht9 tx9 s9 p9 u9 c9 hkC9) ⟨ml_L_172, ym_X9_keep, yv_X9_keep, yi_X9_keep, yc_X9_keep⟩ yd_X9_keep rfl rfl hl.1 (Nat.le_of_ble_eq_true rfl) ⟨by decide, by decide⟩ hcs dL_law_1471 (fun rT N1 H locs hpT hw => ?_)
  refine lv_pop hx hb dL_law_1474 rfl ?_
  refine lv_aload_n hx hb dL_law_1475 rfl (lv_at hl 2 rfl) ?_
  refine lq_callMi (av := []) C hA hw (z_X10_keep l D A2 cy hA.2.1 M2 hF2.1 hF2 tx9 s9 p9 u9 c9 hW9.1 hW9 hw9 h19 hkR9) ⟨ml_L_175, ym_X10_keep, yv_X10_keep, yi_X10_keep, yc_X10_keep⟩ yd_X10_keep rfl rfl hl.1 (Nat.le_of_ble_eq_true rfl) ⟨by decide, by decide⟩ hcs dL_law_1476 (fun rM N2 H locs hpM hw => ?_)
  refine lv_pop hx hb dL_law_1479 rfl ?_
  have q := lq_kp hE0 hB0 hR hS htd1 htd2 hb9 hpT hpM
  refine lv_goto (tgt := 1521) hx hb dL_law_1480 (by decide) ?_
  exact kk N1 N2 H locs ls hw q.2 hl
set_option maxRecDepth 100000 in
theorem lq_c36 {p : Program} {l : Launch} {e : Env} {s : State} {m : MethodId} {below : List Frame} {meth : Method} {c : Code} {D : va_G} {cy : Nat → ClassId} {A1 A2 : Nat → Nat → Nat} {M1 M2 : ti_M} {b q3 L cells slots : Nat} {iv : Int32} {xs : Nat → Int32} {H : Heap} {locs : List Loc} {ls : Array Slot} (Z : lq_Z p s m meth c D cy A1 A2 b L xs) (hcs : cells ≤ room_1.cells ∧ slots ≤ room_1.slots) (hw : lq_H s D cy A1 A2 q3 M1 M2 H locs) (hI : lq_I M1 M2) (hi : 0 ≤ iv.toInt ∧ iv.toInt + 6 ≤ L) (hl : lv_has ls 7 [(4, .int iv), (3, .ref q3), (2, .ref (A2 60 0)), (1, .ref (A1 0 0)), (0, .ref b)]) (kk : ∀ (M1 M2 : ti_M) (H : Heap) (locs : List Loc) (ls : Array Slot), lq_H s D cy A1 A2 q3 M1 M2 H locs → lq_I M1 M2 → lv_has ls 7 [(4, .int iv), (3, .ref q3), (2, .ref (A2 60 0)), (1, .ref (A1 0 0)), (0, .ref b)] → W p l e room_1 s m #[Value.ref b] below meth c H locs cells slots (lw_Z below #[Value.ref b] s) (F0 m 1521 ls [])) : W p l e room_1 s m #[Value.ref b] below meth c H locs cells slots (lw_Z below #[Value.ref b] s) (F0 m 1483 ls []) := by
  have C := Z.1
  have hA := Z.2.1
  have hx := C.1
  have hb := C.2.1
  have hbA : ¬ lq_F s b := Nat.not_le.mpr Z.2.2.2.1
  have hL := Z.2.2.2.2.2.2.1
  have hE := Z.2.2.2.2.2.2.2
  obtain ⟨Tc, Tm, hF1, hF2, hE0, hB0, hR1, hR2, hS1, hS2, rg, htd1, htd2, hle⟩ := hI
  have hR := And.intro hR1 hR2
  have hS := And.intro hS1 hS2
  obtain ⟨t9, tx9, s9, p9, si9, u9, c9, hb9⟩ := id hle
  obtain ⟨ht9, hkC9, hkR9, hW9, ⟨hw9, h19⟩, hU9, hi9⟩ := id hb9
  have m9 : 0 ≤ s9 2 ∧ s9 2 ≤ 120 := by
    have b : ib 0 120 (tY M2 60 34 0) := hF2.1.2.1 34 0 (by decide)
    rw [hkR9.2.1.1.1]; exact b
  have hi2 : (tI M1 0 7).toInt = 0 ↔ (tI M2 60 51).toInt = 0 := by
    rcases hi9 with ⟨a, b⟩ | ⟨a, b, -⟩
    · exact ⟨fun _ => b, fun _ => a⟩
    · exact ⟨fun x => absurd x a, fun x => absurd x b⟩
  refine lv_aload_n hx hb dL_law_1483 rfl (lv_at hl 3 rfl) ?_
  refine lq_callTi (av := []) C hA hw (z_X9_back l D A1 cy hA.1 M1 hF1.1 hF1 t9 ht9 tx9 s9 p9 u9 c9 hkC9 si9 (fun q => by
      rcases hi9 with ⟨a, -⟩ | ⟨-, -, x, -⟩
      · exact absurd a q
      · exact x)) ⟨ml_L_176, ym_X9_back, yv_X9_back, yi_X9_back, yc_X9_back⟩ yd_X9_back rfl rfl hl.1 (Nat.le_of_ble_eq_true rfl) ⟨by decide, by decide⟩ hcs dL_law_1484 (fun rT N1 H locs hpT hw => ?_)
  refine lv_pop hx hb dL_law_1487 rfl ?_
  refine lv_aload_n hx hb dL_law_1488 rfl (lv_at hl 2 rfl) ?_
  refine lq_callMi (av := []) C hA hw (z_X10_back l D A2 cy hA.2.1 M2 hF2.1 hF2 tx9 s9 p9 u9 c9 hW9.1 hW9 hw9 h19 hkR9 si9 (fun q => by
      rcases hi9 with ⟨-, a⟩ | ⟨-, -, -, x, -⟩
      · exact absurd a q
      · exact x)) ⟨ml_L_179, ym_X10_back, yv_X10_back, yi_X10_back, yc_X10_back⟩ yd_X10_back rfl rfl hl.1 (Nat.le_of_ble_eq_true rfl) ⟨by decide, by decide⟩ hcs dL_law_1489 (fun rM N2 H locs hpM hw => ?_)
  refine lv_pop hx hb dL_law_1492 rfl ?_
  have q := lq_sp hF1 hE0 hB0 hR hS htd1 htd2 hpT hpM (fun _ => rfl) (fun a b => b (hi2.mp a)) (fun a b => b (hi2.mpr a)) (fun i y => ⟨_, _, _, _, _, _, _, lB_no hb9 i y⟩) (fun q g i x y => ⟨_, _, _, _, _, _, _, lB_bk hb9 g i q x y⟩)
  refine lv_goto (tgt := 1521) hx hb dL_law_1493 (by decide) ?_
  exact kk N1 N2 H locs ls hw q.2 hl
set_option maxRecDepth 100000 in
theorem lq_c37 {p : Program} {l : Launch} {e : Env} {s : State} {m : MethodId} {below : List Frame} {meth : Method} {c : Code} {D : va_G} {cy : Nat → ClassId} {A1 A2 : Nat → Nat → Nat} {M1 M2 : ti_M} {b q3 L cells slots : Nat} {iv : Int32} {xs : Nat → Int32} {H : Heap} {locs : List Loc} {ls : Array Slot} (Z : lq_Z p s m meth c D cy A1 A2 b L xs) (hcs : cells ≤ room_1.cells ∧ slots ≤ room_1.slots) (hw : lq_H s D cy A1 A2 q3 M1 M2 H locs) (hI : lq_I M1 M2) (hi : 0 ≤ iv.toInt ∧ iv.toInt + 6 ≤ L) (hl : lv_has ls 7 [(4, .int iv), (3, .ref q3), (2, .ref (A2 60 0)), (1, .ref (A1 0 0)), (0, .ref b)]) (kk : ∀ (M1 M2 : ti_M) (H : Heap) (locs : List Loc) (ls : Array Slot), lq_H s D cy A1 A2 q3 M1 M2 H locs → lq_I M1 M2 → lv_has ls 7 [(4, .int iv), (3, .ref q3), (2, .ref (A2 60 0)), (1, .ref (A1 0 0)), (0, .ref b)] → W p l e room_1 s m #[Value.ref b] below meth c H locs cells slots (lw_Z below #[Value.ref b] s) (F0 m 1521 ls [])) : W p l e room_1 s m #[Value.ref b] below meth c H locs cells slots (lw_Z below #[Value.ref b] s) (F0 m 1496 ls []) := by
  have C := Z.1
  have hA := Z.2.1
  have hx := C.1
  have hb := C.2.1
  have hbA : ¬ lq_F s b := Nat.not_le.mpr Z.2.2.2.1
  have hL := Z.2.2.2.2.2.2.1
  have hE := Z.2.2.2.2.2.2.2
  obtain ⟨Tc, Tm, hF1, hF2, hE0, hB0, hR1, hR2, hS1, hS2, rg, htd1, htd2, hle⟩ := hI
  have hR := And.intro hR1 hR2
  have hS := And.intro hS1 hS2
  refine lv_aload_n hx hb dL_law_1496 rfl (lv_at hl 3 rfl) ?_
  refine lv_aload_n hx hb dL_law_1497 rfl (lv_at hl 4 rfl) ?_
  refine lv_iload hx hb dL_law_1498 (lv_at hl 0 rfl) ?_
  refine lv_iconst (v := 1) hx hb dL_law_1500 (by decide) ?_
  refine lv_iadd hx hb dL_law_1501 ?_
  refine va_sld (i := iv + 1) hx hb Z.2.2.1 Z.2.2.2.1 hbA hw.2.2.1 (lq_in hi hL (by decide) (by decide)) dL_law_1502 ?_
  refine lq_callTi (av := [.int (xs (iv + 1 : Int32).toNatClampNeg)]) C hA hw (f_X9_count l D A1 cy hA.1 M1 hF1.1 hF1 (xs (iv + 1 : Int32).toNatClampNeg)) ⟨ml_L_180, ym_X9_count, yv_X9_count, yi_X9_count, yc_X9_count⟩ yd_X9_count rfl rfl hl.1 (Nat.le_of_ble_eq_true rfl) ⟨by decide, by decide⟩ hcs dL_law_1503 (fun rT N1 H locs hpT hw => ?_)
  refine lv_pop hx hb dL_law_1506 rfl ?_
  refine lv_aload_n hx hb dL_law_1507 rfl (lv_at hl 2 rfl) ?_
  refine lv_aload_n hx hb dL_law_1508 rfl (lv_at hl 4 rfl) ?_
  refine lv_iload hx hb dL_law_1509 (lv_at hl 0 rfl) ?_
  refine lv_iconst (v := 1) hx hb dL_law_1511 (by decide) ?_
  refine lv_iadd hx hb dL_law_1512 ?_
  refine va_sld (i := iv + 1) hx hb Z.2.2.1 Z.2.2.2.1 hbA hw.2.2.1 (lq_in hi hL (by decide) (by decide)) dL_law_1513 ?_
  refine lq_callMi (av := [.int (xs (iv + 1 : Int32).toNatClampNeg)]) C hA hw (f_X10_count l D A2 cy hA.2.1 M2 hF2.1 hF2 (xs (iv + 1 : Int32).toNatClampNeg)) ⟨ml_L_183, ym_X10_count, yv_X10_count, yi_X10_count, yc_X10_count⟩ yd_X10_count rfl rfl hl.1 (Nat.le_of_ble_eq_true rfl) ⟨by decide, by decide⟩ hcs dL_law_1514 (fun rM N2 H locs hpM hw => ?_)
  refine lv_pop hx hb dL_law_1517 rfl ?_
  refine lv_goto (tgt := 1521) hx hb dL_law_1518 (by decide) ?_
  exact kk N1 N2 H locs ls hw ⟨Tc, Tm, hpT.2.2.1, hpM.2.1, hpT.2.2.2.1.trans (hE0.trans (show tI N2 60 2 = tI M2 60 2 from hpM.2.2.1).symm), (fun i hi => hB0 i (by rw [← hpT.2.2.2.1]; exact hi)), (congrArg Int32.toInt (hpT.2.2.2.2.1 1 4 (by decide) (by decide))).trans hR.1, (congrArg Int32.toInt (hpT.2.2.2.2.1 1 5 (by decide) (by decide))).trans hR.2, hS1, hS2, rg, tdC_tl htd1 hpT.2.2.2.2, tdR_lw htd2 hpM.2.2.2, lE_obs hle hpT.1 hpT.2.1 hpM.1.1 (fun q => hpM.1.2.trans q) hpM.2.2.2⟩ hl

/-! THE CLAIM OUT OF ONE WALK OF THE LAW'S BODY. Your part is whole_start (and what it stands on); all else here is the same for every law, but numbers. -/
def R_law : String := "ThirdInLineLaw"
def lw_P (b : Addr) (xs : List Int32) (args : Array Value) (s : State) : Prop := args = #[.ref b] ∧ s.IntsAt b xs ∧ xs.length ≤ 6 ∧ (Jvm.Cond.and given_1 narrow_1).before args s = true
def lw_Q (_ : Array Value) (s : State) (o : Outcome) (t : State) : Prop := o = .returned (some (.int 1)) ∧ Framed s o t [] 600002 7302231
def lw_Z (below : List Frame) (a : Array Value) (s : State) : State → Prop := fun t => ∃ o, t.status = .running ∧ Ended t below o ∧ lw_Q a s o t
/-- the law's own end, with 1 on the stack, nothing written that was there before, its room as the claim has it -/
theorem lw_ret {p : Program} {l : Launch} {e : Env} {s : State} {m : MethodId} {below : List Frame} {meth : Method} {c : Code} {b : Nat} (hx : p.tables.exec = Jvm.exec) (hb : c.code = code) (hr : meth.sig.returnType = ret) (hlocks : meth.locks = false) {pc : Nat} {H : Heap} {ls : Array Slot} (hdg : decode code pc = .ok (.ireturn, 1)) : W p l e room_1 s m #[Value.ref b] below meth c H [] 600002 7302231 (lw_Z below #[Value.ref b] s) (F0 m pc ls [.int 1]) := by
  intro T hT X
  obtain ⟨fs, hret, hrun, hended, hW, hframe⟩ := X.leave (v := some (.int 1)) (hlocks := hlocks) (fun h => by rw [hr] at h; cases h)
  have hmeth' : T.vm.method? m = some meth := X.method'
  refine ⟨T.setFrames fs, ?_, .returned (some (.int 1)), hrun, hended, rfl, ⟨_, rfl⟩, hW, hframe⟩
  jvm_step X.here [X.here.top, hx, hb, hdg, hmeth', hr, ret, narrow_b1]
  (try refine ⟨rfl, ?_⟩); (try refine ⟨rfl, ?_⟩)
  first | (intro acts; rw [hret _ acts rfl rfl rfl]) | rw [hret _ _ rfl rfl rfl]
  exact Steps.refl _
/-- what holds at the law's entry: the machine, the code, the tables' words (any of lw_tbl by 'hts w (by decide +kernel)'), the script of L ints xs at the cell b, what the Statement gives of the start (any of its parts by flat_of_before) -/
def lw_At (p : Program) (s : State) (m : MethodId) (meth : Method) (c : Code) (b L : Nat) (xs : Nat → Int32) : Prop :=
  p.tables.exec = Jvm.exec ∧ c.code = code ∧ meth.sig.returnType = ret ∧ c.maxLocals = 7 ∧ s.vm.findClass R_law = some m.cls ∧ (∀ w ∈ lw_tbl, w.before #[Value.ref b] s = true) ∧ va_X b L xs s s.heap ∧ b < s.heap.size ∧ meth.locks = false ∧ (Jvm.Cond.and given_1 narrow_1).before #[Value.ref b] s = true
def lq_Z (p : Program) (s : State) (m : MethodId) (meth : Method) (c : Code) (D : va_G) (cy : Nat → ClassId) (A1 A2 : Nat → Nat → Nat) (b : Nat) (xs : Nat → Int32) : Prop :=
  lq_B p s m c #[Value.ref b] cL_law RL 7 D cy ∧ lq_A s A1 A2 ∧ va_X b 6 xs s s.heap ∧ b < s.heap.size ∧ meth.sig.returnType = ret ∧ meth.locks = false
theorem lq_ret {p : Program} {l : Launch} {e : Env} {s : State} {m : MethodId} {below : List Frame} {meth : Method} {c : Code} {b : Nat} {H : Heap} {locs : List Loc} {ls : Array Slot} {cells slots : Nat} (hx : p.tables.exec = Jvm.exec) (hb : c.code = cL_law) (hr : meth.sig.returnType = ret) (hlk : meth.locks = false) (hS : va_S (lq_F s) s.heap H locs) (hc : cells ≤ 600002 ∧ slots ≤ 7302231) : W p l e room_1 s m #[Value.ref b] below meth c H locs cells slots (lw_Z below #[Value.ref b] s) (F0 m 1556 ls []) := by
  refine lv_iconst (v := 1) hx hb dL_law_1556 (by decide) ?_
  refine va_forget (fun q hq => hS.2.2 q hq) ?_
  refine W.widen (k := 600002) (n := 7302231) hc.1 hc.2 ?_
  exact lw_ret hx hb hr hlk dL_law_1557
theorem lq_fin {p : Program} {l : Launch} {e : Env} {s : State} {m : MethodId} {below : List Frame} {meth : Method} {c : Code} {D : va_G} {cy : Nat → ClassId} {A1 A2 : Nat → Nat → Nat} {b : Nat} {xs : Nat → Int32} {H : Heap} {locs : List Loc} {ls : Array Slot} {cells slots : Nat} (Z : lq_Z p s m meth c D cy A1 A2 b xs) (hS : va_S (lq_F s) s.heap H locs) (hc : cells ≤ 600002 ∧ slots ≤ 7302231) (hl : lv_has ls 7 [(4, .int 0), (0, .ref b)]) : W p l e room_1 s m #[Value.ref b] below meth c H locs cells slots (lw_Z below #[Value.ref b] s) (F0 m 1550 ls []) := by
  have hx := Z.1.1
  have hb := Z.1.2.1
  have hbA : ¬ lq_F s b := Nat.not_le.mpr Z.2.2.2.1
  refine lv_iinc (v := 6) (lv' := [(4, .int 6), (0, .ref b)]) hx hb dL_law_1550 hl (k := 0) rfl (by decide) (by decide) rfl (fun ls hl => ?_)
  refine lv_goto (tgt := 23) hx hb dL_law_1553 (by decide) ?_
  refine lv_iload hx hb dL_law_23 (lv_at hl 0 rfl) ?_
  refine lv_aload_n hx hb dL_law_25 rfl (lv_at hl 1 rfl) ?_
  refine va_slen hx hb Z.2.2.1 Z.2.2.2.1 hbA hS dL_law_26 ?_
  refine lv_bipush (v := 6) hx hb dL_law_27 (by decide) ?_
  refine lv_isub hx hb dL_law_29 ?_
  refine ti_top (y := 0) (by decide) ?_
  refine lv_icmp_gt (tgt := 1556) hx hb dL_law_30 (by decide) (fun _ => ?_) (fun c => absurd (by decide) c)
  exact lq_ret hx hb Z.2.2.2.2.1 Z.2.2.2.2.2 hS hc
set_option maxRecDepth 100000 in
theorem lq_c0 {p : Program} {l : Launch} {e : Env} {s : State} {m : MethodId} {below : List Frame} {meth : Method} {c : Code} {D : va_G} {cy : Nat → ClassId} {A1 A2 : Nat → Nat → Nat} {M1 M2 : ti_M} {b q3 : Nat} {xs : Nat → Int32} {H : Heap} {locs : List Loc} {ls : Array Slot} (Z : lq_Z p s m meth c D cy A1 A2 b xs) (hw : lq_H s D cy A1 A2 M1 M2 H locs) (h1 : ti_F M1) (h2 : ti_FM M2) (hl : lv_has ls 7 [(4, .int 0), (3, .ref q3), (2, .ref (A2 60 0)), (1, .ref (A1 0 0)), (0, .ref b)]) : W p l e room_1 s m #[Value.ref b] below meth c H locs 423 10061 (lw_Z below #[Value.ref b] s) (F0 m 208 ls []) := by
  have C := Z.1
  have hA := Z.2.1
  have hx := C.1
  have hb := C.2.1
  have hbA : ¬ lq_F s b := Nat.not_le.mpr Z.2.2.2.1
  refine lv_aload_n hx hb dL_law_208 rfl (lv_at hl 3 rfl) ?_
  refine lv_aload_n hx hb dL_law_209 rfl (lv_at hl 4 rfl) ?_
  refine lv_iload hx hb dL_law_210 (lv_at hl 0 rfl) ?_
  refine lv_iconst (v := 1) hx hb dL_law_212 (by decide) ?_
  refine lv_iadd hx hb dL_law_213 ?_
  refine ti_top (y := 1) (by decide) ?_
  refine va_sld hx hb Z.2.2.1 Z.2.2.2.1 hbA hw.2.2 lq_i1 dL_law_214 ?_
  refine lv_aload_n hx hb dL_law_215 rfl (lv_at hl 4 rfl) ?_
  refine lv_iload hx hb dL_law_216 (lv_at hl 0 rfl) ?_
  refine lv_iconst (v := 2) hx hb dL_law_218 (by decide) ?_
  refine lv_iadd hx hb dL_law_219 ?_
  refine ti_top (y := 2) (by decide) ?_
  refine va_sld hx hb Z.2.2.1 Z.2.2.2.1 hbA hw.2.2 lq_i2 dL_law_220 ?_
  refine lv_aload_n hx hb dL_law_221 rfl (lv_at hl 4 rfl) ?_
  refine lv_iload hx hb dL_law_222 (lv_at hl 0 rfl) ?_
  refine lv_iconst (v := 3) hx hb dL_law_224 (by decide) ?_
  refine lv_iadd hx hb dL_law_225 ?_
  refine ti_top (y := 3) (by decide) ?_
  refine va_sld hx hb Z.2.2.1 Z.2.2.2.1 hbA hw.2.2 lq_i3 dL_law_226 ?_
  refine lv_aload_n hx hb dL_law_227 rfl (lv_at hl 4 rfl) ?_
  refine lv_iload hx hb dL_law_228 (lv_at hl 0 rfl) ?_
  refine lv_iconst (v := 4) hx hb dL_law_230 (by decide) ?_
  refine lv_iadd hx hb dL_law_231 ?_
  refine ti_top (y := 4) (by decide) ?_
  refine va_sld hx hb Z.2.2.1 Z.2.2.2.1 hbA hw.2.2 lq_i4 dL_law_232 ?_
  refine lv_aload_n hx hb dL_law_233 rfl (lv_at hl 4 rfl) ?_
  refine lv_iload hx hb dL_law_234 (lv_at hl 0 rfl) ?_
  refine lv_iconst (v := 5) hx hb dL_law_236 (by decide) ?_
  refine lv_iadd hx hb dL_law_237 ?_
  refine ti_top (y := 5) (by decide) ?_
  refine va_sld hx hb Z.2.2.1 Z.2.2.2.1 hbA hw.2.2 lq_i5 dL_law_238 ?_
  refine lq_callTi (av := [.int (xs (1 : Int32).toNatClampNeg), .int (xs (2 : Int32).toNatClampNeg), .int (xs (3 : Int32).toNatClampNeg), .int (xs (4 : Int32).toNatClampNeg), .int (xs (5 : Int32).toNatClampNeg)]) C hA hw (k_X9_feed l D A1 cy hA.1 M1 h1 (xs (1 : Int32).toNatClampNeg) (xs (2 : Int32).toNatClampNeg) (xs (3 : Int32).toNatClampNeg) (xs (4 : Int32).toNatClampNeg) (xs (5 : Int32).toNatClampNeg)) ⟨ml_L_21, ym_X9_feed, yv_X9_feed, yi_X9_feed, yc_X9_feed⟩ yd_X9_feed rfl rfl hl.1 (Nat.le_of_ble_eq_true rfl) ⟨by decide, by decide⟩ ⟨Nat.le_of_ble_eq_true rfl, Nat.le_of_ble_eq_true rfl⟩ dL_law_239 (fun rT M1 H locs hp hw => ?_)
  obtain rfl := hp
  refine lv_aload_n hx hb dL_law_242 rfl (lv_at hl 2 rfl) ?_
  refine lv_aload_n hx hb dL_law_243 rfl (lv_at hl 4 rfl) ?_
  refine lv_iload hx hb dL_law_244 (lv_at hl 0 rfl) ?_
  refine lv_iconst (v := 1) hx hb dL_law_246 (by decide) ?_
  refine lv_iadd hx hb dL_law_247 ?_
  refine ti_top (y := 1) (by decide) ?_
  refine va_sld hx hb Z.2.2.1 Z.2.2.2.1 hbA hw.2.2 lq_i1 dL_law_248 ?_
  refine lv_aload_n hx hb dL_law_249 rfl (lv_at hl 4 rfl) ?_
  refine lv_iload hx hb dL_law_250 (lv_at hl 0 rfl) ?_
  refine lv_iconst (v := 2) hx hb dL_law_252 (by decide) ?_
  refine lv_iadd hx hb dL_law_253 ?_
  refine ti_top (y := 2) (by decide) ?_
  refine va_sld hx hb Z.2.2.1 Z.2.2.2.1 hbA hw.2.2 lq_i2 dL_law_254 ?_
  refine lv_aload_n hx hb dL_law_255 rfl (lv_at hl 4 rfl) ?_
  refine lv_iload hx hb dL_law_256 (lv_at hl 0 rfl) ?_
  refine lv_iconst (v := 3) hx hb dL_law_258 (by decide) ?_
  refine lv_iadd hx hb dL_law_259 ?_
  refine ti_top (y := 3) (by decide) ?_
  refine va_sld hx hb Z.2.2.1 Z.2.2.2.1 hbA hw.2.2 lq_i3 dL_law_260 ?_
  refine lv_aload_n hx hb dL_law_261 rfl (lv_at hl 4 rfl) ?_
  refine lv_iload hx hb dL_law_262 (lv_at hl 0 rfl) ?_
  refine lv_iconst (v := 4) hx hb dL_law_264 (by decide) ?_
  refine lv_iadd hx hb dL_law_265 ?_
  refine ti_top (y := 4) (by decide) ?_
  refine va_sld hx hb Z.2.2.1 Z.2.2.2.1 hbA hw.2.2 lq_i4 dL_law_266 ?_
  refine lv_aload_n hx hb dL_law_267 rfl (lv_at hl 4 rfl) ?_
  refine lv_iload hx hb dL_law_268 (lv_at hl 0 rfl) ?_
  refine lv_iconst (v := 5) hx hb dL_law_270 (by decide) ?_
  refine lv_iadd hx hb dL_law_271 ?_
  refine ti_top (y := 5) (by decide) ?_
  refine va_sld hx hb Z.2.2.1 Z.2.2.2.1 hbA hw.2.2 lq_i5 dL_law_272 ?_
  refine lq_callMi (av := [.int (xs (1 : Int32).toNatClampNeg), .int (xs (2 : Int32).toNatClampNeg), .int (xs (3 : Int32).toNatClampNeg), .int (xs (4 : Int32).toNatClampNeg), .int (xs (5 : Int32).toNatClampNeg)]) C hA hw (k_X10_feed l D A2 cy hA.2.1 M2 h2 (xs (1 : Int32).toNatClampNeg) (xs (2 : Int32).toNatClampNeg) (xs (3 : Int32).toNatClampNeg) (xs (4 : Int32).toNatClampNeg) (xs (5 : Int32).toNatClampNeg)) ⟨ml_L_25, ym_X10_feed, yv_X10_feed, yi_X10_feed, yc_X10_feed⟩ yd_X10_feed rfl rfl hl.1 (Nat.le_of_ble_eq_true rfl) ⟨by decide, by decide⟩ ⟨Nat.le_of_ble_eq_true rfl, Nat.le_of_ble_eq_true rfl⟩ dL_law_273 (fun rM M2 H locs hp hw => ?_)
  obtain rfl := hp
  refine lv_icmp_eq (tgt := 1550) hx hb dL_law_276 (by decide) (fun _ => ?_) (fun c => absurd rfl c)
  exact lq_fin Z hw.2.2 ⟨Nat.le_of_ble_eq_true rfl, Nat.le_of_ble_eq_true rfl⟩ (lv_sub hl [0, 4] rfl)
set_option maxRecDepth 100000 in
theorem lq_c1 {p : Program} {l : Launch} {e : Env} {s : State} {m : MethodId} {below : List Frame} {meth : Method} {c : Code} {D : va_G} {cy : Nat → ClassId} {A1 A2 : Nat → Nat → Nat} {M1 M2 : ti_M} {b q3 : Nat} {xs : Nat → Int32} {H : Heap} {locs : List Loc} {ls : Array Slot} (Z : lq_Z p s m meth c D cy A1 A2 b xs) (hw : lq_H s D cy A1 A2 M1 M2 H locs) (h1 : ti_F M1) (h2 : ti_FM M2) (hl : lv_has ls 7 [(4, .int 0), (3, .ref q3), (2, .ref (A2 60 0)), (1, .ref (A1 0 0)), (0, .ref b)]) : W p l e room_1 s m #[Value.ref b] below meth c H locs 423 10061 (lw_Z below #[Value.ref b] s) (F0 m 281 ls []) := by
  have C := Z.1
  have hA := Z.2.1
  have hx := C.1
  have hb := C.2.1
  have hbA : ¬ lq_F s b := Nat.not_le.mpr Z.2.2.2.1
  refine lv_aload_n hx hb dL_law_281 rfl (lv_at hl 3 rfl) ?_
  refine lv_aload_n hx hb dL_law_282 rfl (lv_at hl 4 rfl) ?_
  refine lv_iload hx hb dL_law_283 (lv_at hl 0 rfl) ?_
  refine lv_iconst (v := 1) hx hb dL_law_285 (by decide) ?_
  refine lv_iadd hx hb dL_law_286 ?_
  refine ti_top (y := 1) (by decide) ?_
  refine va_sld hx hb Z.2.2.1 Z.2.2.2.1 hbA hw.2.2 lq_i1 dL_law_287 ?_
  refine lq_callTi (av := [.int (xs (1 : Int32).toNatClampNeg)]) C hA hw (k_X9_text l D A1 cy hA.1 M1 h1 (xs (1 : Int32).toNatClampNeg)) ⟨ml_L_26, ym_X9_text, yv_X9_text, yi_X9_text, yc_X9_text⟩ yd_X9_text rfl rfl hl.1 (Nat.le_of_ble_eq_true rfl) ⟨by decide, by decide⟩ ⟨Nat.le_of_ble_eq_true rfl, Nat.le_of_ble_eq_true rfl⟩ dL_law_288 (fun rT M1 H locs hp hw => ?_)
  obtain rfl := hp
  refine lv_aload_n hx hb dL_law_291 rfl (lv_at hl 2 rfl) ?_
  refine lv_aload_n hx hb dL_law_292 rfl (lv_at hl 4 rfl) ?_
  refine lv_iload hx hb dL_law_293 (lv_at hl 0 rfl) ?_
  refine lv_iconst (v := 1) hx hb dL_law_295 (by decide) ?_
  refine lv_iadd hx hb dL_law_296 ?_
  refine ti_top (y := 1) (by decide) ?_
  refine va_sld hx hb Z.2.2.1 Z.2.2.2.1 hbA hw.2.2 lq_i1 dL_law_297 ?_
  refine lq_callMi (av := [.int (xs (1 : Int32).toNatClampNeg)]) C hA hw (k_X10_text l D A2 cy hA.2.1 M2 h2 (xs (1 : Int32).toNatClampNeg)) ⟨ml_L_30, ym_X10_text, yv_X10_text, yi_X10_text, yc_X10_text⟩ yd_X10_text rfl rfl hl.1 (Nat.le_of_ble_eq_true rfl) ⟨by decide, by decide⟩ ⟨Nat.le_of_ble_eq_true rfl, Nat.le_of_ble_eq_true rfl⟩ dL_law_298 (fun rM M2 H locs hp hw => ?_)
  obtain rfl := hp
  refine lv_icmp_eq (tgt := 1550) hx hb dL_law_301 (by decide) (fun _ => ?_) (fun c => absurd rfl c)
  exact lq_fin Z hw.2.2 ⟨Nat.le_of_ble_eq_true rfl, Nat.le_of_ble_eq_true rfl⟩ (lv_sub hl [0, 4] rfl)
set_option maxRecDepth 100000 in
theorem lq_c2 {p : Program} {l : Launch} {e : Env} {s : State} {m : MethodId} {below : List Frame} {meth : Method} {c : Code} {D : va_G} {cy : Nat → ClassId} {A1 A2 : Nat → Nat → Nat} {M1 M2 : ti_M} {b q3 : Nat} {xs : Nat → Int32} {H : Heap} {locs : List Loc} {ls : Array Slot} (Z : lq_Z p s m meth c D cy A1 A2 b xs) (hw : lq_H s D cy A1 A2 M1 M2 H locs) (h1 : ti_F M1) (h2 : ti_FM M2) (hl : lv_has ls 7 [(4, .int 0), (3, .ref q3), (2, .ref (A2 60 0)), (1, .ref (A1 0 0)), (0, .ref b)]) : W p l e room_1 s m #[Value.ref b] below meth c H locs 423 10061 (lw_Z below #[Value.ref b] s) (F0 m 306 ls []) := by
  have C := Z.1
  have hA := Z.2.1
  have hx := C.1
  have hb := C.2.1
  have hbA : ¬ lq_F s b := Nat.not_le.mpr Z.2.2.2.1
  refine lv_aload_n hx hb dL_law_306 rfl (lv_at hl 3 rfl) ?_
  refine lv_aload_n hx hb dL_law_307 rfl (lv_at hl 4 rfl) ?_
  refine lv_iload hx hb dL_law_308 (lv_at hl 0 rfl) ?_
  refine lv_iconst (v := 1) hx hb dL_law_310 (by decide) ?_
  refine lv_iadd hx hb dL_law_311 ?_
  refine ti_top (y := 1) (by decide) ?_
  refine va_sld hx hb Z.2.2.1 Z.2.2.2.1 hbA hw.2.2 lq_i1 dL_law_312 ?_
  refine lq_callTi (av := [.int (xs (1 : Int32).toNatClampNeg)]) C hA hw (k_X9_fault l D A1 cy hA.1 M1 h1 (xs (1 : Int32).toNatClampNeg)) ⟨ml_L_31, ym_X9_fault, yv_X9_fault, yi_X9_fault, yc_X9_fault⟩ yd_X9_fault rfl rfl hl.1 (Nat.le_of_ble_eq_true rfl) ⟨by decide, by decide⟩ ⟨Nat.le_of_ble_eq_true rfl, Nat.le_of_ble_eq_true rfl⟩ dL_law_313 (fun rT M1 H locs hp hw => ?_)
  obtain rfl := hp
  refine lv_aload_n hx hb dL_law_316 rfl (lv_at hl 2 rfl) ?_
  refine lv_aload_n hx hb dL_law_317 rfl (lv_at hl 4 rfl) ?_
  refine lv_iload hx hb dL_law_318 (lv_at hl 0 rfl) ?_
  refine lv_iconst (v := 1) hx hb dL_law_320 (by decide) ?_
  refine lv_iadd hx hb dL_law_321 ?_
  refine ti_top (y := 1) (by decide) ?_
  refine va_sld hx hb Z.2.2.1 Z.2.2.2.1 hbA hw.2.2 lq_i1 dL_law_322 ?_
  refine lq_callMi (av := [.int (xs (1 : Int32).toNatClampNeg)]) C hA hw (k_X10_fault l D A2 cy hA.2.1 M2 h2 (xs (1 : Int32).toNatClampNeg)) ⟨ml_L_34, ym_X10_fault, yv_X10_fault, yi_X10_fault, yc_X10_fault⟩ yd_X10_fault rfl rfl hl.1 (Nat.le_of_ble_eq_true rfl) ⟨by decide, by decide⟩ ⟨Nat.le_of_ble_eq_true rfl, Nat.le_of_ble_eq_true rfl⟩ dL_law_323 (fun rM M2 H locs hp hw => ?_)
  obtain rfl := hp
  refine lv_icmp_eq (tgt := 1550) hx hb dL_law_326 (by decide) (fun _ => ?_) (fun c => absurd rfl c)
  exact lq_fin Z hw.2.2 ⟨Nat.le_of_ble_eq_true rfl, Nat.le_of_ble_eq_true rfl⟩ (lv_sub hl [0, 4] rfl)
set_option maxRecDepth 100000 in
theorem lq_c3 {p : Program} {l : Launch} {e : Env} {s : State} {m : MethodId} {below : List Frame} {meth : Method} {c : Code} {D : va_G} {cy : Nat → ClassId} {A1 A2 : Nat → Nat → Nat} {M1 M2 : ti_M} {b q3 : Nat} {xs : Nat → Int32} {H : Heap} {locs : List Loc} {ls : Array Slot} (Z : lq_Z p s m meth c D cy A1 A2 b xs) (hw : lq_H s D cy A1 A2 M1 M2 H locs) (h1 : ti_F M1) (h2 : ti_FM M2) (hl : lv_has ls 7 [(4, .int 0), (3, .ref q3), (2, .ref (A2 60 0)), (1, .ref (A1 0 0)), (0, .ref b)]) : W p l e room_1 s m #[Value.ref b] below meth c H locs 423 10061 (lw_Z below #[Value.ref b] s) (F0 m 331 ls []) := by
  have C := Z.1
  have hA := Z.2.1
  have hx := C.1
  have hb := C.2.1
  have hbA : ¬ lq_F s b := Nat.not_le.mpr Z.2.2.2.1
  refine lv_aload_n hx hb dL_law_331 rfl (lv_at hl 3 rfl) ?_
  refine lv_aload_n hx hb dL_law_332 rfl (lv_at hl 4 rfl) ?_
  refine lv_iload hx hb dL_law_333 (lv_at hl 0 rfl) ?_
  refine lv_iconst (v := 1) hx hb dL_law_335 (by decide) ?_
  refine lv_iadd hx hb dL_law_336 ?_
  refine ti_top (y := 1) (by decide) ?_
  refine va_sld hx hb Z.2.2.1 Z.2.2.2.1 hbA hw.2.2 lq_i1 dL_law_337 ?_
  refine lq_callTi (av := [.int (xs (1 : Int32).toNatClampNeg)]) C hA hw (k_X9_named l D A1 cy hA.1 M1 h1 (xs (1 : Int32).toNatClampNeg)) ⟨ml_L_35, ym_X9_named, yv_X9_named, yi_X9_named, yc_X9_named⟩ yd_X9_named rfl rfl hl.1 (Nat.le_of_ble_eq_true rfl) ⟨by decide, by decide⟩ ⟨Nat.le_of_ble_eq_true rfl, Nat.le_of_ble_eq_true rfl⟩ dL_law_338 (fun rT M1 H locs hp hw => ?_)
  obtain rfl := hp
  refine lv_aload_n hx hb dL_law_341 rfl (lv_at hl 2 rfl) ?_
  refine lv_aload_n hx hb dL_law_342 rfl (lv_at hl 4 rfl) ?_
  refine lv_iload hx hb dL_law_343 (lv_at hl 0 rfl) ?_
  refine lv_iconst (v := 1) hx hb dL_law_345 (by decide) ?_
  refine lv_iadd hx hb dL_law_346 ?_
  refine ti_top (y := 1) (by decide) ?_
  refine va_sld hx hb Z.2.2.1 Z.2.2.2.1 hbA hw.2.2 lq_i1 dL_law_347 ?_
  refine lq_callMi (av := [.int (xs (1 : Int32).toNatClampNeg)]) C hA hw (k_X10_named l D A2 cy hA.2.1 M2 h2 (xs (1 : Int32).toNatClampNeg)) ⟨ml_L_38, ym_X10_named, yv_X10_named, yi_X10_named, yc_X10_named⟩ yd_X10_named rfl rfl hl.1 (Nat.le_of_ble_eq_true rfl) ⟨by decide, by decide⟩ ⟨Nat.le_of_ble_eq_true rfl, Nat.le_of_ble_eq_true rfl⟩ dL_law_348 (fun rM M2 H locs hp hw => ?_)
  obtain rfl := hp
  refine lv_icmp_eq (tgt := 1550) hx hb dL_law_351 (by decide) (fun _ => ?_) (fun c => absurd rfl c)
  exact lq_fin Z hw.2.2 ⟨Nat.le_of_ble_eq_true rfl, Nat.le_of_ble_eq_true rfl⟩ (lv_sub hl [0, 4] rfl)
set_option maxRecDepth 100000 in
theorem lq_c5 {p : Program} {l : Launch} {e : Env} {s : State} {m : MethodId} {below : List Frame} {meth : Method} {c : Code} {D : va_G} {cy : Nat → ClassId} {A1 A2 : Nat → Nat → Nat} {M1 M2 : ti_M} {b q3 : Nat} {xs : Nat → Int32} {H : Heap} {locs : List Loc} {ls : Array Slot} (Z : lq_Z p s m meth c D cy A1 A2 b xs) (hw : lq_H s D cy A1 A2 M1 M2 H locs) (h1 : ti_F M1) (h2 : ti_FM M2) (hl : lv_has ls 7 [(4, .int 0), (3, .ref q3), (2, .ref (A2 60 0)), (1, .ref (A1 0 0)), (0, .ref b)]) : W p l e room_1 s m #[Value.ref b] below meth c H locs 423 10061 (lw_Z below #[Value.ref b] s) (F0 m 424 ls []) := by
  have C := Z.1
  have hA := Z.2.1
  have hx := C.1
  have hb := C.2.1
  have hbA : ¬ lq_F s b := Nat.not_le.mpr Z.2.2.2.1
  refine lv_aload_n hx hb dL_law_424 rfl (lv_at hl 3 rfl) ?_
  refine lv_aload_n hx hb dL_law_425 rfl (lv_at hl 4 rfl) ?_
  refine lv_iload hx hb dL_law_426 (lv_at hl 0 rfl) ?_
  refine lv_iconst (v := 1) hx hb dL_law_428 (by decide) ?_
  refine lv_iadd hx hb dL_law_429 ?_
  refine ti_top (y := 1) (by decide) ?_
  refine va_sld hx hb Z.2.2.1 Z.2.2.2.1 hbA hw.2.2 lq_i1 dL_law_430 ?_
  refine lq_callTi (av := [.int (xs (1 : Int32).toNatClampNeg)]) C hA hw (k_X9_stands l D A1 cy hA.1 M1 h1 (xs (1 : Int32).toNatClampNeg)) ⟨ml_L_49, ym_X9_stands, yv_X9_stands, yi_X9_stands, yc_X9_stands⟩ yd_X9_stands rfl rfl hl.1 (Nat.le_of_ble_eq_true rfl) ⟨by decide, by decide⟩ ⟨Nat.le_of_ble_eq_true rfl, Nat.le_of_ble_eq_true rfl⟩ dL_law_431 (fun rT M1 H locs hp hw => ?_)
  obtain rfl := hp
  refine lv_aload_n hx hb dL_law_434 rfl (lv_at hl 2 rfl) ?_
  refine lv_aload_n hx hb dL_law_435 rfl (lv_at hl 4 rfl) ?_
  refine lv_iload hx hb dL_law_436 (lv_at hl 0 rfl) ?_
  refine lv_iconst (v := 1) hx hb dL_law_438 (by decide) ?_
  refine lv_iadd hx hb dL_law_439 ?_
  refine ti_top (y := 1) (by decide) ?_
  refine va_sld hx hb Z.2.2.1 Z.2.2.2.1 hbA hw.2.2 lq_i1 dL_law_440 ?_
  refine lq_callMi (av := [.int (xs (1 : Int32).toNatClampNeg)]) C hA hw (k_X10_stands l D A2 cy hA.2.1 M2 h2 (xs (1 : Int32).toNatClampNeg)) ⟨ml_L_52, ym_X10_stands, yv_X10_stands, yi_X10_stands, yc_X10_stands⟩ yd_X10_stands rfl rfl hl.1 (Nat.le_of_ble_eq_true rfl) ⟨by decide, by decide⟩ ⟨Nat.le_of_ble_eq_true rfl, Nat.le_of_ble_eq_true rfl⟩ dL_law_441 (fun rM M2 H locs hp hw => ?_)
  obtain rfl := hp
  refine lv_icmp_eq (tgt := 1550) hx hb dL_law_444 (by decide) (fun _ => ?_) (fun c => absurd rfl c)
  exact lq_fin Z hw.2.2 ⟨Nat.le_of_ble_eq_true rfl, Nat.le_of_ble_eq_true rfl⟩ (lv_sub hl [0, 4] rfl)
set_option maxRecDepth 100000 in
theorem lq_c6 {p : Program} {l : Launch} {e : Env} {s : State} {m : MethodId} {below : List Frame} {meth : Method} {c : Code} {D : va_G} {cy : Nat → ClassId} {A1 A2 : Nat → Nat → Nat} {M1 M2 : ti_M} {b q3 : Nat} {xs : Nat → Int32} {H : Heap} {locs : List Loc} {ls : Array Slot} (Z : lq_Z p s m meth c D cy A1 A2 b xs) (hw : lq_H s D cy A1 A2 M1 M2 H locs) (h1 : ti_F M1) (h2 : ti_FM M2) (hl : lv_has ls 7 [(4, .int 0), (3, .ref q3), (2, .ref (A2 60 0)), (1, .ref (A1 0 0)), (0, .ref b)]) : W p l e room_1 s m #[Value.ref b] below meth c H locs 423 10061 (lw_Z below #[Value.ref b] s) (F0 m 449 ls []) := by
  have C := Z.1
  have hA := Z.2.1
  have hx := C.1
  have hb := C.2.1
  have hbA : ¬ lq_F s b := Nat.not_le.mpr Z.2.2.2.1
  refine lv_aload_n hx hb dL_law_449 rfl (lv_at hl 3 rfl) ?_
  refine lv_aload_n hx hb dL_law_450 rfl (lv_at hl 4 rfl) ?_
  refine lv_iload hx hb dL_law_451 (lv_at hl 0 rfl) ?_
  refine lv_iconst (v := 1) hx hb dL_law_453 (by decide) ?_
  refine lv_iadd hx hb dL_law_454 ?_
  refine ti_top (y := 1) (by decide) ?_
  refine va_sld hx hb Z.2.2.1 Z.2.2.2.1 hbA hw.2.2 lq_i1 dL_law_455 ?_
  refine lq_callTi (av := [.int (xs (1 : Int32).toNatClampNeg)]) C hA hw (k_X9_holder l D A1 cy hA.1 M1 h1 (xs (1 : Int32).toNatClampNeg)) ⟨ml_L_53, ym_X9_holder, yv_X9_holder, yi_X9_holder, yc_X9_holder⟩ yd_X9_holder rfl rfl hl.1 (Nat.le_of_ble_eq_true rfl) ⟨by decide, by decide⟩ ⟨Nat.le_of_ble_eq_true rfl, Nat.le_of_ble_eq_true rfl⟩ dL_law_456 (fun rT M1 H locs hp hw => ?_)
  obtain rfl := hp
  refine lv_aload_n hx hb dL_law_459 rfl (lv_at hl 2 rfl) ?_
  refine lv_aload_n hx hb dL_law_460 rfl (lv_at hl 4 rfl) ?_
  refine lv_iload hx hb dL_law_461 (lv_at hl 0 rfl) ?_
  refine lv_iconst (v := 1) hx hb dL_law_463 (by decide) ?_
  refine lv_iadd hx hb dL_law_464 ?_
  refine ti_top (y := 1) (by decide) ?_
  refine va_sld hx hb Z.2.2.1 Z.2.2.2.1 hbA hw.2.2 lq_i1 dL_law_465 ?_
  refine lq_callMi (av := [.int (xs (1 : Int32).toNatClampNeg)]) C hA hw (k_X10_holder l D A2 cy hA.2.1 M2 h2 (xs (1 : Int32).toNatClampNeg)) ⟨ml_L_56, ym_X10_holder, yv_X10_holder, yi_X10_holder, yc_X10_holder⟩ yd_X10_holder rfl rfl hl.1 (Nat.le_of_ble_eq_true rfl) ⟨by decide, by decide⟩ ⟨Nat.le_of_ble_eq_true rfl, Nat.le_of_ble_eq_true rfl⟩ dL_law_466 (fun rM M2 H locs hp hw => ?_)
  obtain rfl := hp
  refine lv_icmp_eq (tgt := 1550) hx hb dL_law_469 (by decide) (fun _ => ?_) (fun c => absurd rfl c)
  exact lq_fin Z hw.2.2 ⟨Nat.le_of_ble_eq_true rfl, Nat.le_of_ble_eq_true rfl⟩ (lv_sub hl [0, 4] rfl)
set_option maxRecDepth 100000 in
theorem lq_c7 {p : Program} {l : Launch} {e : Env} {s : State} {m : MethodId} {below : List Frame} {meth : Method} {c : Code} {D : va_G} {cy : Nat → ClassId} {A1 A2 : Nat → Nat → Nat} {M1 M2 : ti_M} {b q3 : Nat} {xs : Nat → Int32} {H : Heap} {locs : List Loc} {ls : Array Slot} (Z : lq_Z p s m meth c D cy A1 A2 b xs) (hw : lq_H s D cy A1 A2 M1 M2 H locs) (h1 : ti_F M1) (h2 : ti_FM M2) (hl : lv_has ls 7 [(4, .int 0), (3, .ref q3), (2, .ref (A2 60 0)), (1, .ref (A1 0 0)), (0, .ref b)]) : W p l e room_1 s m #[Value.ref b] below meth c H locs 423 10061 (lw_Z below #[Value.ref b] s) (F0 m 474 ls []) := by
  have C := Z.1
  have hA := Z.2.1
  have hx := C.1
  have hb := C.2.1
  have hbA : ¬ lq_F s b := Nat.not_le.mpr Z.2.2.2.1
  refine lv_aload_n hx hb dL_law_474 rfl (lv_at hl 3 rfl) ?_
  refine lv_aload_n hx hb dL_law_475 rfl (lv_at hl 4 rfl) ?_
  refine lv_iload hx hb dL_law_476 (lv_at hl 0 rfl) ?_
  refine lv_iconst (v := 1) hx hb dL_law_478 (by decide) ?_
  refine lv_iadd hx hb dL_law_479 ?_
  refine ti_top (y := 1) (by decide) ?_
  refine va_sld hx hb Z.2.2.1 Z.2.2.2.1 hbA hw.2.2 lq_i1 dL_law_480 ?_
  refine lv_aload_n hx hb dL_law_481 rfl (lv_at hl 4 rfl) ?_
  refine lv_iload hx hb dL_law_482 (lv_at hl 0 rfl) ?_
  refine lv_iconst (v := 2) hx hb dL_law_484 (by decide) ?_
  refine lv_iadd hx hb dL_law_485 ?_
  refine ti_top (y := 2) (by decide) ?_
  refine va_sld hx hb Z.2.2.1 Z.2.2.2.1 hbA hw.2.2 lq_i2 dL_law_486 ?_
  refine lq_callTl (av := [.int (xs (1 : Int32).toNatClampNeg), .int (xs (2 : Int32).toNatClampNeg)]) C hA hw (k_X9_law l D A1 cy hA.1 M1 h1 (xs (1 : Int32).toNatClampNeg) (xs (2 : Int32).toNatClampNeg)) ⟨ml_L_57, ym_X9_law, yv_X9_law, yi_X9_law, yc_X9_law⟩ yd_X9_law rfl rfl hl.1 (Nat.le_of_ble_eq_true rfl) ⟨by decide, by decide⟩ ⟨Nat.le_of_ble_eq_true rfl, Nat.le_of_ble_eq_true rfl⟩ dL_law_487 (fun rT M1 H locs hp hw => ?_)
  obtain rfl := hp
  refine lv_aload_n hx hb dL_law_490 rfl (lv_at hl 2 rfl) ?_
  refine lv_aload_n hx hb dL_law_491 rfl (lv_at hl 4 rfl) ?_
  refine lv_iload hx hb dL_law_492 (lv_at hl 0 rfl) ?_
  refine lv_iconst (v := 1) hx hb dL_law_494 (by decide) ?_
  refine lv_iadd hx hb dL_law_495 ?_
  refine ti_top (y := 1) (by decide) ?_
  refine va_sld hx hb Z.2.2.1 Z.2.2.2.1 hbA hw.2.2 lq_i1 dL_law_496 ?_
  refine lv_aload_n hx hb dL_law_497 rfl (lv_at hl 4 rfl) ?_
  refine lv_iload hx hb dL_law_498 (lv_at hl 0 rfl) ?_
  refine lv_iconst (v := 2) hx hb dL_law_500 (by decide) ?_
  refine lv_iadd hx hb dL_law_501 ?_
  refine ti_top (y := 2) (by decide) ?_
  refine va_sld hx hb Z.2.2.1 Z.2.2.2.1 hbA hw.2.2 lq_i2 dL_law_502 ?_
  refine lq_callMl (av := [.int (xs (1 : Int32).toNatClampNeg), .int (xs (2 : Int32).toNatClampNeg)]) C hA hw (k_X10_law l D A2 cy hA.2.1 M2 h2 (xs (1 : Int32).toNatClampNeg) (xs (2 : Int32).toNatClampNeg)) ⟨ml_L_61, ym_X10_law, yv_X10_law, yi_X10_law, yc_X10_law⟩ yd_X10_law rfl rfl hl.1 (Nat.le_of_ble_eq_true rfl) ⟨by decide, by decide⟩ ⟨Nat.le_of_ble_eq_true rfl, Nat.le_of_ble_eq_true rfl⟩ dL_law_503 (fun rM M2 H locs hp hw => ?_)
  obtain rfl := hp
  refine W.lcmp hx hb dL_law_506 ?_
  refine ti_top (y := 0) (by decide) ?_
  refine lv_if_eq (tgt := 1550) hx hb dL_law_507 (by decide) (fun _ => ?_) (fun c => absurd rfl c)
  exact lq_fin Z hw.2.2 ⟨Nat.le_of_ble_eq_true rfl, Nat.le_of_ble_eq_true rfl⟩ (lv_sub hl [0, 4] rfl)
set_option maxRecDepth 100000 in
theorem lq_c8 {p : Program} {l : Launch} {e : Env} {s : State} {m : MethodId} {below : List Frame} {meth : Method} {c : Code} {D : va_G} {cy : Nat → ClassId} {A1 A2 : Nat → Nat → Nat} {M1 M2 : ti_M} {b q3 : Nat} {xs : Nat → Int32} {H : Heap} {locs : List Loc} {ls : Array Slot} (Z : lq_Z p s m meth c D cy A1 A2 b xs) (hw : lq_H s D cy A1 A2 M1 M2 H locs) (h1 : ti_F M1) (h2 : ti_FM M2) (hl : lv_has ls 7 [(4, .int 0), (3, .ref q3), (2, .ref (A2 60 0)), (1, .ref (A1 0 0)), (0, .ref b)]) : W p l e room_1 s m #[Value.ref b] below meth c H locs 423 10061 (lw_Z below #[Value.ref b] s) (F0 m 512 ls []) := by
  have C := Z.1
  have hA := Z.2.1
  have hx := C.1
  have hb := C.2.1
  have hbA : ¬ lq_F s b := Nat.not_le.mpr Z.2.2.2.1
  refine lv_aload_n hx hb dL_law_512 rfl (lv_at hl 3 rfl) ?_
  refine lv_aload_n hx hb dL_law_513 rfl (lv_at hl 4 rfl) ?_
  refine lv_iload hx hb dL_law_514 (lv_at hl 0 rfl) ?_
  refine lv_iconst (v := 1) hx hb dL_law_516 (by decide) ?_
  refine lv_iadd hx hb dL_law_517 ?_
  refine ti_top (y := 1) (by decide) ?_
  refine va_sld hx hb Z.2.2.1 Z.2.2.2.1 hbA hw.2.2 lq_i1 dL_law_518 ?_
  refine lq_callTi (av := [.int (xs (1 : Int32).toNatClampNeg)]) C hA hw (k_X9_go l D A1 cy hA.1 M1 h1 (xs (1 : Int32).toNatClampNeg)) ⟨ml_L_62, ym_X9_go, yv_X9_go, yi_X9_go, yc_X9_go⟩ yd_X9_go rfl rfl hl.1 (Nat.le_of_ble_eq_true rfl) ⟨by decide, by decide⟩ ⟨Nat.le_of_ble_eq_true rfl, Nat.le_of_ble_eq_true rfl⟩ dL_law_519 (fun rT M1 H locs hp hw => ?_)
  obtain rfl := hp
  refine lv_aload_n hx hb dL_law_522 rfl (lv_at hl 2 rfl) ?_
  refine lv_aload_n hx hb dL_law_523 rfl (lv_at hl 4 rfl) ?_
  refine lv_iload hx hb dL_law_524 (lv_at hl 0 rfl) ?_
  refine lv_iconst (v := 1) hx hb dL_law_526 (by decide) ?_
  refine lv_iadd hx hb dL_law_527 ?_
  refine ti_top (y := 1) (by decide) ?_
  refine va_sld hx hb Z.2.2.1 Z.2.2.2.1 hbA hw.2.2 lq_i1 dL_law_528 ?_
  refine lq_callMi (av := [.int (xs (1 : Int32).toNatClampNeg)]) C hA hw (k_X10_go l D A2 cy hA.2.1 M2 h2 (xs (1 : Int32).toNatClampNeg)) ⟨ml_L_65, ym_X10_go, yv_X10_go, yi_X10_go, yc_X10_go⟩ yd_X10_go rfl rfl hl.1 (Nat.le_of_ble_eq_true rfl) ⟨by decide, by decide⟩ ⟨Nat.le_of_ble_eq_true rfl, Nat.le_of_ble_eq_true rfl⟩ dL_law_529 (fun rM M2 H locs hp hw => ?_)
  obtain rfl := hp
  refine lv_icmp_eq (tgt := 1550) hx hb dL_law_532 (by decide) (fun _ => ?_) (fun c => absurd rfl c)
  exact lq_fin Z hw.2.2 ⟨Nat.le_of_ble_eq_true rfl, Nat.le_of_ble_eq_true rfl⟩ (lv_sub hl [0, 4] rfl)
set_option maxRecDepth 100000 in
theorem lq_c9 {p : Program} {l : Launch} {e : Env} {s : State} {m : MethodId} {below : List Frame} {meth : Method} {c : Code} {D : va_G} {cy : Nat → ClassId} {A1 A2 : Nat → Nat → Nat} {M1 M2 : ti_M} {b q3 : Nat} {xs : Nat → Int32} {H : Heap} {locs : List Loc} {ls : Array Slot} (Z : lq_Z p s m meth c D cy A1 A2 b xs) (hw : lq_H s D cy A1 A2 M1 M2 H locs) (h1 : ti_F M1) (h2 : ti_FM M2) (hl : lv_has ls 7 [(4, .int 0), (3, .ref q3), (2, .ref (A2 60 0)), (1, .ref (A1 0 0)), (0, .ref b)]) : W p l e room_1 s m #[Value.ref b] below meth c H locs 423 10061 (lw_Z below #[Value.ref b] s) (F0 m 537 ls []) := by
  have C := Z.1
  have hA := Z.2.1
  have hx := C.1
  have hb := C.2.1
  have hbA : ¬ lq_F s b := Nat.not_le.mpr Z.2.2.2.1
  refine lv_aload_n hx hb dL_law_537 rfl (lv_at hl 3 rfl) ?_
  refine lv_aload_n hx hb dL_law_538 rfl (lv_at hl 4 rfl) ?_
  refine lv_iload hx hb dL_law_539 (lv_at hl 0 rfl) ?_
  refine lv_iconst (v := 1) hx hb dL_law_541 (by decide) ?_
  refine lv_iadd hx hb dL_law_542 ?_
  refine ti_top (y := 1) (by decide) ?_
  refine va_sld hx hb Z.2.2.1 Z.2.2.2.1 hbA hw.2.2 lq_i1 dL_law_543 ?_
  refine lq_callTi (av := [.int (xs (1 : Int32).toNatClampNeg)]) C hA hw (k_X9_join l D A1 cy hA.1 M1 h1 (xs (1 : Int32).toNatClampNeg)) ⟨ml_L_66, ym_X9_join, yv_X9_join, yi_X9_join, yc_X9_join⟩ yd_X9_join rfl rfl hl.1 (Nat.le_of_ble_eq_true rfl) ⟨by decide, by decide⟩ ⟨Nat.le_of_ble_eq_true rfl, Nat.le_of_ble_eq_true rfl⟩ dL_law_544 (fun rT M1 H locs hp hw => ?_)
  obtain rfl := hp
  refine lv_aload_n hx hb dL_law_547 rfl (lv_at hl 2 rfl) ?_
  refine lv_aload_n hx hb dL_law_548 rfl (lv_at hl 4 rfl) ?_
  refine lv_iload hx hb dL_law_549 (lv_at hl 0 rfl) ?_
  refine lv_iconst (v := 1) hx hb dL_law_551 (by decide) ?_
  refine lv_iadd hx hb dL_law_552 ?_
  refine ti_top (y := 1) (by decide) ?_
  refine va_sld hx hb Z.2.2.1 Z.2.2.2.1 hbA hw.2.2 lq_i1 dL_law_553 ?_
  refine lq_callMi (av := [.int (xs (1 : Int32).toNatClampNeg)]) C hA hw (k_X10_join l D A2 cy hA.2.1 M2 h2 (xs (1 : Int32).toNatClampNeg)) ⟨ml_L_69, ym_X10_join, yv_X10_join, yi_X10_join, yc_X10_join⟩ yd_X10_join rfl rfl hl.1 (Nat.le_of_ble_eq_true rfl) ⟨by decide, by decide⟩ ⟨Nat.le_of_ble_eq_true rfl, Nat.le_of_ble_eq_true rfl⟩ dL_law_554 (fun rM M2 H locs hp hw => ?_)
  obtain rfl := hp
  refine lv_icmp_eq (tgt := 1550) hx hb dL_law_557 (by decide) (fun _ => ?_) (fun c => absurd rfl c)
  exact lq_fin Z hw.2.2 ⟨Nat.le_of_ble_eq_true rfl, Nat.le_of_ble_eq_true rfl⟩ (lv_sub hl [0, 4] rfl)
set_option maxRecDepth 100000 in
theorem lq_c10 {p : Program} {l : Launch} {e : Env} {s : State} {m : MethodId} {below : List Frame} {meth : Method} {c : Code} {D : va_G} {cy : Nat → ClassId} {A1 A2 : Nat → Nat → Nat} {M1 M2 : ti_M} {b q3 : Nat} {xs : Nat → Int32} {H : Heap} {locs : List Loc} {ls : Array Slot} (Z : lq_Z p s m meth c D cy A1 A2 b xs) (hw : lq_H s D cy A1 A2 M1 M2 H locs) (h1 : ti_F M1) (h2 : ti_FM M2) (hl : lv_has ls 7 [(4, .int 0), (3, .ref q3), (2, .ref (A2 60 0)), (1, .ref (A1 0 0)), (0, .ref b)]) : W p l e room_1 s m #[Value.ref b] below meth c H locs 423 10061 (lw_Z below #[Value.ref b] s) (F0 m 562 ls []) := by
  have C := Z.1
  have hA := Z.2.1
  have hx := C.1
  have hb := C.2.1
  have hbA : ¬ lq_F s b := Nat.not_le.mpr Z.2.2.2.1
  refine lv_aload_n hx hb dL_law_562 rfl (lv_at hl 3 rfl) ?_
  refine lv_aload_n hx hb dL_law_563 rfl (lv_at hl 4 rfl) ?_
  refine lv_iload hx hb dL_law_564 (lv_at hl 0 rfl) ?_
  refine lv_iconst (v := 1) hx hb dL_law_566 (by decide) ?_
  refine lv_iadd hx hb dL_law_567 ?_
  refine ti_top (y := 1) (by decide) ?_
  refine va_sld hx hb Z.2.2.1 Z.2.2.2.1 hbA hw.2.2 lq_i1 dL_law_568 ?_
  refine lq_callTi (av := [.int (xs (1 : Int32).toNatClampNeg)]) C hA hw (k_X9_out l D A1 cy hA.1 M1 h1 (xs (1 : Int32).toNatClampNeg)) ⟨ml_L_70, ym_X9_out, yv_X9_out, yi_X9_out, yc_X9_out⟩ yd_X9_out rfl rfl hl.1 (Nat.le_of_ble_eq_true rfl) ⟨by decide, by decide⟩ ⟨Nat.le_of_ble_eq_true rfl, Nat.le_of_ble_eq_true rfl⟩ dL_law_569 (fun rT M1 H locs hp hw => ?_)
  obtain rfl := hp
  refine lv_aload_n hx hb dL_law_572 rfl (lv_at hl 2 rfl) ?_
  refine lv_aload_n hx hb dL_law_573 rfl (lv_at hl 4 rfl) ?_
  refine lv_iload hx hb dL_law_574 (lv_at hl 0 rfl) ?_
  refine lv_iconst (v := 1) hx hb dL_law_576 (by decide) ?_
  refine lv_iadd hx hb dL_law_577 ?_
  refine ti_top (y := 1) (by decide) ?_
  refine va_sld hx hb Z.2.2.1 Z.2.2.2.1 hbA hw.2.2 lq_i1 dL_law_578 ?_
  refine lq_callMi (av := [.int (xs (1 : Int32).toNatClampNeg)]) C hA hw (k_X10_out l D A2 cy hA.2.1 M2 h2 (xs (1 : Int32).toNatClampNeg)) ⟨ml_L_74, ym_X10_out, yv_X10_out, yi_X10_out, yc_X10_out⟩ yd_X10_out rfl rfl hl.1 (Nat.le_of_ble_eq_true rfl) ⟨by decide, by decide⟩ ⟨Nat.le_of_ble_eq_true rfl, Nat.le_of_ble_eq_true rfl⟩ dL_law_579 (fun rM M2 H locs hp hw => ?_)
  obtain rfl := hp
  refine lv_icmp_eq (tgt := 1550) hx hb dL_law_582 (by decide) (fun _ => ?_) (fun c => absurd rfl c)
  exact lq_fin Z hw.2.2 ⟨Nat.le_of_ble_eq_true rfl, Nat.le_of_ble_eq_true rfl⟩ (lv_sub hl [0, 4] rfl)
set_option maxRecDepth 100000 in
theorem lq_c11 {p : Program} {l : Launch} {e : Env} {s : State} {m : MethodId} {below : List Frame} {meth : Method} {c : Code} {D : va_G} {cy : Nat → ClassId} {A1 A2 : Nat → Nat → Nat} {M1 M2 : ti_M} {b q3 : Nat} {xs : Nat → Int32} {H : Heap} {locs : List Loc} {ls : Array Slot} (Z : lq_Z p s m meth c D cy A1 A2 b xs) (hw : lq_H s D cy A1 A2 M1 M2 H locs) (h1 : ti_F M1) (h2 : ti_FM M2) (hl : lv_has ls 7 [(4, .int 0), (3, .ref q3), (2, .ref (A2 60 0)), (1, .ref (A1 0 0)), (0, .ref b)]) : W p l e room_1 s m #[Value.ref b] below meth c H locs 423 10061 (lw_Z below #[Value.ref b] s) (F0 m 587 ls []) := by
  have C := Z.1
  have hA := Z.2.1
  have hx := C.1
  have hb := C.2.1
  have hbA : ¬ lq_F s b := Nat.not_le.mpr Z.2.2.2.1
  refine lv_aload_n hx hb dL_law_587 rfl (lv_at hl 3 rfl) ?_
  refine lv_aload_n hx hb dL_law_588 rfl (lv_at hl 4 rfl) ?_
  refine lv_iload hx hb dL_law_589 (lv_at hl 0 rfl) ?_
  refine lv_iconst (v := 1) hx hb dL_law_591 (by decide) ?_
  refine lv_iadd hx hb dL_law_592 ?_
  refine ti_top (y := 1) (by decide) ?_
  refine va_sld hx hb Z.2.2.1 Z.2.2.2.1 hbA hw.2.2 lq_i1 dL_law_593 ?_
  refine lv_aload_n hx hb dL_law_594 rfl (lv_at hl 4 rfl) ?_
  refine lv_iload hx hb dL_law_595 (lv_at hl 0 rfl) ?_
  refine lv_iconst (v := 2) hx hb dL_law_597 (by decide) ?_
  refine lv_iadd hx hb dL_law_598 ?_
  refine ti_top (y := 2) (by decide) ?_
  refine va_sld hx hb Z.2.2.1 Z.2.2.2.1 hbA hw.2.2 lq_i2 dL_law_599 ?_
  refine lv_aload_n hx hb dL_law_600 rfl (lv_at hl 4 rfl) ?_
  refine lv_iload hx hb dL_law_601 (lv_at hl 0 rfl) ?_
  refine lv_iconst (v := 3) hx hb dL_law_603 (by decide) ?_
  refine lv_iadd hx hb dL_law_604 ?_
  refine ti_top (y := 3) (by decide) ?_
  refine va_sld hx hb Z.2.2.1 Z.2.2.2.1 hbA hw.2.2 lq_i3 dL_law_605 ?_
  refine lq_callTi (av := [.int (xs (1 : Int32).toNatClampNeg), .int (xs (2 : Int32).toNatClampNeg), .int (xs (3 : Int32).toNatClampNeg)]) C hA hw (k_X9_swap l D A1 cy hA.1 M1 h1 (xs (1 : Int32).toNatClampNeg) (xs (2 : Int32).toNatClampNeg) (xs (3 : Int32).toNatClampNeg)) ⟨ml_L_75, ym_X9_swap, yv_X9_swap, yi_X9_swap, yc_X9_swap⟩ yd_X9_swap rfl rfl hl.1 (Nat.le_of_ble_eq_true rfl) ⟨by decide, by decide⟩ ⟨Nat.le_of_ble_eq_true rfl, Nat.le_of_ble_eq_true rfl⟩ dL_law_606 (fun rT M1 H locs hp hw => ?_)
  obtain rfl := hp
  refine lv_aload_n hx hb dL_law_609 rfl (lv_at hl 2 rfl) ?_
  refine lv_aload_n hx hb dL_law_610 rfl (lv_at hl 4 rfl) ?_
  refine lv_iload hx hb dL_law_611 (lv_at hl 0 rfl) ?_
  refine lv_iconst (v := 1) hx hb dL_law_613 (by decide) ?_
  refine lv_iadd hx hb dL_law_614 ?_
  refine ti_top (y := 1) (by decide) ?_
  refine va_sld hx hb Z.2.2.1 Z.2.2.2.1 hbA hw.2.2 lq_i1 dL_law_615 ?_
  refine lv_aload_n hx hb dL_law_616 rfl (lv_at hl 4 rfl) ?_
  refine lv_iload hx hb dL_law_617 (lv_at hl 0 rfl) ?_
  refine lv_iconst (v := 2) hx hb dL_law_619 (by decide) ?_
  refine lv_iadd hx hb dL_law_620 ?_
  refine ti_top (y := 2) (by decide) ?_
  refine va_sld hx hb Z.2.2.1 Z.2.2.2.1 hbA hw.2.2 lq_i2 dL_law_621 ?_
  refine lv_aload_n hx hb dL_law_622 rfl (lv_at hl 4 rfl) ?_
  refine lv_iload hx hb dL_law_623 (lv_at hl 0 rfl) ?_
  refine lv_iconst (v := 3) hx hb dL_law_625 (by decide) ?_
  refine lv_iadd hx hb dL_law_626 ?_
  refine ti_top (y := 3) (by decide) ?_
  refine va_sld hx hb Z.2.2.1 Z.2.2.2.1 hbA hw.2.2 lq_i3 dL_law_627 ?_
  refine lq_callMi (av := [.int (xs (1 : Int32).toNatClampNeg), .int (xs (2 : Int32).toNatClampNeg), .int (xs (3 : Int32).toNatClampNeg)]) C hA hw (k_X10_swap l D A2 cy hA.2.1 M2 h2 (xs (1 : Int32).toNatClampNeg) (xs (2 : Int32).toNatClampNeg) (xs (3 : Int32).toNatClampNeg)) ⟨ml_L_79, ym_X10_swap, yv_X10_swap, yi_X10_swap, yc_X10_swap⟩ yd_X10_swap rfl rfl hl.1 (Nat.le_of_ble_eq_true rfl) ⟨by decide, by decide⟩ ⟨Nat.le_of_ble_eq_true rfl, Nat.le_of_ble_eq_true rfl⟩ dL_law_628 (fun rM M2 H locs hp hw => ?_)
  obtain rfl := hp
  refine lv_icmp_eq (tgt := 1550) hx hb dL_law_631 (by decide) (fun _ => ?_) (fun c => absurd rfl c)
  exact lq_fin Z hw.2.2 ⟨Nat.le_of_ble_eq_true rfl, Nat.le_of_ble_eq_true rfl⟩ (lv_sub hl [0, 4] rfl)
set_option maxRecDepth 100000 in
theorem lq_c12 {p : Program} {l : Launch} {e : Env} {s : State} {m : MethodId} {below : List Frame} {meth : Method} {c : Code} {D : va_G} {cy : Nat → ClassId} {A1 A2 : Nat → Nat → Nat} {M1 M2 : ti_M} {b q3 : Nat} {xs : Nat → Int32} {H : Heap} {locs : List Loc} {ls : Array Slot} (Z : lq_Z p s m meth c D cy A1 A2 b xs) (hw : lq_H s D cy A1 A2 M1 M2 H locs) (h1 : ti_F M1) (h2 : ti_FM M2) (hl : lv_has ls 7 [(4, .int 0), (3, .ref q3), (2, .ref (A2 60 0)), (1, .ref (A1 0 0)), (0, .ref b)]) : W p l e room_1 s m #[Value.ref b] below meth c H locs 423 10061 (lw_Z below #[Value.ref b] s) (F0 m 636 ls []) := by
  have C := Z.1
  have hA := Z.2.1
  have hx := C.1
  have hb := C.2.1
  have hbA : ¬ lq_F s b := Nat.not_le.mpr Z.2.2.2.1
  refine lv_aload_n hx hb dL_law_636 rfl (lv_at hl 3 rfl) ?_
  refine lv_aload_n hx hb dL_law_637 rfl (lv_at hl 4 rfl) ?_
  refine lv_iload hx hb dL_law_638 (lv_at hl 0 rfl) ?_
  refine lv_iconst (v := 1) hx hb dL_law_640 (by decide) ?_
  refine lv_iadd hx hb dL_law_641 ?_
  refine ti_top (y := 1) (by decide) ?_
  refine va_sld hx hb Z.2.2.1 Z.2.2.2.1 hbA hw.2.2 lq_i1 dL_law_642 ?_
  refine lv_aload_n hx hb dL_law_643 rfl (lv_at hl 4 rfl) ?_
  refine lv_iload hx hb dL_law_644 (lv_at hl 0 rfl) ?_
  refine lv_iconst (v := 2) hx hb dL_law_646 (by decide) ?_
  refine lv_iadd hx hb dL_law_647 ?_
  refine ti_top (y := 2) (by decide) ?_
  refine va_sld hx hb Z.2.2.1 Z.2.2.2.1 hbA hw.2.2 lq_i2 dL_law_648 ?_
  refine lq_callTi (av := [.int (xs (1 : Int32).toNatClampNeg), .int (xs (2 : Int32).toNatClampNeg)]) C hA hw (k_X9_kneel l D A1 cy hA.1 M1 h1 (xs (1 : Int32).toNatClampNeg) (xs (2 : Int32).toNatClampNeg)) ⟨ml_L_80, ym_X9_kneel, yv_X9_kneel, yi_X9_kneel, yc_X9_kneel⟩ yd_X9_kneel rfl rfl hl.1 (Nat.le_of_ble_eq_true rfl) ⟨by decide, by decide⟩ ⟨Nat.le_of_ble_eq_true rfl, Nat.le_of_ble_eq_true rfl⟩ dL_law_649 (fun rT M1 H locs hp hw => ?_)
  obtain rfl := hp
  refine lv_aload_n hx hb dL_law_652 rfl (lv_at hl 2 rfl) ?_
  refine lv_aload_n hx hb dL_law_653 rfl (lv_at hl 4 rfl) ?_
  refine lv_iload hx hb dL_law_654 (lv_at hl 0 rfl) ?_
  refine lv_iconst (v := 1) hx hb dL_law_656 (by decide) ?_
  refine lv_iadd hx hb dL_law_657 ?_
  refine ti_top (y := 1) (by decide) ?_
  refine va_sld hx hb Z.2.2.1 Z.2.2.2.1 hbA hw.2.2 lq_i1 dL_law_658 ?_
  refine lv_aload_n hx hb dL_law_659 rfl (lv_at hl 4 rfl) ?_
  refine lv_iload hx hb dL_law_660 (lv_at hl 0 rfl) ?_
  refine lv_iconst (v := 2) hx hb dL_law_662 (by decide) ?_
  refine lv_iadd hx hb dL_law_663 ?_
  refine ti_top (y := 2) (by decide) ?_
  refine va_sld hx hb Z.2.2.1 Z.2.2.2.1 hbA hw.2.2 lq_i2 dL_law_664 ?_
  refine lq_callMi (av := [.int (xs (1 : Int32).toNatClampNeg), .int (xs (2 : Int32).toNatClampNeg)]) C hA hw (k_X10_kneel l D A2 cy hA.2.1 M2 h2 (xs (1 : Int32).toNatClampNeg) (xs (2 : Int32).toNatClampNeg)) ⟨ml_L_84, ym_X10_kneel, yv_X10_kneel, yi_X10_kneel, yc_X10_kneel⟩ yd_X10_kneel rfl rfl hl.1 (Nat.le_of_ble_eq_true rfl) ⟨by decide, by decide⟩ ⟨Nat.le_of_ble_eq_true rfl, Nat.le_of_ble_eq_true rfl⟩ dL_law_665 (fun rM M2 H locs hp hw => ?_)
  obtain rfl := hp
  refine lv_icmp_eq (tgt := 1550) hx hb dL_law_668 (by decide) (fun _ => ?_) (fun c => absurd rfl c)
  exact lq_fin Z hw.2.2 ⟨Nat.le_of_ble_eq_true rfl, Nat.le_of_ble_eq_true rfl⟩ (lv_sub hl [0, 4] rfl)
set_option maxRecDepth 100000 in
theorem lq_c13 {p : Program} {l : Launch} {e : Env} {s : State} {m : MethodId} {below : List Frame} {meth : Method} {c : Code} {D : va_G} {cy : Nat → ClassId} {A1 A2 : Nat → Nat → Nat} {M1 M2 : ti_M} {b q3 : Nat} {xs : Nat → Int32} {H : Heap} {locs : List Loc} {ls : Array Slot} (Z : lq_Z p s m meth c D cy A1 A2 b xs) (hw : lq_H s D cy A1 A2 M1 M2 H locs) (h1 : ti_F M1) (h2 : ti_FM M2) (hl : lv_has ls 7 [(4, .int 0), (3, .ref q3), (2, .ref (A2 60 0)), (1, .ref (A1 0 0)), (0, .ref b)]) : W p l e room_1 s m #[Value.ref b] below meth c H locs 423 10061 (lw_Z below #[Value.ref b] s) (F0 m 673 ls []) := by
  have C := Z.1
  have hA := Z.2.1
  have hx := C.1
  have hb := C.2.1
  have hbA : ¬ lq_F s b := Nat.not_le.mpr Z.2.2.2.1
  refine lv_aload_n hx hb dL_law_673 rfl (lv_at hl 3 rfl) ?_
  refine lv_aload_n hx hb dL_law_674 rfl (lv_at hl 4 rfl) ?_
  refine lv_iload hx hb dL_law_675 (lv_at hl 0 rfl) ?_
  refine lv_iconst (v := 1) hx hb dL_law_677 (by decide) ?_
  refine lv_iadd hx hb dL_law_678 ?_
  refine ti_top (y := 1) (by decide) ?_
  refine va_sld hx hb Z.2.2.1 Z.2.2.2.1 hbA hw.2.2 lq_i1 dL_law_679 ?_
  refine lq_callTi (av := [.int (xs (1 : Int32).toNatClampNeg)]) C hA hw (k_X9_cough l D A1 cy hA.1 M1 h1 (xs (1 : Int32).toNatClampNeg)) ⟨ml_L_85, ym_X9_cough, yv_X9_cough, yi_X9_cough, yc_X9_cough⟩ yd_X9_cough rfl rfl hl.1 (Nat.le_of_ble_eq_true rfl) ⟨by decide, by decide⟩ ⟨Nat.le_of_ble_eq_true rfl, Nat.le_of_ble_eq_true rfl⟩ dL_law_680 (fun rT M1 H locs hp hw => ?_)
  obtain rfl := hp
  refine lv_aload_n hx hb dL_law_683 rfl (lv_at hl 2 rfl) ?_
  refine lv_aload_n hx hb dL_law_684 rfl (lv_at hl 4 rfl) ?_
  refine lv_iload hx hb dL_law_685 (lv_at hl 0 rfl) ?_
  refine lv_iconst (v := 1) hx hb dL_law_687 (by decide) ?_
  refine lv_iadd hx hb dL_law_688 ?_
  refine ti_top (y := 1) (by decide) ?_
  refine va_sld hx hb Z.2.2.1 Z.2.2.2.1 hbA hw.2.2 lq_i1 dL_law_689 ?_
  refine lq_callMi (av := [.int (xs (1 : Int32).toNatClampNeg)]) C hA hw (k_X10_cough l D A2 cy hA.2.1 M2 h2 (xs (1 : Int32).toNatClampNeg)) ⟨ml_L_88, ym_X10_cough, yv_X10_cough, yi_X10_cough, yc_X10_cough⟩ yd_X10_cough rfl rfl hl.1 (Nat.le_of_ble_eq_true rfl) ⟨by decide, by decide⟩ ⟨Nat.le_of_ble_eq_true rfl, Nat.le_of_ble_eq_true rfl⟩ dL_law_690 (fun rM M2 H locs hp hw => ?_)
  obtain rfl := hp
  refine lv_icmp_eq (tgt := 1550) hx hb dL_law_693 (by decide) (fun _ => ?_) (fun c => absurd rfl c)
  exact lq_fin Z hw.2.2 ⟨Nat.le_of_ble_eq_true rfl, Nat.le_of_ble_eq_true rfl⟩ (lv_sub hl [0, 4] rfl)
set_option maxRecDepth 100000 in
theorem lq_c14 {p : Program} {l : Launch} {e : Env} {s : State} {m : MethodId} {below : List Frame} {meth : Method} {c : Code} {D : va_G} {cy : Nat → ClassId} {A1 A2 : Nat → Nat → Nat} {M1 M2 : ti_M} {b q3 : Nat} {xs : Nat → Int32} {H : Heap} {locs : List Loc} {ls : Array Slot} (Z : lq_Z p s m meth c D cy A1 A2 b xs) (hw : lq_H s D cy A1 A2 M1 M2 H locs) (h1 : ti_F M1) (h2 : ti_FM M2) (hl : lv_has ls 7 [(4, .int 0), (3, .ref q3), (2, .ref (A2 60 0)), (1, .ref (A1 0 0)), (0, .ref b)]) : W p l e room_1 s m #[Value.ref b] below meth c H locs 423 10061 (lw_Z below #[Value.ref b] s) (F0 m 698 ls []) := by
  have C := Z.1
  have hA := Z.2.1
  have hx := C.1
  have hb := C.2.1
  have hbA : ¬ lq_F s b := Nat.not_le.mpr Z.2.2.2.1
  refine lv_aload_n hx hb dL_law_698 rfl (lv_at hl 3 rfl) ?_
  refine lv_aload_n hx hb dL_law_699 rfl (lv_at hl 4 rfl) ?_
  refine lv_iload hx hb dL_law_700 (lv_at hl 0 rfl) ?_
  refine lv_iconst (v := 1) hx hb dL_law_702 (by decide) ?_
  refine lv_iadd hx hb dL_law_703 ?_
  refine ti_top (y := 1) (by decide) ?_
  refine va_sld hx hb Z.2.2.1 Z.2.2.2.1 hbA hw.2.2 lq_i1 dL_law_704 ?_
  refine lv_aload_n hx hb dL_law_705 rfl (lv_at hl 4 rfl) ?_
  refine lv_iload hx hb dL_law_706 (lv_at hl 0 rfl) ?_
  refine lv_iconst (v := 2) hx hb dL_law_708 (by decide) ?_
  refine lv_iadd hx hb dL_law_709 ?_
  refine ti_top (y := 2) (by decide) ?_
  refine va_sld hx hb Z.2.2.1 Z.2.2.2.1 hbA hw.2.2 lq_i2 dL_law_710 ?_
  refine lq_callTi (av := [.int (xs (1 : Int32).toNatClampNeg), .int (xs (2 : Int32).toNatClampNeg)]) C hA hw (k_X9_move l D A1 cy hA.1 M1 h1 (xs (1 : Int32).toNatClampNeg) (xs (2 : Int32).toNatClampNeg)) ⟨ml_L_89, ym_X9_move, yv_X9_move, yi_X9_move, yc_X9_move⟩ yd_X9_move rfl rfl hl.1 (Nat.le_of_ble_eq_true rfl) ⟨by decide, by decide⟩ ⟨Nat.le_of_ble_eq_true rfl, Nat.le_of_ble_eq_true rfl⟩ dL_law_711 (fun rT M1 H locs hp hw => ?_)
  obtain rfl := hp
  refine lv_aload_n hx hb dL_law_714 rfl (lv_at hl 2 rfl) ?_
  refine lv_aload_n hx hb dL_law_715 rfl (lv_at hl 4 rfl) ?_
  refine lv_iload hx hb dL_law_716 (lv_at hl 0 rfl) ?_
  refine lv_iconst (v := 1) hx hb dL_law_718 (by decide) ?_
  refine lv_iadd hx hb dL_law_719 ?_
  refine ti_top (y := 1) (by decide) ?_
  refine va_sld hx hb Z.2.2.1 Z.2.2.2.1 hbA hw.2.2 lq_i1 dL_law_720 ?_
  refine lv_aload_n hx hb dL_law_721 rfl (lv_at hl 4 rfl) ?_
  refine lv_iload hx hb dL_law_722 (lv_at hl 0 rfl) ?_
  refine lv_iconst (v := 2) hx hb dL_law_724 (by decide) ?_
  refine lv_iadd hx hb dL_law_725 ?_
  refine ti_top (y := 2) (by decide) ?_
  refine va_sld hx hb Z.2.2.1 Z.2.2.2.1 hbA hw.2.2 lq_i2 dL_law_726 ?_
  refine lq_callMi (av := [.int (xs (1 : Int32).toNatClampNeg), .int (xs (2 : Int32).toNatClampNeg)]) C hA hw (k_X10_move l D A2 cy hA.2.1 M2 h2 (xs (1 : Int32).toNatClampNeg) (xs (2 : Int32).toNatClampNeg)) ⟨ml_L_92, ym_X10_move, yv_X10_move, yi_X10_move, yc_X10_move⟩ yd_X10_move rfl rfl hl.1 (Nat.le_of_ble_eq_true rfl) ⟨by decide, by decide⟩ ⟨Nat.le_of_ble_eq_true rfl, Nat.le_of_ble_eq_true rfl⟩ dL_law_727 (fun rM M2 H locs hp hw => ?_)
  obtain rfl := hp
  refine lv_icmp_eq (tgt := 1550) hx hb dL_law_730 (by decide) (fun _ => ?_) (fun c => absurd rfl c)
  exact lq_fin Z hw.2.2 ⟨Nat.le_of_ble_eq_true rfl, Nat.le_of_ble_eq_true rfl⟩ (lv_sub hl [0, 4] rfl)
set_option maxRecDepth 100000 in
theorem lq_c15 {p : Program} {l : Launch} {e : Env} {s : State} {m : MethodId} {below : List Frame} {meth : Method} {c : Code} {D : va_G} {cy : Nat → ClassId} {A1 A2 : Nat → Nat → Nat} {M1 M2 : ti_M} {b q3 : Nat} {xs : Nat → Int32} {H : Heap} {locs : List Loc} {ls : Array Slot} (Z : lq_Z p s m meth c D cy A1 A2 b xs) (hw : lq_H s D cy A1 A2 M1 M2 H locs) (h1 : ti_F M1) (h2 : ti_FM M2) (hl : lv_has ls 7 [(4, .int 0), (3, .ref q3), (2, .ref (A2 60 0)), (1, .ref (A1 0 0)), (0, .ref b)]) : W p l e room_1 s m #[Value.ref b] below meth c H locs 423 10061 (lw_Z below #[Value.ref b] s) (F0 m 735 ls []) := by
  have C := Z.1
  have hA := Z.2.1
  have hx := C.1
  have hb := C.2.1
  have hbA : ¬ lq_F s b := Nat.not_le.mpr Z.2.2.2.1
  refine lv_aload_n hx hb dL_law_735 rfl (lv_at hl 3 rfl) ?_
  refine lv_aload_n hx hb dL_law_736 rfl (lv_at hl 4 rfl) ?_
  refine lv_iload hx hb dL_law_737 (lv_at hl 0 rfl) ?_
  refine lv_iconst (v := 1) hx hb dL_law_739 (by decide) ?_
  refine lv_iadd hx hb dL_law_740 ?_
  refine ti_top (y := 1) (by decide) ?_
  refine va_sld hx hb Z.2.2.1 Z.2.2.2.1 hbA hw.2.2 lq_i1 dL_law_741 ?_
  refine lv_aload_n hx hb dL_law_742 rfl (lv_at hl 4 rfl) ?_
  refine lv_iload hx hb dL_law_743 (lv_at hl 0 rfl) ?_
  refine lv_iconst (v := 2) hx hb dL_law_745 (by decide) ?_
  refine lv_iadd hx hb dL_law_746 ?_
  refine ti_top (y := 2) (by decide) ?_
  refine va_sld hx hb Z.2.2.1 Z.2.2.2.1 hbA hw.2.2 lq_i2 dL_law_747 ?_
  refine lq_callTi (av := [.int (xs (1 : Int32).toNatClampNeg), .int (xs (2 : Int32).toNatClampNeg)]) C hA hw (k_X9_was l D A1 cy hA.1 M1 h1 (xs (1 : Int32).toNatClampNeg) (xs (2 : Int32).toNatClampNeg)) ⟨ml_L_93, ym_X9_was, yv_X9_was, yi_X9_was, yc_X9_was⟩ yd_X9_was rfl rfl hl.1 (Nat.le_of_ble_eq_true rfl) ⟨by decide, by decide⟩ ⟨Nat.le_of_ble_eq_true rfl, Nat.le_of_ble_eq_true rfl⟩ dL_law_748 (fun rT M1 H locs hp hw => ?_)
  obtain rfl := hp
  refine lv_aload_n hx hb dL_law_751 rfl (lv_at hl 2 rfl) ?_
  refine lv_aload_n hx hb dL_law_752 rfl (lv_at hl 4 rfl) ?_
  refine lv_iload hx hb dL_law_753 (lv_at hl 0 rfl) ?_
  refine lv_iconst (v := 1) hx hb dL_law_755 (by decide) ?_
  refine lv_iadd hx hb dL_law_756 ?_
  refine ti_top (y := 1) (by decide) ?_
  refine va_sld hx hb Z.2.2.1 Z.2.2.2.1 hbA hw.2.2 lq_i1 dL_law_757 ?_
  refine lv_aload_n hx hb dL_law_758 rfl (lv_at hl 4 rfl) ?_
  refine lv_iload hx hb dL_law_759 (lv_at hl 0 rfl) ?_
  refine lv_iconst (v := 2) hx hb dL_law_761 (by decide) ?_
  refine lv_iadd hx hb dL_law_762 ?_
  refine ti_top (y := 2) (by decide) ?_
  refine va_sld hx hb Z.2.2.1 Z.2.2.2.1 hbA hw.2.2 lq_i2 dL_law_763 ?_
  refine lq_callMi (av := [.int (xs (1 : Int32).toNatClampNeg), .int (xs (2 : Int32).toNatClampNeg)]) C hA hw (k_X10_was l D A2 cy hA.2.1 M2 h2 (xs (1 : Int32).toNatClampNeg) (xs (2 : Int32).toNatClampNeg)) ⟨ml_L_96, ym_X10_was, yv_X10_was, yi_X10_was, yc_X10_was⟩ yd_X10_was rfl rfl hl.1 (Nat.le_of_ble_eq_true rfl) ⟨by decide, by decide⟩ ⟨Nat.le_of_ble_eq_true rfl, Nat.le_of_ble_eq_true rfl⟩ dL_law_764 (fun rM M2 H locs hp hw => ?_)
  obtain rfl := hp
  refine lv_icmp_eq (tgt := 1550) hx hb dL_law_767 (by decide) (fun _ => ?_) (fun c => absurd rfl c)
  exact lq_fin Z hw.2.2 ⟨Nat.le_of_ble_eq_true rfl, Nat.le_of_ble_eq_true rfl⟩ (lv_sub hl [0, 4] rfl)
set_option maxRecDepth 100000 in
theorem lq_c16 {p : Program} {l : Launch} {e : Env} {s : State} {m : MethodId} {below : List Frame} {meth : Method} {c : Code} {D : va_G} {cy : Nat → ClassId} {A1 A2 : Nat → Nat → Nat} {M1 M2 : ti_M} {b q3 : Nat} {xs : Nat → Int32} {H : Heap} {locs : List Loc} {ls : Array Slot} (Z : lq_Z p s m meth c D cy A1 A2 b xs) (hw : lq_H s D cy A1 A2 M1 M2 H locs) (h1 : ti_F M1) (h2 : ti_FM M2) (hl : lv_has ls 7 [(4, .int 0), (3, .ref q3), (2, .ref (A2 60 0)), (1, .ref (A1 0 0)), (0, .ref b)]) : W p l e room_1 s m #[Value.ref b] below meth c H locs 423 10061 (lw_Z below #[Value.ref b] s) (F0 m 772 ls []) := by
  have C := Z.1
  have hA := Z.2.1
  have hx := C.1
  have hb := C.2.1
  have hbA : ¬ lq_F s b := Nat.not_le.mpr Z.2.2.2.1
  refine lv_aload_n hx hb dL_law_772 rfl (lv_at hl 3 rfl) ?_
  refine lv_aload_n hx hb dL_law_773 rfl (lv_at hl 4 rfl) ?_
  refine lv_iload hx hb dL_law_774 (lv_at hl 0 rfl) ?_
  refine lv_iconst (v := 1) hx hb dL_law_776 (by decide) ?_
  refine lv_iadd hx hb dL_law_777 ?_
  refine ti_top (y := 1) (by decide) ?_
  refine va_sld hx hb Z.2.2.1 Z.2.2.2.1 hbA hw.2.2 lq_i1 dL_law_778 ?_
  refine lv_aload_n hx hb dL_law_779 rfl (lv_at hl 4 rfl) ?_
  refine lv_iload hx hb dL_law_780 (lv_at hl 0 rfl) ?_
  refine lv_iconst (v := 2) hx hb dL_law_782 (by decide) ?_
  refine lv_iadd hx hb dL_law_783 ?_
  refine ti_top (y := 2) (by decide) ?_
  refine va_sld hx hb Z.2.2.1 Z.2.2.2.1 hbA hw.2.2 lq_i2 dL_law_784 ?_
  refine lq_callTi (av := [.int (xs (1 : Int32).toNatClampNeg), .int (xs (2 : Int32).toNatClampNeg)]) C hA hw (k_X9_ruled l D A1 cy hA.1 M1 h1 (xs (1 : Int32).toNatClampNeg) (xs (2 : Int32).toNatClampNeg)) ⟨ml_L_97, ym_X9_ruled, yv_X9_ruled, yi_X9_ruled, yc_X9_ruled⟩ yd_X9_ruled rfl rfl hl.1 (Nat.le_of_ble_eq_true rfl) ⟨by decide, by decide⟩ ⟨Nat.le_of_ble_eq_true rfl, Nat.le_of_ble_eq_true rfl⟩ dL_law_785 (fun rT M1 H locs hp hw => ?_)
  obtain rfl := hp
  refine lv_aload_n hx hb dL_law_788 rfl (lv_at hl 2 rfl) ?_
  refine lv_aload_n hx hb dL_law_789 rfl (lv_at hl 4 rfl) ?_
  refine lv_iload hx hb dL_law_790 (lv_at hl 0 rfl) ?_
  refine lv_iconst (v := 1) hx hb dL_law_792 (by decide) ?_
  refine lv_iadd hx hb dL_law_793 ?_
  refine ti_top (y := 1) (by decide) ?_
  refine va_sld hx hb Z.2.2.1 Z.2.2.2.1 hbA hw.2.2 lq_i1 dL_law_794 ?_
  refine lv_aload_n hx hb dL_law_795 rfl (lv_at hl 4 rfl) ?_
  refine lv_iload hx hb dL_law_796 (lv_at hl 0 rfl) ?_
  refine lv_iconst (v := 2) hx hb dL_law_798 (by decide) ?_
  refine lv_iadd hx hb dL_law_799 ?_
  refine ti_top (y := 2) (by decide) ?_
  refine va_sld hx hb Z.2.2.1 Z.2.2.2.1 hbA hw.2.2 lq_i2 dL_law_800 ?_
  refine lq_callMi (av := [.int (xs (1 : Int32).toNatClampNeg), .int (xs (2 : Int32).toNatClampNeg)]) C hA hw (k_X10_ruled l D A2 cy hA.2.1 M2 h2 (xs (1 : Int32).toNatClampNeg) (xs (2 : Int32).toNatClampNeg)) ⟨ml_L_100, ym_X10_ruled, yv_X10_ruled, yi_X10_ruled, yc_X10_ruled⟩ yd_X10_ruled rfl rfl hl.1 (Nat.le_of_ble_eq_true rfl) ⟨by decide, by decide⟩ ⟨Nat.le_of_ble_eq_true rfl, Nat.le_of_ble_eq_true rfl⟩ dL_law_801 (fun rM M2 H locs hp hw => ?_)
  obtain rfl := hp
  refine lv_icmp_eq (tgt := 1550) hx hb dL_law_804 (by decide) (fun _ => ?_) (fun c => absurd rfl c)
  exact lq_fin Z hw.2.2 ⟨Nat.le_of_ble_eq_true rfl, Nat.le_of_ble_eq_true rfl⟩ (lv_sub hl [0, 4] rfl)
set_option maxRecDepth 100000 in
theorem lq_c17 {p : Program} {l : Launch} {e : Env} {s : State} {m : MethodId} {below : List Frame} {meth : Method} {c : Code} {D : va_G} {cy : Nat → ClassId} {A1 A2 : Nat → Nat → Nat} {M1 M2 : ti_M} {b q3 : Nat} {xs : Nat → Int32} {H : Heap} {locs : List Loc} {ls : Array Slot} (Z : lq_Z p s m meth c D cy A1 A2 b xs) (hw : lq_H s D cy A1 A2 M1 M2 H locs) (h1 : ti_F M1) (h2 : ti_FM M2) (hl : lv_has ls 7 [(4, .int 0), (3, .ref q3), (2, .ref (A2 60 0)), (1, .ref (A1 0 0)), (0, .ref b)]) : W p l e room_1 s m #[Value.ref b] below meth c H locs 423 10061 (lw_Z below #[Value.ref b] s) (F0 m 809 ls []) := by
  have C := Z.1
  have hA := Z.2.1
  have hx := C.1
  have hb := C.2.1
  have hbA : ¬ lq_F s b := Nat.not_le.mpr Z.2.2.2.1
  refine lv_aload_n hx hb dL_law_809 rfl (lv_at hl 3 rfl) ?_
  refine lv_aload_n hx hb dL_law_810 rfl (lv_at hl 4 rfl) ?_
  refine lv_iload hx hb dL_law_811 (lv_at hl 0 rfl) ?_
  refine lv_iconst (v := 1) hx hb dL_law_813 (by decide) ?_
  refine lv_iadd hx hb dL_law_814 ?_
  refine ti_top (y := 1) (by decide) ?_
  refine va_sld hx hb Z.2.2.1 Z.2.2.2.1 hbA hw.2.2 lq_i1 dL_law_815 ?_
  refine lq_callTi (av := [.int (xs (1 : Int32).toNatClampNeg)]) C hA hw (k_X9_served l D A1 cy hA.1 M1 h1 (xs (1 : Int32).toNatClampNeg)) ⟨ml_L_101, ym_X9_served, yv_X9_served, yi_X9_served, yc_X9_served⟩ yd_X9_served rfl rfl hl.1 (Nat.le_of_ble_eq_true rfl) ⟨by decide, by decide⟩ ⟨Nat.le_of_ble_eq_true rfl, Nat.le_of_ble_eq_true rfl⟩ dL_law_816 (fun rT M1 H locs hp hw => ?_)
  obtain rfl := hp
  refine lv_aload_n hx hb dL_law_819 rfl (lv_at hl 2 rfl) ?_
  refine lv_aload_n hx hb dL_law_820 rfl (lv_at hl 4 rfl) ?_
  refine lv_iload hx hb dL_law_821 (lv_at hl 0 rfl) ?_
  refine lv_iconst (v := 1) hx hb dL_law_823 (by decide) ?_
  refine lv_iadd hx hb dL_law_824 ?_
  refine ti_top (y := 1) (by decide) ?_
  refine va_sld hx hb Z.2.2.1 Z.2.2.2.1 hbA hw.2.2 lq_i1 dL_law_825 ?_
  refine lq_callMi (av := [.int (xs (1 : Int32).toNatClampNeg)]) C hA hw (k_X10_served l D A2 cy hA.2.1 M2 h2 (xs (1 : Int32).toNatClampNeg)) ⟨ml_L_104, ym_X10_served, yv_X10_served, yi_X10_served, yc_X10_served⟩ yd_X10_served rfl rfl hl.1 (Nat.le_of_ble_eq_true rfl) ⟨by decide, by decide⟩ ⟨Nat.le_of_ble_eq_true rfl, Nat.le_of_ble_eq_true rfl⟩ dL_law_826 (fun rM M2 H locs hp hw => ?_)
  obtain rfl := hp
  refine lv_icmp_eq (tgt := 1550) hx hb dL_law_829 (by decide) (fun _ => ?_) (fun c => absurd rfl c)
  exact lq_fin Z hw.2.2 ⟨Nat.le_of_ble_eq_true rfl, Nat.le_of_ble_eq_true rfl⟩ (lv_sub hl [0, 4] rfl)
set_option maxRecDepth 100000 in
theorem lq_c18 {p : Program} {l : Launch} {e : Env} {s : State} {m : MethodId} {below : List Frame} {meth : Method} {c : Code} {D : va_G} {cy : Nat → ClassId} {A1 A2 : Nat → Nat → Nat} {M1 M2 : ti_M} {b q3 : Nat} {xs : Nat → Int32} {H : Heap} {locs : List Loc} {ls : Array Slot} (Z : lq_Z p s m meth c D cy A1 A2 b xs) (hw : lq_H s D cy A1 A2 M1 M2 H locs) (h1 : ti_F M1) (h2 : ti_FM M2) (hl : lv_has ls 7 [(4, .int 0), (3, .ref q3), (2, .ref (A2 60 0)), (1, .ref (A1 0 0)), (0, .ref b)]) : W p l e room_1 s m #[Value.ref b] below meth c H locs 423 10061 (lw_Z below #[Value.ref b] s) (F0 m 834 ls []) := by
  have C := Z.1
  have hA := Z.2.1
  have hx := C.1
  have hb := C.2.1
  have hbA : ¬ lq_F s b := Nat.not_le.mpr Z.2.2.2.1
  refine lv_aload_n hx hb dL_law_834 rfl (lv_at hl 3 rfl) ?_
  refine lv_aload_n hx hb dL_law_835 rfl (lv_at hl 4 rfl) ?_
  refine lv_iload hx hb dL_law_836 (lv_at hl 0 rfl) ?_
  refine lv_iconst (v := 1) hx hb dL_law_838 (by decide) ?_
  refine lv_iadd hx hb dL_law_839 ?_
  refine ti_top (y := 1) (by decide) ?_
  refine va_sld hx hb Z.2.2.1 Z.2.2.2.1 hbA hw.2.2 lq_i1 dL_law_840 ?_
  refine lv_aload_n hx hb dL_law_841 rfl (lv_at hl 4 rfl) ?_
  refine lv_iload hx hb dL_law_842 (lv_at hl 0 rfl) ?_
  refine lv_iconst (v := 2) hx hb dL_law_844 (by decide) ?_
  refine lv_iadd hx hb dL_law_845 ?_
  refine ti_top (y := 2) (by decide) ?_
  refine va_sld hx hb Z.2.2.1 Z.2.2.2.1 hbA hw.2.2 lq_i2 dL_law_846 ?_
  refine lv_aload_n hx hb dL_law_847 rfl (lv_at hl 4 rfl) ?_
  refine lv_iload hx hb dL_law_848 (lv_at hl 0 rfl) ?_
  refine lv_iconst (v := 3) hx hb dL_law_850 (by decide) ?_
  refine lv_iadd hx hb dL_law_851 ?_
  refine ti_top (y := 3) (by decide) ?_
  refine va_sld hx hb Z.2.2.1 Z.2.2.2.1 hbA hw.2.2 lq_i3 dL_law_852 ?_
  refine lq_callTi (av := [.int (xs (1 : Int32).toNatClampNeg), .int (xs (2 : Int32).toNatClampNeg), .int (xs (3 : Int32).toNatClampNeg)]) C hA hw (k_X9_coming l D A1 cy hA.1 M1 h1 (xs (1 : Int32).toNatClampNeg) (xs (2 : Int32).toNatClampNeg) (xs (3 : Int32).toNatClampNeg)) ⟨ml_L_105, ym_X9_coming, yv_X9_coming, yi_X9_coming, yc_X9_coming⟩ yd_X9_coming rfl rfl hl.1 (Nat.le_of_ble_eq_true rfl) ⟨by decide, by decide⟩ ⟨Nat.le_of_ble_eq_true rfl, Nat.le_of_ble_eq_true rfl⟩ dL_law_853 (fun rT M1 H locs hp hw => ?_)
  obtain rfl := hp
  refine lv_aload_n hx hb dL_law_856 rfl (lv_at hl 2 rfl) ?_
  refine lv_aload_n hx hb dL_law_857 rfl (lv_at hl 4 rfl) ?_
  refine lv_iload hx hb dL_law_858 (lv_at hl 0 rfl) ?_
  refine lv_iconst (v := 1) hx hb dL_law_860 (by decide) ?_
  refine lv_iadd hx hb dL_law_861 ?_
  refine ti_top (y := 1) (by decide) ?_
  refine va_sld hx hb Z.2.2.1 Z.2.2.2.1 hbA hw.2.2 lq_i1 dL_law_862 ?_
  refine lv_aload_n hx hb dL_law_863 rfl (lv_at hl 4 rfl) ?_
  refine lv_iload hx hb dL_law_864 (lv_at hl 0 rfl) ?_
  refine lv_iconst (v := 2) hx hb dL_law_866 (by decide) ?_
  refine lv_iadd hx hb dL_law_867 ?_
  refine ti_top (y := 2) (by decide) ?_
  refine va_sld hx hb Z.2.2.1 Z.2.2.2.1 hbA hw.2.2 lq_i2 dL_law_868 ?_
  refine lv_aload_n hx hb dL_law_869 rfl (lv_at hl 4 rfl) ?_
  refine lv_iload hx hb dL_law_870 (lv_at hl 0 rfl) ?_
  refine lv_iconst (v := 3) hx hb dL_law_872 (by decide) ?_
  refine lv_iadd hx hb dL_law_873 ?_
  refine ti_top (y := 3) (by decide) ?_
  refine va_sld hx hb Z.2.2.1 Z.2.2.2.1 hbA hw.2.2 lq_i3 dL_law_874 ?_
  refine lq_callMi (av := [.int (xs (1 : Int32).toNatClampNeg), .int (xs (2 : Int32).toNatClampNeg), .int (xs (3 : Int32).toNatClampNeg)]) C hA hw (k_X10_coming l D A2 cy hA.2.1 M2 h2 (xs (1 : Int32).toNatClampNeg) (xs (2 : Int32).toNatClampNeg) (xs (3 : Int32).toNatClampNeg)) ⟨ml_L_109, ym_X10_coming, yv_X10_coming, yi_X10_coming, yc_X10_coming⟩ yd_X10_coming rfl rfl hl.1 (Nat.le_of_ble_eq_true rfl) ⟨by decide, by decide⟩ ⟨Nat.le_of_ble_eq_true rfl, Nat.le_of_ble_eq_true rfl⟩ dL_law_875 (fun rM M2 H locs hp hw => ?_)
  obtain rfl := hp
  refine lv_icmp_eq (tgt := 1550) hx hb dL_law_878 (by decide) (fun _ => ?_) (fun c => absurd rfl c)
  exact lq_fin Z hw.2.2 ⟨Nat.le_of_ble_eq_true rfl, Nat.le_of_ble_eq_true rfl⟩ (lv_sub hl [0, 4] rfl)
set_option maxRecDepth 100000 in
theorem lq_c19 {p : Program} {l : Launch} {e : Env} {s : State} {m : MethodId} {below : List Frame} {meth : Method} {c : Code} {D : va_G} {cy : Nat → ClassId} {A1 A2 : Nat → Nat → Nat} {M1 M2 : ti_M} {b q3 : Nat} {xs : Nat → Int32} {H : Heap} {locs : List Loc} {ls : Array Slot} (Z : lq_Z p s m meth c D cy A1 A2 b xs) (hw : lq_H s D cy A1 A2 M1 M2 H locs) (h1 : ti_F M1) (h2 : ti_FM M2) (hl : lv_has ls 7 [(4, .int 0), (3, .ref q3), (2, .ref (A2 60 0)), (1, .ref (A1 0 0)), (0, .ref b)]) : W p l e room_1 s m #[Value.ref b] below meth c H locs 423 10061 (lw_Z below #[Value.ref b] s) (F0 m 883 ls []) := by
  have C := Z.1
  have hA := Z.2.1
  have hx := C.1
  have hb := C.2.1
  have hbA : ¬ lq_F s b := Nat.not_le.mpr Z.2.2.2.1
  refine lv_aload_n hx hb dL_law_883 rfl (lv_at hl 3 rfl) ?_
  refine lv_aload_n hx hb dL_law_884 rfl (lv_at hl 4 rfl) ?_
  refine lv_iload hx hb dL_law_885 (lv_at hl 0 rfl) ?_
  refine lv_iconst (v := 1) hx hb dL_law_887 (by decide) ?_
  refine lv_iadd hx hb dL_law_888 ?_
  refine ti_top (y := 1) (by decide) ?_
  refine va_sld hx hb Z.2.2.1 Z.2.2.2.1 hbA hw.2.2 lq_i1 dL_law_889 ?_
  refine lv_aload_n hx hb dL_law_890 rfl (lv_at hl 4 rfl) ?_
  refine lv_iload hx hb dL_law_891 (lv_at hl 0 rfl) ?_
  refine lv_iconst (v := 2) hx hb dL_law_893 (by decide) ?_
  refine lv_iadd hx hb dL_law_894 ?_
  refine ti_top (y := 2) (by decide) ?_
  refine va_sld hx hb Z.2.2.1 Z.2.2.2.1 hbA hw.2.2 lq_i2 dL_law_895 ?_
  refine lv_aload_n hx hb dL_law_896 rfl (lv_at hl 4 rfl) ?_
  refine lv_iload hx hb dL_law_897 (lv_at hl 0 rfl) ?_
  refine lv_iconst (v := 3) hx hb dL_law_899 (by decide) ?_
  refine lv_iadd hx hb dL_law_900 ?_
  refine ti_top (y := 3) (by decide) ?_
  refine va_sld hx hb Z.2.2.1 Z.2.2.2.1 hbA hw.2.2 lq_i3 dL_law_901 ?_
  refine lq_callTi (av := [.int (xs (1 : Int32).toNatClampNeg), .int (xs (2 : Int32).toNatClampNeg), .int (xs (3 : Int32).toNatClampNeg)]) C hA hw (k_X9_decree l D A1 cy hA.1 M1 h1 (xs (1 : Int32).toNatClampNeg) (xs (2 : Int32).toNatClampNeg) (xs (3 : Int32).toNatClampNeg)) ⟨ml_L_110, ym_X9_decree, yv_X9_decree, yi_X9_decree, yc_X9_decree⟩ yd_X9_decree rfl rfl hl.1 (Nat.le_of_ble_eq_true rfl) ⟨by decide, by decide⟩ ⟨Nat.le_of_ble_eq_true rfl, Nat.le_of_ble_eq_true rfl⟩ dL_law_902 (fun rT M1 H locs hp hw => ?_)
  obtain rfl := hp
  refine lv_aload_n hx hb dL_law_905 rfl (lv_at hl 2 rfl) ?_
  refine lv_aload_n hx hb dL_law_906 rfl (lv_at hl 4 rfl) ?_
  refine lv_iload hx hb dL_law_907 (lv_at hl 0 rfl) ?_
  refine lv_iconst (v := 1) hx hb dL_law_909 (by decide) ?_
  refine lv_iadd hx hb dL_law_910 ?_
  refine ti_top (y := 1) (by decide) ?_
  refine va_sld hx hb Z.2.2.1 Z.2.2.2.1 hbA hw.2.2 lq_i1 dL_law_911 ?_
  refine lv_aload_n hx hb dL_law_912 rfl (lv_at hl 4 rfl) ?_
  refine lv_iload hx hb dL_law_913 (lv_at hl 0 rfl) ?_
  refine lv_iconst (v := 2) hx hb dL_law_915 (by decide) ?_
  refine lv_iadd hx hb dL_law_916 ?_
  refine ti_top (y := 2) (by decide) ?_
  refine va_sld hx hb Z.2.2.1 Z.2.2.2.1 hbA hw.2.2 lq_i2 dL_law_917 ?_
  refine lv_aload_n hx hb dL_law_918 rfl (lv_at hl 4 rfl) ?_
  refine lv_iload hx hb dL_law_919 (lv_at hl 0 rfl) ?_
  refine lv_iconst (v := 3) hx hb dL_law_921 (by decide) ?_
  refine lv_iadd hx hb dL_law_922 ?_
  refine ti_top (y := 3) (by decide) ?_
  refine va_sld hx hb Z.2.2.1 Z.2.2.2.1 hbA hw.2.2 lq_i3 dL_law_923 ?_
  refine lq_callMi (av := [.int (xs (1 : Int32).toNatClampNeg), .int (xs (2 : Int32).toNatClampNeg), .int (xs (3 : Int32).toNatClampNeg)]) C hA hw (k_X10_decree l D A2 cy hA.2.1 M2 h2 (xs (1 : Int32).toNatClampNeg) (xs (2 : Int32).toNatClampNeg) (xs (3 : Int32).toNatClampNeg)) ⟨ml_L_113, ym_X10_decree, yv_X10_decree, yi_X10_decree, yc_X10_decree⟩ yd_X10_decree rfl rfl hl.1 (Nat.le_of_ble_eq_true rfl) ⟨by decide, by decide⟩ ⟨Nat.le_of_ble_eq_true rfl, Nat.le_of_ble_eq_true rfl⟩ dL_law_924 (fun rM M2 H locs hp hw => ?_)
  obtain rfl := hp
  refine lv_icmp_eq (tgt := 1550) hx hb dL_law_927 (by decide) (fun _ => ?_) (fun c => absurd rfl c)
  exact lq_fin Z hw.2.2 ⟨Nat.le_of_ble_eq_true rfl, Nat.le_of_ble_eq_true rfl⟩ (lv_sub hl [0, 4] rfl)
set_option maxRecDepth 100000 in
theorem lq_c20 {p : Program} {l : Launch} {e : Env} {s : State} {m : MethodId} {below : List Frame} {meth : Method} {c : Code} {D : va_G} {cy : Nat → ClassId} {A1 A2 : Nat → Nat → Nat} {M1 M2 : ti_M} {b q3 : Nat} {xs : Nat → Int32} {H : Heap} {locs : List Loc} {ls : Array Slot} (Z : lq_Z p s m meth c D cy A1 A2 b xs) (hw : lq_H s D cy A1 A2 M1 M2 H locs) (h1 : ti_F M1) (h2 : ti_FM M2) (hl : lv_has ls 7 [(4, .int 0), (3, .ref q3), (2, .ref (A2 60 0)), (1, .ref (A1 0 0)), (0, .ref b)]) : W p l e room_1 s m #[Value.ref b] below meth c H locs 423 10061 (lw_Z below #[Value.ref b] s) (F0 m 932 ls []) := by
  have C := Z.1
  have hA := Z.2.1
  have hx := C.1
  have hb := C.2.1
  have hbA : ¬ lq_F s b := Nat.not_le.mpr Z.2.2.2.1
  refine lv_aload_n hx hb dL_law_932 rfl (lv_at hl 3 rfl) ?_
  refine lq_callTi (av := []) C hA hw (k_X9_coup l D A1 cy hA.1 M1 h1) ⟨ml_L_114, ym_X9_coup, yv_X9_coup, yi_X9_coup, yc_X9_coup⟩ yd_X9_coup rfl rfl hl.1 (Nat.le_of_ble_eq_true rfl) ⟨by decide, by decide⟩ ⟨Nat.le_of_ble_eq_true rfl, Nat.le_of_ble_eq_true rfl⟩ dL_law_933 (fun rT M1 H locs hp hw => ?_)
  obtain rfl := hp
  refine lv_aload_n hx hb dL_law_936 rfl (lv_at hl 2 rfl) ?_
  refine lq_callMi (av := []) C hA hw (k_X10_coup l D A2 cy hA.2.1 M2 h2) ⟨ml_L_117, ym_X10_coup, yv_X10_coup, yi_X10_coup, yc_X10_coup⟩ yd_X10_coup rfl rfl hl.1 (Nat.le_of_ble_eq_true rfl) ⟨by decide, by decide⟩ ⟨Nat.le_of_ble_eq_true rfl, Nat.le_of_ble_eq_true rfl⟩ dL_law_937 (fun rM M2 H locs hp hw => ?_)
  obtain rfl := hp
  refine lv_icmp_eq (tgt := 1550) hx hb dL_law_940 (by decide) (fun _ => ?_) (fun c => absurd rfl c)
  exact lq_fin Z hw.2.2 ⟨Nat.le_of_ble_eq_true rfl, Nat.le_of_ble_eq_true rfl⟩ (lv_sub hl [0, 4] rfl)
set_option maxRecDepth 100000 in
theorem lq_c21 {p : Program} {l : Launch} {e : Env} {s : State} {m : MethodId} {below : List Frame} {meth : Method} {c : Code} {D : va_G} {cy : Nat → ClassId} {A1 A2 : Nat → Nat → Nat} {M1 M2 : ti_M} {b q3 : Nat} {xs : Nat → Int32} {H : Heap} {locs : List Loc} {ls : Array Slot} (Z : lq_Z p s m meth c D cy A1 A2 b xs) (hw : lq_H s D cy A1 A2 M1 M2 H locs) (h1 : ti_F M1) (h2 : ti_FM M2) (hl : lv_has ls 7 [(4, .int 0), (3, .ref q3), (2, .ref (A2 60 0)), (1, .ref (A1 0 0)), (0, .ref b)]) : W p l e room_1 s m #[Value.ref b] below meth c H locs 423 10061 (lw_Z below #[Value.ref b] s) (F0 m 945 ls []) := by
  have C := Z.1
  have hA := Z.2.1
  have hx := C.1
  have hb := C.2.1
  have hbA : ¬ lq_F s b := Nat.not_le.mpr Z.2.2.2.1
  refine lv_aload_n hx hb dL_law_945 rfl (lv_at hl 3 rfl) ?_
  refine lv_aload_n hx hb dL_law_946 rfl (lv_at hl 4 rfl) ?_
  refine lv_iload hx hb dL_law_947 (lv_at hl 0 rfl) ?_
  refine lv_iconst (v := 1) hx hb dL_law_949 (by decide) ?_
  refine lv_iadd hx hb dL_law_950 ?_
  refine ti_top (y := 1) (by decide) ?_
  refine va_sld hx hb Z.2.2.1 Z.2.2.2.1 hbA hw.2.2 lq_i1 dL_law_951 ?_
  refine lv_aload_n hx hb dL_law_952 rfl (lv_at hl 4 rfl) ?_
  refine lv_iload hx hb dL_law_953 (lv_at hl 0 rfl) ?_
  refine lv_iconst (v := 2) hx hb dL_law_955 (by decide) ?_
  refine lv_iadd hx hb dL_law_956 ?_
  refine ti_top (y := 2) (by decide) ?_
  refine va_sld hx hb Z.2.2.1 Z.2.2.2.1 hbA hw.2.2 lq_i2 dL_law_957 ?_
  refine lv_aload_n hx hb dL_law_958 rfl (lv_at hl 4 rfl) ?_
  refine lv_iload hx hb dL_law_959 (lv_at hl 0 rfl) ?_
  refine lv_iconst (v := 3) hx hb dL_law_961 (by decide) ?_
  refine lv_iadd hx hb dL_law_962 ?_
  refine ti_top (y := 3) (by decide) ?_
  refine va_sld hx hb Z.2.2.1 Z.2.2.2.1 hbA hw.2.2 lq_i3 dL_law_963 ?_
  refine lq_callTi (av := [.int (xs (1 : Int32).toNatClampNeg), .int (xs (2 : Int32).toNatClampNeg), .int (xs (3 : Int32).toNatClampNeg)]) C hA hw (k_X9_rests l D A1 cy hA.1 M1 h1 (xs (1 : Int32).toNatClampNeg) (xs (2 : Int32).toNatClampNeg) (xs (3 : Int32).toNatClampNeg)) ⟨ml_L_118, ym_X9_rests, yv_X9_rests, yi_X9_rests, yc_X9_rests⟩ yd_X9_rests rfl rfl hl.1 (Nat.le_of_ble_eq_true rfl) ⟨by decide, by decide⟩ ⟨Nat.le_of_ble_eq_true rfl, Nat.le_of_ble_eq_true rfl⟩ dL_law_964 (fun rT M1 H locs hp hw => ?_)
  obtain rfl := hp
  refine lv_aload_n hx hb dL_law_967 rfl (lv_at hl 2 rfl) ?_
  refine lv_aload_n hx hb dL_law_968 rfl (lv_at hl 4 rfl) ?_
  refine lv_iload hx hb dL_law_969 (lv_at hl 0 rfl) ?_
  refine lv_iconst (v := 1) hx hb dL_law_971 (by decide) ?_
  refine lv_iadd hx hb dL_law_972 ?_
  refine ti_top (y := 1) (by decide) ?_
  refine va_sld hx hb Z.2.2.1 Z.2.2.2.1 hbA hw.2.2 lq_i1 dL_law_973 ?_
  refine lv_aload_n hx hb dL_law_974 rfl (lv_at hl 4 rfl) ?_
  refine lv_iload hx hb dL_law_975 (lv_at hl 0 rfl) ?_
  refine lv_iconst (v := 2) hx hb dL_law_977 (by decide) ?_
  refine lv_iadd hx hb dL_law_978 ?_
  refine ti_top (y := 2) (by decide) ?_
  refine va_sld hx hb Z.2.2.1 Z.2.2.2.1 hbA hw.2.2 lq_i2 dL_law_979 ?_
  refine lv_aload_n hx hb dL_law_980 rfl (lv_at hl 4 rfl) ?_
  refine lv_iload hx hb dL_law_981 (lv_at hl 0 rfl) ?_
  refine lv_iconst (v := 3) hx hb dL_law_983 (by decide) ?_
  refine lv_iadd hx hb dL_law_984 ?_
  refine ti_top (y := 3) (by decide) ?_
  refine va_sld hx hb Z.2.2.1 Z.2.2.2.1 hbA hw.2.2 lq_i3 dL_law_985 ?_
  refine lq_callMi (av := [.int (xs (1 : Int32).toNatClampNeg), .int (xs (2 : Int32).toNatClampNeg), .int (xs (3 : Int32).toNatClampNeg)]) C hA hw (k_X10_rests l D A2 cy hA.2.1 M2 h2 (xs (1 : Int32).toNatClampNeg) (xs (2 : Int32).toNatClampNeg) (xs (3 : Int32).toNatClampNeg)) ⟨ml_L_121, ym_X10_rests, yv_X10_rests, yi_X10_rests, yc_X10_rests⟩ yd_X10_rests rfl rfl hl.1 (Nat.le_of_ble_eq_true rfl) ⟨by decide, by decide⟩ ⟨Nat.le_of_ble_eq_true rfl, Nat.le_of_ble_eq_true rfl⟩ dL_law_986 (fun rM M2 H locs hp hw => ?_)
  obtain rfl := hp
  refine lv_icmp_eq (tgt := 1550) hx hb dL_law_989 (by decide) (fun _ => ?_) (fun c => absurd rfl c)
  exact lq_fin Z hw.2.2 ⟨Nat.le_of_ble_eq_true rfl, Nat.le_of_ble_eq_true rfl⟩ (lv_sub hl [0, 4] rfl)
set_option maxRecDepth 100000 in
theorem lq_c22 {p : Program} {l : Launch} {e : Env} {s : State} {m : MethodId} {below : List Frame} {meth : Method} {c : Code} {D : va_G} {cy : Nat → ClassId} {A1 A2 : Nat → Nat → Nat} {M1 M2 : ti_M} {b q3 : Nat} {xs : Nat → Int32} {H : Heap} {locs : List Loc} {ls : Array Slot} (Z : lq_Z p s m meth c D cy A1 A2 b xs) (hw : lq_H s D cy A1 A2 M1 M2 H locs) (h1 : ti_F M1) (h2 : ti_FM M2) (hl : lv_has ls 7 [(4, .int 0), (3, .ref q3), (2, .ref (A2 60 0)), (1, .ref (A1 0 0)), (0, .ref b)]) : W p l e room_1 s m #[Value.ref b] below meth c H locs 423 10061 (lw_Z below #[Value.ref b] s) (F0 m 994 ls []) := by
  have C := Z.1
  have hA := Z.2.1
  have hx := C.1
  have hb := C.2.1
  have hbA : ¬ lq_F s b := Nat.not_le.mpr Z.2.2.2.1
  refine lv_aload_n hx hb dL_law_994 rfl (lv_at hl 3 rfl) ?_
  refine lv_aload_n hx hb dL_law_995 rfl (lv_at hl 4 rfl) ?_
  refine lv_iload hx hb dL_law_996 (lv_at hl 0 rfl) ?_
  refine lv_iconst (v := 1) hx hb dL_law_998 (by decide) ?_
  refine lv_iadd hx hb dL_law_999 ?_
  refine ti_top (y := 1) (by decide) ?_
  refine va_sld hx hb Z.2.2.1 Z.2.2.2.1 hbA hw.2.2 lq_i1 dL_law_1000 ?_
  refine lv_aload_n hx hb dL_law_1001 rfl (lv_at hl 4 rfl) ?_
  refine lv_iload hx hb dL_law_1002 (lv_at hl 0 rfl) ?_
  refine lv_iconst (v := 2) hx hb dL_law_1004 (by decide) ?_
  refine lv_iadd hx hb dL_law_1005 ?_
  refine ti_top (y := 2) (by decide) ?_
  refine va_sld hx hb Z.2.2.1 Z.2.2.2.1 hbA hw.2.2 lq_i2 dL_law_1006 ?_
  refine lv_aload_n hx hb dL_law_1007 rfl (lv_at hl 4 rfl) ?_
  refine lv_iload hx hb dL_law_1008 (lv_at hl 0 rfl) ?_
  refine lv_iconst (v := 3) hx hb dL_law_1010 (by decide) ?_
  refine lv_iadd hx hb dL_law_1011 ?_
  refine ti_top (y := 3) (by decide) ?_
  refine va_sld hx hb Z.2.2.1 Z.2.2.2.1 hbA hw.2.2 lq_i3 dL_law_1012 ?_
  refine lv_aload_n hx hb dL_law_1013 rfl (lv_at hl 4 rfl) ?_
  refine lv_iload hx hb dL_law_1014 (lv_at hl 0 rfl) ?_
  refine lv_iconst (v := 4) hx hb dL_law_1016 (by decide) ?_
  refine lv_iadd hx hb dL_law_1017 ?_
  refine ti_top (y := 4) (by decide) ?_
  refine va_sld hx hb Z.2.2.1 Z.2.2.2.1 hbA hw.2.2 lq_i4 dL_law_1018 ?_
  refine lq_callTi (av := [.int (xs (1 : Int32).toNatClampNeg), .int (xs (2 : Int32).toNatClampNeg), .int (xs (3 : Int32).toNatClampNeg), .int (xs (4 : Int32).toNatClampNeg)]) C hA hw (k_X9_rest l D A1 cy hA.1 M1 h1 (xs (1 : Int32).toNatClampNeg) (xs (2 : Int32).toNatClampNeg) (xs (3 : Int32).toNatClampNeg) (xs (4 : Int32).toNatClampNeg)) ⟨ml_L_122, ym_X9_rest, yv_X9_rest, yi_X9_rest, yc_X9_rest⟩ yd_X9_rest rfl rfl hl.1 (Nat.le_of_ble_eq_true rfl) ⟨by decide, by decide⟩ ⟨Nat.le_of_ble_eq_true rfl, Nat.le_of_ble_eq_true rfl⟩ dL_law_1019 (fun rT M1 H locs hp hw => ?_)
  obtain rfl := hp
  refine lv_aload_n hx hb dL_law_1022 rfl (lv_at hl 2 rfl) ?_
  refine lv_aload_n hx hb dL_law_1023 rfl (lv_at hl 4 rfl) ?_
  refine lv_iload hx hb dL_law_1024 (lv_at hl 0 rfl) ?_
  refine lv_iconst (v := 1) hx hb dL_law_1026 (by decide) ?_
  refine lv_iadd hx hb dL_law_1027 ?_
  refine ti_top (y := 1) (by decide) ?_
  refine va_sld hx hb Z.2.2.1 Z.2.2.2.1 hbA hw.2.2 lq_i1 dL_law_1028 ?_
  refine lv_aload_n hx hb dL_law_1029 rfl (lv_at hl 4 rfl) ?_
  refine lv_iload hx hb dL_law_1030 (lv_at hl 0 rfl) ?_
  refine lv_iconst (v := 2) hx hb dL_law_1032 (by decide) ?_
  refine lv_iadd hx hb dL_law_1033 ?_
  refine ti_top (y := 2) (by decide) ?_
  refine va_sld hx hb Z.2.2.1 Z.2.2.2.1 hbA hw.2.2 lq_i2 dL_law_1034 ?_
  refine lv_aload_n hx hb dL_law_1035 rfl (lv_at hl 4 rfl) ?_
  refine lv_iload hx hb dL_law_1036 (lv_at hl 0 rfl) ?_
  refine lv_iconst (v := 3) hx hb dL_law_1038 (by decide) ?_
  refine lv_iadd hx hb dL_law_1039 ?_
  refine ti_top (y := 3) (by decide) ?_
  refine va_sld hx hb Z.2.2.1 Z.2.2.2.1 hbA hw.2.2 lq_i3 dL_law_1040 ?_
  refine lv_aload_n hx hb dL_law_1041 rfl (lv_at hl 4 rfl) ?_
  refine lv_iload hx hb dL_law_1042 (lv_at hl 0 rfl) ?_
  refine lv_iconst (v := 4) hx hb dL_law_1044 (by decide) ?_
  refine lv_iadd hx hb dL_law_1045 ?_
  refine ti_top (y := 4) (by decide) ?_
  refine va_sld hx hb Z.2.2.1 Z.2.2.2.1 hbA hw.2.2 lq_i4 dL_law_1046 ?_
  refine lq_callMi (av := [.int (xs (1 : Int32).toNatClampNeg), .int (xs (2 : Int32).toNatClampNeg), .int (xs (3 : Int32).toNatClampNeg), .int (xs (4 : Int32).toNatClampNeg)]) C hA hw (k_X10_rest l D A2 cy hA.2.1 M2 h2 (xs (1 : Int32).toNatClampNeg) (xs (2 : Int32).toNatClampNeg) (xs (3 : Int32).toNatClampNeg) (xs (4 : Int32).toNatClampNeg)) ⟨ml_L_126, ym_X10_rest, yv_X10_rest, yi_X10_rest, yc_X10_rest⟩ yd_X10_rest rfl rfl hl.1 (Nat.le_of_ble_eq_true rfl) ⟨by decide, by decide⟩ ⟨Nat.le_of_ble_eq_true rfl, Nat.le_of_ble_eq_true rfl⟩ dL_law_1047 (fun rM M2 H locs hp hw => ?_)
  obtain rfl := hp
  refine lv_icmp_eq (tgt := 1550) hx hb dL_law_1050 (by decide) (fun _ => ?_) (fun c => absurd rfl c)
  exact lq_fin Z hw.2.2 ⟨Nat.le_of_ble_eq_true rfl, Nat.le_of_ble_eq_true rfl⟩ (lv_sub hl [0, 4] rfl)
set_option maxRecDepth 100000 in
theorem lq_c23 {p : Program} {l : Launch} {e : Env} {s : State} {m : MethodId} {below : List Frame} {meth : Method} {c : Code} {D : va_G} {cy : Nat → ClassId} {A1 A2 : Nat → Nat → Nat} {M1 M2 : ti_M} {b q3 : Nat} {xs : Nat → Int32} {H : Heap} {locs : List Loc} {ls : Array Slot} (Z : lq_Z p s m meth c D cy A1 A2 b xs) (hw : lq_H s D cy A1 A2 M1 M2 H locs) (h1 : ti_F M1) (h2 : ti_FM M2) (hl : lv_has ls 7 [(4, .int 0), (3, .ref q3), (2, .ref (A2 60 0)), (1, .ref (A1 0 0)), (0, .ref b)]) : W p l e room_1 s m #[Value.ref b] below meth c H locs 423 10061 (lw_Z below #[Value.ref b] s) (F0 m 1055 ls []) := by
  have C := Z.1
  have hA := Z.2.1
  have hx := C.1
  have hb := C.2.1
  have hbA : ¬ lq_F s b := Nat.not_le.mpr Z.2.2.2.1
  refine lv_aload_n hx hb dL_law_1055 rfl (lv_at hl 3 rfl) ?_
  refine lv_aload_n hx hb dL_law_1056 rfl (lv_at hl 4 rfl) ?_
  refine lv_iload hx hb dL_law_1057 (lv_at hl 0 rfl) ?_
  refine lv_iconst (v := 1) hx hb dL_law_1059 (by decide) ?_
  refine lv_iadd hx hb dL_law_1060 ?_
  refine ti_top (y := 1) (by decide) ?_
  refine va_sld hx hb Z.2.2.1 Z.2.2.2.1 hbA hw.2.2 lq_i1 dL_law_1061 ?_
  refine lv_aload_n hx hb dL_law_1062 rfl (lv_at hl 4 rfl) ?_
  refine lv_iload hx hb dL_law_1063 (lv_at hl 0 rfl) ?_
  refine lv_iconst (v := 2) hx hb dL_law_1065 (by decide) ?_
  refine lv_iadd hx hb dL_law_1066 ?_
  refine ti_top (y := 2) (by decide) ?_
  refine va_sld hx hb Z.2.2.1 Z.2.2.2.1 hbA hw.2.2 lq_i2 dL_law_1067 ?_
  refine lv_aload_n hx hb dL_law_1068 rfl (lv_at hl 4 rfl) ?_
  refine lv_iload hx hb dL_law_1069 (lv_at hl 0 rfl) ?_
  refine lv_iconst (v := 3) hx hb dL_law_1071 (by decide) ?_
  refine lv_iadd hx hb dL_law_1072 ?_
  refine ti_top (y := 3) (by decide) ?_
  refine va_sld hx hb Z.2.2.1 Z.2.2.2.1 hbA hw.2.2 lq_i3 dL_law_1073 ?_
  refine lv_aload_n hx hb dL_law_1074 rfl (lv_at hl 4 rfl) ?_
  refine lv_iload hx hb dL_law_1075 (lv_at hl 0 rfl) ?_
  refine lv_iconst (v := 4) hx hb dL_law_1077 (by decide) ?_
  refine lv_iadd hx hb dL_law_1078 ?_
  refine ti_top (y := 4) (by decide) ?_
  refine va_sld hx hb Z.2.2.1 Z.2.2.2.1 hbA hw.2.2 lq_i4 dL_law_1079 ?_
  refine lq_callTi (av := [.int (xs (1 : Int32).toNatClampNeg), .int (xs (2 : Int32).toNatClampNeg), .int (xs (3 : Int32).toNatClampNeg), .int (xs (4 : Int32).toNatClampNeg)]) C hA hw (k_X9_best l D A1 cy hA.1 M1 h1 (xs (1 : Int32).toNatClampNeg) (xs (2 : Int32).toNatClampNeg) (xs (3 : Int32).toNatClampNeg) (xs (4 : Int32).toNatClampNeg)) ⟨ml_L_127, ym_X9_best, yv_X9_best, yi_X9_best, yc_X9_best⟩ yd_X9_best rfl rfl hl.1 (Nat.le_of_ble_eq_true rfl) ⟨by decide, by decide⟩ ⟨Nat.le_of_ble_eq_true rfl, Nat.le_of_ble_eq_true rfl⟩ dL_law_1080 (fun rT M1 H locs hp hw => ?_)
  obtain rfl := hp
  refine lv_aload_n hx hb dL_law_1083 rfl (lv_at hl 2 rfl) ?_
  refine lv_aload_n hx hb dL_law_1084 rfl (lv_at hl 4 rfl) ?_
  refine lv_iload hx hb dL_law_1085 (lv_at hl 0 rfl) ?_
  refine lv_iconst (v := 1) hx hb dL_law_1087 (by decide) ?_
  refine lv_iadd hx hb dL_law_1088 ?_
  refine ti_top (y := 1) (by decide) ?_
  refine va_sld hx hb Z.2.2.1 Z.2.2.2.1 hbA hw.2.2 lq_i1 dL_law_1089 ?_
  refine lv_aload_n hx hb dL_law_1090 rfl (lv_at hl 4 rfl) ?_
  refine lv_iload hx hb dL_law_1091 (lv_at hl 0 rfl) ?_
  refine lv_iconst (v := 2) hx hb dL_law_1093 (by decide) ?_
  refine lv_iadd hx hb dL_law_1094 ?_
  refine ti_top (y := 2) (by decide) ?_
  refine va_sld hx hb Z.2.2.1 Z.2.2.2.1 hbA hw.2.2 lq_i2 dL_law_1095 ?_
  refine lv_aload_n hx hb dL_law_1096 rfl (lv_at hl 4 rfl) ?_
  refine lv_iload hx hb dL_law_1097 (lv_at hl 0 rfl) ?_
  refine lv_iconst (v := 3) hx hb dL_law_1099 (by decide) ?_
  refine lv_iadd hx hb dL_law_1100 ?_
  refine ti_top (y := 3) (by decide) ?_
  refine va_sld hx hb Z.2.2.1 Z.2.2.2.1 hbA hw.2.2 lq_i3 dL_law_1101 ?_
  refine lv_aload_n hx hb dL_law_1102 rfl (lv_at hl 4 rfl) ?_
  refine lv_iload hx hb dL_law_1103 (lv_at hl 0 rfl) ?_
  refine lv_iconst (v := 4) hx hb dL_law_1105 (by decide) ?_
  refine lv_iadd hx hb dL_law_1106 ?_
  refine ti_top (y := 4) (by decide) ?_
  refine va_sld hx hb Z.2.2.1 Z.2.2.2.1 hbA hw.2.2 lq_i4 dL_law_1107 ?_
  refine lq_callMi (av := [.int (xs (1 : Int32).toNatClampNeg), .int (xs (2 : Int32).toNatClampNeg), .int (xs (3 : Int32).toNatClampNeg), .int (xs (4 : Int32).toNatClampNeg)]) C hA hw (k_X10_best l D A2 cy hA.2.1 M2 h2 (xs (1 : Int32).toNatClampNeg) (xs (2 : Int32).toNatClampNeg) (xs (3 : Int32).toNatClampNeg) (xs (4 : Int32).toNatClampNeg)) ⟨ml_L_130, ym_X10_best, yv_X10_best, yi_X10_best, yc_X10_best⟩ yd_X10_best rfl rfl hl.1 (Nat.le_of_ble_eq_true rfl) ⟨by decide, by decide⟩ ⟨Nat.le_of_ble_eq_true rfl, Nat.le_of_ble_eq_true rfl⟩ dL_law_1108 (fun rM M2 H locs hp hw => ?_)
  obtain rfl := hp
  refine lv_icmp_eq (tgt := 1550) hx hb dL_law_1111 (by decide) (fun _ => ?_) (fun c => absurd rfl c)
  exact lq_fin Z hw.2.2 ⟨Nat.le_of_ble_eq_true rfl, Nat.le_of_ble_eq_true rfl⟩ (lv_sub hl [0, 4] rfl)
set_option maxRecDepth 100000 in
theorem lq_c24 {p : Program} {l : Launch} {e : Env} {s : State} {m : MethodId} {below : List Frame} {meth : Method} {c : Code} {D : va_G} {cy : Nat → ClassId} {A1 A2 : Nat → Nat → Nat} {M1 M2 : ti_M} {b q3 : Nat} {xs : Nat → Int32} {H : Heap} {locs : List Loc} {ls : Array Slot} (Z : lq_Z p s m meth c D cy A1 A2 b xs) (hw : lq_H s D cy A1 A2 M1 M2 H locs) (h1 : ti_F M1) (h2 : ti_FM M2) (hl : lv_has ls 7 [(4, .int 0), (3, .ref q3), (2, .ref (A2 60 0)), (1, .ref (A1 0 0)), (0, .ref b)]) : W p l e room_1 s m #[Value.ref b] below meth c H locs 423 10061 (lw_Z below #[Value.ref b] s) (F0 m 1116 ls []) := by
  have C := Z.1
  have hA := Z.2.1
  have hx := C.1
  have hb := C.2.1
  have hbA : ¬ lq_F s b := Nat.not_le.mpr Z.2.2.2.1
  refine lv_aload_n hx hb dL_law_1116 rfl (lv_at hl 3 rfl) ?_
  refine lv_aload_n hx hb dL_law_1117 rfl (lv_at hl 4 rfl) ?_
  refine lv_iload hx hb dL_law_1118 (lv_at hl 0 rfl) ?_
  refine lv_iconst (v := 1) hx hb dL_law_1120 (by decide) ?_
  refine lv_iadd hx hb dL_law_1121 ?_
  refine ti_top (y := 1) (by decide) ?_
  refine va_sld hx hb Z.2.2.1 Z.2.2.2.1 hbA hw.2.2 lq_i1 dL_law_1122 ?_
  refine lv_aload_n hx hb dL_law_1123 rfl (lv_at hl 4 rfl) ?_
  refine lv_iload hx hb dL_law_1124 (lv_at hl 0 rfl) ?_
  refine lv_iconst (v := 2) hx hb dL_law_1126 (by decide) ?_
  refine lv_iadd hx hb dL_law_1127 ?_
  refine ti_top (y := 2) (by decide) ?_
  refine va_sld hx hb Z.2.2.1 Z.2.2.2.1 hbA hw.2.2 lq_i2 dL_law_1128 ?_
  refine lv_aload_n hx hb dL_law_1129 rfl (lv_at hl 4 rfl) ?_
  refine lv_iload hx hb dL_law_1130 (lv_at hl 0 rfl) ?_
  refine lv_iconst (v := 3) hx hb dL_law_1132 (by decide) ?_
  refine lv_iadd hx hb dL_law_1133 ?_
  refine ti_top (y := 3) (by decide) ?_
  refine va_sld hx hb Z.2.2.1 Z.2.2.2.1 hbA hw.2.2 lq_i3 dL_law_1134 ?_
  refine lq_callTi (av := [.int (xs (1 : Int32).toNatClampNeg), .int (xs (2 : Int32).toNatClampNeg), .int (xs (3 : Int32).toNatClampNeg)]) C hA hw (k_X9_fairest l D A1 cy hA.1 M1 h1 (xs (1 : Int32).toNatClampNeg) (xs (2 : Int32).toNatClampNeg) (xs (3 : Int32).toNatClampNeg)) ⟨ml_L_131, ym_X9_fairest, yv_X9_fairest, yi_X9_fairest, yc_X9_fairest⟩ yd_X9_fairest rfl rfl hl.1 (Nat.le_of_ble_eq_true rfl) ⟨by decide, by decide⟩ ⟨Nat.le_of_ble_eq_true rfl, Nat.le_of_ble_eq_true rfl⟩ dL_law_1135 (fun rT M1 H locs hp hw => ?_)
  obtain rfl := hp
  refine lv_aload_n hx hb dL_law_1138 rfl (lv_at hl 2 rfl) ?_
  refine lv_aload_n hx hb dL_law_1139 rfl (lv_at hl 4 rfl) ?_
  refine lv_iload hx hb dL_law_1140 (lv_at hl 0 rfl) ?_
  refine lv_iconst (v := 1) hx hb dL_law_1142 (by decide) ?_
  refine lv_iadd hx hb dL_law_1143 ?_
  refine ti_top (y := 1) (by decide) ?_
  refine va_sld hx hb Z.2.2.1 Z.2.2.2.1 hbA hw.2.2 lq_i1 dL_law_1144 ?_
  refine lv_aload_n hx hb dL_law_1145 rfl (lv_at hl 4 rfl) ?_
  refine lv_iload hx hb dL_law_1146 (lv_at hl 0 rfl) ?_
  refine lv_iconst (v := 2) hx hb dL_law_1148 (by decide) ?_
  refine lv_iadd hx hb dL_law_1149 ?_
  refine ti_top (y := 2) (by decide) ?_
  refine va_sld hx hb Z.2.2.1 Z.2.2.2.1 hbA hw.2.2 lq_i2 dL_law_1150 ?_
  refine lv_aload_n hx hb dL_law_1151 rfl (lv_at hl 4 rfl) ?_
  refine lv_iload hx hb dL_law_1152 (lv_at hl 0 rfl) ?_
  refine lv_iconst (v := 3) hx hb dL_law_1154 (by decide) ?_
  refine lv_iadd hx hb dL_law_1155 ?_
  refine ti_top (y := 3) (by decide) ?_
  refine va_sld hx hb Z.2.2.1 Z.2.2.2.1 hbA hw.2.2 lq_i3 dL_law_1156 ?_
  refine lq_callMi (av := [.int (xs (1 : Int32).toNatClampNeg), .int (xs (2 : Int32).toNatClampNeg), .int (xs (3 : Int32).toNatClampNeg)]) C hA hw (k_X10_fairest l D A2 cy hA.2.1 M2 h2 (xs (1 : Int32).toNatClampNeg) (xs (2 : Int32).toNatClampNeg) (xs (3 : Int32).toNatClampNeg)) ⟨ml_L_134, ym_X10_fairest, yv_X10_fairest, yi_X10_fairest, yc_X10_fairest⟩ yd_X10_fairest rfl rfl hl.1 (Nat.le_of_ble_eq_true rfl) ⟨by decide, by decide⟩ ⟨Nat.le_of_ble_eq_true rfl, Nat.le_of_ble_eq_true rfl⟩ dL_law_1157 (fun rM M2 H locs hp hw => ?_)
  obtain rfl := hp
  refine lv_icmp_eq (tgt := 1550) hx hb dL_law_1160 (by decide) (fun _ => ?_) (fun c => absurd rfl c)
  exact lq_fin Z hw.2.2 ⟨Nat.le_of_ble_eq_true rfl, Nat.le_of_ble_eq_true rfl⟩ (lv_sub hl [0, 4] rfl)
set_option maxRecDepth 100000 in
theorem lq_c25 {p : Program} {l : Launch} {e : Env} {s : State} {m : MethodId} {below : List Frame} {meth : Method} {c : Code} {D : va_G} {cy : Nat → ClassId} {A1 A2 : Nat → Nat → Nat} {M1 M2 : ti_M} {b q3 : Nat} {xs : Nat → Int32} {H : Heap} {locs : List Loc} {ls : Array Slot} (Z : lq_Z p s m meth c D cy A1 A2 b xs) (hw : lq_H s D cy A1 A2 M1 M2 H locs) (h1 : ti_F M1) (h2 : ti_FM M2) (hl : lv_has ls 7 [(4, .int 0), (3, .ref q3), (2, .ref (A2 60 0)), (1, .ref (A1 0 0)), (0, .ref b)]) : W p l e room_1 s m #[Value.ref b] below meth c H locs 423 10061 (lw_Z below #[Value.ref b] s) (F0 m 1165 ls []) := by
  have C := Z.1
  have hA := Z.2.1
  have hx := C.1
  have hb := C.2.1
  have hbA : ¬ lq_F s b := Nat.not_le.mpr Z.2.2.2.1
  refine lv_aload_n hx hb dL_law_1165 rfl (lv_at hl 3 rfl) ?_
  refine lv_aload_n hx hb dL_law_1166 rfl (lv_at hl 4 rfl) ?_
  refine lv_iload hx hb dL_law_1167 (lv_at hl 0 rfl) ?_
  refine lv_iconst (v := 1) hx hb dL_law_1169 (by decide) ?_
  refine lv_iadd hx hb dL_law_1170 ?_
  refine ti_top (y := 1) (by decide) ?_
  refine va_sld hx hb Z.2.2.1 Z.2.2.2.1 hbA hw.2.2 lq_i1 dL_law_1171 ?_
  refine lv_aload_n hx hb dL_law_1172 rfl (lv_at hl 4 rfl) ?_
  refine lv_iload hx hb dL_law_1173 (lv_at hl 0 rfl) ?_
  refine lv_iconst (v := 2) hx hb dL_law_1175 (by decide) ?_
  refine lv_iadd hx hb dL_law_1176 ?_
  refine ti_top (y := 2) (by decide) ?_
  refine va_sld hx hb Z.2.2.1 Z.2.2.2.1 hbA hw.2.2 lq_i2 dL_law_1177 ?_
  refine lq_callTi (av := [.int (xs (1 : Int32).toNatClampNeg), .int (xs (2 : Int32).toNatClampNeg)]) C hA hw (k_X9_gain l D A1 cy hA.1 M1 h1 (xs (1 : Int32).toNatClampNeg) (xs (2 : Int32).toNatClampNeg)) ⟨ml_L_135, ym_X9_gain, yv_X9_gain, yi_X9_gain, yc_X9_gain⟩ yd_X9_gain rfl rfl hl.1 (Nat.le_of_ble_eq_true rfl) ⟨by decide, by decide⟩ ⟨Nat.le_of_ble_eq_true rfl, Nat.le_of_ble_eq_true rfl⟩ dL_law_1178 (fun rT M1 H locs hp hw => ?_)
  obtain rfl := hp
  refine lv_aload_n hx hb dL_law_1181 rfl (lv_at hl 2 rfl) ?_
  refine lv_aload_n hx hb dL_law_1182 rfl (lv_at hl 4 rfl) ?_
  refine lv_iload hx hb dL_law_1183 (lv_at hl 0 rfl) ?_
  refine lv_iconst (v := 1) hx hb dL_law_1185 (by decide) ?_
  refine lv_iadd hx hb dL_law_1186 ?_
  refine ti_top (y := 1) (by decide) ?_
  refine va_sld hx hb Z.2.2.1 Z.2.2.2.1 hbA hw.2.2 lq_i1 dL_law_1187 ?_
  refine lv_aload_n hx hb dL_law_1188 rfl (lv_at hl 4 rfl) ?_
  refine lv_iload hx hb dL_law_1189 (lv_at hl 0 rfl) ?_
  refine lv_iconst (v := 2) hx hb dL_law_1191 (by decide) ?_
  refine lv_iadd hx hb dL_law_1192 ?_
  refine ti_top (y := 2) (by decide) ?_
  refine va_sld hx hb Z.2.2.1 Z.2.2.2.1 hbA hw.2.2 lq_i2 dL_law_1193 ?_
  refine lq_callMi (av := [.int (xs (1 : Int32).toNatClampNeg), .int (xs (2 : Int32).toNatClampNeg)]) C hA hw (k_X10_gain l D A2 cy hA.2.1 M2 h2 (xs (1 : Int32).toNatClampNeg) (xs (2 : Int32).toNatClampNeg)) ⟨ml_L_138, ym_X10_gain, yv_X10_gain, yi_X10_gain, yc_X10_gain⟩ yd_X10_gain rfl rfl hl.1 (Nat.le_of_ble_eq_true rfl) ⟨by decide, by decide⟩ ⟨Nat.le_of_ble_eq_true rfl, Nat.le_of_ble_eq_true rfl⟩ dL_law_1194 (fun rM M2 H locs hp hw => ?_)
  obtain rfl := hp
  refine lv_icmp_eq (tgt := 1550) hx hb dL_law_1197 (by decide) (fun _ => ?_) (fun c => absurd rfl c)
  exact lq_fin Z hw.2.2 ⟨Nat.le_of_ble_eq_true rfl, Nat.le_of_ble_eq_true rfl⟩ (lv_sub hl [0, 4] rfl)
set_option maxRecDepth 100000 in
theorem lq_c26 {p : Program} {l : Launch} {e : Env} {s : State} {m : MethodId} {below : List Frame} {meth : Method} {c : Code} {D : va_G} {cy : Nat → ClassId} {A1 A2 : Nat → Nat → Nat} {M1 M2 : ti_M} {b q3 : Nat} {xs : Nat → Int32} {H : Heap} {locs : List Loc} {ls : Array Slot} (Z : lq_Z p s m meth c D cy A1 A2 b xs) (hw : lq_H s D cy A1 A2 M1 M2 H locs) (h1 : ti_F M1) (h2 : ti_FM M2) (hl : lv_has ls 7 [(4, .int 0), (3, .ref q3), (2, .ref (A2 60 0)), (1, .ref (A1 0 0)), (0, .ref b)]) : W p l e room_1 s m #[Value.ref b] below meth c H locs 423 10061 (lw_Z below #[Value.ref b] s) (F0 m 1202 ls []) := by
  have C := Z.1
  have hA := Z.2.1
  have hx := C.1
  have hb := C.2.1
  have hbA : ¬ lq_F s b := Nat.not_le.mpr Z.2.2.2.1
  refine lv_aload_n hx hb dL_law_1202 rfl (lv_at hl 3 rfl) ?_
  refine lv_aload_n hx hb dL_law_1203 rfl (lv_at hl 4 rfl) ?_
  refine lv_iload hx hb dL_law_1204 (lv_at hl 0 rfl) ?_
  refine lv_iconst (v := 1) hx hb dL_law_1206 (by decide) ?_
  refine lv_iadd hx hb dL_law_1207 ?_
  refine ti_top (y := 1) (by decide) ?_
  refine va_sld hx hb Z.2.2.1 Z.2.2.2.1 hbA hw.2.2 lq_i1 dL_law_1208 ?_
  refine lv_aload_n hx hb dL_law_1209 rfl (lv_at hl 4 rfl) ?_
  refine lv_iload hx hb dL_law_1210 (lv_at hl 0 rfl) ?_
  refine lv_iconst (v := 2) hx hb dL_law_1212 (by decide) ?_
  refine lv_iadd hx hb dL_law_1213 ?_
  refine ti_top (y := 2) (by decide) ?_
  refine va_sld hx hb Z.2.2.1 Z.2.2.2.1 hbA hw.2.2 lq_i2 dL_law_1214 ?_
  refine lv_aload_n hx hb dL_law_1215 rfl (lv_at hl 4 rfl) ?_
  refine lv_iload hx hb dL_law_1216 (lv_at hl 0 rfl) ?_
  refine lv_iconst (v := 3) hx hb dL_law_1218 (by decide) ?_
  refine lv_iadd hx hb dL_law_1219 ?_
  refine ti_top (y := 3) (by decide) ?_
  refine va_sld hx hb Z.2.2.1 Z.2.2.2.1 hbA hw.2.2 lq_i3 dL_law_1220 ?_
  refine lq_callTi (av := [.int (xs (1 : Int32).toNatClampNeg), .int (xs (2 : Int32).toNatClampNeg), .int (xs (3 : Int32).toNatClampNeg)]) C hA hw (k_X9_stone l D A1 cy hA.1 M1 h1 (xs (1 : Int32).toNatClampNeg) (xs (2 : Int32).toNatClampNeg) (xs (3 : Int32).toNatClampNeg)) ⟨ml_L_139, ym_X9_stone, yv_X9_stone, yi_X9_stone, yc_X9_stone⟩ yd_X9_stone rfl rfl hl.1 (Nat.le_of_ble_eq_true rfl) ⟨by decide, by decide⟩ ⟨Nat.le_of_ble_eq_true rfl, Nat.le_of_ble_eq_true rfl⟩ dL_law_1221 (fun rT M1 H locs hp hw => ?_)
  obtain rfl := hp
  refine lv_aload_n hx hb dL_law_1224 rfl (lv_at hl 2 rfl) ?_
  refine lv_aload_n hx hb dL_law_1225 rfl (lv_at hl 4 rfl) ?_
  refine lv_iload hx hb dL_law_1226 (lv_at hl 0 rfl) ?_
  refine lv_iconst (v := 1) hx hb dL_law_1228 (by decide) ?_
  refine lv_iadd hx hb dL_law_1229 ?_
  refine ti_top (y := 1) (by decide) ?_
  refine va_sld hx hb Z.2.2.1 Z.2.2.2.1 hbA hw.2.2 lq_i1 dL_law_1230 ?_
  refine lv_aload_n hx hb dL_law_1231 rfl (lv_at hl 4 rfl) ?_
  refine lv_iload hx hb dL_law_1232 (lv_at hl 0 rfl) ?_
  refine lv_iconst (v := 2) hx hb dL_law_1234 (by decide) ?_
  refine lv_iadd hx hb dL_law_1235 ?_
  refine ti_top (y := 2) (by decide) ?_
  refine va_sld hx hb Z.2.2.1 Z.2.2.2.1 hbA hw.2.2 lq_i2 dL_law_1236 ?_
  refine lv_aload_n hx hb dL_law_1237 rfl (lv_at hl 4 rfl) ?_
  refine lv_iload hx hb dL_law_1238 (lv_at hl 0 rfl) ?_
  refine lv_iconst (v := 3) hx hb dL_law_1240 (by decide) ?_
  refine lv_iadd hx hb dL_law_1241 ?_
  refine ti_top (y := 3) (by decide) ?_
  refine va_sld hx hb Z.2.2.1 Z.2.2.2.1 hbA hw.2.2 lq_i3 dL_law_1242 ?_
  refine lq_callMi (av := [.int (xs (1 : Int32).toNatClampNeg), .int (xs (2 : Int32).toNatClampNeg), .int (xs (3 : Int32).toNatClampNeg)]) C hA hw (k_X10_stone l D A2 cy hA.2.1 M2 h2 (xs (1 : Int32).toNatClampNeg) (xs (2 : Int32).toNatClampNeg) (xs (3 : Int32).toNatClampNeg)) ⟨ml_L_142, ym_X10_stone, yv_X10_stone, yi_X10_stone, yc_X10_stone⟩ yd_X10_stone rfl rfl hl.1 (Nat.le_of_ble_eq_true rfl) ⟨by decide, by decide⟩ ⟨Nat.le_of_ble_eq_true rfl, Nat.le_of_ble_eq_true rfl⟩ dL_law_1243 (fun rM M2 H locs hp hw => ?_)
  obtain rfl := hp
  refine lv_icmp_eq (tgt := 1550) hx hb dL_law_1246 (by decide) (fun _ => ?_) (fun c => absurd rfl c)
  exact lq_fin Z hw.2.2 ⟨Nat.le_of_ble_eq_true rfl, Nat.le_of_ble_eq_true rfl⟩ (lv_sub hl [0, 4] rfl)
set_option maxRecDepth 100000 in
theorem lq_c27 {p : Program} {l : Launch} {e : Env} {s : State} {m : MethodId} {below : List Frame} {meth : Method} {c : Code} {D : va_G} {cy : Nat → ClassId} {A1 A2 : Nat → Nat → Nat} {M1 M2 : ti_M} {b q3 : Nat} {xs : Nat → Int32} {H : Heap} {locs : List Loc} {ls : Array Slot} (Z : lq_Z p s m meth c D cy A1 A2 b xs) (hw : lq_H s D cy A1 A2 M1 M2 H locs) (h1 : ti_F M1) (h2 : ti_FM M2) (hl : lv_has ls 7 [(4, .int 0), (3, .ref q3), (2, .ref (A2 60 0)), (1, .ref (A1 0 0)), (0, .ref b)]) : W p l e room_1 s m #[Value.ref b] below meth c H locs 423 10061 (lw_Z below #[Value.ref b] s) (F0 m 1251 ls []) := by
  have C := Z.1
  have hA := Z.2.1
  have hx := C.1
  have hb := C.2.1
  have hbA : ¬ lq_F s b := Nat.not_le.mpr Z.2.2.2.1
  refine lv_aload_n hx hb dL_law_1251 rfl (lv_at hl 3 rfl) ?_
  refine lv_aload_n hx hb dL_law_1252 rfl (lv_at hl 4 rfl) ?_
  refine lv_iload hx hb dL_law_1253 (lv_at hl 0 rfl) ?_
  refine lv_iconst (v := 1) hx hb dL_law_1255 (by decide) ?_
  refine lv_iadd hx hb dL_law_1256 ?_
  refine ti_top (y := 1) (by decide) ?_
  refine va_sld hx hb Z.2.2.1 Z.2.2.2.1 hbA hw.2.2 lq_i1 dL_law_1257 ?_
  refine lq_callTi (av := [.int (xs (1 : Int32).toNatClampNeg)]) C hA hw (k_X9_strike l D A1 cy hA.1 M1 h1 (xs (1 : Int32).toNatClampNeg)) ⟨ml_L_143, ym_X9_strike, yv_X9_strike, yi_X9_strike, yc_X9_strike⟩ yd_X9_strike rfl rfl hl.1 (Nat.le_of_ble_eq_true rfl) ⟨by decide, by decide⟩ ⟨Nat.le_of_ble_eq_true rfl, Nat.le_of_ble_eq_true rfl⟩ dL_law_1258 (fun rT M1 H locs hp hw => ?_)
  obtain rfl := hp
  refine lv_aload_n hx hb dL_law_1261 rfl (lv_at hl 2 rfl) ?_
  refine lv_aload_n hx hb dL_law_1262 rfl (lv_at hl 4 rfl) ?_
  refine lv_iload hx hb dL_law_1263 (lv_at hl 0 rfl) ?_
  refine lv_iconst (v := 1) hx hb dL_law_1265 (by decide) ?_
  refine lv_iadd hx hb dL_law_1266 ?_
  refine ti_top (y := 1) (by decide) ?_
  refine va_sld hx hb Z.2.2.1 Z.2.2.2.1 hbA hw.2.2 lq_i1 dL_law_1267 ?_
  refine lq_callMi (av := [.int (xs (1 : Int32).toNatClampNeg)]) C hA hw (k_X10_strike l D A2 cy hA.2.1 M2 h2 (xs (1 : Int32).toNatClampNeg)) ⟨ml_L_146, ym_X10_strike, yv_X10_strike, yi_X10_strike, yc_X10_strike⟩ yd_X10_strike rfl rfl hl.1 (Nat.le_of_ble_eq_true rfl) ⟨by decide, by decide⟩ ⟨Nat.le_of_ble_eq_true rfl, Nat.le_of_ble_eq_true rfl⟩ dL_law_1268 (fun rM M2 H locs hp hw => ?_)
  obtain rfl := hp
  refine lv_icmp_eq (tgt := 1550) hx hb dL_law_1271 (by decide) (fun _ => ?_) (fun c => absurd rfl c)
  exact lq_fin Z hw.2.2 ⟨Nat.le_of_ble_eq_true rfl, Nat.le_of_ble_eq_true rfl⟩ (lv_sub hl [0, 4] rfl)
set_option maxRecDepth 100000 in
theorem lq_c28 {p : Program} {l : Launch} {e : Env} {s : State} {m : MethodId} {below : List Frame} {meth : Method} {c : Code} {D : va_G} {cy : Nat → ClassId} {A1 A2 : Nat → Nat → Nat} {M1 M2 : ti_M} {b q3 : Nat} {xs : Nat → Int32} {H : Heap} {locs : List Loc} {ls : Array Slot} (Z : lq_Z p s m meth c D cy A1 A2 b xs) (hw : lq_H s D cy A1 A2 M1 M2 H locs) (h1 : ti_F M1) (h2 : ti_FM M2) (hl : lv_has ls 7 [(4, .int 0), (3, .ref q3), (2, .ref (A2 60 0)), (1, .ref (A1 0 0)), (0, .ref b)]) : W p l e room_1 s m #[Value.ref b] below meth c H locs 423 10061 (lw_Z below #[Value.ref b] s) (F0 m 1276 ls []) := by
  have C := Z.1
  have hA := Z.2.1
  have hx := C.1
  have hb := C.2.1
  have hbA : ¬ lq_F s b := Nat.not_le.mpr Z.2.2.2.1
  refine lv_aload_n hx hb dL_law_1276 rfl (lv_at hl 3 rfl) ?_
  refine lv_aload_n hx hb dL_law_1277 rfl (lv_at hl 4 rfl) ?_
  refine lv_iload hx hb dL_law_1278 (lv_at hl 0 rfl) ?_
  refine lv_iconst (v := 1) hx hb dL_law_1280 (by decide) ?_
  refine lv_iadd hx hb dL_law_1281 ?_
  refine ti_top (y := 1) (by decide) ?_
  refine va_sld hx hb Z.2.2.1 Z.2.2.2.1 hbA hw.2.2 lq_i1 dL_law_1282 ?_
  refine lq_callTi (av := [.int (xs (1 : Int32).toNatClampNeg)]) C hA hw (k_X9_known l D A1 cy hA.1 M1 h1 (xs (1 : Int32).toNatClampNeg)) ⟨ml_L_147, ym_X9_known, yv_X9_known, yi_X9_known, yc_X9_known⟩ yd_X9_known rfl rfl hl.1 (Nat.le_of_ble_eq_true rfl) ⟨by decide, by decide⟩ ⟨Nat.le_of_ble_eq_true rfl, Nat.le_of_ble_eq_true rfl⟩ dL_law_1283 (fun rT M1 H locs hp hw => ?_)
  obtain rfl := hp
  refine lv_aload_n hx hb dL_law_1286 rfl (lv_at hl 2 rfl) ?_
  refine lv_aload_n hx hb dL_law_1287 rfl (lv_at hl 4 rfl) ?_
  refine lv_iload hx hb dL_law_1288 (lv_at hl 0 rfl) ?_
  refine lv_iconst (v := 1) hx hb dL_law_1290 (by decide) ?_
  refine lv_iadd hx hb dL_law_1291 ?_
  refine ti_top (y := 1) (by decide) ?_
  refine va_sld hx hb Z.2.2.1 Z.2.2.2.1 hbA hw.2.2 lq_i1 dL_law_1292 ?_
  refine lq_callMi (av := [.int (xs (1 : Int32).toNatClampNeg)]) C hA hw (k_X10_known l D A2 cy hA.2.1 M2 h2 (xs (1 : Int32).toNatClampNeg)) ⟨ml_L_150, ym_X10_known, yv_X10_known, yi_X10_known, yc_X10_known⟩ yd_X10_known rfl rfl hl.1 (Nat.le_of_ble_eq_true rfl) ⟨by decide, by decide⟩ ⟨Nat.le_of_ble_eq_true rfl, Nat.le_of_ble_eq_true rfl⟩ dL_law_1293 (fun rM M2 H locs hp hw => ?_)
  obtain rfl := hp
  refine lv_icmp_eq (tgt := 1550) hx hb dL_law_1296 (by decide) (fun _ => ?_) (fun c => absurd rfl c)
  exact lq_fin Z hw.2.2 ⟨Nat.le_of_ble_eq_true rfl, Nat.le_of_ble_eq_true rfl⟩ (lv_sub hl [0, 4] rfl)
set_option maxRecDepth 100000 in
theorem lq_c29 {p : Program} {l : Launch} {e : Env} {s : State} {m : MethodId} {below : List Frame} {meth : Method} {c : Code} {D : va_G} {cy : Nat → ClassId} {A1 A2 : Nat → Nat → Nat} {M1 M2 : ti_M} {b q3 : Nat} {xs : Nat → Int32} {H : Heap} {locs : List Loc} {ls : Array Slot} (Z : lq_Z p s m meth c D cy A1 A2 b xs) (hw : lq_H s D cy A1 A2 M1 M2 H locs) (h1 : ti_F M1) (h2 : ti_FM M2) (hl : lv_has ls 7 [(4, .int 0), (3, .ref q3), (2, .ref (A2 60 0)), (1, .ref (A1 0 0)), (0, .ref b)]) : W p l e room_1 s m #[Value.ref b] below meth c H locs 423 10061 (lw_Z below #[Value.ref b] s) (F0 m 1301 ls []) := by
  have C := Z.1
  have hA := Z.2.1
  have hx := C.1
  have hb := C.2.1
  have hbA : ¬ lq_F s b := Nat.not_le.mpr Z.2.2.2.1
  refine lv_aload_n hx hb dL_law_1301 rfl (lv_at hl 3 rfl) ?_
  refine lq_callTi (av := []) C hA hw (k_X9_came l D A1 cy hA.1 M1 h1) ⟨ml_L_151, ym_X9_came, yv_X9_came, yi_X9_came, yc_X9_came⟩ yd_X9_came rfl rfl hl.1 (Nat.le_of_ble_eq_true rfl) ⟨by decide, by decide⟩ ⟨Nat.le_of_ble_eq_true rfl, Nat.le_of_ble_eq_true rfl⟩ dL_law_1302 (fun rT M1 H locs hp hw => ?_)
  obtain rfl := hp
  refine lv_aload_n hx hb dL_law_1305 rfl (lv_at hl 2 rfl) ?_
  refine lq_callMi (av := []) C hA hw (k_X10_came l D A2 cy hA.2.1 M2 h2) ⟨ml_L_154, ym_X10_came, yv_X10_came, yi_X10_came, yc_X10_came⟩ yd_X10_came rfl rfl hl.1 (Nat.le_of_ble_eq_true rfl) ⟨by decide, by decide⟩ ⟨Nat.le_of_ble_eq_true rfl, Nat.le_of_ble_eq_true rfl⟩ dL_law_1306 (fun rM M2 H locs hp hw => ?_)
  obtain rfl := hp
  refine lv_icmp_eq (tgt := 1550) hx hb dL_law_1309 (by decide) (fun _ => ?_) (fun c => absurd rfl c)
  exact lq_fin Z hw.2.2 ⟨Nat.le_of_ble_eq_true rfl, Nat.le_of_ble_eq_true rfl⟩ (lv_sub hl [0, 4] rfl)
set_option maxRecDepth 100000 in
theorem lq_c30 {p : Program} {l : Launch} {e : Env} {s : State} {m : MethodId} {below : List Frame} {meth : Method} {c : Code} {D : va_G} {cy : Nat → ClassId} {A1 A2 : Nat → Nat → Nat} {M1 M2 : ti_M} {b q3 : Nat} {xs : Nat → Int32} {H : Heap} {locs : List Loc} {ls : Array Slot} (Z : lq_Z p s m meth c D cy A1 A2 b xs) (hw : lq_H s D cy A1 A2 M1 M2 H locs) (h1 : ti_F M1) (h2 : ti_FM M2) (hl : lv_has ls 7 [(4, .int 0), (3, .ref q3), (2, .ref (A2 60 0)), (1, .ref (A1 0 0)), (0, .ref b)]) : W p l e room_1 s m #[Value.ref b] below meth c H locs 423 10061 (lw_Z below #[Value.ref b] s) (F0 m 1314 ls []) := by
  have C := Z.1
  have hA := Z.2.1
  have hx := C.1
  have hb := C.2.1
  have hbA : ¬ lq_F s b := Nat.not_le.mpr Z.2.2.2.1
  refine lv_aload_n hx hb dL_law_1314 rfl (lv_at hl 3 rfl) ?_
  refine lv_aload_n hx hb dL_law_1315 rfl (lv_at hl 4 rfl) ?_
  refine lv_iload hx hb dL_law_1316 (lv_at hl 0 rfl) ?_
  refine lv_iconst (v := 1) hx hb dL_law_1318 (by decide) ?_
  refine lv_iadd hx hb dL_law_1319 ?_
  refine ti_top (y := 1) (by decide) ?_
  refine va_sld hx hb Z.2.2.1 Z.2.2.2.1 hbA hw.2.2 lq_i1 dL_law_1320 ?_
  refine lv_aload_n hx hb dL_law_1321 rfl (lv_at hl 4 rfl) ?_
  refine lv_iload hx hb dL_law_1322 (lv_at hl 0 rfl) ?_
  refine lv_iconst (v := 2) hx hb dL_law_1324 (by decide) ?_
  refine lv_iadd hx hb dL_law_1325 ?_
  refine ti_top (y := 2) (by decide) ?_
  refine va_sld hx hb Z.2.2.1 Z.2.2.2.1 hbA hw.2.2 lq_i2 dL_law_1326 ?_
  refine lq_callTi (av := [.int (xs (1 : Int32).toNatClampNeg), .int (xs (2 : Int32).toNatClampNeg)]) C hA hw (k_X9_one l D A1 cy hA.1 M1 h1 (xs (1 : Int32).toNatClampNeg) (xs (2 : Int32).toNatClampNeg)) ⟨ml_L_155, ym_X9_one, yv_X9_one, yi_X9_one, yc_X9_one⟩ yd_X9_one rfl rfl hl.1 (Nat.le_of_ble_eq_true rfl) ⟨by decide, by decide⟩ ⟨Nat.le_of_ble_eq_true rfl, Nat.le_of_ble_eq_true rfl⟩ dL_law_1327 (fun rT M1 H locs hp hw => ?_)
  obtain rfl := hp
  refine lv_aload_n hx hb dL_law_1330 rfl (lv_at hl 2 rfl) ?_
  refine lv_aload_n hx hb dL_law_1331 rfl (lv_at hl 4 rfl) ?_
  refine lv_iload hx hb dL_law_1332 (lv_at hl 0 rfl) ?_
  refine lv_iconst (v := 1) hx hb dL_law_1334 (by decide) ?_
  refine lv_iadd hx hb dL_law_1335 ?_
  refine ti_top (y := 1) (by decide) ?_
  refine va_sld hx hb Z.2.2.1 Z.2.2.2.1 hbA hw.2.2 lq_i1 dL_law_1336 ?_
  refine lv_aload_n hx hb dL_law_1337 rfl (lv_at hl 4 rfl) ?_
  refine lv_iload hx hb dL_law_1338 (lv_at hl 0 rfl) ?_
  refine lv_iconst (v := 2) hx hb dL_law_1340 (by decide) ?_
  refine lv_iadd hx hb dL_law_1341 ?_
  refine ti_top (y := 2) (by decide) ?_
  refine va_sld hx hb Z.2.2.1 Z.2.2.2.1 hbA hw.2.2 lq_i2 dL_law_1342 ?_
  refine lq_callMi (av := [.int (xs (1 : Int32).toNatClampNeg), .int (xs (2 : Int32).toNatClampNeg)]) C hA hw (k_X10_one l D A2 cy hA.2.1 M2 h2 (xs (1 : Int32).toNatClampNeg) (xs (2 : Int32).toNatClampNeg)) ⟨ml_L_158, ym_X10_one, yv_X10_one, yi_X10_one, yc_X10_one⟩ yd_X10_one rfl rfl hl.1 (Nat.le_of_ble_eq_true rfl) ⟨by decide, by decide⟩ ⟨Nat.le_of_ble_eq_true rfl, Nat.le_of_ble_eq_true rfl⟩ dL_law_1343 (fun rM M2 H locs hp hw => ?_)
  obtain rfl := hp
  refine lv_icmp_eq (tgt := 1550) hx hb dL_law_1346 (by decide) (fun _ => ?_) (fun c => absurd rfl c)
  exact lq_fin Z hw.2.2 ⟨Nat.le_of_ble_eq_true rfl, Nat.le_of_ble_eq_true rfl⟩ (lv_sub hl [0, 4] rfl)
set_option maxRecDepth 100000 in
theorem lq_c31 {p : Program} {l : Launch} {e : Env} {s : State} {m : MethodId} {below : List Frame} {meth : Method} {c : Code} {D : va_G} {cy : Nat → ClassId} {A1 A2 : Nat → Nat → Nat} {M1 M2 : ti_M} {b q3 : Nat} {xs : Nat → Int32} {H : Heap} {locs : List Loc} {ls : Array Slot} (Z : lq_Z p s m meth c D cy A1 A2 b xs) (hw : lq_H s D cy A1 A2 M1 M2 H locs) (h1 : ti_F M1) (h2 : ti_FM M2) (hl : lv_has ls 7 [(4, .int 0), (3, .ref q3), (2, .ref (A2 60 0)), (1, .ref (A1 0 0)), (0, .ref b)]) : W p l e room_1 s m #[Value.ref b] below meth c H locs 423 10061 (lw_Z below #[Value.ref b] s) (F0 m 1351 ls []) := by
  have C := Z.1
  have hA := Z.2.1
  have hx := C.1
  have hb := C.2.1
  have hbA : ¬ lq_F s b := Nat.not_le.mpr Z.2.2.2.1
  refine lv_aload_n hx hb dL_law_1351 rfl (lv_at hl 3 rfl) ?_
  refine lv_aload_n hx hb dL_law_1352 rfl (lv_at hl 4 rfl) ?_
  refine lv_iload hx hb dL_law_1353 (lv_at hl 0 rfl) ?_
  refine lv_iconst (v := 1) hx hb dL_law_1355 (by decide) ?_
  refine lv_iadd hx hb dL_law_1356 ?_
  refine ti_top (y := 1) (by decide) ?_
  refine va_sld hx hb Z.2.2.1 Z.2.2.2.1 hbA hw.2.2 lq_i1 dL_law_1357 ?_
  refine lv_aload_n hx hb dL_law_1358 rfl (lv_at hl 4 rfl) ?_
  refine lv_iload hx hb dL_law_1359 (lv_at hl 0 rfl) ?_
  refine lv_iconst (v := 2) hx hb dL_law_1361 (by decide) ?_
  refine lv_iadd hx hb dL_law_1362 ?_
  refine ti_top (y := 2) (by decide) ?_
  refine va_sld hx hb Z.2.2.1 Z.2.2.2.1 hbA hw.2.2 lq_i2 dL_law_1363 ?_
  refine lq_callTi (av := [.int (xs (1 : Int32).toNatClampNeg), .int (xs (2 : Int32).toNatClampNeg)]) C hA hw (k_X9_empty l D A1 cy hA.1 M1 h1 (xs (1 : Int32).toNatClampNeg) (xs (2 : Int32).toNatClampNeg)) ⟨ml_L_159, ym_X9_empty, yv_X9_empty, yi_X9_empty, yc_X9_empty⟩ yd_X9_empty rfl rfl hl.1 (Nat.le_of_ble_eq_true rfl) ⟨by decide, by decide⟩ ⟨Nat.le_of_ble_eq_true rfl, Nat.le_of_ble_eq_true rfl⟩ dL_law_1364 (fun rT M1 H locs hp hw => ?_)
  obtain rfl := hp
  refine lv_aload_n hx hb dL_law_1367 rfl (lv_at hl 2 rfl) ?_
  refine lv_aload_n hx hb dL_law_1368 rfl (lv_at hl 4 rfl) ?_
  refine lv_iload hx hb dL_law_1369 (lv_at hl 0 rfl) ?_
  refine lv_iconst (v := 1) hx hb dL_law_1371 (by decide) ?_
  refine lv_iadd hx hb dL_law_1372 ?_
  refine ti_top (y := 1) (by decide) ?_
  refine va_sld hx hb Z.2.2.1 Z.2.2.2.1 hbA hw.2.2 lq_i1 dL_law_1373 ?_
  refine lv_aload_n hx hb dL_law_1374 rfl (lv_at hl 4 rfl) ?_
  refine lv_iload hx hb dL_law_1375 (lv_at hl 0 rfl) ?_
  refine lv_iconst (v := 2) hx hb dL_law_1377 (by decide) ?_
  refine lv_iadd hx hb dL_law_1378 ?_
  refine ti_top (y := 2) (by decide) ?_
  refine va_sld hx hb Z.2.2.1 Z.2.2.2.1 hbA hw.2.2 lq_i2 dL_law_1379 ?_
  refine lq_callMi (av := [.int (xs (1 : Int32).toNatClampNeg), .int (xs (2 : Int32).toNatClampNeg)]) C hA hw (k_X10_empty l D A2 cy hA.2.1 M2 h2 (xs (1 : Int32).toNatClampNeg) (xs (2 : Int32).toNatClampNeg)) ⟨ml_L_162, ym_X10_empty, yv_X10_empty, yi_X10_empty, yc_X10_empty⟩ yd_X10_empty rfl rfl hl.1 (Nat.le_of_ble_eq_true rfl) ⟨by decide, by decide⟩ ⟨Nat.le_of_ble_eq_true rfl, Nat.le_of_ble_eq_true rfl⟩ dL_law_1380 (fun rM M2 H locs hp hw => ?_)
  obtain rfl := hp
  refine lv_icmp_eq (tgt := 1550) hx hb dL_law_1383 (by decide) (fun _ => ?_) (fun c => absurd rfl c)
  exact lq_fin Z hw.2.2 ⟨Nat.le_of_ble_eq_true rfl, Nat.le_of_ble_eq_true rfl⟩ (lv_sub hl [0, 4] rfl)
set_option maxRecDepth 100000 in
theorem lq_c32 {p : Program} {l : Launch} {e : Env} {s : State} {m : MethodId} {below : List Frame} {meth : Method} {c : Code} {D : va_G} {cy : Nat → ClassId} {A1 A2 : Nat → Nat → Nat} {M1 M2 : ti_M} {b q3 : Nat} {xs : Nat → Int32} {H : Heap} {locs : List Loc} {ls : Array Slot} (Z : lq_Z p s m meth c D cy A1 A2 b xs) (hw : lq_H s D cy A1 A2 M1 M2 H locs) (h1 : ti_F M1) (h2 : ti_FM M2) (hl : lv_has ls 7 [(4, .int 0), (3, .ref q3), (2, .ref (A2 60 0)), (1, .ref (A1 0 0)), (0, .ref b)]) : W p l e room_1 s m #[Value.ref b] below meth c H locs 423 10061 (lw_Z below #[Value.ref b] s) (F0 m 1388 ls []) := by
  have C := Z.1
  have hA := Z.2.1
  have hx := C.1
  have hb := C.2.1
  have hbA : ¬ lq_F s b := Nat.not_le.mpr Z.2.2.2.1
  refine lv_aload_n hx hb dL_law_1388 rfl (lv_at hl 3 rfl) ?_
  refine lv_aload_n hx hb dL_law_1389 rfl (lv_at hl 4 rfl) ?_
  refine lv_iload hx hb dL_law_1390 (lv_at hl 0 rfl) ?_
  refine lv_iconst (v := 1) hx hb dL_law_1392 (by decide) ?_
  refine lv_iadd hx hb dL_law_1393 ?_
  refine ti_top (y := 1) (by decide) ?_
  refine va_sld hx hb Z.2.2.1 Z.2.2.2.1 hbA hw.2.2 lq_i1 dL_law_1394 ?_
  refine lv_aload_n hx hb dL_law_1395 rfl (lv_at hl 4 rfl) ?_
  refine lv_iload hx hb dL_law_1396 (lv_at hl 0 rfl) ?_
  refine lv_iconst (v := 2) hx hb dL_law_1398 (by decide) ?_
  refine lv_iadd hx hb dL_law_1399 ?_
  refine ti_top (y := 2) (by decide) ?_
  refine va_sld hx hb Z.2.2.1 Z.2.2.2.1 hbA hw.2.2 lq_i2 dL_law_1400 ?_
  refine lv_aload_n hx hb dL_law_1401 rfl (lv_at hl 4 rfl) ?_
  refine lv_iload hx hb dL_law_1402 (lv_at hl 0 rfl) ?_
  refine lv_iconst (v := 3) hx hb dL_law_1404 (by decide) ?_
  refine lv_iadd hx hb dL_law_1405 ?_
  refine ti_top (y := 3) (by decide) ?_
  refine va_sld hx hb Z.2.2.1 Z.2.2.2.1 hbA hw.2.2 lq_i3 dL_law_1406 ?_
  refine lq_callTi (av := [.int (xs (1 : Int32).toNatClampNeg), .int (xs (2 : Int32).toNatClampNeg), .int (xs (3 : Int32).toNatClampNeg)]) C hA hw (k_X9_chance l D A1 cy hA.1 M1 h1 (xs (1 : Int32).toNatClampNeg) (xs (2 : Int32).toNatClampNeg) (xs (3 : Int32).toNatClampNeg)) ⟨ml_L_163, ym_X9_chance, yv_X9_chance, yi_X9_chance, yc_X9_chance⟩ yd_X9_chance rfl rfl hl.1 (Nat.le_of_ble_eq_true rfl) ⟨by decide, by decide⟩ ⟨Nat.le_of_ble_eq_true rfl, Nat.le_of_ble_eq_true rfl⟩ dL_law_1407 (fun rT M1 H locs hp hw => ?_)
  obtain rfl := hp
  refine lv_aload_n hx hb dL_law_1410 rfl (lv_at hl 2 rfl) ?_
  refine lv_aload_n hx hb dL_law_1411 rfl (lv_at hl 4 rfl) ?_
  refine lv_iload hx hb dL_law_1412 (lv_at hl 0 rfl) ?_
  refine lv_iconst (v := 1) hx hb dL_law_1414 (by decide) ?_
  refine lv_iadd hx hb dL_law_1415 ?_
  refine ti_top (y := 1) (by decide) ?_
  refine va_sld hx hb Z.2.2.1 Z.2.2.2.1 hbA hw.2.2 lq_i1 dL_law_1416 ?_
  refine lv_aload_n hx hb dL_law_1417 rfl (lv_at hl 4 rfl) ?_
  refine lv_iload hx hb dL_law_1418 (lv_at hl 0 rfl) ?_
  refine lv_iconst (v := 2) hx hb dL_law_1420 (by decide) ?_
  refine lv_iadd hx hb dL_law_1421 ?_
  refine ti_top (y := 2) (by decide) ?_
  refine va_sld hx hb Z.2.2.1 Z.2.2.2.1 hbA hw.2.2 lq_i2 dL_law_1422 ?_
  refine lv_aload_n hx hb dL_law_1423 rfl (lv_at hl 4 rfl) ?_
  refine lv_iload hx hb dL_law_1424 (lv_at hl 0 rfl) ?_
  refine lv_iconst (v := 3) hx hb dL_law_1426 (by decide) ?_
  refine lv_iadd hx hb dL_law_1427 ?_
  refine ti_top (y := 3) (by decide) ?_
  refine va_sld hx hb Z.2.2.1 Z.2.2.2.1 hbA hw.2.2 lq_i3 dL_law_1428 ?_
  refine lq_callMi (av := [.int (xs (1 : Int32).toNatClampNeg), .int (xs (2 : Int32).toNatClampNeg), .int (xs (3 : Int32).toNatClampNeg)]) C hA hw (k_X10_chance l D A2 cy hA.2.1 M2 h2 (xs (1 : Int32).toNatClampNeg) (xs (2 : Int32).toNatClampNeg) (xs (3 : Int32).toNatClampNeg)) ⟨ml_L_166, ym_X10_chance, yv_X10_chance, yi_X10_chance, yc_X10_chance⟩ yd_X10_chance rfl rfl hl.1 (Nat.le_of_ble_eq_true rfl) ⟨by decide, by decide⟩ ⟨Nat.le_of_ble_eq_true rfl, Nat.le_of_ble_eq_true rfl⟩ dL_law_1429 (fun rM M2 H locs hp hw => ?_)
  obtain rfl := hp
  refine lv_icmp_eq (tgt := 1550) hx hb dL_law_1432 (by decide) (fun _ => ?_) (fun c => absurd rfl c)
  exact lq_fin Z hw.2.2 ⟨Nat.le_of_ble_eq_true rfl, Nat.le_of_ble_eq_true rfl⟩ (lv_sub hl [0, 4] rfl)
set_option maxRecDepth 100000 in
theorem lq_c33 {p : Program} {l : Launch} {e : Env} {s : State} {m : MethodId} {below : List Frame} {meth : Method} {c : Code} {D : va_G} {cy : Nat → ClassId} {A1 A2 : Nat → Nat → Nat} {M1 M2 : ti_M} {b q3 : Nat} {xs : Nat → Int32} {H : Heap} {locs : List Loc} {ls : Array Slot} (Z : lq_Z p s m meth c D cy A1 A2 b xs) (hw : lq_H s D cy A1 A2 M1 M2 H locs) (h1 : ti_F M1) (h2 : ti_FM M2) (hl : lv_has ls 7 [(4, .int 0), (3, .ref q3), (2, .ref (A2 60 0)), (1, .ref (A1 0 0)), (0, .ref b)]) : W p l e room_1 s m #[Value.ref b] below meth c H locs 423 10061 (lw_Z below #[Value.ref b] s) (F0 m 1437 ls []) := by
  have C := Z.1
  have hA := Z.2.1
  have hx := C.1
  have hb := C.2.1
  have hbA : ¬ lq_F s b := Nat.not_le.mpr Z.2.2.2.1
  refine lv_aload_n hx hb dL_law_1437 rfl (lv_at hl 3 rfl) ?_
  refine lv_aload_n hx hb dL_law_1438 rfl (lv_at hl 4 rfl) ?_
  refine lv_iload hx hb dL_law_1439 (lv_at hl 0 rfl) ?_
  refine lv_iconst (v := 1) hx hb dL_law_1441 (by decide) ?_
  refine lv_iadd hx hb dL_law_1442 ?_
  refine ti_top (y := 1) (by decide) ?_
  refine va_sld hx hb Z.2.2.1 Z.2.2.2.1 hbA hw.2.2 lq_i1 dL_law_1443 ?_
  refine lv_aload_n hx hb dL_law_1444 rfl (lv_at hl 4 rfl) ?_
  refine lv_iload hx hb dL_law_1445 (lv_at hl 0 rfl) ?_
  refine lv_iconst (v := 2) hx hb dL_law_1447 (by decide) ?_
  refine lv_iadd hx hb dL_law_1448 ?_
  refine ti_top (y := 2) (by decide) ?_
  refine va_sld hx hb Z.2.2.1 Z.2.2.2.1 hbA hw.2.2 lq_i2 dL_law_1449 ?_
  refine lv_aload_n hx hb dL_law_1450 rfl (lv_at hl 4 rfl) ?_
  refine lv_iload hx hb dL_law_1451 (lv_at hl 0 rfl) ?_
  refine lv_iconst (v := 3) hx hb dL_law_1453 (by decide) ?_
  refine lv_iadd hx hb dL_law_1454 ?_
  refine ti_top (y := 3) (by decide) ?_
  refine va_sld hx hb Z.2.2.1 Z.2.2.2.1 hbA hw.2.2 lq_i3 dL_law_1455 ?_
  refine lq_callTi (av := [.int (xs (1 : Int32).toNatClampNeg), .int (xs (2 : Int32).toNatClampNeg), .int (xs (3 : Int32).toNatClampNeg)]) C hA hw (k_X9_tried l D A1 cy hA.1 M1 h1 (xs (1 : Int32).toNatClampNeg) (xs (2 : Int32).toNatClampNeg) (xs (3 : Int32).toNatClampNeg)) ⟨ml_L_167, ym_X9_tried, yv_X9_tried, yi_X9_tried, yc_X9_tried⟩ yd_X9_tried rfl rfl hl.1 (Nat.le_of_ble_eq_true rfl) ⟨by decide, by decide⟩ ⟨Nat.le_of_ble_eq_true rfl, Nat.le_of_ble_eq_true rfl⟩ dL_law_1456 (fun rT M1 H locs hp hw => ?_)
  obtain rfl := hp
  refine lv_aload_n hx hb dL_law_1459 rfl (lv_at hl 2 rfl) ?_
  refine lv_aload_n hx hb dL_law_1460 rfl (lv_at hl 4 rfl) ?_
  refine lv_iload hx hb dL_law_1461 (lv_at hl 0 rfl) ?_
  refine lv_iconst (v := 1) hx hb dL_law_1463 (by decide) ?_
  refine lv_iadd hx hb dL_law_1464 ?_
  refine ti_top (y := 1) (by decide) ?_
  refine va_sld hx hb Z.2.2.1 Z.2.2.2.1 hbA hw.2.2 lq_i1 dL_law_1465 ?_
  refine lv_aload_n hx hb dL_law_1466 rfl (lv_at hl 4 rfl) ?_
  refine lv_iload hx hb dL_law_1467 (lv_at hl 0 rfl) ?_
  refine lv_iconst (v := 2) hx hb dL_law_1469 (by decide) ?_
  refine lv_iadd hx hb dL_law_1470 ?_
  refine ti_top (y := 2) (by decide) ?_
  refine va_sld hx hb Z.2.2.1 Z.2.2.2.1 hbA hw.2.2 lq_i2 dL_law_1471 ?_
  refine lv_aload_n hx hb dL_law_1472 rfl (lv_at hl 4 rfl) ?_
  refine lv_iload hx hb dL_law_1473 (lv_at hl 0 rfl) ?_
  refine lv_iconst (v := 3) hx hb dL_law_1475 (by decide) ?_
  refine lv_iadd hx hb dL_law_1476 ?_
  refine ti_top (y := 3) (by decide) ?_
  refine va_sld hx hb Z.2.2.1 Z.2.2.2.1 hbA hw.2.2 lq_i3 dL_law_1477 ?_
  refine lq_callMi (av := [.int (xs (1 : Int32).toNatClampNeg), .int (xs (2 : Int32).toNatClampNeg), .int (xs (3 : Int32).toNatClampNeg)]) C hA hw (k_X10_tried l D A2 cy hA.2.1 M2 h2 (xs (1 : Int32).toNatClampNeg) (xs (2 : Int32).toNatClampNeg) (xs (3 : Int32).toNatClampNeg)) ⟨ml_L_170, ym_X10_tried, yv_X10_tried, yi_X10_tried, yc_X10_tried⟩ yd_X10_tried rfl rfl hl.1 (Nat.le_of_ble_eq_true rfl) ⟨by decide, by decide⟩ ⟨Nat.le_of_ble_eq_true rfl, Nat.le_of_ble_eq_true rfl⟩ dL_law_1478 (fun rM M2 H locs hp hw => ?_)
  obtain rfl := hp
  refine lv_icmp_eq (tgt := 1550) hx hb dL_law_1481 (by decide) (fun _ => ?_) (fun c => absurd rfl c)
  exact lq_fin Z hw.2.2 ⟨Nat.le_of_ble_eq_true rfl, Nat.le_of_ble_eq_true rfl⟩ (lv_sub hl [0, 4] rfl)
set_option maxRecDepth 100000 in
theorem lq_c34 {p : Program} {l : Launch} {e : Env} {s : State} {m : MethodId} {below : List Frame} {meth : Method} {c : Code} {D : va_G} {cy : Nat → ClassId} {A1 A2 : Nat → Nat → Nat} {M1 M2 : ti_M} {b q3 : Nat} {xs : Nat → Int32} {H : Heap} {locs : List Loc} {ls : Array Slot} (Z : lq_Z p s m meth c D cy A1 A2 b xs) (hw : lq_H s D cy A1 A2 M1 M2 H locs) (h1 : ti_F M1) (h2 : ti_FM M2) (hl : lv_has ls 7 [(4, .int 0), (3, .ref q3), (2, .ref (A2 60 0)), (1, .ref (A1 0 0)), (0, .ref b)]) : W p l e room_1 s m #[Value.ref b] below meth c H locs 423 10061 (lw_Z below #[Value.ref b] s) (F0 m 1486 ls []) := by
  have C := Z.1
  have hA := Z.2.1
  have hx := C.1
  have hb := C.2.1
  have hbA : ¬ lq_F s b := Nat.not_le.mpr Z.2.2.2.1
  refine lv_aload_n hx hb dL_law_1486 rfl (lv_at hl 3 rfl) ?_
  refine lq_callTi (av := []) C hA hw (k_X9_undo l D A1 cy hA.1 M1 h1) ⟨ml_L_171, ym_X9_undo, yv_X9_undo, yi_X9_undo, yc_X9_undo⟩ yd_X9_undo rfl rfl hl.1 (Nat.le_of_ble_eq_true rfl) ⟨by decide, by decide⟩ ⟨Nat.le_of_ble_eq_true rfl, Nat.le_of_ble_eq_true rfl⟩ dL_law_1487 (fun rT M1 H locs hp hw => ?_)
  obtain rfl := hp
  refine lv_aload_n hx hb dL_law_1490 rfl (lv_at hl 2 rfl) ?_
  refine lq_callMi (av := []) C hA hw (k_X10_undo l D A2 cy hA.2.1 M2 h2) ⟨ml_L_174, ym_X10_undo, yv_X10_undo, yi_X10_undo, yc_X10_undo⟩ yd_X10_undo rfl rfl hl.1 (Nat.le_of_ble_eq_true rfl) ⟨by decide, by decide⟩ ⟨Nat.le_of_ble_eq_true rfl, Nat.le_of_ble_eq_true rfl⟩ dL_law_1491 (fun rM M2 H locs hp hw => ?_)
  obtain rfl := hp
  refine lv_icmp_eq (tgt := 1550) hx hb dL_law_1494 (by decide) (fun _ => ?_) (fun c => absurd rfl c)
  exact lq_fin Z hw.2.2 ⟨Nat.le_of_ble_eq_true rfl, Nat.le_of_ble_eq_true rfl⟩ (lv_sub hl [0, 4] rfl)
set_option maxRecDepth 100000 in
theorem lq_c35 {p : Program} {l : Launch} {e : Env} {s : State} {m : MethodId} {below : List Frame} {meth : Method} {c : Code} {D : va_G} {cy : Nat → ClassId} {A1 A2 : Nat → Nat → Nat} {M1 M2 : ti_M} {b q3 : Nat} {xs : Nat → Int32} {H : Heap} {locs : List Loc} {ls : Array Slot} (Z : lq_Z p s m meth c D cy A1 A2 b xs) (hw : lq_H s D cy A1 A2 M1 M2 H locs) (h1 : ti_F M1) (h2 : ti_FM M2) (hl : lv_has ls 7 [(4, .int 0), (3, .ref q3), (2, .ref (A2 60 0)), (1, .ref (A1 0 0)), (0, .ref b)]) : W p l e room_1 s m #[Value.ref b] below meth c H locs 423 10061 (lw_Z below #[Value.ref b] s) (F0 m 1499 ls []) := by
  have C := Z.1
  have hA := Z.2.1
  have hx := C.1
  have hb := C.2.1
  have hbA : ¬ lq_F s b := Nat.not_le.mpr Z.2.2.2.1
  refine lv_aload_n hx hb dL_law_1499 rfl (lv_at hl 3 rfl) ?_
  refine lq_callTi (av := []) C hA hw (k_X9_keep l D A1 cy hA.1 M1 h1) ⟨ml_L_175, ym_X9_keep, yv_X9_keep, yi_X9_keep, yc_X9_keep⟩ yd_X9_keep rfl rfl hl.1 (Nat.le_of_ble_eq_true rfl) ⟨by decide, by decide⟩ ⟨Nat.le_of_ble_eq_true rfl, Nat.le_of_ble_eq_true rfl⟩ dL_law_1500 (fun rT M1 H locs hp hw => ?_)
  obtain rfl := hp
  refine lv_aload_n hx hb dL_law_1503 rfl (lv_at hl 2 rfl) ?_
  refine lq_callMi (av := []) C hA hw (k_X10_keep l D A2 cy hA.2.1 M2 h2) ⟨ml_L_178, ym_X10_keep, yv_X10_keep, yi_X10_keep, yc_X10_keep⟩ yd_X10_keep rfl rfl hl.1 (Nat.le_of_ble_eq_true rfl) ⟨by decide, by decide⟩ ⟨Nat.le_of_ble_eq_true rfl, Nat.le_of_ble_eq_true rfl⟩ dL_law_1504 (fun rM M2 H locs hp hw => ?_)
  obtain rfl := hp
  refine lv_icmp_eq (tgt := 1550) hx hb dL_law_1507 (by decide) (fun _ => ?_) (fun c => absurd rfl c)
  exact lq_fin Z hw.2.2 ⟨Nat.le_of_ble_eq_true rfl, Nat.le_of_ble_eq_true rfl⟩ (lv_sub hl [0, 4] rfl)
set_option maxRecDepth 100000 in
theorem lq_c36 {p : Program} {l : Launch} {e : Env} {s : State} {m : MethodId} {below : List Frame} {meth : Method} {c : Code} {D : va_G} {cy : Nat → ClassId} {A1 A2 : Nat → Nat → Nat} {M1 M2 : ti_M} {b q3 : Nat} {xs : Nat → Int32} {H : Heap} {locs : List Loc} {ls : Array Slot} (Z : lq_Z p s m meth c D cy A1 A2 b xs) (hw : lq_H s D cy A1 A2 M1 M2 H locs) (h1 : ti_F M1) (h2 : ti_FM M2) (hl : lv_has ls 7 [(4, .int 0), (3, .ref q3), (2, .ref (A2 60 0)), (1, .ref (A1 0 0)), (0, .ref b)]) : W p l e room_1 s m #[Value.ref b] below meth c H locs 423 10061 (lw_Z below #[Value.ref b] s) (F0 m 1512 ls []) := by
  have C := Z.1
  have hA := Z.2.1
  have hx := C.1
  have hb := C.2.1
  have hbA : ¬ lq_F s b := Nat.not_le.mpr Z.2.2.2.1
  refine lv_aload_n hx hb dL_law_1512 rfl (lv_at hl 3 rfl) ?_
  refine lq_callTi (av := []) C hA hw (k_X9_back l D A1 cy hA.1 M1 h1) ⟨ml_L_179, ym_X9_back, yv_X9_back, yi_X9_back, yc_X9_back⟩ yd_X9_back rfl rfl hl.1 (Nat.le_of_ble_eq_true rfl) ⟨by decide, by decide⟩ ⟨Nat.le_of_ble_eq_true rfl, Nat.le_of_ble_eq_true rfl⟩ dL_law_1513 (fun rT M1 H locs hp hw => ?_)
  obtain rfl := hp
  refine lv_aload_n hx hb dL_law_1516 rfl (lv_at hl 2 rfl) ?_
  refine lq_callMi (av := []) C hA hw (k_X10_back l D A2 cy hA.2.1 M2 h2) ⟨ml_L_182, ym_X10_back, yv_X10_back, yi_X10_back, yc_X10_back⟩ yd_X10_back rfl rfl hl.1 (Nat.le_of_ble_eq_true rfl) ⟨by decide, by decide⟩ ⟨Nat.le_of_ble_eq_true rfl, Nat.le_of_ble_eq_true rfl⟩ dL_law_1517 (fun rM M2 H locs hp hw => ?_)
  obtain rfl := hp
  refine lv_icmp_eq (tgt := 1550) hx hb dL_law_1520 (by decide) (fun _ => ?_) (fun c => absurd rfl c)
  exact lq_fin Z hw.2.2 ⟨Nat.le_of_ble_eq_true rfl, Nat.le_of_ble_eq_true rfl⟩ (lv_sub hl [0, 4] rfl)
set_option maxRecDepth 100000 in
theorem lq_c37 {p : Program} {l : Launch} {e : Env} {s : State} {m : MethodId} {below : List Frame} {meth : Method} {c : Code} {D : va_G} {cy : Nat → ClassId} {A1 A2 : Nat → Nat → Nat} {M1 M2 : ti_M} {b q3 : Nat} {xs : Nat → Int32} {H : Heap} {locs : List Loc} {ls : Array Slot} (Z : lq_Z p s m meth c D cy A1 A2 b xs) (hw : lq_H s D cy A1 A2 M1 M2 H locs) (h1 : ti_F M1) (h2 : ti_FM M2) (hl : lv_has ls 7 [(4, .int 0), (3, .ref q3), (2, .ref (A2 60 0)), (1, .ref (A1 0 0)), (0, .ref b)]) : W p l e room_1 s m #[Value.ref b] below meth c H locs 423 10061 (lw_Z below #[Value.ref b] s) (F0 m 1525 ls []) := by
  have C := Z.1
  have hA := Z.2.1
  have hx := C.1
  have hb := C.2.1
  have hbA : ¬ lq_F s b := Nat.not_le.mpr Z.2.2.2.1
  refine lv_aload_n hx hb dL_law_1525 rfl (lv_at hl 3 rfl) ?_
  refine lv_aload_n hx hb dL_law_1526 rfl (lv_at hl 4 rfl) ?_
  refine lv_iload hx hb dL_law_1527 (lv_at hl 0 rfl) ?_
  refine lv_iconst (v := 1) hx hb dL_law_1529 (by decide) ?_
  refine lv_iadd hx hb dL_law_1530 ?_
  refine ti_top (y := 1) (by decide) ?_
  refine va_sld hx hb Z.2.2.1 Z.2.2.2.1 hbA hw.2.2 lq_i1 dL_law_1531 ?_
  refine lq_callTi (av := [.int (xs (1 : Int32).toNatClampNeg)]) C hA hw (k_X9_count l D A1 cy hA.1 M1 h1 (xs (1 : Int32).toNatClampNeg)) ⟨ml_L_183, ym_X9_count, yv_X9_count, yi_X9_count, yc_X9_count⟩ yd_X9_count rfl rfl hl.1 (Nat.le_of_ble_eq_true rfl) ⟨by decide, by decide⟩ ⟨Nat.le_of_ble_eq_true rfl, Nat.le_of_ble_eq_true rfl⟩ dL_law_1532 (fun rT M1 H locs hp hw => ?_)
  obtain rfl := hp
  refine lv_aload_n hx hb dL_law_1535 rfl (lv_at hl 2 rfl) ?_
  refine lv_aload_n hx hb dL_law_1536 rfl (lv_at hl 4 rfl) ?_
  refine lv_iload hx hb dL_law_1537 (lv_at hl 0 rfl) ?_
  refine lv_iconst (v := 1) hx hb dL_law_1539 (by decide) ?_
  refine lv_iadd hx hb dL_law_1540 ?_
  refine ti_top (y := 1) (by decide) ?_
  refine va_sld hx hb Z.2.2.1 Z.2.2.2.1 hbA hw.2.2 lq_i1 dL_law_1541 ?_
  refine lq_callMi (av := [.int (xs (1 : Int32).toNatClampNeg)]) C hA hw (k_X10_count l D A2 cy hA.2.1 M2 h2 (xs (1 : Int32).toNatClampNeg)) ⟨ml_L_186, ym_X10_count, yv_X10_count, yi_X10_count, yc_X10_count⟩ yd_X10_count rfl rfl hl.1 (Nat.le_of_ble_eq_true rfl) ⟨by decide, by decide⟩ ⟨Nat.le_of_ble_eq_true rfl, Nat.le_of_ble_eq_true rfl⟩ dL_law_1542 (fun rM M2 H locs hp hw => ?_)
  obtain rfl := hp
  refine lv_icmp_eq (tgt := 1550) hx hb dL_law_1545 (by decide) (fun _ => ?_) (fun c => absurd rfl c)
  exact lq_fin Z hw.2.2 ⟨Nat.le_of_ble_eq_true rfl, Nat.le_of_ble_eq_true rfl⟩ (lv_sub hl [0, 4] rfl)

theorem ti_Tv {A : Nat → Nat → Nat} {z : Option Nat} {t : Nat} (h : z = some t) : some (va_rf (z.map (fun t => A t 0))) = some (Value.ref (A t 0)) := by rw [h]; rfl
theorem ti_iastG {p : Program} {l : Launch} {e : Env} {R : Room} {s : State} {m : MethodId} {args : Array Value} {below : List Frame} {meth : Method} {c : Code} {H H0 : Heap} {locs : List Loc} {cells slots : Nat} {Q : State → Prop} {pc : Nat} {ls : Array Slot} {rest : List Value} {cc : ByteArray} {own : String} {nL : Nat} {D : va_G} {cy : Nat → ClassId} {Ls : List (Nat × Nat)} {A : Nat → Nat → Nat} {M : ti_M} {ci o k n : Nat} (C : ti_C p s m c args cc own nL D cy Ls A) (hw : ti_H Ls D A cy H0 M H locs) (hob : ti_ob Ls o ci) (hj : k + 1 ∈ ti_parts ci) (har : ∀ f g, ti_ar A cy ci o k f g = (cy 1, n, .inl f)) {i x : Int32} (hi : vp_in i n) (hdg : decode cc pc = .ok (.iastore, 1))
    (kk : ∀ (H1 : Heap) (locs1 : List Loc) (g : Nat → Int32), g = upd (tY M o k) i.toNatClampNeg x → ti_H Ls D A cy H0 (uY M o k g) H1 locs1 → W p l e R s m args below meth c H1 locs1 cells slots Q (F0 m (pc + 1) ls rest)) : W p l e R s m args below meth c H locs cells slots Q (F0 m pc ls (.int x :: .int i :: .ref (A o (k + 1)) :: rest)) :=
  ti_iast C hw hob hj har hi hdg (fun H1 locs1 h => kk H1 locs1 _ rfl h)
theorem ti_bastG {p : Program} {l : Launch} {e : Env} {R : Room} {s : State} {m : MethodId} {args : Array Value} {below : List Frame} {meth : Method} {c : Code} {H H0 : Heap} {locs : List Loc} {cells slots : Nat} {Q : State → Prop} {pc : Nat} {ls : Array Slot} {rest : List Value} {cc : ByteArray} {own : String} {nL : Nat} {D : va_G} {cy : Nat → ClassId} {Ls : List (Nat × Nat)} {A : Nat → Nat → Nat} {M : ti_M} {ci o k n : Nat} (C : ti_C p s m c args cc own nL D cy Ls A) (hw : ti_H Ls D A cy H0 M H locs) (hob : ti_ob Ls o ci) (hj : k + 1 ∈ ti_parts ci) (har : ∀ f g, ti_ar A cy ci o k f g = (cy 0, n, .inl f)) {i x : Int32} (hi : vp_in i n) (hdg : decode cc pc = .ok (.bastore, 1))
    (kk : ∀ (H1 : Heap) (locs1 : List Loc) (g : Nat → Int32), g = upd (tY M o k) i.toNatClampNeg (vp_nar .byte x) → ti_H Ls D A cy H0 (uY M o k g) H1 locs1 → W p l e R s m args below meth c H1 locs1 cells slots Q (F0 m (pc + 1) ls rest)) : W p l e R s m args below meth c H locs cells slots Q (F0 m pc ls (.int x :: .int i :: .ref (A o (k + 1)) :: rest)) :=
  ti_bast C hw hob hj har hi hdg (fun H1 locs1 h => kk H1 locs1 _ rfl h)
theorem ti_zastG {p : Program} {l : Launch} {e : Env} {R : Room} {s : State} {m : MethodId} {args : Array Value} {below : List Frame} {meth : Method} {c : Code} {H H0 : Heap} {locs : List Loc} {cells slots : Nat} {Q : State → Prop} {pc : Nat} {ls : Array Slot} {rest : List Value} {cc : ByteArray} {own : String} {nL : Nat} {D : va_G} {cy : Nat → ClassId} {Ls : List (Nat × Nat)} {A : Nat → Nat → Nat} {M : ti_M} {ci o k n : Nat} (C : ti_C p s m c args cc own nL D cy Ls A) (hw : ti_H Ls D A cy H0 M H locs) (hob : ti_ob Ls o ci) (hj : k + 1 ∈ ti_parts ci) (har : ∀ f g, ti_ar A cy ci o k f g = (cy 3, n, .inl f)) {i x : Int32} (hi : vp_in i n) (hdg : decode cc pc = .ok (.bastore, 1))
    (kk : ∀ (H1 : Heap) (locs1 : List Loc) (g : Nat → Int32), g = upd (tY M o k) i.toNatClampNeg (vp_nar .boolean x) → ti_H Ls D A cy H0 (uY M o k g) H1 locs1 → W p l e R s m args below meth c H1 locs1 cells slots Q (F0 m (pc + 1) ls rest)) : W p l e R s m args below meth c H locs cells slots Q (F0 m pc ls (.int x :: .int i :: .ref (A o (k + 1)) :: rest)) :=
  ti_zast C hw hob hj har hi hdg (fun H1 locs1 h => kk H1 locs1 _ rfl h)
/-- the class as it is behind its constructor, as far as one call asks -/
def ti_F (M : ti_M) : Prop := tT M 0 1 = some 3 ∧ tT M 0 2 = some 4 ∧ tT M 27 0 = some 3 ∧ tI M 2 1 = 0 ∧ tI M 1 4 = 0 ∧ tI M 1 5 = (-1) ∧ tI M 3 4 = 0 ∧ tI M 3 5 = 0 ∧ tI M 3 10 = 0 ∧ tI M 27 1 = 0 ∧ tI M 27 2 = 0 ∧ tI M 27 3 = 0 ∧ tI M 27 4 = 200 ∧ tI M 28 1 = 0 ∧ tI M 28 2 = 0 ∧ tI M 0 7 = 0 ∧ tI M 50 5 = 0 ∧ tI M 50 6 = (-1) ∧ tI M 50 7 = 0 ∧ tI M 50 10 = 0 ∧ tY M 27 7 0 = 0 ∧ tY M 27 7 1 = 1 ∧ tY M 27 7 2 = 2
set_option maxHeartbeats 4000000 in
set_option maxRecDepth 100000 in
theorem k_X9_isMan (l : Launch) (D : va_G) (A : Nat → Nat → Nat) (cy : Nat → ClassId) (hJ : ti_inj ti_LT A) (M : ti_M) (hF : ti_F M) (man : Int32) : ti_Ki l yX9_isMan cX9_isMan 2 (some .boolean) 0 ti_LT D A cy M [.ref (A 0 0), .int man] (fun r M2 => M2 = M ∧ r = 0) := by
  refine ti_eI yp_X9_isMan hJ ti_LT_nd (Nat.le_of_ble_eq_true rfl) ?_
  intro p e s m args below meth c Q H0 C hQ hw ls hl
  have hx := C.1
  have hb := C.2.1
  have hl : lv_has ls 2 [(0, .ref (A 0 0)), (1, .int man)] := hl
  obtain ⟨f_told, f_spare, f_nt, f_many, f_fault, f_place, f_men, f_knots, f_mut, f_man, f_min, f_size, f_water, f_first, f_steps, f_img, f_sm, f_sk, f_ss, f_sw, f_p0, f_p1, f_p2⟩ := id hF
  refine lv_iload_n hx hb dX9_isMan_0 rfl (lv_at hl 1 rfl) ?_
  refine lv_if_lt (tgt := 19) hx hb dX9_isMan_1 (by decide) (fun c_1 => ?_) (fun c_1 => ?_)
  · refine lv_iconst (v := 0) hx hb dX9_isMan_19 (by decide) ?_
    exact hQ _ _ _ _ _ _ hw rfl (⟨rfl, rfl⟩) dX9_isMan_20
  · refine lv_iload_n hx hb dX9_isMan_4 rfl (lv_at hl 1 rfl) ?_
    refine lv_aload_n hx hb dX9_isMan_5 rfl (lv_at hl 0 rfl) ?_
    refine ti_get (ci := 9) (k := 1) (N := 10) (T := TX9) (v := .ref (A 3 0)) C hw iw_9 rfl ob_0 (by decide) (by decide) fl_X9_19 rfl (ti_Tv f_told) dX9_isMan_6 ?_
    refine ti_get (ci := 8) (k := 4) (N := 12) (T := TX8) C hw iw_8 rfl ob_3 (by decide) (by decide) fl_X9_301 rfl rfl dX9_isMan_9 ?_
    refine ti_top (y := 0) f_men ?_
    refine lv_icmp_ge (tgt := 19) hx hb dX9_isMan_12 (by decide) (fun c_12 => ?_) (fun c => absurd ((by (try simp only [Int32.lt_iff_toInt_lt, Int32.le_iff_toInt_le, ← Int32.toInt_inj, ti_l0, ti_l1, ti_l2, ti_l3, ti_l5, ti_l7, ti_l8, ti_l24, ti_l59, ti_l60, ti_l119, ti_l120, ti_lm1, ti_lm2] at c_1); (try simp only [Int32.lt_iff_toInt_lt, Int32.le_iff_toInt_le, ← Int32.toInt_inj, ti_l0, ti_l1, ti_l2, ti_l3, ti_l5, ti_l7, ti_l8, ti_l24, ti_l59, ti_l60, ti_l119, ti_l120, ti_lm1, ti_lm2]); omega)) c)
    refine lv_iconst (v := 0) hx hb dX9_isMan_19 (by decide) ?_
    exact hQ _ _ _ _ _ _ hw rfl (⟨rfl, rfl⟩) dX9_isMan_20
set_option maxHeartbeats 4000000 in
set_option maxRecDepth 100000 in
theorem k_X9_isToCome (l : Launch) (D : va_G) (A : Nat → Nat → Nat) (cy : Nat → ClassId) (hJ : ti_inj ti_LT A) (M : ti_M) (hF : ti_F M) (man : Int32) : ti_Ki l yX9_isToCome cX9_isToCome 2 (some .boolean) 1 ti_LT D A cy M [.ref (A 0 0), .int man] (fun r M2 => M2 = M ∧ r = 0) := by
  refine ti_eI yp_X9_isToCome hJ ti_LT_nd (Nat.le_of_ble_eq_true rfl) ?_
  intro p e s m args below meth c Q H0 C hQ hw ls hl
  have hx := C.1
  have hb := C.2.1
  have hl : lv_has ls 2 [(0, .ref (A 0 0)), (1, .int man)] := hl
  obtain ⟨f_told, f_spare, f_nt, f_many, f_fault, f_place, f_men, f_knots, f_mut, f_man, f_min, f_size, f_water, f_first, f_steps, f_img, f_sm, f_sk, f_ss, f_sw, f_p0, f_p1, f_p2⟩ := id hF
  refine lv_aload_n hx hb dX9_isToCome_0 rfl (lv_at hl 0 rfl) ?_
  refine lv_iload_n hx hb dX9_isToCome_1 rfl (lv_at hl 1 rfl) ?_
  refine ti_callVi (ci := 9) (av := [.int man]) C hw (k_X9_isMan l D A cy hJ _ hF man) ⟨ml_X9_104, ym_X9_isMan, yv_X9_isMan, yi_X9_isMan, yc_X9_isMan⟩ yd_X9_isMan ob_0 (by decide) rfl rfl hl.1 (Nat.le_of_ble_eq_true rfl) ⟨by decide, by decide⟩ ⟨Nat.zero_le _, Nat.zero_le _⟩ dX9_isToCome_2 (fun r_1 M_2 H locs hp_2 hw => ?_)
  obtain ⟨hm, rfl⟩ := hp_2
  have hw := hw.to hm
  refine lv_if_eq (tgt := 24) hx hb dX9_isToCome_5 (by decide) (fun c_5 => ?_) (fun c => absurd (by decide) c)
  refine lv_iconst (v := 0) hx hb dX9_isToCome_24 (by decide) ?_
  exact hQ _ _ _ _ _ _ hw rfl (⟨rfl, rfl⟩) dX9_isToCome_25
set_option maxHeartbeats 4000000 in
set_option maxRecDepth 100000 in
theorem k_X9_isInQueue (l : Launch) (D : va_G) (A : Nat → Nat → Nat) (cy : Nat → ClassId) (hJ : ti_inj ti_LT A) (M : ti_M) (hF : ti_F M) (man : Int32) : ti_Ki l yX9_isInQueue cX9_isInQueue 2 (some .boolean) 1 ti_LT D A cy M [.ref (A 0 0), .int man] (fun r M2 => M2 = M ∧ r = 0) := by
  refine ti_eI yp_X9_isInQueue hJ ti_LT_nd (Nat.le_of_ble_eq_true rfl) ?_
  intro p e s m args below meth c Q H0 C hQ hw ls hl
  have hx := C.1
  have hb := C.2.1
  have hl : lv_has ls 2 [(0, .ref (A 0 0)), (1, .int man)] := hl
  obtain ⟨f_told, f_spare, f_nt, f_many, f_fault, f_place, f_men, f_knots, f_mut, f_man, f_min, f_size, f_water, f_first, f_steps, f_img, f_sm, f_sk, f_ss, f_sw, f_p0, f_p1, f_p2⟩ := id hF
  refine lv_aload_n hx hb dX9_isInQueue_0 rfl (lv_at hl 0 rfl) ?_
  refine lv_iload_n hx hb dX9_isInQueue_1 rfl (lv_at hl 1 rfl) ?_
  refine ti_callVi (ci := 9) (av := [.int man]) C hw (k_X9_isMan l D A cy hJ _ hF man) ⟨ml_X9_104, ym_X9_isMan, yv_X9_isMan, yi_X9_isMan, yc_X9_isMan⟩ yd_X9_isMan ob_0 (by decide) rfl rfl hl.1 (Nat.le_of_ble_eq_true rfl) ⟨by decide, by decide⟩ ⟨Nat.zero_le _, Nat.zero_le _⟩ dX9_isInQueue_2 (fun r_1 M_2 H locs hp_2 hw => ?_)
  obtain ⟨hm, rfl⟩ := hp_2
  have hw := hw.to hm
  refine lv_if_eq (tgt := 25) hx hb dX9_isInQueue_5 (by decide) (fun c_5 => ?_) (fun c => absurd (by decide) c)
  refine lv_iconst (v := 0) hx hb dX9_isInQueue_25 (by decide) ?_
  exact hQ _ _ _ _ _ _ hw rfl (⟨rfl, rfl⟩) dX9_isInQueue_26
set_option maxHeartbeats 4000000 in
set_option maxRecDepth 100000 in
theorem k_X9_isPower (l : Launch) (D : va_G) (A : Nat → Nat → Nat) (cy : Nat → ClassId) (hJ : ti_inj ti_LT A) (M : ti_M) (z : Int32) : ti_Ki l yX9_isPower cX9_isPower 2 (some .boolean) 0 ti_LT D A cy M [.ref (A 0 0), .int z] (fun r M2 => M2 = M ∧ ((r = 1 ∧ ¬ z < 0 ∧ ¬ 3 ≤ z) ∨ (r = 0 ∧ (z < 0 ∨ 3 ≤ z)))) := by
  refine ti_eI yp_X9_isPower hJ ti_LT_nd (Nat.le_of_ble_eq_true rfl) ?_
  intro p e s m args below meth c Q H0 C hQ hw ls hl
  have hx := C.1
  have hb := C.2.1
  have hl : lv_has ls 2 [(0, .ref (A 0 0)), (1, .int z)] := hl
  refine lv_iload_n hx hb dX9_isPower_0 rfl (lv_at hl 1 rfl) ?_
  refine lv_if_lt (tgt := 13) hx hb dX9_isPower_1 (by decide) (fun c_1 => ?_) (fun c_1 => ?_)
  · refine lv_iconst (v := 0) hx hb dX9_isPower_13 (by decide) ?_
    exact hQ _ _ _ _ _ _ hw rfl (⟨rfl, Or.inr ⟨rfl, Or.inl c_1⟩⟩) dX9_isPower_14
  · refine lv_iload_n hx hb dX9_isPower_4 rfl (lv_at hl 1 rfl) ?_
    refine lv_iconst (v := 3) hx hb dX9_isPower_5 (by decide) ?_
    refine lv_icmp_ge (tgt := 13) hx hb dX9_isPower_6 (by decide) (fun c_6 => ?_) (fun c_6 => ?_)
    · refine lv_iconst (v := 0) hx hb dX9_isPower_13 (by decide) ?_
      exact hQ _ _ _ _ _ _ hw rfl (⟨rfl, Or.inr ⟨rfl, Or.inr c_6⟩⟩) dX9_isPower_14
    · refine lv_iconst (v := 1) hx hb dX9_isPower_9 (by decide) ?_
      refine lv_goto (tgt := 14) hx hb dX9_isPower_10 (by decide) ?_
      exact hQ _ _ _ _ _ _ hw rfl (⟨rfl, Or.inl ⟨rfl, c_1, c_6⟩⟩) dX9_isPower_14
set_option maxHeartbeats 4000000 in
set_option maxRecDepth 100000 in
theorem k_X9_isPlace (l : Launch) (D : va_G) (A : Nat → Nat → Nat) (cy : Nat → ClassId) (hJ : ti_inj ti_LT A) (M : ti_M) (z : Int32) : ti_Ki l yX9_isPlace cX9_isPlace 2 (some .boolean) 0 ti_LT D A cy M [.ref (A 0 0), .int z] (fun r M2 => M2 = M ∧ ((r = 1 ∧ ¬ z < 0 ∧ ¬ 8 ≤ z) ∨ (r = 0 ∧ (z < 0 ∨ 8 ≤ z)))) := by
  refine ti_eI yp_X9_isPlace hJ ti_LT_nd (Nat.le_of_ble_eq_true rfl) ?_
  intro p e s m args below meth c Q H0 C hQ hw ls hl
  have hx := C.1
  have hb := C.2.1
  have hl : lv_has ls 2 [(0, .ref (A 0 0)), (1, .int z)] := hl
  refine lv_iload_n hx hb dX9_isPlace_0 rfl (lv_at hl 1 rfl) ?_
  refine lv_if_lt (tgt := 14) hx hb dX9_isPlace_1 (by decide) (fun c_1 => ?_) (fun c_1 => ?_)
  · refine lv_iconst (v := 0) hx hb dX9_isPlace_14 (by decide) ?_
    exact hQ _ _ _ _ _ _ hw rfl (⟨rfl, Or.inr ⟨rfl, Or.inl c_1⟩⟩) dX9_isPlace_15
  · refine lv_iload_n hx hb dX9_isPlace_4 rfl (lv_at hl 1 rfl) ?_
    refine lv_bipush (v := 8) hx hb dX9_isPlace_5 (by decide) ?_
    refine lv_icmp_ge (tgt := 14) hx hb dX9_isPlace_7 (by decide) (fun c_7 => ?_) (fun c_7 => ?_)
    · refine lv_iconst (v := 0) hx hb dX9_isPlace_14 (by decide) ?_
      exact hQ _ _ _ _ _ _ hw rfl (⟨rfl, Or.inr ⟨rfl, Or.inr c_7⟩⟩) dX9_isPlace_15
    · refine lv_iconst (v := 1) hx hb dX9_isPlace_10 (by decide) ?_
      refine lv_goto (tgt := 15) hx hb dX9_isPlace_11 (by decide) ?_
      exact hQ _ _ _ _ _ _ hw rfl (⟨rfl, Or.inl ⟨rfl, c_1, c_7⟩⟩) dX9_isPlace_15
set_option maxHeartbeats 4000000 in
set_option maxRecDepth 100000 in
theorem k_X9_isZeroOrOne (l : Launch) (D : va_G) (A : Nat → Nat → Nat) (cy : Nat → ClassId) (hJ : ti_inj ti_LT A) (M : ti_M) (z : Int32) : ti_Ki l yX9_isZeroOrOne cX9_isZeroOrOne 2 (some .boolean) 0 ti_LT D A cy M [.ref (A 0 0), .int z] (fun r M2 => M2 = M ∧ ((r = 1 ∧ (z = 0 ∨ z = 1)) ∨ (r = 0 ∧ ¬ z = 0 ∧ ¬ z = 1))) := by
  refine ti_eI yp_X9_isZeroOrOne hJ ti_LT_nd (Nat.le_of_ble_eq_true rfl) ?_
  intro p e s m args below meth c Q H0 C hQ hw ls hl
  have hx := C.1
  have hb := C.2.1
  have hl : lv_has ls 2 [(0, .ref (A 0 0)), (1, .int z)] := hl
  refine lv_iload_n hx hb dX9_isZeroOrOne_0 rfl (lv_at hl 1 rfl) ?_
  refine lv_if_eq (tgt := 9) hx hb dX9_isZeroOrOne_1 (by decide) (fun c_1 => ?_) (fun c_1 => ?_)
  · refine lv_iconst (v := 1) hx hb dX9_isZeroOrOne_9 (by decide) ?_
    refine lv_goto (tgt := 14) hx hb dX9_isZeroOrOne_10 (by decide) ?_
    exact hQ _ _ _ _ _ _ hw rfl (⟨rfl, Or.inl ⟨rfl, Or.inl c_1⟩⟩) dX9_isZeroOrOne_14
  · refine lv_iload_n hx hb dX9_isZeroOrOne_4 rfl (lv_at hl 1 rfl) ?_
    refine lv_iconst (v := 1) hx hb dX9_isZeroOrOne_5 (by decide) ?_
    refine lv_icmp_ne (tgt := 13) hx hb dX9_isZeroOrOne_6 (by decide) (fun c_6 => ?_) (fun c_6 => ?_)
    · refine lv_iconst (v := 0) hx hb dX9_isZeroOrOne_13 (by decide) ?_
      exact hQ _ _ _ _ _ _ hw rfl (⟨rfl, Or.inr ⟨rfl, c_1, c_6⟩⟩) dX9_isZeroOrOne_14
    · refine lv_iconst (v := 1) hx hb dX9_isZeroOrOne_9 (by decide) ?_
      refine lv_goto (tgt := 14) hx hb dX9_isZeroOrOne_10 (by decide) ?_
      exact hQ _ _ _ _ _ _ hw rfl (⟨rfl, Or.inl ⟨rfl, Or.inr c_6⟩⟩) dX9_isZeroOrOne_14
set_option maxHeartbeats 4000000 in
set_option maxRecDepth 100000 in
theorem k_X9_isAhead (l : Launch) (D : va_G) (A : Nat → Nat → Nat) (cy : Nat → ClassId) (hJ : ti_inj ti_LT A) (M : ti_M) (hF : ti_F M) (n least : Int32) : ti_Ki l yX9_isAhead cX9_isAhead 3 (some .boolean) 0 ti_LT D A cy M [.ref (A 0 0), .int n, .int least] (fun r M2 => M2 = M ∧ ((r = 1 ∧ ¬ n < least ∧ ¬ 60 < n) ∨ (r = 0 ∧ (n < least ∨ 60 < n)))) := by
  refine ti_eI yp_X9_isAhead hJ ti_LT_nd (Nat.le_of_ble_eq_true rfl) ?_
  intro p e s m args below meth c Q H0 C hQ hw ls hl
  have hx := C.1
  have hb := C.2.1
  have hl : lv_has ls 3 [(0, .ref (A 0 0)), (1, .int n), (2, .int least)] := hl
  obtain ⟨f_told, f_spare, f_nt, f_many, f_fault, f_place, f_men, f_knots, f_mut, f_man, f_min, f_size, f_water, f_first, f_steps, f_img, f_sm, f_sk, f_ss, f_sw, f_p0, f_p1, f_p2⟩ := id hF
  refine lv_iload_n hx hb dX9_isAhead_0 rfl (lv_at hl 1 rfl) ?_
  refine lv_iload_n hx hb dX9_isAhead_1 rfl (lv_at hl 2 rfl) ?_
  refine lv_icmp_lt (tgt := 29) hx hb dX9_isAhead_2 (by decide) (fun c_2 => ?_) (fun c_2 => ?_)
  · refine lv_iconst (v := 0) hx hb dX9_isAhead_29 (by decide) ?_
    exact hQ _ _ _ _ _ _ hw rfl (⟨rfl, Or.inr ⟨rfl, Or.inl c_2⟩⟩) dX9_isAhead_30
  · refine lv_iload_n hx hb dX9_isAhead_5 rfl (lv_at hl 1 rfl) ?_
    refine lv_bipush (v := 60) hx hb dX9_isAhead_6 (by decide) ?_
    refine lv_icmp_gt (tgt := 29) hx hb dX9_isAhead_8 (by decide) (fun c_8 => ?_) (fun c_8 => ?_)
    · refine lv_iconst (v := 0) hx hb dX9_isAhead_29 (by decide) ?_
      exact hQ _ _ _ _ _ _ hw rfl (⟨rfl, Or.inr ⟨rfl, Or.inr c_8⟩⟩) dX9_isAhead_30
    · refine lv_iload_n hx hb dX9_isAhead_11 rfl (lv_at hl 1 rfl) ?_
      refine lv_bipush (v := 120) hx hb dX9_isAhead_12 (by decide) ?_
      refine lv_aload_n hx hb dX9_isAhead_14 rfl (lv_at hl 0 rfl) ?_
      refine ti_get (ci := 9) (k := 3) (N := 10) (T := TX9) (v := .ref (A 27 0)) C hw iw_9 rfl ob_0 (by decide) (by decide) fl_X9_29 rfl rfl dX9_isAhead_15 ?_
      refine ti_get (ci := 3) (k := 2) (N := 17) (T := TX3) C hw iw_3 rfl ob_27 (by decide) (by decide) fl_X9_186 rfl rfl dX9_isAhead_18 ?_
      refine ti_top (y := 0) f_min ?_
      refine lv_isub hx hb dX9_isAhead_21 ?_
      refine ti_top (y := 120) (by decide) ?_
      refine lv_icmp_gt (tgt := 29) hx hb dX9_isAhead_22 (by decide) (fun c => absurd c ((by (try simp only [Int32.lt_iff_toInt_lt, Int32.le_iff_toInt_le, ← Int32.toInt_inj, ti_l0, ti_l1, ti_l2, ti_l3, ti_l5, ti_l7, ti_l8, ti_l24, ti_l59, ti_l60, ti_l119, ti_l120, ti_lm1, ti_lm2] at c_2); (try simp only [Int32.lt_iff_toInt_lt, Int32.le_iff_toInt_le, ← Int32.toInt_inj, ti_l0, ti_l1, ti_l2, ti_l3, ti_l5, ti_l7, ti_l8, ti_l24, ti_l59, ti_l60, ti_l119, ti_l120, ti_lm1, ti_lm2] at c_8); (try simp only [Int32.lt_iff_toInt_lt, Int32.le_iff_toInt_le, ← Int32.toInt_inj, ti_l0, ti_l1, ti_l2, ti_l3, ti_l5, ti_l7, ti_l8, ti_l24, ti_l59, ti_l60, ti_l119, ti_l120, ti_lm1, ti_lm2]); omega))) (fun c_22 => ?_)
      refine lv_iconst (v := 1) hx hb dX9_isAhead_25 (by decide) ?_
      refine lv_goto (tgt := 30) hx hb dX9_isAhead_26 (by decide) ?_
      exact hQ _ _ _ _ _ _ hw rfl (⟨rfl, Or.inl ⟨rfl, c_2, c_8⟩⟩) dX9_isAhead_30
set_option maxHeartbeats 4000000 in
set_option maxRecDepth 100000 in
theorem k_X9_isGame (l : Launch) (D : va_G) (A : Nat → Nat → Nat) (cy : Nat → ClassId) (hJ : ti_inj ti_LT A) (M : ti_M) (hF : ti_F M) (one other n : Int32) : ti_Ki l yX9_isGame cX9_isGame 4 (some .boolean) 2 ti_LT D A cy M [.ref (A 0 0), .int one, .int other, .int n] (fun r M2 => M2 = M ∧ r = 0) := by
  refine ti_eI yp_X9_isGame hJ ti_LT_nd (Nat.le_of_ble_eq_true rfl) ?_
  intro p e s m args below meth c Q H0 C hQ hw ls hl
  have hx := C.1
  have hb := C.2.1
  have hl : lv_has ls 4 [(0, .ref (A 0 0)), (1, .int one), (2, .int other), (3, .int n)] := hl
  obtain ⟨f_told, f_spare, f_nt, f_many, f_fault, f_place, f_men, f_knots, f_mut, f_man, f_min, f_size, f_water, f_first, f_steps, f_img, f_sm, f_sk, f_ss, f_sw, f_p0, f_p1, f_p2⟩ := id hF
  refine lv_aload_n hx hb dX9_isGame_0 rfl (lv_at hl 0 rfl) ?_
  refine lv_iload_n hx hb dX9_isGame_1 rfl (lv_at hl 1 rfl) ?_
  refine ti_callVi (ci := 9) (av := [.int one]) C hw (k_X9_isToCome l D A cy hJ _ hF one) ⟨ml_X9_195, ym_X9_isToCome, yv_X9_isToCome, yi_X9_isToCome, yc_X9_isToCome⟩ yd_X9_isToCome ob_0 (by decide) rfl rfl hl.1 (Nat.le_of_ble_eq_true rfl) ⟨by decide, by decide⟩ ⟨Nat.zero_le _, Nat.zero_le _⟩ dX9_isGame_2 (fun r_1 M_2 H locs hp_2 hw => ?_)
  obtain ⟨hm, rfl⟩ := hp_2
  have hw := hw.to hm
  refine lv_if_eq (tgt := 46) hx hb dX9_isGame_5 (by decide) (fun c_5 => ?_) (fun c => absurd (by decide) c)
  refine lv_iconst (v := 0) hx hb dX9_isGame_46 (by decide) ?_
  exact hQ _ _ _ _ _ _ hw rfl (⟨rfl, rfl⟩) dX9_isGame_47
set_option maxHeartbeats 4000000 in
set_option maxRecDepth 100000 in
theorem k_X3_manAt (l : Launch) (D : va_G) (A : Nat → Nat → Nat) (cy : Nat → ClassId) (hJ : ti_inj ti_LT A) (M : ti_M) (q : Nat) (pl : Int32) (hq : ti_ob ti_LT q 3) (hs : tI M q 3 = 0) : ti_Ki l yX3_manAt cX3_manAt 2 (some .int) 0 ti_LT D A cy M [.ref (A q 0), .int pl] (fun r M2 => M2 = M ∧ r = (-2)) := by
  refine ti_eI yp_X3_manAt hJ ti_LT_nd (Nat.le_of_ble_eq_true rfl) ?_
  intro p e s m args below meth c Q H0 C hQ hw ls hl
  have hx := C.1
  have hb := C.2.1
  have hl : lv_has ls 2 [(0, .ref (A q 0)), (1, .int pl)] := hl
  refine lv_iload_n hx hb dX3_manAt_0 rfl (lv_at hl 1 rfl) ?_
  refine lv_if_lt (tgt := 21) hx hb dX3_manAt_1 (by decide) (fun c_1 => ?_) (fun c_1 => ?_)
  · refine lv_bipush (v := (-2)) hx hb dX3_manAt_21 (by decide) ?_
    exact hQ _ _ _ _ _ _ hw rfl (⟨rfl, rfl⟩) dX3_manAt_23
  · refine lv_iload_n hx hb dX3_manAt_4 rfl (lv_at hl 1 rfl) ?_
    refine lv_aload_n hx hb dX3_manAt_5 rfl (lv_at hl 0 rfl) ?_
    refine ti_get (ci := 3) (k := 3) (N := 17) (T := TX3) C hw iw_3 rfl hq (by decide) (by decide) fl_X3_56 rfl rfl dX3_manAt_6 ?_
    refine ti_top (y := 0) hs ?_
    refine lv_icmp_ge (tgt := 21) hx hb dX3_manAt_9 (by decide) (fun c_9 => ?_) (fun c => absurd ((by (try simp only [Int32.lt_iff_toInt_lt, Int32.le_iff_toInt_le, ← Int32.toInt_inj, ti_l0, ti_l1, ti_l2, ti_l3, ti_l5, ti_l7, ti_l8, ti_l24, ti_l59, ti_l60, ti_l119, ti_l120, ti_lm1, ti_lm2] at c_1); (try simp only [Int32.lt_iff_toInt_lt, Int32.le_iff_toInt_le, ← Int32.toInt_inj, ti_l0, ti_l1, ti_l2, ti_l3, ti_l5, ti_l7, ti_l8, ti_l24, ti_l59, ti_l60, ti_l119, ti_l120, ti_lm1, ti_lm2]); omega)) c)
    refine lv_bipush (v := (-2)) hx hb dX3_manAt_21 (by decide) ?_
    exact hQ _ _ _ _ _ _ hw rfl (⟨rfl, rfl⟩) dX3_manAt_23
set_option maxHeartbeats 4000000 in
set_option maxRecDepth 100000 in
theorem k_X3_placeOf (l : Launch) (D : va_G) (A : Nat → Nat → Nat) (cy : Nat → ClassId) (hJ : ti_inj ti_LT A) (M : ti_M) (q : Nat) (mn : Int32) (hq : ti_ob ti_LT q 3) (hs : tI M q 3 = 0) : ti_Ki l yX3_placeOf cX3_placeOf 3 (some .int) 0 ti_LT D A cy M [.ref (A q 0), .int mn] (fun r M2 => M2 = M ∧ r = (-1)) := by
  refine ti_eI yp_X3_placeOf hJ ti_LT_nd (Nat.le_of_ble_eq_true rfl) ?_
  intro p e s m args below meth c Q H0 C hQ hw ls hl
  have hx := C.1
  have hb := C.2.1
  have hl : lv_has ls 3 [(0, .ref (A q 0)), (1, .int mn)] := hl
  refine lv_iconst (v := 0) hx hb dX3_placeOf_0 (by decide) ?_
  refine lv_istore_n (lv' := [(2, .int 0), (0, .ref (A q 0)), (1, .int mn)]) hx hb dX3_placeOf_1 rfl hl (by decide) rfl (fun ls hl => ?_)
  refine lv_iload_n hx hb dX3_placeOf_2 rfl (lv_at hl 0 rfl) ?_
  refine lv_aload_n hx hb dX3_placeOf_3 rfl (lv_at hl 1 rfl) ?_
  refine ti_get (ci := 3) (k := 3) (N := 17) (T := TX3) C hw iw_3 rfl hq (by decide) (by decide) fl_X3_56 rfl rfl dX3_placeOf_4 ?_
  refine ti_top (y := 0) hs ?_
  refine lv_icmp_ge (tgt := 28) hx hb dX3_placeOf_7 (by decide) (fun c_7 => ?_) (fun c => absurd (by decide) c)
  refine lv_iconst (v := (-1)) hx hb dX3_placeOf_28 (by decide) ?_
  exact hQ _ _ _ _ _ _ hw rfl (⟨rfl, rfl⟩) dX3_placeOf_29
set_option maxHeartbeats 4000000 in
set_option maxRecDepth 100000 in
theorem k_X8_find (l : Launch) (D : va_G) (A : Nat → Nat → Nat) (cy : Nat → ClassId) (hJ : ti_inj ti_LT A) (M : ti_M) (t : Nat) (z : Int32) (ht : ti_ob ti_LT t 8) (hm : tI M t 4 = 0) : ti_Ki l yX8_find cX8_find 3 (some .int) 0 ti_LT D A cy M [.ref (A t 0), .int z] (fun r M2 => M2 = M ∧ r = (-1)) := by
  refine ti_eI yp_X8_find hJ ti_LT_nd (Nat.le_of_ble_eq_true rfl) ?_
  intro p e s m args below meth c Q H0 C hQ hw ls hl
  have hx := C.1
  have hb := C.2.1
  have hl : lv_has ls 3 [(0, .ref (A t 0)), (1, .int z)] := hl
  refine lv_iconst (v := 0) hx hb dX8_find_0 (by decide) ?_
  refine lv_istore_n (lv' := [(2, .int 0), (0, .ref (A t 0)), (1, .int z)]) hx hb dX8_find_1 rfl hl (by decide) rfl (fun ls hl => ?_)
  refine lv_iload_n hx hb dX8_find_2 rfl (lv_at hl 0 rfl) ?_
  refine lv_aload_n hx hb dX8_find_3 rfl (lv_at hl 1 rfl) ?_
  refine ti_get (ci := 8) (k := 4) (N := 12) (T := TX8) C hw iw_8 rfl ht (by decide) (by decide) fl_X8_36 rfl rfl dX8_find_4 ?_
  refine ti_top (y := 0) hm ?_
  refine lv_icmp_ge (tgt := 31) hx hb dX8_find_7 (by decide) (fun c_7 => ?_) (fun c => absurd (by decide) c)
  refine lv_iconst (v := (-1)) hx hb dX8_find_31 (by decide) ?_
  exact hQ _ _ _ _ _ _ hw rfl (⟨rfl, rfl⟩) dX8_find_32
set_option maxHeartbeats 4000000 in
set_option maxRecDepth 100000 in
theorem k_X3_howMany (l : Launch) (D : va_G) (A : Nat → Nat → Nat) (cy : Nat → ClassId) (hJ : ti_inj ti_LT A) (M : ti_M) (q t : Nat) (hq : ti_ob ti_LT q 3) (ht : ti_ob ti_LT t 8) (hT : tT M q 0 = some t) (hm : tI M t 4 = 0) (z : Int32) : ti_Ki l yX3_howMany cX3_howMany 4 (some .int) 0 ti_LT D A cy M [.ref (A q 0), .int z] (fun r M2 => M2 = M ∧ r = 0) := by
  refine ti_eI yp_X3_howMany hJ ti_LT_nd (Nat.le_of_ble_eq_true rfl) ?_
  intro p e s m args below meth c Q H0 C hQ hw ls hl
  have hx := C.1
  have hb := C.2.1
  have hl : lv_has ls 4 [(0, .ref (A q 0)), (1, .int z)] := hl
  refine lv_iconst (v := 0) hx hb dX3_howMany_0 (by decide) ?_
  refine lv_istore_n (lv' := [(2, .int 0), (0, .ref (A q 0)), (1, .int z)]) hx hb dX3_howMany_1 rfl hl (by decide) rfl (fun ls hl => ?_)
  refine lv_iconst (v := 0) hx hb dX3_howMany_2 (by decide) ?_
  refine lv_istore_n (lv' := [(3, .int 0), (2, .int 0), (0, .ref (A q 0)), (1, .int z)]) hx hb dX3_howMany_3 rfl hl (by decide) rfl (fun ls hl => ?_)
  refine lv_iload_n hx hb dX3_howMany_4 rfl (lv_at hl 0 rfl) ?_
  refine lv_aload_n hx hb dX3_howMany_5 rfl (lv_at hl 2 rfl) ?_
  refine ti_get (ci := 3) (k := 0) (N := 17) (T := TX3) (v := .ref (A t 0)) C hw iw_3 rfl hq (by decide) (by decide) fl_X3_45 rfl (ti_Tv hT) dX3_howMany_6 ?_
  refine ti_get (ci := 8) (k := 4) (N := 12) (T := TX8) C hw iw_8 rfl ht (by decide) (by decide) fl_X3_78 rfl rfl dX3_howMany_9 ?_
  refine ti_top (y := 0) hm ?_
  refine lv_icmp_ge (tgt := 34) hx hb dX3_howMany_12 (by decide) (fun c_12 => ?_) (fun c => absurd (by decide) c)
  refine lv_iload_n hx hb dX3_howMany_34 rfl (lv_at hl 1 rfl) ?_
  exact hQ _ _ _ _ _ _ hw rfl (⟨rfl, rfl⟩) dX3_howMany_35
set_option maxHeartbeats 4000000 in
set_option maxRecDepth 100000 in
theorem k_X3_allCoin (l : Launch) (D : va_G) (A : Nat → Nat → Nat) (cy : Nat → ClassId) (hJ : ti_inj ti_LT A) (M : ti_M) (q t : Nat) (hq : ti_ob ti_LT q 3) (ht : ti_ob ti_LT t 8) (hT : tT M q 0 = some t) (hm : tI M t 4 = 0) : ti_Ki l yX3_allCoin cX3_allCoin 3 (some .int) 0 ti_LT D A cy M [.ref (A q 0)] (fun r M2 => M2 = M ∧ r = 0) := by
  refine ti_eI yp_X3_allCoin hJ ti_LT_nd (Nat.le_of_ble_eq_true rfl) ?_
  intro p e s m args below meth c Q H0 C hQ hw ls hl
  have hx := C.1
  have hb := C.2.1
  have hl : lv_has ls 3 [(0, .ref (A q 0))] := hl
  refine lv_iconst (v := 0) hx hb dX3_allCoin_0 (by decide) ?_
  refine lv_istore_n (lv' := [(1, .int 0), (0, .ref (A q 0))]) hx hb dX3_allCoin_1 rfl hl (by decide) rfl (fun ls hl => ?_)
  refine lv_iconst (v := 0) hx hb dX3_allCoin_2 (by decide) ?_
  refine lv_istore_n (lv' := [(2, .int 0), (1, .int 0), (0, .ref (A q 0))]) hx hb dX3_allCoin_3 rfl hl (by decide) rfl (fun ls hl => ?_)
  refine lv_iload_n hx hb dX3_allCoin_4 rfl (lv_at hl 0 rfl) ?_
  refine lv_aload_n hx hb dX3_allCoin_5 rfl (lv_at hl 2 rfl) ?_
  refine ti_get (ci := 3) (k := 0) (N := 17) (T := TX3) (v := .ref (A t 0)) C hw iw_3 rfl hq (by decide) (by decide) fl_X3_45 rfl (ti_Tv hT) dX3_allCoin_6 ?_
  refine ti_get (ci := 8) (k := 4) (N := 12) (T := TX8) C hw iw_8 rfl ht (by decide) (by decide) fl_X3_78 rfl rfl dX3_allCoin_9 ?_
  refine ti_top (y := 0) hm ?_
  refine lv_icmp_ge (tgt := 30) hx hb dX3_allCoin_12 (by decide) (fun c_12 => ?_) (fun c => absurd (by decide) c)
  refine lv_iload_n hx hb dX3_allCoin_30 rfl (lv_at hl 1 rfl) ?_
  exact hQ _ _ _ _ _ _ hw rfl (⟨rfl, rfl⟩) dX3_allCoin_31
set_option maxHeartbeats 4000000 in
set_option maxRecDepth 100000 in
theorem k_X3_allCoughs (l : Launch) (D : va_G) (A : Nat → Nat → Nat) (cy : Nat → ClassId) (hJ : ti_inj ti_LT A) (M : ti_M) (q t : Nat) (hq : ti_ob ti_LT q 3) (ht : ti_ob ti_LT t 8) (hT : tT M q 0 = some t) (hm : tI M t 4 = 0) : ti_Ki l yX3_allCoughs cX3_allCoughs 3 (some .int) 0 ti_LT D A cy M [.ref (A q 0)] (fun r M2 => M2 = M ∧ r = 0) := by
  refine ti_eI yp_X3_allCoughs hJ ti_LT_nd (Nat.le_of_ble_eq_true rfl) ?_
  intro p e s m args below meth c Q H0 C hQ hw ls hl
  have hx := C.1
  have hb := C.2.1
  have hl : lv_has ls 3 [(0, .ref (A q 0))] := hl
  refine lv_iconst (v := 0) hx hb dX3_allCoughs_0 (by decide) ?_
  refine lv_istore_n (lv' := [(1, .int 0), (0, .ref (A q 0))]) hx hb dX3_allCoughs_1 rfl hl (by decide) rfl (fun ls hl => ?_)
  refine lv_iconst (v := 0) hx hb dX3_allCoughs_2 (by decide) ?_
  refine lv_istore_n (lv' := [(2, .int 0), (1, .int 0), (0, .ref (A q 0))]) hx hb dX3_allCoughs_3 rfl hl (by decide) rfl (fun ls hl => ?_)
  refine lv_iload_n hx hb dX3_allCoughs_4 rfl (lv_at hl 0 rfl) ?_
  refine lv_aload_n hx hb dX3_allCoughs_5 rfl (lv_at hl 2 rfl) ?_
  refine ti_get (ci := 3) (k := 0) (N := 17) (T := TX3) (v := .ref (A t 0)) C hw iw_3 rfl hq (by decide) (by decide) fl_X3_45 rfl (ti_Tv hT) dX3_allCoughs_6 ?_
  refine ti_get (ci := 8) (k := 4) (N := 12) (T := TX8) C hw iw_8 rfl ht (by decide) (by decide) fl_X3_78 rfl rfl dX3_allCoughs_9 ?_
  refine ti_top (y := 0) hm ?_
  refine lv_icmp_ge (tgt := 30) hx hb dX3_allCoughs_12 (by decide) (fun c_12 => ?_) (fun c => absurd (by decide) c)
  refine lv_iload_n hx hb dX3_allCoughs_30 rfl (lv_at hl 1 rfl) ?_
  exact hQ _ _ _ _ _ _ hw rfl (⟨rfl, rfl⟩) dX3_allCoughs_31
set_option maxHeartbeats 4000000 in
set_option maxRecDepth 100000 in
theorem k_X6_knownBy (l : Launch) (D : va_G) (A : Nat → Nat → Nat) (cy : Nat → ClassId) (hJ : ti_inj ti_LT A) (M : ti_M) (h6 : tI M 50 6 = (-1)) (h5 : tI M 50 5 = 0) : ti_Ki l yX6_knownBy cX6_knownBy 1 (some .int) 0 ti_LT D A cy M [.ref (A 50 0)] (fun r M2 => M2 = M ∧ r = 0) := by
  refine ti_eI yp_X6_knownBy hJ ti_LT_nd (Nat.le_of_ble_eq_true rfl) ?_
  intro p e s m args below meth c Q H0 C hQ hw ls hl
  have hx := C.1
  have hb := C.2.1
  have hl : lv_has ls 1 [(0, .ref (A 50 0))] := hl
  refine lv_aload_n hx hb dX6_knownBy_0 rfl (lv_at hl 0 rfl) ?_
  refine ti_get (ci := 6) (k := 6) (N := 13) (T := TX6) C hw iw_6 rfl ob_50 (by decide) (by decide) fl_X6_31 rfl rfl dX6_knownBy_1 ?_
  refine ti_top (y := (-1)) h6 ?_
  refine lv_iconst (v := (-1)) hx hb dX6_knownBy_4 (by decide) ?_
  refine lv_icmp_ne (tgt := 15) hx hb dX6_knownBy_5 (by decide) (fun c => absurd (by decide) c) (fun c_5 => ?_)
  refine lv_aload_n hx hb dX6_knownBy_8 rfl (lv_at hl 0 rfl) ?_
  refine ti_get (ci := 6) (k := 5) (N := 13) (T := TX6) C hw iw_6 rfl ob_50 (by decide) (by decide) fl_X6_28 rfl rfl dX6_knownBy_9 ?_
  refine ti_top (y := 0) h5 ?_
  refine lv_goto (tgt := 19) hx hb dX6_knownBy_12 (by decide) ?_
  exact hQ _ _ _ _ _ _ hw rfl (⟨rfl, rfl⟩) dX6_knownBy_19
set_option maxHeartbeats 4000000 in
set_option maxRecDepth 100000 in
theorem k_X1_value (l : Launch) (D : va_G) (A : Nat → Nat → Nat) (cy : Nat → ClassId) (hJ : ti_inj ti_LT A) (M : ti_M) (lw q : Nat) (pl ps : Int32) (hw1 : ti_ob ti_LT lw 1) (hq : ti_ob ti_LT q 3) (hs : tI M q 3 = 0) : ti_Kl l yX1_value cX1_value 10 (some .long) 1 ti_LT D A cy M [.ref (A lw 0), .ref (A q 0), .int pl, .int ps] (fun r M2 => M2 = M ∧ r = (-9223372036854775808)) := by
  refine ti_eL yp_X1_value hJ ti_LT_nd (Nat.le_of_ble_eq_true rfl) ?_
  intro p e s m args below meth c Q H0 C hQ hw ls hl
  have hx := C.1
  have hb := C.2.1
  have hl : lv_has ls 10 [(0, .ref (A lw 0)), (1, .ref (A q 0)), (2, .int pl), (3, .int ps)] := hl
  refine lv_aload_n hx hb dX1_value_0 rfl (lv_at hl 1 rfl) ?_
  refine lv_iload_n hx hb dX1_value_1 rfl (lv_at hl 2 rfl) ?_
  refine ti_callVi (ci := 3) (av := [.int pl]) C hw (k_X3_manAt l D A cy hJ _ q pl hq hs) ⟨ml_X1_28, ym_X3_manAt, yv_X3_manAt, yi_X3_manAt, yc_X3_manAt⟩ yd_X3_manAt hq (by decide) rfl rfl hl.1 (Nat.le_of_ble_eq_true rfl) ⟨by decide, by decide⟩ ⟨Nat.zero_le _, Nat.zero_le _⟩ dX1_value_2 (fun r_1 M_2 H locs hp_2 hw => ?_)
  obtain ⟨hm, rfl⟩ := hp_2
  have hw := hw.to hm
  refine lv_istore (lv' := [(4, .int (-2)), (0, .ref (A lw 0)), (1, .ref (A q 0)), (2, .int pl), (3, .int ps)]) hx hb dX1_value_5 hl (by decide) rfl (fun ls hl => ?_)
  refine lv_iload hx hb dX1_value_7 (lv_at hl 0 rfl) ?_
  refine lv_if_lt (tgt := 19) hx hb dX1_value_9 (by decide) (fun c_9 => ?_) (fun c => absurd (by decide) c)
  refine lv_ldc2 (v := (-9223372036854775808)) hx hb C.2.2.2.1 (C.2.2.1 _ cn_X1_34) dX1_value_19 ?_
  exact hQ _ _ _ _ _ _ hw (⟨rfl, rfl⟩) dX1_value_22
def pf_fault (what : Int32) : Int32 := if what = 0 then 0 else -1
def pf_stands (z : Int32) : Int32 := if z < 0 then -1 else if 8 ≤ z then -1 else -2
def pf_holder (z : Int32) : Int32 := if z < 0 then -1 else if 3 ≤ z then -1 else -2
def pf_count (z : Int32) : Int32 := if z = 0 then 0 else if z = 1 then 0 else if z = 2 then 0 else if z = 3 then 0 else if z = 4 then 0 else if z = 5 then 0 else if z = 6 then 200 else if z = 7 then 0 else if z = 8 then 0 else if z = 9 then 0 else if z = 10 then 0 else if z = 11 then 0 else if z = 12 then 1 else if z = 13 then 2 else if z = 14 then 0 else -1
set_option maxHeartbeats 4000000 in
set_option maxRecDepth 100000 in
theorem k_X9_fault (l : Launch) (D : va_G) (A : Nat → Nat → Nat) (cy : Nat → ClassId) (hJ : ti_inj ti_LT A) (M : ti_M) (hF : ti_F M) (z : Int32) : ti_Ki l yX9_fault cX9_fault 2 (some .int) 0 ti_LT D A cy M [.ref (A 0 0), .int z] (fun r _ => r = pf_fault z) := by
  refine ti_eI yp_X9_fault hJ ti_LT_nd (Nat.le_of_ble_eq_true rfl) ?_
  intro p e s m args below meth c Q H0 C hQ hw ls hl
  have hx := C.1
  have hb := C.2.1
  have hl : lv_has ls 2 [(0, .ref (A 0 0)), (1, .int z)] := hl
  obtain ⟨f_told, f_spare, f_nt, f_many, f_fault, f_place, f_men, f_knots, f_mut, f_man, f_min, f_size, f_water, f_first, f_steps, f_img, f_sm, f_sk, f_ss, f_sw, f_p0, f_p1, f_p2⟩ := id hF
  refine lv_iload_n hx hb dX9_fault_0 rfl (lv_at hl 1 rfl) ?_
  by_cases s_1_0 : z = 0
  · refine lv_lookup (tgt := 28) hx hb dX9_fault_1 (by decide) (off := 27) (by rw [s_1_0]; decide) (by decide) ?_
    refine lv_aload_n hx hb dX9_fault_28 rfl (lv_at hl 0 rfl) ?_
    refine ti_get (ci := 9) (k := 0) (N := 10) (T := TX9) (v := .ref (A 1 0)) C hw iw_9 rfl ob_0 (by decide) (by decide) fl_X9_12 rfl rfl dX9_fault_29 ?_
    refine ti_get (ci := 4) (k := 4) (N := 6) (T := TX4) C hw iw_4 rfl ob_1 (by decide) (by decide) fl_X9_94 rfl rfl dX9_fault_32 ?_
    refine ti_top (y := 0) f_fault ?_
    exact hQ _ _ _ _ _ _ hw rfl (by unfold pf_fault; (try simp only [Int32.lt_iff_toInt_lt, Int32.le_iff_toInt_le, ← Int32.toInt_inj, ti_l0, ti_l1, ti_l2, ti_l3, ti_l5, ti_l7, ti_l8, ti_l24, ti_l59, ti_l60, ti_l119, ti_l120, ti_lm1, ti_lm2] at s_1_0); (try simp only [Int32.lt_iff_toInt_lt, Int32.le_iff_toInt_le, ← Int32.toInt_inj, ti_l0, ti_l1, ti_l2, ti_l3, ti_l5, ti_l7, ti_l8, ti_l24, ti_l59, ti_l60, ti_l119, ti_l120, ti_lm1, ti_lm2]); (repeat' split) <;> first | rfl | omega) dX9_fault_35
  by_cases s_1_1 : z = 1
  · refine lv_lookup (tgt := 36) hx hb dX9_fault_1 (by decide) (off := 35) (by rw [s_1_1]; decide) (by decide) ?_
    refine lv_aload_n hx hb dX9_fault_36 rfl (lv_at hl 0 rfl) ?_
    refine ti_get (ci := 9) (k := 0) (N := 10) (T := TX9) (v := .ref (A 1 0)) C hw iw_9 rfl ob_0 (by decide) (by decide) fl_X9_12 rfl rfl dX9_fault_37 ?_
    refine ti_get (ci := 4) (k := 5) (N := 6) (T := TX4) C hw iw_4 rfl ob_1 (by decide) (by decide) fl_X9_97 rfl rfl dX9_fault_40 ?_
    refine ti_top (y := (-1)) f_place ?_
    exact hQ _ _ _ _ _ _ hw rfl (by unfold pf_fault; (try simp only [Int32.lt_iff_toInt_lt, Int32.le_iff_toInt_le, ← Int32.toInt_inj, ti_l0, ti_l1, ti_l2, ti_l3, ti_l5, ti_l7, ti_l8, ti_l24, ti_l59, ti_l60, ti_l119, ti_l120, ti_lm1, ti_lm2] at s_1_0); (try simp only [Int32.lt_iff_toInt_lt, Int32.le_iff_toInt_le, ← Int32.toInt_inj, ti_l0, ti_l1, ti_l2, ti_l3, ti_l5, ti_l7, ti_l8, ti_l24, ti_l59, ti_l60, ti_l119, ti_l120, ti_lm1, ti_lm2] at s_1_1); (try simp only [Int32.lt_iff_toInt_lt, Int32.le_iff_toInt_le, ← Int32.toInt_inj, ti_l0, ti_l1, ti_l2, ti_l3, ti_l5, ti_l7, ti_l8, ti_l24, ti_l59, ti_l60, ti_l119, ti_l120, ti_lm1, ti_lm2]); (repeat' split) <;> first | rfl | omega) dX9_fault_43
  refine lv_lookup (tgt := 44) hx hb dX9_fault_1 (by decide) (off := 43) (ti_lk _ z.toInt _ (by intro q hq; simp only [List.mem_cons, List.not_mem_nil, or_false] at hq; rcases hq with rfl | rfl <;> first | exact ti_nev 0 s_1_0 (by decide) | exact ti_nev 1 s_1_1 (by decide))) (by decide) ?_
  refine lv_iconst (v := (-1)) hx hb dX9_fault_44 (by decide) ?_
  exact hQ _ _ _ _ _ _ hw rfl (by unfold pf_fault; (try simp only [Int32.lt_iff_toInt_lt, Int32.le_iff_toInt_le, ← Int32.toInt_inj, ti_l0, ti_l1, ti_l2, ti_l3, ti_l5, ti_l7, ti_l8, ti_l24, ti_l59, ti_l60, ti_l119, ti_l120, ti_lm1, ti_lm2] at s_1_0); (try simp only [Int32.lt_iff_toInt_lt, Int32.le_iff_toInt_le, ← Int32.toInt_inj, ti_l0, ti_l1, ti_l2, ti_l3, ti_l5, ti_l7, ti_l8, ti_l24, ti_l59, ti_l60, ti_l119, ti_l120, ti_lm1, ti_lm2] at s_1_1); (try simp only [Int32.lt_iff_toInt_lt, Int32.le_iff_toInt_le, ← Int32.toInt_inj, ti_l0, ti_l1, ti_l2, ti_l3, ti_l5, ti_l7, ti_l8, ti_l24, ti_l59, ti_l60, ti_l119, ti_l120, ti_lm1, ti_lm2]); (repeat' split) <;> first | rfl | omega) dX9_fault_45
set_option maxHeartbeats 4000000 in
set_option maxRecDepth 100000 in
theorem k_X9_named (l : Launch) (D : va_G) (A : Nat → Nat → Nat) (cy : Nat → ClassId) (hJ : ti_inj ti_LT A) (M : ti_M) (hF : ti_F M) (z : Int32) : ti_Ki l yX9_named cX9_named 2 (some .int) 1 ti_LT D A cy M [.ref (A 0 0), .int z] (fun r _ => r = (-1)) := by
  refine ti_eI yp_X9_named hJ ti_LT_nd (Nat.le_of_ble_eq_true rfl) ?_
  intro p e s m args below meth c Q H0 C hQ hw ls hl
  have hx := C.1
  have hb := C.2.1
  have hl : lv_has ls 2 [(0, .ref (A 0 0)), (1, .int z)] := hl
  obtain ⟨f_told, f_spare, f_nt, f_many, f_fault, f_place, f_men, f_knots, f_mut, f_man, f_min, f_size, f_water, f_first, f_steps, f_img, f_sm, f_sk, f_ss, f_sw, f_p0, f_p1, f_p2⟩ := id hF
  refine lv_aload_n hx hb dX9_named_0 rfl (lv_at hl 0 rfl) ?_
  refine ti_get (ci := 9) (k := 1) (N := 10) (T := TX9) (v := .ref (A 3 0)) C hw iw_9 rfl ob_0 (by decide) (by decide) fl_X9_19 rfl (ti_Tv f_told) dX9_named_1 ?_
  refine lv_iload_n hx hb dX9_named_4 rfl (lv_at hl 1 rfl) ?_
  refine ti_callVi (ci := 8) (av := [.int z]) C hw (k_X8_find l D A cy hJ _ 3 z ob_3 f_men) ⟨ml_X9_100, ym_X8_find, yv_X8_find, yi_X8_find, yc_X8_find⟩ yd_X8_find ob_3 (by decide) rfl rfl hl.1 (Nat.le_of_ble_eq_true rfl) ⟨by decide, by decide⟩ ⟨Nat.zero_le _, Nat.zero_le _⟩ dX9_named_5 (fun r_1 M_2 H locs hp_2 hw => ?_)
  obtain ⟨hm, rfl⟩ := hp_2
  have hw := hw.to hm
  exact hQ _ _ _ _ _ _ hw rfl rfl dX9_named_8
set_option maxHeartbeats 4000000 in
set_option maxRecDepth 100000 in
theorem k_X9_stands (l : Launch) (D : va_G) (A : Nat → Nat → Nat) (cy : Nat → ClassId) (hJ : ti_inj ti_LT A) (M : ti_M) (hF : ti_F M) (z : Int32) : ti_Ki l yX9_stands cX9_stands 2 (some .int) 1 ti_LT D A cy M [.ref (A 0 0), .int z] (fun r _ => r = pf_stands z) := by
  refine ti_eI yp_X9_stands hJ ti_LT_nd (Nat.le_of_ble_eq_true rfl) ?_
  intro p e s m args below meth c Q H0 C hQ hw ls hl
  have hx := C.1
  have hb := C.2.1
  have hl : lv_has ls 2 [(0, .ref (A 0 0)), (1, .int z)] := hl
  obtain ⟨f_told, f_spare, f_nt, f_many, f_fault, f_place, f_men, f_knots, f_mut, f_man, f_min, f_size, f_water, f_first, f_steps, f_img, f_sm, f_sk, f_ss, f_sw, f_p0, f_p1, f_p2⟩ := id hF
  refine lv_aload_n hx hb dX9_stands_0 rfl (lv_at hl 0 rfl) ?_
  refine lv_iload_n hx hb dX9_stands_1 rfl (lv_at hl 1 rfl) ?_
  refine ti_callVi (ci := 9) (av := [.int z]) C hw (k_X9_isPlace l D A cy hJ _ z) ⟨ml_X9_159, ym_X9_isPlace, yv_X9_isPlace, yi_X9_isPlace, yc_X9_isPlace⟩ yd_X9_isPlace ob_0 (by decide) rfl rfl hl.1 (Nat.le_of_ble_eq_true rfl) ⟨by decide, by decide⟩ ⟨Nat.zero_le _, Nat.zero_le _⟩ dX9_stands_2 (fun r_1 M_2 H locs hp_2 hw => ?_)
  obtain ⟨hm, hz⟩ := hp_2
  have hw := hw.to hm
  rcases hz with ⟨rfl, g_3, g_4⟩ | ⟨rfl, g_5⟩
  · refine lv_if_eq (tgt := 19) hx hb dX9_stands_5 (by decide) (fun c => absurd c (by decide)) (fun c_5 => ?_)
    refine lv_aload_n hx hb dX9_stands_8 rfl (lv_at hl 0 rfl) ?_
    refine ti_get (ci := 9) (k := 3) (N := 10) (T := TX9) (v := .ref (A 27 0)) C hw iw_9 rfl ob_0 (by decide) (by decide) fl_X9_29 rfl rfl dX9_stands_9 ?_
    refine lv_iload_n hx hb dX9_stands_12 rfl (lv_at hl 1 rfl) ?_
    refine ti_callVi (ci := 3) (av := [.int z]) C hw (k_X3_manAt l D A cy hJ _ 27 z ob_27 f_size) ⟨ml_X9_162, ym_X3_manAt, yv_X3_manAt, yi_X3_manAt, yc_X3_manAt⟩ yd_X3_manAt ob_27 (by decide) rfl rfl hl.1 (Nat.le_of_ble_eq_true rfl) ⟨by decide, by decide⟩ ⟨Nat.zero_le _, Nat.zero_le _⟩ dX9_stands_13 (fun r_6 M_7 H locs hp_7 hw => ?_)
    obtain ⟨hm, rfl⟩ := hp_7
    have hw := hw.to hm
    refine lv_goto (tgt := 20) hx hb dX9_stands_16 (by decide) ?_
    exact hQ _ _ _ _ _ _ hw rfl (by unfold pf_stands; (try simp only [Int32.lt_iff_toInt_lt, Int32.le_iff_toInt_le, ← Int32.toInt_inj, ti_l0, ti_l1, ti_l2, ti_l3, ti_l5, ti_l7, ti_l8, ti_l24, ti_l59, ti_l60, ti_l119, ti_l120, ti_lm1, ti_lm2] at g_3); (try simp only [Int32.lt_iff_toInt_lt, Int32.le_iff_toInt_le, ← Int32.toInt_inj, ti_l0, ti_l1, ti_l2, ti_l3, ti_l5, ti_l7, ti_l8, ti_l24, ti_l59, ti_l60, ti_l119, ti_l120, ti_lm1, ti_lm2] at g_4); (try simp only [Int32.lt_iff_toInt_lt, Int32.le_iff_toInt_le, ← Int32.toInt_inj, ti_l0, ti_l1, ti_l2, ti_l3, ti_l5, ti_l7, ti_l8, ti_l24, ti_l59, ti_l60, ti_l119, ti_l120, ti_lm1, ti_lm2] at c_5); (try simp only [Int32.lt_iff_toInt_lt, Int32.le_iff_toInt_le, ← Int32.toInt_inj, ti_l0, ti_l1, ti_l2, ti_l3, ti_l5, ti_l7, ti_l8, ti_l24, ti_l59, ti_l60, ti_l119, ti_l120, ti_lm1, ti_lm2]); (repeat' split) <;> first | rfl | omega) dX9_stands_20
  · refine lv_if_eq (tgt := 19) hx hb dX9_stands_5 (by decide) (fun c_5 => ?_) (fun c => absurd (by decide) c)
    refine lv_iconst (v := (-1)) hx hb dX9_stands_19 (by decide) ?_
    exact hQ _ _ _ _ _ _ hw rfl (by unfold pf_stands; (try simp only [Int32.lt_iff_toInt_lt, Int32.le_iff_toInt_le, ← Int32.toInt_inj, ti_l0, ti_l1, ti_l2, ti_l3, ti_l5, ti_l7, ti_l8, ti_l24, ti_l59, ti_l60, ti_l119, ti_l120, ti_lm1, ti_lm2] at g_5); (try simp only [Int32.lt_iff_toInt_lt, Int32.le_iff_toInt_le, ← Int32.toInt_inj, ti_l0, ti_l1, ti_l2, ti_l3, ti_l5, ti_l7, ti_l8, ti_l24, ti_l59, ti_l60, ti_l119, ti_l120, ti_lm1, ti_lm2] at c_5); (try simp only [Int32.lt_iff_toInt_lt, Int32.le_iff_toInt_le, ← Int32.toInt_inj, ti_l0, ti_l1, ti_l2, ti_l3, ti_l5, ti_l7, ti_l8, ti_l24, ti_l59, ti_l60, ti_l119, ti_l120, ti_lm1, ti_lm2]); (repeat' split) <;> first | rfl | omega) dX9_stands_20
set_option maxHeartbeats 4000000 in
set_option maxRecDepth 100000 in
theorem k_X9_holder (l : Launch) (D : va_G) (A : Nat → Nat → Nat) (cy : Nat → ClassId) (hJ : ti_inj ti_LT A) (M : ti_M) (hF : ti_F M) (z : Int32) : ti_Ki l yX9_holder cX9_holder 2 (some .int) 1 ti_LT D A cy M [.ref (A 0 0), .int z] (fun r _ => r = pf_holder z) := by
  refine ti_eI yp_X9_holder hJ ti_LT_nd (Nat.le_of_ble_eq_true rfl) ?_
  intro p e s m args below meth c Q H0 C hQ hw ls hl
  have hx := C.1
  have hb := C.2.1
  have hl : lv_has ls 2 [(0, .ref (A 0 0)), (1, .int z)] := hl
  obtain ⟨f_told, f_spare, f_nt, f_many, f_fault, f_place, f_men, f_knots, f_mut, f_man, f_min, f_size, f_water, f_first, f_steps, f_img, f_sm, f_sk, f_ss, f_sw, f_p0, f_p1, f_p2⟩ := id hF
  refine lv_aload_n hx hb dX9_holder_0 rfl (lv_at hl 0 rfl) ?_
  refine lv_iload_n hx hb dX9_holder_1 rfl (lv_at hl 1 rfl) ?_
  refine ti_callVi (ci := 9) (av := [.int z]) C hw (k_X9_isPower l D A cy hJ _ z) ⟨ml_X9_165, ym_X9_isPower, yv_X9_isPower, yi_X9_isPower, yc_X9_isPower⟩ yd_X9_isPower ob_0 (by decide) rfl rfl hl.1 (Nat.le_of_ble_eq_true rfl) ⟨by decide, by decide⟩ ⟨Nat.zero_le _, Nat.zero_le _⟩ dX9_holder_2 (fun r_1 M_2 H locs hp_2 hw => ?_)
  obtain ⟨hm, hz⟩ := hp_2
  have hw := hw.to hm
  rcases hz with ⟨rfl, g_3, g_4⟩ | ⟨rfl, g_5⟩
  · refine lv_if_eq (tgt := 27) hx hb dX9_holder_5 (by decide) (fun c => absurd c (by decide)) (fun c_5 => ?_)
    refine lv_aload_n hx hb dX9_holder_8 rfl (lv_at hl 0 rfl) ?_
    refine ti_get (ci := 9) (k := 3) (N := 10) (T := TX9) (v := .ref (A 27 0)) C hw iw_9 rfl ob_0 (by decide) (by decide) fl_X9_29 rfl rfl dX9_holder_9 ?_
    refine lv_aload_n hx hb dX9_holder_12 rfl (lv_at hl 0 rfl) ?_
    refine ti_get (ci := 9) (k := 3) (N := 10) (T := TX9) (v := .ref (A 27 0)) C hw iw_9 rfl ob_0 (by decide) (by decide) fl_X9_29 rfl rfl dX9_holder_13 ?_
    refine ti_get (ci := 3) (k := 7) (N := 17) (T := TX3) (v := .ref (A 27 8)) C hw iw_3 rfl ob_27 (by decide) (by decide) fl_X9_168 rfl rfl dX9_holder_16 ?_
    refine lv_iload_n hx hb dX9_holder_19 rfl (lv_at hl 1 rfl) ?_
    refine ti_iald (ci := 3) (k := 7) (n := 3) C hw ob_27 (by decide) (fun _ _ => rfl) (by rw [vp_in_iff]; (try simp only [Int32.lt_iff_toInt_lt, Int32.le_iff_toInt_le, ← Int32.toInt_inj, ti_l0, ti_l1, ti_l2, ti_l3, ti_l5, ti_l7, ti_l8, ti_l24, ti_l59, ti_l60, ti_l119, ti_l120, ti_lm1, ti_lm2] at *); omega) dX9_holder_20 ?_
    refine lv_topi (fun x_6 ex_6 => ?_)
    refine ti_callVi (ci := 3) (av := [.int x_6]) C hw (k_X3_manAt l D A cy hJ _ 27 x_6 ob_27 f_size) ⟨ml_X9_162, ym_X3_manAt, yv_X3_manAt, yi_X3_manAt, yc_X3_manAt⟩ yd_X3_manAt ob_27 (by decide) rfl rfl hl.1 (Nat.le_of_ble_eq_true rfl) ⟨by decide, by decide⟩ ⟨Nat.zero_le _, Nat.zero_le _⟩ dX9_holder_21 (fun r_7 M_8 H locs hp_8 hw => ?_)
    obtain ⟨hm, rfl⟩ := hp_8
    have hw := hw.to hm
    refine lv_goto (tgt := 28) hx hb dX9_holder_24 (by decide) ?_
    exact hQ _ _ _ _ _ _ hw rfl (by unfold pf_holder; (try simp only [Int32.lt_iff_toInt_lt, Int32.le_iff_toInt_le, ← Int32.toInt_inj, ti_l0, ti_l1, ti_l2, ti_l3, ti_l5, ti_l7, ti_l8, ti_l24, ti_l59, ti_l60, ti_l119, ti_l120, ti_lm1, ti_lm2] at g_3); (try simp only [Int32.lt_iff_toInt_lt, Int32.le_iff_toInt_le, ← Int32.toInt_inj, ti_l0, ti_l1, ti_l2, ti_l3, ti_l5, ti_l7, ti_l8, ti_l24, ti_l59, ti_l60, ti_l119, ti_l120, ti_lm1, ti_lm2] at g_4); (try simp only [Int32.lt_iff_toInt_lt, Int32.le_iff_toInt_le, ← Int32.toInt_inj, ti_l0, ti_l1, ti_l2, ti_l3, ti_l5, ti_l7, ti_l8, ti_l24, ti_l59, ti_l60, ti_l119, ti_l120, ti_lm1, ti_lm2] at c_5); (try simp only [Int32.lt_iff_toInt_lt, Int32.le_iff_toInt_le, ← Int32.toInt_inj, ti_l0, ti_l1, ti_l2, ti_l3, ti_l5, ti_l7, ti_l8, ti_l24, ti_l59, ti_l60, ti_l119, ti_l120, ti_lm1, ti_lm2]); (repeat' split) <;> first | rfl | omega) dX9_holder_28
  · refine lv_if_eq (tgt := 27) hx hb dX9_holder_5 (by decide) (fun c_5 => ?_) (fun c => absurd (by decide) c)
    refine lv_iconst (v := (-1)) hx hb dX9_holder_27 (by decide) ?_
    exact hQ _ _ _ _ _ _ hw rfl (by unfold pf_holder; (try simp only [Int32.lt_iff_toInt_lt, Int32.le_iff_toInt_le, ← Int32.toInt_inj, ti_l0, ti_l1, ti_l2, ti_l3, ti_l5, ti_l7, ti_l8, ti_l24, ti_l59, ti_l60, ti_l119, ti_l120, ti_lm1, ti_lm2] at g_5); (try simp only [Int32.lt_iff_toInt_lt, Int32.le_iff_toInt_le, ← Int32.toInt_inj, ti_l0, ti_l1, ti_l2, ti_l3, ti_l5, ti_l7, ti_l8, ti_l24, ti_l59, ti_l60, ti_l119, ti_l120, ti_lm1, ti_lm2] at c_5); (try simp only [Int32.lt_iff_toInt_lt, Int32.le_iff_toInt_le, ← Int32.toInt_inj, ti_l0, ti_l1, ti_l2, ti_l3, ti_l5, ti_l7, ti_l8, ti_l24, ti_l59, ti_l60, ti_l119, ti_l120, ti_lm1, ti_lm2]); (repeat' split) <;> first | rfl | omega) dX9_holder_28
set_option maxHeartbeats 4000000 in
set_option maxRecDepth 100000 in
theorem k_X9_join (l : Launch) (D : va_G) (A : Nat → Nat → Nat) (cy : Nat → ClassId) (hJ : ti_inj ti_LT A) (M : ti_M) (hF : ti_F M) (z : Int32) : ti_Ki l yX9_join cX9_join 2 (some .int) 3 ti_LT D A cy M [.ref (A 0 0), .int z] (fun r _ => r = (-1)) := by
  refine ti_eI yp_X9_join hJ ti_LT_nd (Nat.le_of_ble_eq_true rfl) ?_
  intro p e s m args below meth c Q H0 C hQ hw ls hl
  have hx := C.1
  have hb := C.2.1
  have hl : lv_has ls 2 [(0, .ref (A 0 0)), (1, .int z)] := hl
  obtain ⟨f_told, f_spare, f_nt, f_many, f_fault, f_place, f_men, f_knots, f_mut, f_man, f_min, f_size, f_water, f_first, f_steps, f_img, f_sm, f_sk, f_ss, f_sw, f_p0, f_p1, f_p2⟩ := id hF
  refine lv_aload_n hx hb dX9_join_0 rfl (lv_at hl 0 rfl) ?_
  refine lv_iload_n hx hb dX9_join_1 rfl (lv_at hl 1 rfl) ?_
  refine ti_callVi (ci := 9) (av := [.int z]) C hw (k_X9_isToCome l D A cy hJ _ hF z) ⟨ml_X9_195, ym_X9_isToCome, yv_X9_isToCome, yi_X9_isToCome, yc_X9_isToCome⟩ yd_X9_isToCome ob_0 (by decide) rfl rfl hl.1 (Nat.le_of_ble_eq_true rfl) ⟨by decide, by decide⟩ ⟨Nat.zero_le _, Nat.zero_le _⟩ dX9_join_2 (fun r_1 M_2 H locs hp_2 hw => ?_)
  obtain ⟨hm, rfl⟩ := hp_2
  have hw := hw.to hm
  refine lv_if_ne (tgt := 10) hx hb dX9_join_5 (by decide) (fun c => absurd (by decide) c) (fun c_5 => ?_)
  refine lv_iconst (v := (-1)) hx hb dX9_join_8 (by decide) ?_
  exact hQ _ _ _ _ _ _ hw rfl rfl dX9_join_9
set_option maxHeartbeats 4000000 in
set_option maxRecDepth 100000 in
theorem k_X9_out (l : Launch) (D : va_G) (A : Nat → Nat → Nat) (cy : Nat → ClassId) (hJ : ti_inj ti_LT A) (M : ti_M) (hF : ti_F M) (z : Int32) : ti_Ki l yX9_out cX9_out 2 (some .boolean) 3 ti_LT D A cy M [.ref (A 0 0), .int z] (fun r _ => r = 0) := by
  refine ti_eI yp_X9_out hJ ti_LT_nd (Nat.le_of_ble_eq_true rfl) ?_
  intro p e s m args below meth c Q H0 C hQ hw ls hl
  have hx := C.1
  have hb := C.2.1
  have hl : lv_has ls 2 [(0, .ref (A 0 0)), (1, .int z)] := hl
  obtain ⟨f_told, f_spare, f_nt, f_many, f_fault, f_place, f_men, f_knots, f_mut, f_man, f_min, f_size, f_water, f_first, f_steps, f_img, f_sm, f_sk, f_ss, f_sw, f_p0, f_p1, f_p2⟩ := id hF
  refine lv_aload_n hx hb dX9_out_0 rfl (lv_at hl 0 rfl) ?_
  refine lv_iload_n hx hb dX9_out_1 rfl (lv_at hl 1 rfl) ?_
  refine ti_callVi (ci := 9) (av := [.int z]) C hw (k_X9_isInQueue l D A cy hJ _ hF z) ⟨ml_X9_205, ym_X9_isInQueue, yv_X9_isInQueue, yi_X9_isInQueue, yc_X9_isInQueue⟩ yd_X9_isInQueue ob_0 (by decide) rfl rfl hl.1 (Nat.le_of_ble_eq_true rfl) ⟨by decide, by decide⟩ ⟨Nat.zero_le _, Nat.zero_le _⟩ dX9_out_2 (fun r_1 M_2 H locs hp_2 hw => ?_)
  obtain ⟨hm, rfl⟩ := hp_2
  have hw := hw.to hm
  refine lv_if_ne (tgt := 10) hx hb dX9_out_5 (by decide) (fun c => absurd (by decide) c) (fun c_5 => ?_)
  refine lv_iconst (v := 0) hx hb dX9_out_8 (by decide) ?_
  exact hQ _ _ _ _ _ _ hw rfl rfl dX9_out_9
set_option maxHeartbeats 4000000 in
set_option maxRecDepth 100000 in
theorem k_X9_swap (l : Launch) (D : va_G) (A : Nat → Nat → Nat) (cy : Nat → ClassId) (hJ : ti_inj ti_LT A) (M : ti_M) (hF : ti_F M) (z : Int32) (z2 : Int32) (z3 : Int32) : ti_Ki l yX9_swap cX9_swap 4 (some .boolean) 3 ti_LT D A cy M [.ref (A 0 0), .int z, .int z2, .int z3] (fun r _ => r = 0) := by
  refine ti_eI yp_X9_swap hJ ti_LT_nd (Nat.le_of_ble_eq_true rfl) ?_
  intro p e s m args below meth c Q H0 C hQ hw ls hl
  have hx := C.1
  have hb := C.2.1
  have hl : lv_has ls 4 [(0, .ref (A 0 0)), (1, .int z), (2, .int z2), (3, .int z3)] := hl
  obtain ⟨f_told, f_spare, f_nt, f_many, f_fault, f_place, f_men, f_knots, f_mut, f_man, f_min, f_size, f_water, f_first, f_steps, f_img, f_sm, f_sk, f_ss, f_sw, f_p0, f_p1, f_p2⟩ := id hF
  refine lv_aload_n hx hb dX9_swap_0 rfl (lv_at hl 0 rfl) ?_
  refine lv_iload_n hx hb dX9_swap_1 rfl (lv_at hl 1 rfl) ?_
  refine ti_callVi (ci := 9) (av := [.int z]) C hw (k_X9_isInQueue l D A cy hJ _ hF z) ⟨ml_X9_205, ym_X9_isInQueue, yv_X9_isInQueue, yi_X9_isInQueue, yc_X9_isInQueue⟩ yd_X9_isInQueue ob_0 (by decide) rfl rfl hl.1 (Nat.le_of_ble_eq_true rfl) ⟨by decide, by decide⟩ ⟨Nat.zero_le _, Nat.zero_le _⟩ dX9_swap_2 (fun r_1 M_2 H locs hp_2 hw => ?_)
  obtain ⟨hm, rfl⟩ := hp_2
  have hw := hw.to hm
  refine lv_if_eq (tgt := 21) hx hb dX9_swap_5 (by decide) (fun c_5 => ?_) (fun c => absurd (by decide) c)
  refine lv_iconst (v := 0) hx hb dX9_swap_21 (by decide) ?_
  exact hQ _ _ _ _ _ _ hw rfl rfl dX9_swap_22
set_option maxHeartbeats 4000000 in
set_option maxRecDepth 100000 in
theorem k_X9_kneel (l : Launch) (D : va_G) (A : Nat → Nat → Nat) (cy : Nat → ClassId) (hJ : ti_inj ti_LT A) (M : ti_M) (hF : ti_F M) (z : Int32) (z2 : Int32) : ti_Ki l yX9_kneel cX9_kneel 3 (some .boolean) 3 ti_LT D A cy M [.ref (A 0 0), .int z, .int z2] (fun r _ => r = 0) := by
  refine ti_eI yp_X9_kneel hJ ti_LT_nd (Nat.le_of_ble_eq_true rfl) ?_
  intro p e s m args below meth c Q H0 C hQ hw ls hl
  have hx := C.1
  have hb := C.2.1
  have hl : lv_has ls 3 [(0, .ref (A 0 0)), (1, .int z), (2, .int z2)] := hl
  obtain ⟨f_told, f_spare, f_nt, f_many, f_fault, f_place, f_men, f_knots, f_mut, f_man, f_min, f_size, f_water, f_first, f_steps, f_img, f_sm, f_sk, f_ss, f_sw, f_p0, f_p1, f_p2⟩ := id hF
  refine lv_aload_n hx hb dX9_kneel_0 rfl (lv_at hl 0 rfl) ?_
  refine lv_iload_n hx hb dX9_kneel_1 rfl (lv_at hl 1 rfl) ?_
  refine ti_callVi (ci := 9) (av := [.int z]) C hw (k_X9_isInQueue l D A cy hJ _ hF z) ⟨ml_X9_205, ym_X9_isInQueue, yv_X9_isInQueue, yi_X9_isInQueue, yc_X9_isInQueue⟩ yd_X9_isInQueue ob_0 (by decide) rfl rfl hl.1 (Nat.le_of_ble_eq_true rfl) ⟨by decide, by decide⟩ ⟨Nat.zero_le _, Nat.zero_le _⟩ dX9_kneel_2 (fun r_1 M_2 H locs hp_2 hw => ?_)
  obtain ⟨hm, rfl⟩ := hp_2
  have hw := hw.to hm
  refine lv_if_eq (tgt := 19) hx hb dX9_kneel_5 (by decide) (fun c_5 => ?_) (fun c => absurd (by decide) c)
  refine lv_iconst (v := 0) hx hb dX9_kneel_19 (by decide) ?_
  exact hQ _ _ _ _ _ _ hw rfl rfl dX9_kneel_20
set_option maxHeartbeats 4000000 in
set_option maxRecDepth 100000 in
theorem k_X9_cough (l : Launch) (D : va_G) (A : Nat → Nat → Nat) (cy : Nat → ClassId) (hJ : ti_inj ti_LT A) (M : ti_M) (hF : ti_F M) (z : Int32) : ti_Ki l yX9_cough cX9_cough 2 (some .boolean) 3 ti_LT D A cy M [.ref (A 0 0), .int z] (fun r _ => r = 0) := by
  refine ti_eI yp_X9_cough hJ ti_LT_nd (Nat.le_of_ble_eq_true rfl) ?_
  intro p e s m args below meth c Q H0 C hQ hw ls hl
  have hx := C.1
  have hb := C.2.1
  have hl : lv_has ls 2 [(0, .ref (A 0 0)), (1, .int z)] := hl
  obtain ⟨f_told, f_spare, f_nt, f_many, f_fault, f_place, f_men, f_knots, f_mut, f_man, f_min, f_size, f_water, f_first, f_steps, f_img, f_sm, f_sk, f_ss, f_sw, f_p0, f_p1, f_p2⟩ := id hF
  refine lv_aload_n hx hb dX9_cough_0 rfl (lv_at hl 0 rfl) ?_
  refine lv_iload_n hx hb dX9_cough_1 rfl (lv_at hl 1 rfl) ?_
  refine ti_callVi (ci := 9) (av := [.int z]) C hw (k_X9_isInQueue l D A cy hJ _ hF z) ⟨ml_X9_205, ym_X9_isInQueue, yv_X9_isInQueue, yi_X9_isInQueue, yc_X9_isInQueue⟩ yd_X9_isInQueue ob_0 (by decide) rfl rfl hl.1 (Nat.le_of_ble_eq_true rfl) ⟨by decide, by decide⟩ ⟨Nat.zero_le _, Nat.zero_le _⟩ dX9_cough_2 (fun r_1 M_2 H locs hp_2 hw => ?_)
  obtain ⟨hm, rfl⟩ := hp_2
  have hw := hw.to hm
  refine lv_if_eq (tgt := 20) hx hb dX9_cough_5 (by decide) (fun c_5 => ?_) (fun c => absurd (by decide) c)
  refine lv_iconst (v := 0) hx hb dX9_cough_20 (by decide) ?_
  exact hQ _ _ _ _ _ _ hw rfl rfl dX9_cough_21
set_option maxHeartbeats 4000000 in
set_option maxRecDepth 100000 in
theorem k_X9_ruled (l : Launch) (D : va_G) (A : Nat → Nat → Nat) (cy : Nat → ClassId) (hJ : ti_inj ti_LT A) (M : ti_M) (hF : ti_F M) (z : Int32) (z2 : Int32) : ti_Ki l yX9_ruled cX9_ruled 5 (some .int) 3 ti_LT D A cy M [.ref (A 0 0), .int z, .int z2] (fun r _ => r = (-1)) := by
  refine ti_eI yp_X9_ruled hJ ti_LT_nd (Nat.le_of_ble_eq_true rfl) ?_
  intro p e s m args below meth c Q H0 C hQ hw ls hl
  have hx := C.1
  have hb := C.2.1
  have hl : lv_has ls 5 [(0, .ref (A 0 0)), (1, .int z), (2, .int z2)] := hl
  obtain ⟨f_told, f_spare, f_nt, f_many, f_fault, f_place, f_men, f_knots, f_mut, f_man, f_min, f_size, f_water, f_first, f_steps, f_img, f_sm, f_sk, f_ss, f_sw, f_p0, f_p1, f_p2⟩ := id hF
  refine lv_aload_n hx hb dX9_ruled_0 rfl (lv_at hl 0 rfl) ?_
  refine lv_iload_n hx hb dX9_ruled_1 rfl (lv_at hl 1 rfl) ?_
  refine ti_callVi (ci := 9) (av := [.int z]) C hw (k_X9_isMan l D A cy hJ _ hF z) ⟨ml_X9_104, ym_X9_isMan, yv_X9_isMan, yi_X9_isMan, yc_X9_isMan⟩ yd_X9_isMan ob_0 (by decide) rfl rfl hl.1 (Nat.le_of_ble_eq_true rfl) ⟨by decide, by decide⟩ ⟨Nat.zero_le _, Nat.zero_le _⟩ dX9_ruled_2 (fun r_1 M_2 H locs hp_2 hw => ?_)
  obtain ⟨hm, rfl⟩ := hp_2
  have hw := hw.to hm
  refine lv_if_eq (tgt := 16) hx hb dX9_ruled_5 (by decide) (fun c_5 => ?_) (fun c => absurd (by decide) c)
  refine lv_iconst (v := (-1)) hx hb dX9_ruled_16 (by decide) ?_
  exact hQ _ _ _ _ _ _ hw rfl rfl dX9_ruled_17
set_option maxHeartbeats 4000000 in
set_option maxRecDepth 100000 in
theorem k_X9_served (l : Launch) (D : va_G) (A : Nat → Nat → Nat) (cy : Nat → ClassId) (hJ : ti_inj ti_LT A) (M : ti_M) (hF : ti_F M) (z : Int32) : ti_Ki l yX9_served cX9_served 2 (some .int) 3 ti_LT D A cy M [.ref (A 0 0), .int z] (fun r _ => r = (-1)) := by
  refine ti_eI yp_X9_served hJ ti_LT_nd (Nat.le_of_ble_eq_true rfl) ?_
  intro p e s m args below meth c Q H0 C hQ hw ls hl
  have hx := C.1
  have hb := C.2.1
  have hl : lv_has ls 2 [(0, .ref (A 0 0)), (1, .int z)] := hl
  obtain ⟨f_told, f_spare, f_nt, f_many, f_fault, f_place, f_men, f_knots, f_mut, f_man, f_min, f_size, f_water, f_first, f_steps, f_img, f_sm, f_sk, f_ss, f_sw, f_p0, f_p1, f_p2⟩ := id hF
  refine lv_aload_n hx hb dX9_served_0 rfl (lv_at hl 0 rfl) ?_
  refine lv_iload_n hx hb dX9_served_1 rfl (lv_at hl 1 rfl) ?_
  refine ti_callVi (ci := 9) (av := [.int z]) C hw (k_X9_isMan l D A cy hJ _ hF z) ⟨ml_X9_104, ym_X9_isMan, yv_X9_isMan, yi_X9_isMan, yc_X9_isMan⟩ yd_X9_isMan ob_0 (by decide) rfl rfl hl.1 (Nat.le_of_ble_eq_true rfl) ⟨by decide, by decide⟩ ⟨Nat.zero_le _, Nat.zero_le _⟩ dX9_served_2 (fun r_1 M_2 H locs hp_2 hw => ?_)
  obtain ⟨hm, rfl⟩ := hp_2
  have hw := hw.to hm
  refine lv_if_eq (tgt := 23) hx hb dX9_served_5 (by decide) (fun c_5 => ?_) (fun c => absurd (by decide) c)
  refine lv_iconst (v := (-1)) hx hb dX9_served_23 (by decide) ?_
  exact hQ _ _ _ _ _ _ hw rfl rfl dX9_served_24
set_option maxHeartbeats 4000000 in
set_option maxRecDepth 100000 in
theorem k_X9_coming (l : Launch) (D : va_G) (A : Nat → Nat → Nat) (cy : Nat → ClassId) (hJ : ti_inj ti_LT A) (M : ti_M) (hF : ti_F M) (z : Int32) (z2 : Int32) (z3 : Int32) : ti_Ki l yX9_coming cX9_coming 4 (some .int) 3 ti_LT D A cy M [.ref (A 0 0), .int z, .int z2, .int z3] (fun r _ => r = (-1)) := by
  refine ti_eI yp_X9_coming hJ ti_LT_nd (Nat.le_of_ble_eq_true rfl) ?_
  intro p e s m args below meth c Q H0 C hQ hw ls hl
  have hx := C.1
  have hb := C.2.1
  have hl : lv_has ls 4 [(0, .ref (A 0 0)), (1, .int z), (2, .int z2), (3, .int z3)] := hl
  obtain ⟨f_told, f_spare, f_nt, f_many, f_fault, f_place, f_men, f_knots, f_mut, f_man, f_min, f_size, f_water, f_first, f_steps, f_img, f_sm, f_sk, f_ss, f_sw, f_p0, f_p1, f_p2⟩ := id hF
  refine lv_aload_n hx hb dX9_coming_0 rfl (lv_at hl 0 rfl) ?_
  refine lv_iload_n hx hb dX9_coming_1 rfl (lv_at hl 1 rfl) ?_
  refine ti_callVi (ci := 9) (av := [.int z]) C hw (k_X9_isToCome l D A cy hJ _ hF z) ⟨ml_X9_195, ym_X9_isToCome, yv_X9_isToCome, yi_X9_isToCome, yc_X9_isToCome⟩ yd_X9_isToCome ob_0 (by decide) rfl rfl hl.1 (Nat.le_of_ble_eq_true rfl) ⟨by decide, by decide⟩ ⟨Nat.zero_le _, Nat.zero_le _⟩ dX9_coming_2 (fun r_1 M_2 H locs hp_2 hw => ?_)
  obtain ⟨hm, rfl⟩ := hp_2
  have hw := hw.to hm
  refine lv_if_eq (tgt := 33) hx hb dX9_coming_5 (by decide) (fun c_5 => ?_) (fun c => absurd (by decide) c)
  refine lv_iconst (v := (-1)) hx hb dX9_coming_33 (by decide) ?_
  exact hQ _ _ _ _ _ _ hw rfl rfl dX9_coming_34
set_option maxHeartbeats 4000000 in
set_option maxRecDepth 100000 in
theorem k_X9_rests (l : Launch) (D : va_G) (A : Nat → Nat → Nat) (cy : Nat → ClassId) (hJ : ti_inj ti_LT A) (M : ti_M) (hF : ti_F M) (z : Int32) (z2 : Int32) (z3 : Int32) : ti_Ki l yX9_rests cX9_rests 4 (some .int) 3 ti_LT D A cy M [.ref (A 0 0), .int z, .int z2, .int z3] (fun r _ => r = (-1)) := by
  refine ti_eI yp_X9_rests hJ ti_LT_nd (Nat.le_of_ble_eq_true rfl) ?_
  intro p e s m args below meth c Q H0 C hQ hw ls hl
  have hx := C.1
  have hb := C.2.1
  have hl : lv_has ls 4 [(0, .ref (A 0 0)), (1, .int z), (2, .int z2), (3, .int z3)] := hl
  obtain ⟨f_told, f_spare, f_nt, f_many, f_fault, f_place, f_men, f_knots, f_mut, f_man, f_min, f_size, f_water, f_first, f_steps, f_img, f_sm, f_sk, f_ss, f_sw, f_p0, f_p1, f_p2⟩ := id hF
  refine lv_aload_n hx hb dX9_rests_0 rfl (lv_at hl 0 rfl) ?_
  refine lv_iload_n hx hb dX9_rests_1 rfl (lv_at hl 1 rfl) ?_
  refine lv_iload_n hx hb dX9_rests_2 rfl (lv_at hl 2 rfl) ?_
  refine lv_iload_n hx hb dX9_rests_3 rfl (lv_at hl 3 rfl) ?_
  refine ti_callVi (ci := 9) (av := [.int z, .int z2, .int z3]) C hw (k_X9_isGame l D A cy hJ _ hF z z2 z3) ⟨ml_X9_233, ym_X9_isGame, yv_X9_isGame, yi_X9_isGame, yc_X9_isGame⟩ yd_X9_isGame ob_0 (by decide) rfl rfl hl.1 (Nat.le_of_ble_eq_true rfl) ⟨by decide, by decide⟩ ⟨Nat.zero_le _, Nat.zero_le _⟩ dX9_rests_4 (fun r_1 M_2 H locs hp_2 hw => ?_)
  obtain ⟨hm, rfl⟩ := hp_2
  have hw := hw.to hm
  refine lv_if_ne (tgt := 12) hx hb dX9_rests_7 (by decide) (fun c => absurd (by decide) c) (fun c_7 => ?_)
  refine lv_iconst (v := (-1)) hx hb dX9_rests_10 (by decide) ?_
  exact hQ _ _ _ _ _ _ hw rfl rfl dX9_rests_11
set_option maxHeartbeats 4000000 in
set_option maxRecDepth 100000 in
theorem k_X9_rest (l : Launch) (D : va_G) (A : Nat → Nat → Nat) (cy : Nat → ClassId) (hJ : ti_inj ti_LT A) (M : ti_M) (hF : ti_F M) (z : Int32) (z2 : Int32) (z3 : Int32) (z4 : Int32) : ti_Ki l yX9_rest cX9_rest 5 (some .int) 3 ti_LT D A cy M [.ref (A 0 0), .int z, .int z2, .int z3, .int z4] (fun r _ => r = (-1)) := by
  refine ti_eI yp_X9_rest hJ ti_LT_nd (Nat.le_of_ble_eq_true rfl) ?_
  intro p e s m args below meth c Q H0 C hQ hw ls hl
  have hx := C.1
  have hb := C.2.1
  have hl : lv_has ls 5 [(0, .ref (A 0 0)), (1, .int z), (2, .int z2), (3, .int z3), (4, .int z4)] := hl
  obtain ⟨f_told, f_spare, f_nt, f_many, f_fault, f_place, f_men, f_knots, f_mut, f_man, f_min, f_size, f_water, f_first, f_steps, f_img, f_sm, f_sk, f_ss, f_sw, f_p0, f_p1, f_p2⟩ := id hF
  refine lv_aload_n hx hb dX9_rest_0 rfl (lv_at hl 0 rfl) ?_
  refine lv_iload_n hx hb dX9_rest_1 rfl (lv_at hl 1 rfl) ?_
  refine lv_iload_n hx hb dX9_rest_2 rfl (lv_at hl 2 rfl) ?_
  refine lv_iload_n hx hb dX9_rest_3 rfl (lv_at hl 3 rfl) ?_
  refine ti_callVi (ci := 9) (av := [.int z, .int z2, .int z3]) C hw (k_X9_isGame l D A cy hJ _ hF z z2 z3) ⟨ml_X9_233, ym_X9_isGame, yv_X9_isGame, yi_X9_isGame, yc_X9_isGame⟩ yd_X9_isGame ob_0 (by decide) rfl rfl hl.1 (Nat.le_of_ble_eq_true rfl) ⟨by decide, by decide⟩ ⟨Nat.zero_le _, Nat.zero_le _⟩ dX9_rest_4 (fun r_1 M_2 H locs hp_2 hw => ?_)
  obtain ⟨hm, rfl⟩ := hp_2
  have hw := hw.to hm
  refine lv_if_eq (tgt := 15) hx hb dX9_rest_7 (by decide) (fun c_7 => ?_) (fun c => absurd (by decide) c)
  refine lv_iconst (v := (-1)) hx hb dX9_rest_15 (by decide) ?_
  exact hQ _ _ _ _ _ _ hw rfl rfl dX9_rest_16
set_option maxHeartbeats 4000000 in
set_option maxRecDepth 100000 in
theorem k_X9_coup (l : Launch) (D : va_G) (A : Nat → Nat → Nat) (cy : Nat → ClassId) (hJ : ti_inj ti_LT A) (M : ti_M) (hF : ti_F M)  : ti_Ki l yX9_coup cX9_coup 1 (some .int) 0 ti_LT D A cy M [.ref (A 0 0)] (fun r _ => r = (-1)) := by
  refine ti_eI yp_X9_coup hJ ti_LT_nd (Nat.le_of_ble_eq_true rfl) ?_
  intro p e s m args below meth c Q H0 C hQ hw ls hl
  have hx := C.1
  have hb := C.2.1
  have hl : lv_has ls 1 [(0, .ref (A 0 0))] := hl
  obtain ⟨f_told, f_spare, f_nt, f_many, f_fault, f_place, f_men, f_knots, f_mut, f_man, f_min, f_size, f_water, f_first, f_steps, f_img, f_sm, f_sk, f_ss, f_sw, f_p0, f_p1, f_p2⟩ := id hF
  refine lv_aload_n hx hb dX9_coup_0 rfl (lv_at hl 0 rfl) ?_
  refine ti_get (ci := 9) (k := 3) (N := 10) (T := TX9) (v := .ref (A 27 0)) C hw iw_9 rfl ob_0 (by decide) (by decide) fl_X9_29 rfl rfl dX9_coup_1 ?_
  refine ti_get (ci := 3) (k := 3) (N := 17) (T := TX3) C hw iw_3 rfl ob_27 (by decide) (by decide) fl_X9_179 rfl rfl dX9_coup_4 ?_
  refine ti_top (y := 0) f_size ?_
  refine lv_if_ne (tgt := 14) hx hb dX9_coup_7 (by decide) (fun c => absurd (by decide) c) (fun c_7 => ?_)
  refine lv_iconst (v := (-1)) hx hb dX9_coup_10 (by decide) ?_
  refine lv_goto (tgt := 25) hx hb dX9_coup_11 (by decide) ?_
  exact hQ _ _ _ _ _ _ hw rfl rfl dX9_coup_25
set_option maxHeartbeats 4000000 in
set_option maxRecDepth 100000 in
theorem k_X9_back (l : Launch) (D : va_G) (A : Nat → Nat → Nat) (cy : Nat → ClassId) (hJ : ti_inj ti_LT A) (M : ti_M) (hF : ti_F M)  : ti_Ki l yX9_back cX9_back 1 (some .int) 0 ti_LT D A cy M [.ref (A 0 0)] (fun r _ => r = (-1)) := by
  refine ti_eI yp_X9_back hJ ti_LT_nd (Nat.le_of_ble_eq_true rfl) ?_
  intro p e s m args below meth c Q H0 C hQ hw ls hl
  have hx := C.1
  have hb := C.2.1
  have hl : lv_has ls 1 [(0, .ref (A 0 0))] := hl
  obtain ⟨f_told, f_spare, f_nt, f_many, f_fault, f_place, f_men, f_knots, f_mut, f_man, f_min, f_size, f_water, f_first, f_steps, f_img, f_sm, f_sk, f_ss, f_sw, f_p0, f_p1, f_p2⟩ := id hF
  refine lv_aload_n hx hb dX9_back_0 rfl (lv_at hl 0 rfl) ?_
  refine ti_get (ci := 9) (k := 7) (N := 10) (T := TX9) C hw iw_9 rfl ob_0 (by decide) (by decide) fl_X9_47 rfl rfl dX9_back_1 ?_
  refine ti_top (y := 0) f_img ?_
  refine lv_if_ne (tgt := 9) hx hb dX9_back_4 (by decide) (fun c => absurd (by decide) c) (fun c_4 => ?_)
  refine lv_iconst (v := (-1)) hx hb dX9_back_7 (by decide) ?_
  exact hQ _ _ _ _ _ _ hw rfl rfl dX9_back_8

set_option maxHeartbeats 4000000 in
set_option maxRecDepth 100000 in
theorem k_reads_0 (l : Launch) (D : va_G) (A : Nat → Nat → Nat) (cy : Nat → ClassId) (hJ : ti_inj ti_LM A) (M : ti_M) (v : Int32) : ti_Kv l yX10_reads cX10_reads 3 0 ti_LM D A cy M [.ref (A 60 0), .int 0, .int v] (fun M2 => ∃ g_1 : Nat → Int32, M2 = (uY M 60 3 g_1) ∧ g_1 = upd (tY M 60 3) 11 v) := by
  refine ti_eV yp_X10_reads hJ ti_LM_nd (Nat.le_of_ble_eq_true rfl) ?_
  intro p e s m args below meth c Q H0 C hQ hw ls hl
  have hx := C.1
  have hb := C.2.1
  have hl : lv_has ls 3 [(0, .ref (A 60 0)), (1, .int 0), (2, .int v)] := hl
  refine lv_aload_n hx hb dX10_reads_0 rfl (lv_at hl 0 rfl) ?_
  refine ti_get (ci := 10) (k := 3) (N := 67) (T := TX10) (v := .ref (A 60 4)) C hw iw_10 rfl ob_60 (by decide) (by decide) fl_X10_13 rfl rfl dX10_reads_1 ?_
  refine lv_bipush (v := 11) hx hb dX10_reads_4 (by decide) ?_
  refine lv_iload_n hx hb dX10_reads_6 rfl (lv_at hl 1 rfl) ?_
  refine lv_iadd hx hb dX10_reads_7 ?_
  refine ti_top (y := 11) (by decide) ?_
  refine lv_iload_n hx hb dX10_reads_8 rfl (lv_at hl 2 rfl) ?_
  refine ti_iastG (ci := 10) (k := 3) (n := 22) C hw ob_60 (by decide) (fun _ _ => rfl) (by unfold vp_in; decide) dX10_reads_9 (fun H locs g_1 eg_1 hw => ?_)
  exact hQ _ _ _ _ _ hw (⟨g_1, rfl, eg_1⟩) dX10_reads_10
set_option maxHeartbeats 4000000 in
set_option maxRecDepth 100000 in
theorem k_reads_1 (l : Launch) (D : va_G) (A : Nat → Nat → Nat) (cy : Nat → ClassId) (hJ : ti_inj ti_LM A) (M : ti_M) (v : Int32) : ti_Kv l yX10_reads cX10_reads 3 0 ti_LM D A cy M [.ref (A 60 0), .int 1, .int v] (fun M2 => ∃ g_1 : Nat → Int32, M2 = (uY M 60 3 g_1) ∧ g_1 = upd (tY M 60 3) 12 v) := by
  refine ti_eV yp_X10_reads hJ ti_LM_nd (Nat.le_of_ble_eq_true rfl) ?_
  intro p e s m args below meth c Q H0 C hQ hw ls hl
  have hx := C.1
  have hb := C.2.1
  have hl : lv_has ls 3 [(0, .ref (A 60 0)), (1, .int 1), (2, .int v)] := hl
  refine lv_aload_n hx hb dX10_reads_0 rfl (lv_at hl 0 rfl) ?_
  refine ti_get (ci := 10) (k := 3) (N := 67) (T := TX10) (v := .ref (A 60 4)) C hw iw_10 rfl ob_60 (by decide) (by decide) fl_X10_13 rfl rfl dX10_reads_1 ?_
  refine lv_bipush (v := 11) hx hb dX10_reads_4 (by decide) ?_
  refine lv_iload_n hx hb dX10_reads_6 rfl (lv_at hl 1 rfl) ?_
  refine lv_iadd hx hb dX10_reads_7 ?_
  refine ti_top (y := 12) (by decide) ?_
  refine lv_iload_n hx hb dX10_reads_8 rfl (lv_at hl 2 rfl) ?_
  refine ti_iastG (ci := 10) (k := 3) (n := 22) C hw ob_60 (by decide) (fun _ _ => rfl) (by unfold vp_in; decide) dX10_reads_9 (fun H locs g_1 eg_1 hw => ?_)
  exact hQ _ _ _ _ _ hw (⟨g_1, rfl, eg_1⟩) dX10_reads_10
set_option maxHeartbeats 4000000 in
set_option maxRecDepth 100000 in
theorem k_reads_2 (l : Launch) (D : va_G) (A : Nat → Nat → Nat) (cy : Nat → ClassId) (hJ : ti_inj ti_LM A) (M : ti_M) (v : Int32) : ti_Kv l yX10_reads cX10_reads 3 0 ti_LM D A cy M [.ref (A 60 0), .int 2, .int v] (fun M2 => ∃ g_1 : Nat → Int32, M2 = (uY M 60 3 g_1) ∧ g_1 = upd (tY M 60 3) 13 v) := by
  refine ti_eV yp_X10_reads hJ ti_LM_nd (Nat.le_of_ble_eq_true rfl) ?_
  intro p e s m args below meth c Q H0 C hQ hw ls hl
  have hx := C.1
  have hb := C.2.1
  have hl : lv_has ls 3 [(0, .ref (A 60 0)), (1, .int 2), (2, .int v)] := hl
  refine lv_aload_n hx hb dX10_reads_0 rfl (lv_at hl 0 rfl) ?_
  refine ti_get (ci := 10) (k := 3) (N := 67) (T := TX10) (v := .ref (A 60 4)) C hw iw_10 rfl ob_60 (by decide) (by decide) fl_X10_13 rfl rfl dX10_reads_1 ?_
  refine lv_bipush (v := 11) hx hb dX10_reads_4 (by decide) ?_
  refine lv_iload_n hx hb dX10_reads_6 rfl (lv_at hl 1 rfl) ?_
  refine lv_iadd hx hb dX10_reads_7 ?_
  refine ti_top (y := 13) (by decide) ?_
  refine lv_iload_n hx hb dX10_reads_8 rfl (lv_at hl 2 rfl) ?_
  refine ti_iastG (ci := 10) (k := 3) (n := 22) C hw ob_60 (by decide) (fun _ _ => rfl) (by unfold vp_in; decide) dX10_reads_9 (fun H locs g_1 eg_1 hw => ?_)
  exact hQ _ _ _ _ _ hw (⟨g_1, rfl, eg_1⟩) dX10_reads_10
set_option maxHeartbeats 4000000 in
set_option maxRecDepth 100000 in
theorem k_reads_3 (l : Launch) (D : va_G) (A : Nat → Nat → Nat) (cy : Nat → ClassId) (hJ : ti_inj ti_LM A) (M : ti_M) (v : Int32) : ti_Kv l yX10_reads cX10_reads 3 0 ti_LM D A cy M [.ref (A 60 0), .int 3, .int v] (fun M2 => ∃ g_1 : Nat → Int32, M2 = (uY M 60 3 g_1) ∧ g_1 = upd (tY M 60 3) 14 v) := by
  refine ti_eV yp_X10_reads hJ ti_LM_nd (Nat.le_of_ble_eq_true rfl) ?_
  intro p e s m args below meth c Q H0 C hQ hw ls hl
  have hx := C.1
  have hb := C.2.1
  have hl : lv_has ls 3 [(0, .ref (A 60 0)), (1, .int 3), (2, .int v)] := hl
  refine lv_aload_n hx hb dX10_reads_0 rfl (lv_at hl 0 rfl) ?_
  refine ti_get (ci := 10) (k := 3) (N := 67) (T := TX10) (v := .ref (A 60 4)) C hw iw_10 rfl ob_60 (by decide) (by decide) fl_X10_13 rfl rfl dX10_reads_1 ?_
  refine lv_bipush (v := 11) hx hb dX10_reads_4 (by decide) ?_
  refine lv_iload_n hx hb dX10_reads_6 rfl (lv_at hl 1 rfl) ?_
  refine lv_iadd hx hb dX10_reads_7 ?_
  refine ti_top (y := 14) (by decide) ?_
  refine lv_iload_n hx hb dX10_reads_8 rfl (lv_at hl 2 rfl) ?_
  refine ti_iastG (ci := 10) (k := 3) (n := 22) C hw ob_60 (by decide) (fun _ _ => rfl) (by unfold vp_in; decide) dX10_reads_9 (fun H locs g_1 eg_1 hw => ?_)
  exact hQ _ _ _ _ _ hw (⟨g_1, rfl, eg_1⟩) dX10_reads_10
set_option maxHeartbeats 4000000 in
set_option maxRecDepth 100000 in
theorem k_reads_4 (l : Launch) (D : va_G) (A : Nat → Nat → Nat) (cy : Nat → ClassId) (hJ : ti_inj ti_LM A) (M : ti_M) (v : Int32) : ti_Kv l yX10_reads cX10_reads 3 0 ti_LM D A cy M [.ref (A 60 0), .int 4, .int v] (fun M2 => ∃ g_1 : Nat → Int32, M2 = (uY M 60 3 g_1) ∧ g_1 = upd (tY M 60 3) 15 v) := by
  refine ti_eV yp_X10_reads hJ ti_LM_nd (Nat.le_of_ble_eq_true rfl) ?_
  intro p e s m args below meth c Q H0 C hQ hw ls hl
  have hx := C.1
  have hb := C.2.1
  have hl : lv_has ls 3 [(0, .ref (A 60 0)), (1, .int 4), (2, .int v)] := hl
  refine lv_aload_n hx hb dX10_reads_0 rfl (lv_at hl 0 rfl) ?_
  refine ti_get (ci := 10) (k := 3) (N := 67) (T := TX10) (v := .ref (A 60 4)) C hw iw_10 rfl ob_60 (by decide) (by decide) fl_X10_13 rfl rfl dX10_reads_1 ?_
  refine lv_bipush (v := 11) hx hb dX10_reads_4 (by decide) ?_
  refine lv_iload_n hx hb dX10_reads_6 rfl (lv_at hl 1 rfl) ?_
  refine lv_iadd hx hb dX10_reads_7 ?_
  refine ti_top (y := 15) (by decide) ?_
  refine lv_iload_n hx hb dX10_reads_8 rfl (lv_at hl 2 rfl) ?_
  refine ti_iastG (ci := 10) (k := 3) (n := 22) C hw ob_60 (by decide) (fun _ _ => rfl) (by unfold vp_in; decide) dX10_reads_9 (fun H locs g_1 eg_1 hw => ?_)
  exact hQ _ _ _ _ _ hw (⟨g_1, rfl, eg_1⟩) dX10_reads_10
set_option maxHeartbeats 4000000 in
set_option maxRecDepth 100000 in
theorem k_reads_5 (l : Launch) (D : va_G) (A : Nat → Nat → Nat) (cy : Nat → ClassId) (hJ : ti_inj ti_LM A) (M : ti_M) (v : Int32) : ti_Kv l yX10_reads cX10_reads 3 0 ti_LM D A cy M [.ref (A 60 0), .int 5, .int v] (fun M2 => ∃ g_1 : Nat → Int32, M2 = (uY M 60 3 g_1) ∧ g_1 = upd (tY M 60 3) 16 v) := by
  refine ti_eV yp_X10_reads hJ ti_LM_nd (Nat.le_of_ble_eq_true rfl) ?_
  intro p e s m args below meth c Q H0 C hQ hw ls hl
  have hx := C.1
  have hb := C.2.1
  have hl : lv_has ls 3 [(0, .ref (A 60 0)), (1, .int 5), (2, .int v)] := hl
  refine lv_aload_n hx hb dX10_reads_0 rfl (lv_at hl 0 rfl) ?_
  refine ti_get (ci := 10) (k := 3) (N := 67) (T := TX10) (v := .ref (A 60 4)) C hw iw_10 rfl ob_60 (by decide) (by decide) fl_X10_13 rfl rfl dX10_reads_1 ?_
  refine lv_bipush (v := 11) hx hb dX10_reads_4 (by decide) ?_
  refine lv_iload_n hx hb dX10_reads_6 rfl (lv_at hl 1 rfl) ?_
  refine lv_iadd hx hb dX10_reads_7 ?_
  refine ti_top (y := 16) (by decide) ?_
  refine lv_iload_n hx hb dX10_reads_8 rfl (lv_at hl 2 rfl) ?_
  refine ti_iastG (ci := 10) (k := 3) (n := 22) C hw ob_60 (by decide) (fun _ _ => rfl) (by unfold vp_in; decide) dX10_reads_9 (fun H locs g_1 eg_1 hw => ?_)
  exact hQ _ _ _ _ _ hw (⟨g_1, rfl, eg_1⟩) dX10_reads_10
set_option maxHeartbeats 4000000 in
set_option maxRecDepth 100000 in
theorem k_reads_6 (l : Launch) (D : va_G) (A : Nat → Nat → Nat) (cy : Nat → ClassId) (hJ : ti_inj ti_LM A) (M : ti_M) (v : Int32) : ti_Kv l yX10_reads cX10_reads 3 0 ti_LM D A cy M [.ref (A 60 0), .int 6, .int v] (fun M2 => ∃ g_1 : Nat → Int32, M2 = (uY M 60 3 g_1) ∧ g_1 = upd (tY M 60 3) 17 v) := by
  refine ti_eV yp_X10_reads hJ ti_LM_nd (Nat.le_of_ble_eq_true rfl) ?_
  intro p e s m args below meth c Q H0 C hQ hw ls hl
  have hx := C.1
  have hb := C.2.1
  have hl : lv_has ls 3 [(0, .ref (A 60 0)), (1, .int 6), (2, .int v)] := hl
  refine lv_aload_n hx hb dX10_reads_0 rfl (lv_at hl 0 rfl) ?_
  refine ti_get (ci := 10) (k := 3) (N := 67) (T := TX10) (v := .ref (A 60 4)) C hw iw_10 rfl ob_60 (by decide) (by decide) fl_X10_13 rfl rfl dX10_reads_1 ?_
  refine lv_bipush (v := 11) hx hb dX10_reads_4 (by decide) ?_
  refine lv_iload_n hx hb dX10_reads_6 rfl (lv_at hl 1 rfl) ?_
  refine lv_iadd hx hb dX10_reads_7 ?_
  refine ti_top (y := 17) (by decide) ?_
  refine lv_iload_n hx hb dX10_reads_8 rfl (lv_at hl 2 rfl) ?_
  refine ti_iastG (ci := 10) (k := 3) (n := 22) C hw ob_60 (by decide) (fun _ _ => rfl) (by unfold vp_in; decide) dX10_reads_9 (fun H locs g_1 eg_1 hw => ?_)
  exact hQ _ _ _ _ _ hw (⟨g_1, rfl, eg_1⟩) dX10_reads_10
set_option maxHeartbeats 4000000 in
set_option maxRecDepth 100000 in
theorem k_reads_7 (l : Launch) (D : va_G) (A : Nat → Nat → Nat) (cy : Nat → ClassId) (hJ : ti_inj ti_LM A) (M : ti_M) (v : Int32) : ti_Kv l yX10_reads cX10_reads 3 0 ti_LM D A cy M [.ref (A 60 0), .int 7, .int v] (fun M2 => ∃ g_1 : Nat → Int32, M2 = (uY M 60 3 g_1) ∧ g_1 = upd (tY M 60 3) 18 v) := by
  refine ti_eV yp_X10_reads hJ ti_LM_nd (Nat.le_of_ble_eq_true rfl) ?_
  intro p e s m args below meth c Q H0 C hQ hw ls hl
  have hx := C.1
  have hb := C.2.1
  have hl : lv_has ls 3 [(0, .ref (A 60 0)), (1, .int 7), (2, .int v)] := hl
  refine lv_aload_n hx hb dX10_reads_0 rfl (lv_at hl 0 rfl) ?_
  refine ti_get (ci := 10) (k := 3) (N := 67) (T := TX10) (v := .ref (A 60 4)) C hw iw_10 rfl ob_60 (by decide) (by decide) fl_X10_13 rfl rfl dX10_reads_1 ?_
  refine lv_bipush (v := 11) hx hb dX10_reads_4 (by decide) ?_
  refine lv_iload_n hx hb dX10_reads_6 rfl (lv_at hl 1 rfl) ?_
  refine lv_iadd hx hb dX10_reads_7 ?_
  refine ti_top (y := 18) (by decide) ?_
  refine lv_iload_n hx hb dX10_reads_8 rfl (lv_at hl 2 rfl) ?_
  refine ti_iastG (ci := 10) (k := 3) (n := 22) C hw ob_60 (by decide) (fun _ _ => rfl) (by unfold vp_in; decide) dX10_reads_9 (fun H locs g_1 eg_1 hw => ?_)
  exact hQ _ _ _ _ _ hw (⟨g_1, rfl, eg_1⟩) dX10_reads_10
set_option maxHeartbeats 4000000 in
set_option maxRecDepth 100000 in
theorem k_reads_8 (l : Launch) (D : va_G) (A : Nat → Nat → Nat) (cy : Nat → ClassId) (hJ : ti_inj ti_LM A) (M : ti_M) (v : Int32) : ti_Kv l yX10_reads cX10_reads 3 0 ti_LM D A cy M [.ref (A 60 0), .int 8, .int v] (fun M2 => ∃ g_1 : Nat → Int32, M2 = (uY M 60 3 g_1) ∧ g_1 = upd (tY M 60 3) 19 v) := by
  refine ti_eV yp_X10_reads hJ ti_LM_nd (Nat.le_of_ble_eq_true rfl) ?_
  intro p e s m args below meth c Q H0 C hQ hw ls hl
  have hx := C.1
  have hb := C.2.1
  have hl : lv_has ls 3 [(0, .ref (A 60 0)), (1, .int 8), (2, .int v)] := hl
  refine lv_aload_n hx hb dX10_reads_0 rfl (lv_at hl 0 rfl) ?_
  refine ti_get (ci := 10) (k := 3) (N := 67) (T := TX10) (v := .ref (A 60 4)) C hw iw_10 rfl ob_60 (by decide) (by decide) fl_X10_13 rfl rfl dX10_reads_1 ?_
  refine lv_bipush (v := 11) hx hb dX10_reads_4 (by decide) ?_
  refine lv_iload_n hx hb dX10_reads_6 rfl (lv_at hl 1 rfl) ?_
  refine lv_iadd hx hb dX10_reads_7 ?_
  refine ti_top (y := 19) (by decide) ?_
  refine lv_iload_n hx hb dX10_reads_8 rfl (lv_at hl 2 rfl) ?_
  refine ti_iastG (ci := 10) (k := 3) (n := 22) C hw ob_60 (by decide) (fun _ _ => rfl) (by unfold vp_in; decide) dX10_reads_9 (fun H locs g_1 eg_1 hw => ?_)
  exact hQ _ _ _ _ _ hw (⟨g_1, rfl, eg_1⟩) dX10_reads_10
set_option maxHeartbeats 4000000 in
set_option maxRecDepth 100000 in
theorem k_reads_9 (l : Launch) (D : va_G) (A : Nat → Nat → Nat) (cy : Nat → ClassId) (hJ : ti_inj ti_LM A) (M : ti_M) (v : Int32) : ti_Kv l yX10_reads cX10_reads 3 0 ti_LM D A cy M [.ref (A 60 0), .int 9, .int v] (fun M2 => ∃ g_1 : Nat → Int32, M2 = (uY M 60 3 g_1) ∧ g_1 = upd (tY M 60 3) 20 v) := by
  refine ti_eV yp_X10_reads hJ ti_LM_nd (Nat.le_of_ble_eq_true rfl) ?_
  intro p e s m args below meth c Q H0 C hQ hw ls hl
  have hx := C.1
  have hb := C.2.1
  have hl : lv_has ls 3 [(0, .ref (A 60 0)), (1, .int 9), (2, .int v)] := hl
  refine lv_aload_n hx hb dX10_reads_0 rfl (lv_at hl 0 rfl) ?_
  refine ti_get (ci := 10) (k := 3) (N := 67) (T := TX10) (v := .ref (A 60 4)) C hw iw_10 rfl ob_60 (by decide) (by decide) fl_X10_13 rfl rfl dX10_reads_1 ?_
  refine lv_bipush (v := 11) hx hb dX10_reads_4 (by decide) ?_
  refine lv_iload_n hx hb dX10_reads_6 rfl (lv_at hl 1 rfl) ?_
  refine lv_iadd hx hb dX10_reads_7 ?_
  refine ti_top (y := 20) (by decide) ?_
  refine lv_iload_n hx hb dX10_reads_8 rfl (lv_at hl 2 rfl) ?_
  refine ti_iastG (ci := 10) (k := 3) (n := 22) C hw ob_60 (by decide) (fun _ _ => rfl) (by unfold vp_in; decide) dX10_reads_9 (fun H locs g_1 eg_1 hw => ?_)
  exact hQ _ _ _ _ _ hw (⟨g_1, rfl, eg_1⟩) dX10_reads_10
set_option maxHeartbeats 4000000 in
set_option maxRecDepth 100000 in
theorem k_reads_10 (l : Launch) (D : va_G) (A : Nat → Nat → Nat) (cy : Nat → ClassId) (hJ : ti_inj ti_LM A) (M : ti_M) (v : Int32) : ti_Kv l yX10_reads cX10_reads 3 0 ti_LM D A cy M [.ref (A 60 0), .int 10, .int v] (fun M2 => ∃ g_1 : Nat → Int32, M2 = (uY M 60 3 g_1) ∧ g_1 = upd (tY M 60 3) 21 v) := by
  refine ti_eV yp_X10_reads hJ ti_LM_nd (Nat.le_of_ble_eq_true rfl) ?_
  intro p e s m args below meth c Q H0 C hQ hw ls hl
  have hx := C.1
  have hb := C.2.1
  have hl : lv_has ls 3 [(0, .ref (A 60 0)), (1, .int 10), (2, .int v)] := hl
  refine lv_aload_n hx hb dX10_reads_0 rfl (lv_at hl 0 rfl) ?_
  refine ti_get (ci := 10) (k := 3) (N := 67) (T := TX10) (v := .ref (A 60 4)) C hw iw_10 rfl ob_60 (by decide) (by decide) fl_X10_13 rfl rfl dX10_reads_1 ?_
  refine lv_bipush (v := 11) hx hb dX10_reads_4 (by decide) ?_
  refine lv_iload_n hx hb dX10_reads_6 rfl (lv_at hl 1 rfl) ?_
  refine lv_iadd hx hb dX10_reads_7 ?_
  refine ti_top (y := 21) (by decide) ?_
  refine lv_iload_n hx hb dX10_reads_8 rfl (lv_at hl 2 rfl) ?_
  refine ti_iastG (ci := 10) (k := 3) (n := 22) C hw ob_60 (by decide) (fun _ _ => rfl) (by unfold vp_in; decide) dX10_reads_9 (fun H locs g_1 eg_1 hw => ?_)
  exact hQ _ _ _ _ _ hw (⟨g_1, rfl, eg_1⟩) dX10_reads_10
set_option maxHeartbeats 4000000 in
set_option maxRecDepth 100000 in
theorem k_X10_here (l : Launch) (D : va_G) (A : Nat → Nat → Nat) (cy : Nat → ClassId) (hJ : ti_inj ti_LM A) (M : ti_M) (h1 : tI M 60 21 = 0) (h2 : tI M 60 20 = 0) : ti_Ki l yX10_here cX10_here 1 (some .int) 0 ti_LM D A cy M [.ref (A 60 0)] (fun r M2 => M2 = M ∧ r = (-1)) := by
  refine ti_eI yp_X10_here hJ ti_LM_nd (Nat.le_of_ble_eq_true rfl) ?_
  intro p e s m args below meth c Q H0 C hQ hw ls hl
  have hx := C.1
  have hb := C.2.1
  have hl : lv_has ls 1 [(0, .ref (A 60 0))] := hl
  refine lv_aload_n hx hb dX10_here_0 rfl (lv_at hl 0 rfl) ?_
  refine ti_get (ci := 10) (k := 21) (N := 67) (T := TX10) C hw iw_10 rfl ob_60 (by decide) (by decide) fl_X10_160 rfl rfl dX10_here_1 ?_
  refine ti_top (y := 0) (h1) ?_
  refine lv_aload_n hx hb dX10_here_4 rfl (lv_at hl 0 rfl) ?_
  refine ti_get (ci := 10) (k := 20) (N := 67) (T := TX10) C hw iw_10 rfl ob_60 (by decide) (by decide) fl_X10_163 rfl rfl dX10_here_5 ?_
  refine ti_top (y := 0) (h2) ?_
  refine lv_icmp_ge (tgt := 23) hx hb dX10_here_8 (by decide) (fun c_8 => ?_) (fun c => absurd (by decide) c)
  refine lv_iconst (v := (-1)) hx hb dX10_here_23 (by decide) ?_
  exact hQ _ _ _ _ _ _ hw rfl (⟨rfl, rfl⟩) dX10_here_24
set_option maxHeartbeats 4000000 in
set_option maxRecDepth 100000 in
theorem k_X10_token (l : Launch) (D : va_G) (A : Nat → Nat → Nat) (cy : Nat → ClassId) (hJ : ti_inj ti_LM A) (M : ti_M) (h1 : tI M 60 21 = 0) (h2 : tI M 60 20 = 0) : ti_Kv l yX10_token cX10_token 2 1 ti_LM D A cy M [.ref (A 60 0)] (fun M2 => M2 = (uI (uI M 60 22 0) 60 23 4)) := by
  refine ti_eV yp_X10_token hJ ti_LM_nd (Nat.le_of_ble_eq_true rfl) ?_
  intro p e s m args below meth c Q H0 C hQ hw ls hl
  have hx := C.1
  have hb := C.2.1
  have hl : lv_has ls 2 [(0, .ref (A 60 0))] := hl
  refine lv_aload_n hx hb dX10_token_0 rfl (lv_at hl 0 rfl) ?_
  refine ti_callVi (ci := 10) (av := []) C hw (k_X10_here l D A cy hJ M (h1) (h2)) ⟨ml_X10_166, ym_X10_here, yv_X10_here, yi_X10_here, yc_X10_here⟩ yd_X10_here ob_60 (by decide) rfl rfl hl.1 (Nat.le_of_ble_eq_true rfl) ⟨by decide, by decide⟩ ⟨Nat.zero_le _, Nat.zero_le _⟩ dX10_token_1 (fun r_1 M_2 H locs hp_2 hw => ?_)
  obtain ⟨hm, rfl⟩ := hp_2
  have hw := hw.to hm
  refine lv_bipush (v := 10) hx hb dX10_token_4 (by decide) ?_
  refine lv_icmp_eq (tgt := 18) hx hb dX10_token_6 (by decide) (fun c => absurd c (by decide)) (fun c_6 => ?_)
  refine lv_aload_n hx hb dX10_token_9 rfl (lv_at hl 0 rfl) ?_
  refine ti_callVi (ci := 10) (av := []) C hw (k_X10_here l D A cy hJ M (h1) (h2)) ⟨ml_X10_166, ym_X10_here, yv_X10_here, yi_X10_here, yc_X10_here⟩ yd_X10_here ob_60 (by decide) rfl rfl hl.1 (Nat.le_of_ble_eq_true rfl) ⟨by decide, by decide⟩ ⟨Nat.zero_le _, Nat.zero_le _⟩ dX10_token_10 (fun r_3 M_4 H locs hp_4 hw => ?_)
  obtain ⟨hm, rfl⟩ := hp_4
  have hw := hw.to hm
  refine lv_bipush (v := 32) hx hb dX10_token_13 (by decide) ?_
  refine lv_icmp_ne (tgt := 31) hx hb dX10_token_15 (by decide) (fun c_15 => ?_) (fun c => absurd c (by decide))
  refine lv_aload_n hx hb dX10_token_31 rfl (lv_at hl 0 rfl) ?_
  refine lv_aload_n hx hb dX10_token_32 rfl (lv_at hl 0 rfl) ?_
  refine ti_get (ci := 10) (k := 21) (N := 67) (T := TX10) C hw iw_10 rfl ob_60 (by decide) (by decide) fl_X10_160 rfl rfl dX10_token_33 ?_
  refine ti_top (y := 0) (h1) ?_
  refine ti_putI (ci := 10) (k := 22) (N := 67) (T := TX10) C hw iw_10 tyX10 tyX10_ok nmX10 rfl ob_60 (by decide) (by decide) fl_X10_170 rfl rfl rfl rfl (fn_10 A _) fs_10_22 dX10_token_36 (fun H locs hw => ?_)
  refine lv_aload_n hx hb dX10_token_39 rfl (lv_at hl 0 rfl) ?_
  refine ti_callVi (ci := 10) (av := []) C hw (k_X10_here l D A cy hJ (uI M 60 22 0) ((tI_k _ _ _ _ (by decide)).trans h1) ((tI_k _ _ _ _ (by decide)).trans h2)) ⟨ml_X10_166, ym_X10_here, yv_X10_here, yi_X10_here, yc_X10_here⟩ yd_X10_here ob_60 (by decide) rfl rfl hl.1 (Nat.le_of_ble_eq_true rfl) ⟨by decide, by decide⟩ ⟨Nat.zero_le _, Nat.zero_le _⟩ dX10_token_40 (fun r_5 M_6 H locs hp_6 hw => ?_)
  obtain ⟨hm, rfl⟩ := hp_6
  have hw := hw.to hm
  refine lv_istore_n (lv' := [(1, .int (-1)), (0, .ref (A 60 0))]) hx hb dX10_token_43 rfl hl (by decide) rfl (fun ls hl => ?_)
  refine lv_iload_n hx hb dX10_token_44 rfl (lv_at hl 0 rfl) ?_
  refine lv_iconst (v := (-1)) hx hb dX10_token_45 (by decide) ?_
  refine lv_icmp_ne (tgt := 57) hx hb dX10_token_46 (by decide) (fun c => absurd (by decide) c) (fun c_46 => ?_)
  refine lv_aload_n hx hb dX10_token_49 rfl (lv_at hl 1 rfl) ?_
  refine lv_iconst (v := 4) hx hb dX10_token_50 (by decide) ?_
  refine ti_putI (ci := 10) (k := 23) (N := 67) (T := TX10) C hw iw_10 tyX10 tyX10_ok nmX10 rfl ob_60 (by decide) (by decide) fl_X10_173 rfl rfl rfl rfl (fn_10 A _) fs_10_23 dX10_token_51 (fun H locs hw => ?_)
  refine lv_goto (tgt := 225) hx hb dX10_token_54 (by decide) ?_
  exact hQ _ _ _ _ _ hw rfl dX10_token_225
set_option maxHeartbeats 4000000 in
set_option maxRecDepth 100000 in
/-- half(row): the second half comes into the first -/
theorem k_half (l : Launch) (D : va_G) (A : Nat → Nat → Nat) (cy : Nat → ClassId) (hJ : ti_inj ti_LM A) (M : ti_M) (k len hn : Nat) (hj : k + 1 ∈ ti_parts 10) (har : ∀ f g, ti_ar A cy 10 60 k f g = (cy 1, len, .inl f)) (hlen : len = hn + hn) (hsm : len < 2 ^ 30) (hdv : nI len / 2 = nI hn) : ti_Kv l yX10_half cX10_half 3 0 ti_LM D A cy M [.ref (A 60 (k + 1))] (fun M2 => ∃ g, M2 = uY M 60 k g ∧ ∀ j, j < hn → g j = tY M 60 k (hn + j)) := by
  refine ti_eV yp_X10_half hJ ti_LM_nd (Nat.le_of_ble_eq_true rfl) ?_
  intro p e s m args below meth c Q H0 C hQ hw ls hl
  have hx := C.1
  have hb := C.2.1
  have hl : lv_has ls 3 [(0, .ref (A 60 (k + 1)))] := hl
  refine lv_aload_n hx hb dX10_half_0 rfl (lv_at hl 0 rfl) ?_
  refine ti_alen (ci := 10) (n := len) (t0 := 1) (v := nI len) C hw ob_60 hj (fun f g => by rw [har]; exact ⟨rfl, rfl⟩) rfl rfl dX10_half_1 ?_
  refine lv_iconst (v := 2) hx hb dX10_half_2 (by decide) ?_
  refine lv_idiv hx hb dX10_half_3 (by decide) ?_
  refine ti_top (y := nI hn) hdv ?_
  refine lv_istore_n (lv' := [(1, .int (nI hn)), (0, .ref (A 60 (k + 1)))]) hx hb dX10_half_4 rfl hl (by decide) rfl (fun ls hl => ?_)
  refine lv_iconst (v := 0) hx hb dX10_half_5 (by decide) ?_
  refine lv_istore_n (lv' := [(2, .int 0), (1, .int (nI hn)), (0, .ref (A 60 (k + 1)))]) hx hb dX10_half_6 rfl hl (by decide) rfl (fun ls hl => ?_)
  suffices hloop : ∀ (n i : Nat) (g : Nat → Int32) (H : Heap) (locs : List Loc) (ls : Array Slot), hn < i + n → i ≤ hn → (∀ j, j < i → g j = tY M 60 k (hn + j)) → (∀ j, i ≤ j → g j = tY M 60 k j) → ti_H ti_LM D A cy H0 (uY M 60 k g) H locs → lv_has ls 3 [(2, .int (nI i)), (1, .int (nI hn)), (0, .ref (A 60 (k + 1)))] → W p l e (ti_rm 0) s m args below meth c H locs 0 0 Q (F0 m 7 ls []) from
    hloop (hn + 1) 0 (tY M 60 k) _ _ _ (by omega) (Nat.zero_le _) (fun j h => by omega) (fun j _ => rfl) (hw.to (uY_eta M 60 k).symm) hl
  intro n
  induction n with
  | zero => intro i g H locs ls h1 h2; omega
  | succ n ih =>
    intro i g H locs ls hf hi hg hg2 hw hl
    refine lv_iload_n hx hb dX10_half_7 rfl (lv_at hl 0 rfl) ?_
    refine lv_iload_n hx hb dX10_half_8 rfl (lv_at hl 1 rfl) ?_
    refine lv_icmp_ge (tgt := 26) hx hb dX10_half_9 (by decide) (fun c_9 => ?_) (fun c_9 => ?_)
    · have he : i = hn := by
        have := (nI_leI (a := hn) (b := i) (by omega) (by omega)).mp c_9
        omega
      exact hQ _ _ _ _ _ hw ⟨g, rfl, by rw [← he]; rw [← he] at hg; exact hg⟩ dX10_half_26
    · have hlt : i < hn := by
        rcases Nat.lt_or_ge i hn with q | q
        · exact q
        · exact absurd ((nI_leI (a := hn) (b := i) (by omega) (by omega)).mpr q) c_9
      refine lv_aload_n hx hb dX10_half_12 rfl (lv_at hl 2 rfl) ?_
      refine lv_iload_n hx hb dX10_half_13 rfl (lv_at hl 0 rfl) ?_
      refine lv_aload_n hx hb dX10_half_14 rfl (lv_at hl 2 rfl) ?_
      refine lv_iload_n hx hb dX10_half_15 rfl (lv_at hl 1 rfl) ?_
      refine lv_iload_n hx hb dX10_half_16 rfl (lv_at hl 0 rfl) ?_
      refine lv_iadd hx hb dX10_half_17 ?_
      refine ti_top (y := nI (hn + i)) (nI_add hn i) ?_
      refine ti_iald (ci := 10) (k := k) (n := len) C hw ob_60 hj har (vp_in_nI (by omega) (by omega)) dX10_half_18 ?_
      refine ti_top (y := tY M 60 k (hn + i)) (by rw [tY_u, nI_clamp (by omega)]; exact hg2 _ (by omega)) ?_
      refine ti_iast (ci := 10) (n := len) C hw ob_60 hj har (vp_in_nI (by omega) (by omega)) dX10_half_19 (fun H locs hw => ?_)
      rw [tY_u, uY_uY, nI_clamp (by omega)] at hw
      refine lv_iinc (v := nI (i + 1)) (lv' := [(2, .int (nI (i + 1))), (1, .int (nI hn)), (0, .ref (A 60 (k + 1)))]) hx hb dX10_half_20 hl (k := 0) rfl (nI_1 i) (by decide) rfl (fun ls hl => ?_)
      refine lv_goto (tgt := 7) hx hb dX10_half_23 (by decide) ?_
      refine ih (i + 1) (upd g i (tY M 60 k (hn + i))) _ _ _ (by omega) hlt (fun j hj => ?_) (fun j hj => ?_) hw hl
      · by_cases e : j = i
        · subst e; exact pk_us
        · rw [pk_un e]; exact hg j (by omega)
      · rw [pk_un (by omega)]; exact hg2 j (by omega)
set_option maxHeartbeats 4000000 in
set_option maxRecDepth 100000 in
theorem k_X10_starts (l : Launch) (D : va_G) (A : Nat → Nat → Nat) (cy : Nat → ClassId) (hJ : ti_inj ti_LM A) (M : ti_M) (w0 s0 p0 p1 p2 : Int32) (h0 : tY M 60 3 0 = 0) (h1 : tY M 60 3 1 = w0) (h6 : tY M 60 3 6 = s0) (h8 : tY M 60 3 8 = p0) (h9 : tY M 60 3 9 = p1) (h10 : tY M 60 3 10 = p2) : ti_Kv l yX10_starts cX10_starts 4 0 ti_LM D A cy M [.ref (A 60 0), .int 0] (fun M2 => ∃ g_1 g_2 g_3 g_4 g_5 g_6 g_7 g_8 : Nat → Int32, M2 = (uY (uY (uY (uY (uY (uY (uY (uY M 60 34 g_1) 60 35 g_2) 60 36 g_3) 60 37 g_4) 60 38 g_5) 60 49 g_6) 60 49 g_7) 60 49 g_8) ∧ g_1 = upd (tY M 60 34) 0 0 ∧ g_2 = upd (tY M 60 35) 0 w0 ∧ g_3 = upd (tY M 60 36) 0 s0 ∧ g_4 = upd (tY M 60 37) 0 0 ∧ g_5 = upd (tY M 60 38) 0 0 ∧ g_6 = upd (tY M 60 49) 0 p0 ∧ g_7 = upd g_6 1 p1 ∧ g_8 = upd g_7 2 p2) := by
  refine ti_eV yp_X10_starts hJ ti_LM_nd (Nat.le_of_ble_eq_true rfl) ?_
  intro p e s m args below meth c Q H0 C hQ hw ls hl
  have hx := C.1
  have hb := C.2.1
  have hl : lv_has ls 4 [(0, .ref (A 60 0)), (1, .int 0)] := hl
  refine lv_aload_n hx hb dX10_starts_0 rfl (lv_at hl 0 rfl) ?_
  refine ti_get (ci := 10) (k := 34) (N := 67) (T := TX10) (v := .ref (A 60 35)) C hw iw_10 rfl ob_60 (by decide) (by decide) fl_X10_69 rfl rfl dX10_starts_1 ?_
  refine lv_iload_n hx hb dX10_starts_4 rfl (lv_at hl 1 rfl) ?_
  refine lv_iconst (v := 0) hx hb dX10_starts_5 (by decide) ?_
  refine ti_iastG (ci := 10) (k := 34) (n := 23) C hw ob_60 (by decide) (fun _ _ => rfl) (by unfold vp_in; decide) dX10_starts_6 (fun H locs g_1 eg_1 hw => ?_)
  refine lv_aload_n hx hb dX10_starts_7 rfl (lv_at hl 0 rfl) ?_
  refine ti_get (ci := 10) (k := 35) (N := 67) (T := TX10) (v := .ref (A 60 36)) C hw iw_10 rfl ob_60 (by decide) (by decide) fl_X10_72 rfl rfl dX10_starts_8 ?_
  refine lv_iload_n hx hb dX10_starts_11 rfl (lv_at hl 1 rfl) ?_
  refine lv_aload_n hx hb dX10_starts_12 rfl (lv_at hl 0 rfl) ?_
  refine ti_get (ci := 10) (k := 3) (N := 67) (T := TX10) (v := .ref (A 60 4)) C hw iw_10 rfl ob_60 (by decide) (by decide) fl_X10_13 rfl rfl dX10_starts_13 ?_
  refine lv_iconst (v := 1) hx hb dX10_starts_16 (by decide) ?_
  refine ti_iald (ci := 10) (k := 3) (n := 22) C hw ob_60 (by decide) (fun _ _ => rfl) (by unfold vp_in; decide) dX10_starts_17 ?_
  refine ti_top (y := w0) ((congrFun ((tY_k _ _ _ _ (by decide)).trans rfl) 1).trans h1) ?_
  refine ti_iastG (ci := 10) (k := 35) (n := 23) C hw ob_60 (by decide) (fun _ _ => rfl) (by unfold vp_in; decide) dX10_starts_18 (fun H locs g_2 eg_2 hw => ?_)
  refine lv_aload_n hx hb dX10_starts_19 rfl (lv_at hl 0 rfl) ?_
  refine ti_get (ci := 10) (k := 36) (N := 67) (T := TX10) (v := .ref (A 60 37)) C hw iw_10 rfl ob_60 (by decide) (by decide) fl_X10_75 rfl rfl dX10_starts_20 ?_
  refine lv_iload_n hx hb dX10_starts_23 rfl (lv_at hl 1 rfl) ?_
  refine lv_aload_n hx hb dX10_starts_24 rfl (lv_at hl 0 rfl) ?_
  refine ti_get (ci := 10) (k := 3) (N := 67) (T := TX10) (v := .ref (A 60 4)) C hw iw_10 rfl ob_60 (by decide) (by decide) fl_X10_13 rfl rfl dX10_starts_25 ?_
  refine lv_bipush (v := 6) hx hb dX10_starts_28 (by decide) ?_
  refine ti_iald (ci := 10) (k := 3) (n := 22) C hw ob_60 (by decide) (fun _ _ => rfl) (by unfold vp_in; decide) dX10_starts_30 ?_
  refine ti_top (y := s0) ((congrFun ((tY_k _ _ _ _ (by decide)).trans ((tY_k _ _ _ _ (by decide)).trans rfl)) 6).trans h6) ?_
  refine ti_iastG (ci := 10) (k := 36) (n := 23) C hw ob_60 (by decide) (fun _ _ => rfl) (by unfold vp_in; decide) dX10_starts_31 (fun H locs g_3 eg_3 hw => ?_)
  refine lv_aload_n hx hb dX10_starts_32 rfl (lv_at hl 0 rfl) ?_
  refine ti_get (ci := 10) (k := 37) (N := 67) (T := TX10) (v := .ref (A 60 38)) C hw iw_10 rfl ob_60 (by decide) (by decide) fl_X10_78 rfl rfl dX10_starts_33 ?_
  refine lv_iload_n hx hb dX10_starts_36 rfl (lv_at hl 1 rfl) ?_
  refine lv_iconst (v := 0) hx hb dX10_starts_37 (by decide) ?_
  refine ti_iastG (ci := 10) (k := 37) (n := 23) C hw ob_60 (by decide) (fun _ _ => rfl) (by unfold vp_in; decide) dX10_starts_38 (fun H locs g_4 eg_4 hw => ?_)
  refine lv_aload_n hx hb dX10_starts_39 rfl (lv_at hl 0 rfl) ?_
  refine ti_get (ci := 10) (k := 38) (N := 67) (T := TX10) (v := .ref (A 60 39)) C hw iw_10 rfl ob_60 (by decide) (by decide) fl_X10_81 rfl rfl dX10_starts_40 ?_
  refine lv_iload_n hx hb dX10_starts_43 rfl (lv_at hl 1 rfl) ?_
  refine lv_iconst (v := 0) hx hb dX10_starts_44 (by decide) ?_
  refine ti_iastG (ci := 10) (k := 38) (n := 23) C hw ob_60 (by decide) (fun _ _ => rfl) (by unfold vp_in; decide) dX10_starts_45 (fun H locs g_5 eg_5 hw => ?_)
  refine lv_iconst (v := 0) hx hb dX10_starts_46 (by decide) ?_
  refine lv_istore_n (lv' := [(2, .int 0), (0, .ref (A 60 0)), (1, .int 0)]) hx hb dX10_starts_47 rfl hl (by decide) rfl (fun ls hl => ?_)
  refine lv_iload_n hx hb dX10_starts_48 rfl (lv_at hl 0 rfl) ?_
  refine lv_aload_n hx hb dX10_starts_49 rfl (lv_at hl 1 rfl) ?_
  refine ti_get (ci := 10) (k := 3) (N := 67) (T := TX10) (v := .ref (A 60 4)) C hw iw_10 rfl ob_60 (by decide) (by decide) fl_X10_13 rfl rfl dX10_starts_50 ?_
  refine lv_iconst (v := 0) hx hb dX10_starts_53 (by decide) ?_
  refine ti_iald (ci := 10) (k := 3) (n := 22) C hw ob_60 (by decide) (fun _ _ => rfl) (by unfold vp_in; decide) dX10_starts_54 ?_
  refine ti_top (y := 0) ((congrFun ((tY_k _ _ _ _ (by decide)).trans ((tY_k _ _ _ _ (by decide)).trans ((tY_k _ _ _ _ (by decide)).trans ((tY_k _ _ _ _ (by decide)).trans ((tY_k _ _ _ _ (by decide)).trans rfl))))) 0).trans h0) ?_
  refine lv_icmp_ge (tgt := 150) hx hb dX10_starts_55 (by decide) (fun c_55 => ?_) (fun c => absurd (by decide) c)
  refine lv_iconst (v := 0) hx hb dX10_starts_150 (by decide) ?_
  refine lv_istore_n (lv' := [(2, .int 0), (0, .ref (A 60 0)), (1, .int 0)]) hx hb dX10_starts_151 rfl hl (by decide) rfl (fun ls hl => ?_)
  refine lv_iload_n hx hb dX10_starts_152 rfl (lv_at hl 0 rfl) ?_
  refine lv_iconst (v := 3) hx hb dX10_starts_153 (by decide) ?_
  refine lv_icmp_ge (tgt := 182) hx hb dX10_starts_154 (by decide) (fun c => absurd c (by decide)) (fun c_154 => ?_)
  refine lv_aload_n hx hb dX10_starts_157 rfl (lv_at hl 1 rfl) ?_
  refine ti_get (ci := 10) (k := 49) (N := 67) (T := TX10) (v := .ref (A 60 50)) C hw iw_10 rfl ob_60 (by decide) (by decide) fl_X10_114 rfl rfl dX10_starts_158 ?_
  refine lv_iconst (v := 3) hx hb dX10_starts_161 (by decide) ?_
  refine lv_iload_n hx hb dX10_starts_162 rfl (lv_at hl 2 rfl) ?_
  refine lv_imul hx hb dX10_starts_163 ?_
  refine ti_top (y := 0) (by decide) ?_
  refine lv_iload_n hx hb dX10_starts_164 rfl (lv_at hl 0 rfl) ?_
  refine lv_iadd hx hb dX10_starts_165 ?_
  refine ti_top (y := 0) (by decide) ?_
  refine lv_aload_n hx hb dX10_starts_166 rfl (lv_at hl 1 rfl) ?_
  refine ti_get (ci := 10) (k := 3) (N := 67) (T := TX10) (v := .ref (A 60 4)) C hw iw_10 rfl ob_60 (by decide) (by decide) fl_X10_13 rfl rfl dX10_starts_167 ?_
  refine lv_bipush (v := 8) hx hb dX10_starts_170 (by decide) ?_
  refine lv_iload_n hx hb dX10_starts_172 rfl (lv_at hl 0 rfl) ?_
  refine lv_iadd hx hb dX10_starts_173 ?_
  refine ti_top (y := 8) (by decide) ?_
  refine ti_iald (ci := 10) (k := 3) (n := 22) C hw ob_60 (by decide) (fun _ _ => rfl) (by unfold vp_in; decide) dX10_starts_174 ?_
  refine ti_top (y := p0) ((congrFun ((tY_k _ _ _ _ (by decide)).trans ((tY_k _ _ _ _ (by decide)).trans ((tY_k _ _ _ _ (by decide)).trans ((tY_k _ _ _ _ (by decide)).trans ((tY_k _ _ _ _ (by decide)).trans rfl))))) 8).trans h8) ?_
  refine ti_iastG (ci := 10) (k := 49) (n := 69) C hw ob_60 (by decide) (fun _ _ => rfl) (by unfold vp_in; decide) dX10_starts_175 (fun H locs g_6 eg_6 hw => ?_)
  refine lv_iinc (v := 1) (lv' := [(2, .int 1), (0, .ref (A 60 0)), (1, .int 0)]) hx hb dX10_starts_176 hl (k := 0) rfl (by decide) (by decide) rfl (fun ls hl => ?_)
  refine lv_goto (tgt := 152) hx hb dX10_starts_179 (by decide) ?_
  refine lv_iload_n hx hb dX10_starts_152 rfl (lv_at hl 0 rfl) ?_
  refine lv_iconst (v := 3) hx hb dX10_starts_153 (by decide) ?_
  refine lv_icmp_ge (tgt := 182) hx hb dX10_starts_154 (by decide) (fun c => absurd c (by decide)) (fun c_154 => ?_)
  refine lv_aload_n hx hb dX10_starts_157 rfl (lv_at hl 1 rfl) ?_
  refine ti_get (ci := 10) (k := 49) (N := 67) (T := TX10) (v := .ref (A 60 50)) C hw iw_10 rfl ob_60 (by decide) (by decide) fl_X10_114 rfl rfl dX10_starts_158 ?_
  refine lv_iconst (v := 3) hx hb dX10_starts_161 (by decide) ?_
  refine lv_iload_n hx hb dX10_starts_162 rfl (lv_at hl 2 rfl) ?_
  refine lv_imul hx hb dX10_starts_163 ?_
  refine ti_top (y := 0) (by decide) ?_
  refine lv_iload_n hx hb dX10_starts_164 rfl (lv_at hl 0 rfl) ?_
  refine lv_iadd hx hb dX10_starts_165 ?_
  refine ti_top (y := 1) (by decide) ?_
  refine lv_aload_n hx hb dX10_starts_166 rfl (lv_at hl 1 rfl) ?_
  refine ti_get (ci := 10) (k := 3) (N := 67) (T := TX10) (v := .ref (A 60 4)) C hw iw_10 rfl ob_60 (by decide) (by decide) fl_X10_13 rfl rfl dX10_starts_167 ?_
  refine lv_bipush (v := 8) hx hb dX10_starts_170 (by decide) ?_
  refine lv_iload_n hx hb dX10_starts_172 rfl (lv_at hl 0 rfl) ?_
  refine lv_iadd hx hb dX10_starts_173 ?_
  refine ti_top (y := 9) (by decide) ?_
  refine ti_iald (ci := 10) (k := 3) (n := 22) C hw ob_60 (by decide) (fun _ _ => rfl) (by unfold vp_in; decide) dX10_starts_174 ?_
  refine ti_top (y := p1) ((congrFun ((tY_k _ _ _ _ (by decide)).trans ((tY_k _ _ _ _ (by decide)).trans ((tY_k _ _ _ _ (by decide)).trans ((tY_k _ _ _ _ (by decide)).trans ((tY_k _ _ _ _ (by decide)).trans ((tY_k _ _ _ _ (by decide)).trans rfl)))))) 9).trans h9) ?_
  refine ti_iastG (ci := 10) (k := 49) (n := 69) C hw ob_60 (by decide) (fun _ _ => rfl) (by unfold vp_in; decide) dX10_starts_175 (fun H locs g_7 eg_7 hw => ?_)
  refine lv_iinc (v := 2) (lv' := [(2, .int 2), (0, .ref (A 60 0)), (1, .int 0)]) hx hb dX10_starts_176 hl (k := 0) rfl (by decide) (by decide) rfl (fun ls hl => ?_)
  refine lv_goto (tgt := 152) hx hb dX10_starts_179 (by decide) ?_
  refine lv_iload_n hx hb dX10_starts_152 rfl (lv_at hl 0 rfl) ?_
  refine lv_iconst (v := 3) hx hb dX10_starts_153 (by decide) ?_
  refine lv_icmp_ge (tgt := 182) hx hb dX10_starts_154 (by decide) (fun c => absurd c (by decide)) (fun c_154 => ?_)
  refine lv_aload_n hx hb dX10_starts_157 rfl (lv_at hl 1 rfl) ?_
  refine ti_get (ci := 10) (k := 49) (N := 67) (T := TX10) (v := .ref (A 60 50)) C hw iw_10 rfl ob_60 (by decide) (by decide) fl_X10_114 rfl rfl dX10_starts_158 ?_
  refine lv_iconst (v := 3) hx hb dX10_starts_161 (by decide) ?_
  refine lv_iload_n hx hb dX10_starts_162 rfl (lv_at hl 2 rfl) ?_
  refine lv_imul hx hb dX10_starts_163 ?_
  refine ti_top (y := 0) (by decide) ?_
  refine lv_iload_n hx hb dX10_starts_164 rfl (lv_at hl 0 rfl) ?_
  refine lv_iadd hx hb dX10_starts_165 ?_
  refine ti_top (y := 2) (by decide) ?_
  refine lv_aload_n hx hb dX10_starts_166 rfl (lv_at hl 1 rfl) ?_
  refine ti_get (ci := 10) (k := 3) (N := 67) (T := TX10) (v := .ref (A 60 4)) C hw iw_10 rfl ob_60 (by decide) (by decide) fl_X10_13 rfl rfl dX10_starts_167 ?_
  refine lv_bipush (v := 8) hx hb dX10_starts_170 (by decide) ?_
  refine lv_iload_n hx hb dX10_starts_172 rfl (lv_at hl 0 rfl) ?_
  refine lv_iadd hx hb dX10_starts_173 ?_
  refine ti_top (y := 10) (by decide) ?_
  refine ti_iald (ci := 10) (k := 3) (n := 22) C hw ob_60 (by decide) (fun _ _ => rfl) (by unfold vp_in; decide) dX10_starts_174 ?_
  refine ti_top (y := p2) ((congrFun ((tY_k _ _ _ _ (by decide)).trans ((tY_k _ _ _ _ (by decide)).trans ((tY_k _ _ _ _ (by decide)).trans ((tY_k _ _ _ _ (by decide)).trans ((tY_k _ _ _ _ (by decide)).trans ((tY_k _ _ _ _ (by decide)).trans ((tY_k _ _ _ _ (by decide)).trans rfl))))))) 10).trans h10) ?_
  refine ti_iastG (ci := 10) (k := 49) (n := 69) C hw ob_60 (by decide) (fun _ _ => rfl) (by unfold vp_in; decide) dX10_starts_175 (fun H locs g_8 eg_8 hw => ?_)
  refine lv_iinc (v := 3) (lv' := [(2, .int 3), (0, .ref (A 60 0)), (1, .int 0)]) hx hb dX10_starts_176 hl (k := 0) rfl (by decide) (by decide) rfl (fun ls hl => ?_)
  refine lv_goto (tgt := 152) hx hb dX10_starts_179 (by decide) ?_
  refine lv_iload_n hx hb dX10_starts_152 rfl (lv_at hl 0 rfl) ?_
  refine lv_iconst (v := 3) hx hb dX10_starts_153 (by decide) ?_
  refine lv_icmp_ge (tgt := 182) hx hb dX10_starts_154 (by decide) (fun c_154 => ?_) (fun c => absurd (by decide) c)
  exact hQ _ _ _ _ _ hw (⟨g_1, g_2, g_3, g_4, g_5, g_6, g_7, g_8, rfl, eg_1, eg_2, eg_3, eg_4, eg_5, eg_6, eg_7, eg_8⟩) dX10_starts_182
set_option maxHeartbeats 4000000 in
set_option maxRecDepth 100000 in
theorem k_X10_begins (l : Launch) (D : va_G) (A : Nat → Nat → Nat) (cy : Nat → ClassId) (hJ : ti_inj ti_LM A) (M : ti_M) (w0 s0 p0 p1 p2 : Int32) (h0 : tY M 60 3 0 = 0) (h1 : tY M 60 3 1 = w0) (h6 : tY M 60 3 6 = s0) (h8 : tY M 60 3 8 = p0) (h9 : tY M 60 3 9 = p1) (h10 : tY M 60 3 10 = p2) : ti_Kv l yX10_begins cX10_begins 1 1 ti_LM D A cy M [.ref (A 60 0)] (fun M2 => ∃ g_1_2 g_2_2 g_3_2 g_4_2 g_5_2 g_6_2 g_7_2 g_8_2 : Nat → Int32, M2 = (uY (uY (uY (uY (uY (uY (uY (uY M 60 34 g_1_2) 60 35 g_2_2) 60 36 g_3_2) 60 37 g_4_2) 60 38 g_5_2) 60 49 g_6_2) 60 49 g_7_2) 60 49 g_8_2) ∧ g_1_2 = upd (tY M 60 34) 0 0 ∧ g_2_2 = upd (tY M 60 35) 0 w0 ∧ g_3_2 = upd (tY M 60 36) 0 s0 ∧ g_4_2 = upd (tY M 60 37) 0 0 ∧ g_5_2 = upd (tY M 60 38) 0 0 ∧ g_6_2 = upd (tY M 60 49) 0 p0 ∧ g_7_2 = upd g_6_2 1 p1 ∧ g_8_2 = upd g_7_2 2 p2) := by
  refine ti_eV yp_X10_begins hJ ti_LM_nd (Nat.le_of_ble_eq_true rfl) ?_
  intro p e s m args below meth c Q H0 C hQ hw ls hl
  have hx := C.1
  have hb := C.2.1
  have hl : lv_has ls 1 [(0, .ref (A 60 0))] := hl
  refine lv_aload_n hx hb dX10_begins_0 rfl (lv_at hl 0 rfl) ?_
  refine lv_iconst (v := 0) hx hb dX10_begins_1 (by decide) ?_
  refine ti_callVv (ci := 10) (av := [.int 0]) C hw (k_X10_starts l D A cy hJ M w0 s0 p0 p1 p2 ((congrFun (rfl) 0).trans h0) ((congrFun (rfl) 1).trans h1) ((congrFun (rfl) 6).trans h6) ((congrFun (rfl) 8).trans h8) ((congrFun (rfl) 9).trans h9) ((congrFun (rfl) 10).trans h10)) ⟨ml_X10_353, ym_X10_starts, yv_X10_starts, yi_X10_starts, yc_X10_starts⟩ yd_X10_starts ob_60 (by decide) rfl rfl hl.1 (Nat.le_of_ble_eq_true rfl) ⟨by decide, by decide⟩ ⟨Nat.zero_le _, Nat.zero_le _⟩ dX10_begins_2 (fun M_2 H locs hp_2 hw => ?_)
  obtain ⟨g_1_2, g_2_2, g_3_2, g_4_2, g_5_2, g_6_2, g_7_2, g_8_2, hm, eg_1_2, eg_2_2, eg_3_2, eg_4_2, eg_5_2, eg_6_2, eg_7_2, eg_8_2⟩ := hp_2
  have hw := hw.to hm
  exact hQ _ _ _ _ _ hw (⟨g_1_2, g_2_2, g_3_2, g_4_2, g_5_2, g_6_2, g_7_2, g_8_2, rfl, eg_1_2, eg_2_2, eg_3_2, eg_4_2, eg_5_2, eg_6_2, eg_7_2, eg_8_2⟩) dX10_begins_5

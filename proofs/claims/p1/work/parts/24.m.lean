set_option maxHeartbeats 4000000 in
set_option maxRecDepth 100000 in
theorem k_reads_0 (l : Launch) (D : va_G) (A : Nat → Nat → Nat) (cy : Nat → ClassId) (hJ : ti_inj ti_LM A) (M : ti_M) (v : Int32) : ti_Kv l yX10_reads cX10_reads 3 0 ti_LM D A cy M [.ref (A 60 0), .int 0, .int v] (fun M2 => ∃ g_1 : Nat → Int32, M2 = (uY M 60 3 g_1) ∧ g_1 = upd (tY M 60 3) 11 v) := by
  refine ti_eV yp_X10_reads hJ ti_LM_nd (Nat.le_of_ble_eq_true rfl) ?_
  intro p e s m args below meth c Q H0 C hQ hw ls hl
  have hx := C.1
  have hb := C.2.1
  have hl : lv_has ls 3 [(0, .ref (A 60 0)), (1, .int 0), (2, .int v)] := hl
  refine lv_aload_n hx hb dX10_reads_0 rfl (lv_at hl 0 rfl) ?_
  refine ti_get (ci := 10) (k := 3) (N := 67) (T := TX10) (v := .ref (A 60 4)) C hw iw_10 rfl ob_60 (by decide) (by decide) fl_X10_13 rfl rfl dX10_reads_1 ?_
  refine lv_bipush (v := 11) hx hb dX10_reads_4 (by decide) ?_
  refine lv_iload_n hx hb dX10_reads_6 rfl (lv_at hl 1 rfl) ?_
  refine lv_iadd hx hb dX10_reads_7 ?_
  refine ti_top (y := 11) (by decide) ?_
  refine lv_iload_n hx hb dX10_reads_8 rfl (lv_at hl 2 rfl) ?_
  refine ti_iastG (ci := 10) (k := 3) (n := 22) C hw ob_60 (by decide) (fun _ _ => rfl) (by unfold vp_in; decide) dX10_reads_9 (fun H locs g_1 eg_1 hw => ?_)
  exact hQ _ _ _ _ _ hw (⟨g_1, rfl, eg_1⟩) dX10_reads_10
set_option maxHeartbeats 4000000 in
set_option maxRecDepth 100000 in
theorem k_reads_1 (l : Launch) (D : va_G) (A : Nat → Nat → Nat) (cy : Nat → ClassId) (hJ : ti_inj ti_LM A) (M : ti_M) (v : Int32) : ti_Kv l yX10_reads cX10_reads 3 0 ti_LM D A cy M [.ref (A 60 0), .int 1, .int v] (fun M2 => ∃ g_1 : Nat → Int32, M2 = (uY M 60 3 g_1) ∧ g_1 = upd (tY M 60 3) 12 v) := by
  refine ti_eV yp_X10_reads hJ ti_LM_nd (Nat.le_of_ble_eq_true rfl) ?_
  intro p e s m args below meth c Q H0 C hQ hw ls hl
  have hx := C.1
  have hb := C.2.1
  have hl : lv_has ls 3 [(0, .ref (A 60 0)), (1, .int 1), (2, .int v)] := hl
  refine lv_aload_n hx hb dX10_reads_0 rfl (lv_at hl 0 rfl) ?_
  refine ti_get (ci := 10) (k := 3) (N := 67) (T := TX10) (v := .ref (A 60 4)) C hw iw_10 rfl ob_60 (by decide) (by decide) fl_X10_13 rfl rfl dX10_reads_1 ?_
  refine lv_bipush (v := 11) hx hb dX10_reads_4 (by decide) ?_
  refine lv_iload_n hx hb dX10_reads_6 rfl (lv_at hl 1 rfl) ?_
  refine lv_iadd hx hb dX10_reads_7 ?_
  refine ti_top (y := 12) (by decide) ?_
  refine lv_iload_n hx hb dX10_reads_8 rfl (lv_at hl 2 rfl) ?_
  refine ti_iastG (ci := 10) (k := 3) (n := 22) C hw ob_60 (by decide) (fun _ _ => rfl) (by unfold vp_in; decide) dX10_reads_9 (fun H locs g_1 eg_1 hw => ?_)
  exact hQ _ _ _ _ _ hw (⟨g_1, rfl, eg_1⟩) dX10_reads_10
set_option maxHeartbeats 4000000 in
set_option maxRecDepth 100000 in
theorem k_reads_2 (l : Launch) (D : va_G) (A : Nat → Nat → Nat) (cy : Nat → ClassId) (hJ : ti_inj ti_LM A) (M : ti_M) (v : Int32) : ti_Kv l yX10_reads cX10_reads 3 0 ti_LM D A cy M [.ref (A 60 0), .int 2, .int v] (fun M2 => ∃ g_1 : Nat → Int32, M2 = (uY M 60 3 g_1) ∧ g_1 = upd (tY M 60 3) 13 v) := by
  refine ti_eV yp_X10_reads hJ ti_LM_nd (Nat.le_of_ble_eq_true rfl) ?_
  intro p e s m args below meth c Q H0 C hQ hw ls hl
  have hx := C.1
  have hb := C.2.1
  have hl : lv_has ls 3 [(0, .ref (A 60 0)), (1, .int 2), (2, .int v)] := hl
  refine lv_aload_n hx hb dX10_reads_0 rfl (lv_at hl 0 rfl) ?_
  refine ti_get (ci := 10) (k := 3) (N := 67) (T := TX10) (v := .ref (A 60 4)) C hw iw_10 rfl ob_60 (by decide) (by decide) fl_X10_13 rfl rfl dX10_reads_1 ?_
  refine lv_bipush (v := 11) hx hb dX10_reads_4 (by decide) ?_
  refine lv_iload_n hx hb dX10_reads_6 rfl (lv_at hl 1 rfl) ?_
  refine lv_iadd hx hb dX10_reads_7 ?_
  refine ti_top (y := 13) (by decide) ?_
  refine lv_iload_n hx hb dX10_reads_8 rfl (lv_at hl 2 rfl) ?_
  refine ti_iastG (ci := 10) (k := 3) (n := 22) C hw ob_60 (by decide) (fun _ _ => rfl) (by unfold vp_in; decide) dX10_reads_9 (fun H locs g_1 eg_1 hw => ?_)
  exact hQ _ _ _ _ _ hw (⟨g_1, rfl, eg_1⟩) dX10_reads_10
set_option maxHeartbeats 4000000 in
set_option maxRecDepth 100000 in
theorem k_reads_3 (l : Launch) (D : va_G) (A : Nat → Nat → Nat) (cy : Nat → ClassId) (hJ : ti_inj ti_LM A) (M : ti_M) (v : Int32) : ti_Kv l yX10_reads cX10_reads 3 0 ti_LM D A cy M [.ref (A 60 0), .int 3, .int v] (fun M2 => ∃ g_1 : Nat → Int32, M2 = (uY M 60 3 g_1) ∧ g_1 = upd (tY M 60 3) 14 v) := by
  refine ti_eV yp_X10_reads hJ ti_LM_nd (Nat.le_of_ble_eq_true rfl) ?_
  intro p e s m args below meth c Q H0 C hQ hw ls hl
  have hx := C.1
  have hb := C.2.1
  have hl : lv_has ls 3 [(0, .ref (A 60 0)), (1, .int 3), (2, .int v)] := hl
  refine lv_aload_n hx hb dX10_reads_0 rfl (lv_at hl 0 rfl) ?_
  refine ti_get (ci := 10) (k := 3) (N := 67) (T := TX10) (v := .ref (A 60 4)) C hw iw_10 rfl ob_60 (by decide) (by decide) fl_X10_13 rfl rfl dX10_reads_1 ?_
  refine lv_bipush (v := 11) hx hb dX10_reads_4 (by decide) ?_
  refine lv_iload_n hx hb dX10_reads_6 rfl (lv_at hl 1 rfl) ?_
  refine lv_iadd hx hb dX10_reads_7 ?_
  refine ti_top (y := 14) (by decide) ?_
  refine lv_iload_n hx hb dX10_reads_8 rfl (lv_at hl 2 rfl) ?_
  refine ti_iastG (ci := 10) (k := 3) (n := 22) C hw ob_60 (by decide) (fun _ _ => rfl) (by unfold vp_in; decide) dX10_reads_9 (fun H locs g_1 eg_1 hw => ?_)
  exact hQ _ _ _ _ _ hw (⟨g_1, rfl, eg_1⟩) dX10_reads_10
set_option maxHeartbeats 4000000 in
set_option maxRecDepth 100000 in
theorem k_reads_4 (l : Launch) (D : va_G) (A : Nat → Nat → Nat) (cy : Nat → ClassId) (hJ : ti_inj ti_LM A) (M : ti_M) (v : Int32) : ti_Kv l yX10_reads cX10_reads 3 0 ti_LM D A cy M [.ref (A 60 0), .int 4, .int v] (fun M2 => ∃ g_1 : Nat → Int32, M2 = (uY M 60 3 g_1) ∧ g_1 = upd (tY M 60 3) 15 v) := by
  refine ti_eV yp_X10_reads hJ ti_LM_nd (Nat.le_of_ble_eq_true rfl) ?_
  intro p e s m args below meth c Q H0 C hQ hw ls hl
  have hx := C.1
  have hb := C.2.1
  have hl : lv_has ls 3 [(0, .ref (A 60 0)), (1, .int 4), (2, .int v)] := hl
  refine lv_aload_n hx hb dX10_reads_0 rfl (lv_at hl 0 rfl) ?_
  refine ti_get (ci := 10) (k := 3) (N := 67) (T := TX10) (v := .ref (A 60 4)) C hw iw_10 rfl ob_60 (by decide) (by decide) fl_X10_13 rfl rfl dX10_reads_1 ?_
  refine lv_bipush (v := 11) hx hb dX10_reads_4 (by decide) ?_
  refine lv_iload_n hx hb dX10_reads_6 rfl (lv_at hl 1 rfl) ?_
  refine lv_iadd hx hb dX10_reads_7 ?_
  refine ti_top (y := 15) (by decide) ?_
  refine lv_iload_n hx hb dX10_reads_8 rfl (lv_at hl 2 rfl) ?_
  refine ti_iastG (ci := 10) (k := 3) (n := 22) C hw ob_60 (by decide) (fun _ _ => rfl) (by unfold vp_in; decide) dX10_reads_9 (fun H locs g_1 eg_1 hw => ?_)
  exact hQ _ _ _ _ _ hw (⟨g_1, rfl, eg_1⟩) dX10_reads_10
set_option maxHeartbeats 4000000 in
set_option maxRecDepth 100000 in
theorem k_reads_5 (l : Launch) (D : va_G) (A : Nat → Nat → Nat) (cy : Nat → ClassId) (hJ : ti_inj ti_LM A) (M : ti_M) (v : Int32) : ti_Kv l yX10_reads cX10_reads 3 0 ti_LM D A cy M [.ref (A 60 0), .int 5, .int v] (fun M2 => ∃ g_1 : Nat → Int32, M2 = (uY M 60 3 g_1) ∧ g_1 = upd (tY M 60 3) 16 v) := by
  refine ti_eV yp_X10_reads hJ ti_LM_nd (Nat.le_of_ble_eq_true rfl) ?_
  intro p e s m args below meth c Q H0 C hQ hw ls hl
  have hx := C.1
  have hb := C.2.1
  have hl : lv_has ls 3 [(0, .ref (A 60 0)), (1, .int 5), (2, .int v)] := hl
  refine lv_aload_n hx hb dX10_reads_0 rfl (lv_at hl 0 rfl) ?_
  refine ti_get (ci := 10) (k := 3) (N := 67) (T := TX10) (v := .ref (A 60 4)) C hw iw_10 rfl ob_60 (by decide) (by decide) fl_X10_13 rfl rfl dX10_reads_1 ?_
  refine lv_bipush (v := 11) hx hb dX10_reads_4 (by decide) ?_
  refine lv_iload_n hx hb dX10_reads_6 rfl (lv_at hl 1 rfl) ?_
  refine lv_iadd hx hb dX10_reads_7 ?_
  refine ti_top (y := 16) (by decide) ?_
  refine lv_iload_n hx hb dX10_reads_8 rfl (lv_at hl 2 rfl) ?_
  refine ti_iastG (ci := 10) (k := 3) (n := 22) C hw ob_60 (by decide) (fun _ _ => rfl) (by unfold vp_in; decide) dX10_reads_9 (fun H locs g_1 eg_1 hw => ?_)
  exact hQ _ _ _ _ _ hw (⟨g_1, rfl, eg_1⟩) dX10_reads_10
set_option maxHeartbeats 4000000 in
set_option maxRecDepth 100000 in
theorem k_reads_6 (l : Launch) (D : va_G) (A : Nat → Nat → Nat) (cy : Nat → ClassId) (hJ : ti_inj ti_LM A) (M : ti_M) (v : Int32) : ti_Kv l yX10_reads cX10_reads 3 0 ti_LM D A cy M [.ref (A 60 0), .int 6, .int v] (fun M2 => ∃ g_1 : Nat → Int32, M2 = (uY M 60 3 g_1) ∧ g_1 = upd (tY M 60 3) 17 v) := by
  refine ti_eV yp_X10_reads hJ ti_LM_nd (Nat.le_of_ble_eq_true rfl) ?_
  intro p e s m args below meth c Q H0 C hQ hw ls hl
  have hx := C.1
  have hb := C.2.1
  have hl : lv_has ls 3 [(0, .ref (A 60 0)), (1, .int 6), (2, .int v)] := hl
  refine lv_aload_n hx hb dX10_reads_0 rfl (lv_at hl 0 rfl) ?_
  refine ti_get (ci := 10) (k := 3) (N := 67) (T := TX10) (v := .ref (A 60 4)) C hw iw_10 rfl ob_60 (by decide) (by decide) fl_X10_13 rfl rfl dX10_reads_1 ?_
  refine lv_bipush (v := 11) hx hb dX10_reads_4 (by decide) ?_
  refine lv_iload_n hx hb dX10_reads_6 rfl (lv_at hl 1 rfl) ?_
  refine lv_iadd hx hb dX10_reads_7 ?_
  refine ti_top (y := 17) (by decide) ?_
  refine lv_iload_n hx hb dX10_reads_8 rfl (lv_at hl 2 rfl) ?_
  refine ti_iastG (ci := 10) (k := 3) (n := 22) C hw ob_60 (by decide) (fun _ _ => rfl) (by unfold vp_in; decide) dX10_reads_9 (fun H locs g_1 eg_1 hw => ?_)
  exact hQ _ _ _ _ _ hw (⟨g_1, rfl, eg_1⟩) dX10_reads_10
set_option maxHeartbeats 4000000 in
set_option maxRecDepth 100000 in
theorem k_reads_7 (l : Launch) (D : va_G) (A : Nat → Nat → Nat) (cy : Nat → ClassId) (hJ : ti_inj ti_LM A) (M : ti_M) (v : Int32) : ti_Kv l yX10_reads cX10_reads 3 0 ti_LM D A cy M [.ref (A 60 0), .int 7, .int v] (fun M2 => ∃ g_1 : Nat → Int32, M2 = (uY M 60 3 g_1) ∧ g_1 = upd (tY M 60 3) 18 v) := by
  refine ti_eV yp_X10_reads hJ ti_LM_nd (Nat.le_of_ble_eq_true rfl) ?_
  intro p e s m args below meth c Q H0 C hQ hw ls hl
  have hx := C.1
  have hb := C.2.1
  have hl : lv_has ls 3 [(0, .ref (A 60 0)), (1, .int 7), (2, .int v)] := hl
  refine lv_aload_n hx hb dX10_reads_0 rfl (lv_at hl 0 rfl) ?_
  refine ti_get (ci := 10) (k := 3) (N := 67) (T := TX10) (v := .ref (A 60 4)) C hw iw_10 rfl ob_60 (by decide) (by decide) fl_X10_13 rfl rfl dX10_reads_1 ?_
  refine lv_bipush (v := 11) hx hb dX10_reads_4 (by decide) ?_
  refine lv_iload_n hx hb dX10_reads_6 rfl (lv_at hl 1 rfl) ?_
  refine lv_iadd hx hb dX10_reads_7 ?_
  refine ti_top (y := 18) (by decide) ?_
  refine lv_iload_n hx hb dX10_reads_8 rfl (lv_at hl 2 rfl) ?_
  refine ti_iastG (ci := 10) (k := 3) (n := 22) C hw ob_60 (by decide) (fun _ _ => rfl) (by unfold vp_in; decide) dX10_reads_9 (fun H locs g_1 eg_1 hw => ?_)
  exact hQ _ _ _ _ _ hw (⟨g_1, rfl, eg_1⟩) dX10_reads_10
set_option maxHeartbeats 4000000 in
set_option maxRecDepth 100000 in
theorem k_reads_8 (l : Launch) (D : va_G) (A : Nat → Nat → Nat) (cy : Nat → ClassId) (hJ : ti_inj ti_LM A) (M : ti_M) (v : Int32) : ti_Kv l yX10_reads cX10_reads 3 0 ti_LM D A cy M [.ref (A 60 0), .int 8, .int v] (fun M2 => ∃ g_1 : Nat → Int32, M2 = (uY M 60 3 g_1) ∧ g_1 = upd (tY M 60 3) 19 v) := by
  refine ti_eV yp_X10_reads hJ ti_LM_nd (Nat.le_of_ble_eq_true rfl) ?_
  intro p e s m args below meth c Q H0 C hQ hw ls hl
  have hx := C.1
  have hb := C.2.1
  have hl : lv_has ls 3 [(0, .ref (A 60 0)), (1, .int 8), (2, .int v)] := hl
  refine lv_aload_n hx hb dX10_reads_0 rfl (lv_at hl 0 rfl) ?_
  refine ti_get (ci := 10) (k := 3) (N := 67) (T := TX10) (v := .ref (A 60 4)) C hw iw_10 rfl ob_60 (by decide) (by decide) fl_X10_13 rfl rfl dX10_reads_1 ?_
  refine lv_bipush (v := 11) hx hb dX10_reads_4 (by decide) ?_
  refine lv_iload_n hx hb dX10_reads_6 rfl (lv_at hl 1 rfl) ?_
  refine lv_iadd hx hb dX10_reads_7 ?_
  refine ti_top (y := 19) (by decide) ?_
  refine lv_iload_n hx hb dX10_reads_8 rfl (lv_at hl 2 rfl) ?_
  refine ti_iastG (ci := 10) (k := 3) (n := 22) C hw ob_60 (by decide) (fun _ _ => rfl) (by unfold vp_in; decide) dX10_reads_9 (fun H locs g_1 eg_1 hw => ?_)
  exact hQ _ _ _ _ _ hw (⟨g_1, rfl, eg_1⟩) dX10_reads_10
set_option maxHeartbeats 4000000 in
set_option maxRecDepth 100000 in
theorem k_reads_9 (l : Launch) (D : va_G) (A : Nat → Nat → Nat) (cy : Nat → ClassId) (hJ : ti_inj ti_LM A) (M : ti_M) (v : Int32) : ti_Kv l yX10_reads cX10_reads 3 0 ti_LM D A cy M [.ref (A 60 0), .int 9, .int v] (fun M2 => ∃ g_1 : Nat → Int32, M2 = (uY M 60 3 g_1) ∧ g_1 = upd (tY M 60 3) 20 v) := by
  refine ti_eV yp_X10_reads hJ ti_LM_nd (Nat.le_of_ble_eq_true rfl) ?_
  intro p e s m args below meth c Q H0 C hQ hw ls hl
  have hx := C.1
  have hb := C.2.1
  have hl : lv_has ls 3 [(0, .ref (A 60 0)), (1, .int 9), (2, .int v)] := hl
  refine lv_aload_n hx hb dX10_reads_0 rfl (lv_at hl 0 rfl) ?_
  refine ti_get (ci := 10) (k := 3) (N := 67) (T := TX10) (v := .ref (A 60 4)) C hw iw_10 rfl ob_60 (by decide) (by decide) fl_X10_13 rfl rfl dX10_reads_1 ?_
  refine lv_bipush (v := 11) hx hb dX10_reads_4 (by decide) ?_
  refine lv_iload_n hx hb dX10_reads_6 rfl (lv_at hl 1 rfl) ?_
  refine lv_iadd hx hb dX10_reads_7 ?_
  refine ti_top (y := 20) (by decide) ?_
  refine lv_iload_n hx hb dX10_reads_8 rfl (lv_at hl 2 rfl) ?_
  refine ti_iastG (ci := 10) (k := 3) (n := 22) C hw ob_60 (by decide) (fun _ _ => rfl) (by unfold vp_in; decide) dX10_reads_9 (fun H locs g_1 eg_1 hw => ?_)
  exact hQ _ _ _ _ _ hw (⟨g_1, rfl, eg_1⟩) dX10_reads_10
set_option maxHeartbeats 4000000 in
set_option maxRecDepth 100000 in
theorem k_reads_10 (l : Launch) (D : va_G) (A : Nat → Nat → Nat) (cy : Nat → ClassId) (hJ : ti_inj ti_LM A) (M : ti_M) (v : Int32) : ti_Kv l yX10_reads cX10_reads 3 0 ti_LM D A cy M [.ref (A 60 0), .int 10, .int v] (fun M2 => ∃ g_1 : Nat → Int32, M2 = (uY M 60 3 g_1) ∧ g_1 = upd (tY M 60 3) 21 v) := by
  refine ti_eV yp_X10_reads hJ ti_LM_nd (Nat.le_of_ble_eq_true rfl) ?_
  intro p e s m args below meth c Q H0 C hQ hw ls hl
  have hx := C.1
  have hb := C.2.1
  have hl : lv_has ls 3 [(0, .ref (A 60 0)), (1, .int 10), (2, .int v)] := hl
  refine lv_aload_n hx hb dX10_reads_0 rfl (lv_at hl 0 rfl) ?_
  refine ti_get (ci := 10) (k := 3) (N := 67) (T := TX10) (v := .ref (A 60 4)) C hw iw_10 rfl ob_60 (by decide) (by decide) fl_X10_13 rfl rfl dX10_reads_1 ?_
  refine lv_bipush (v := 11) hx hb dX10_reads_4 (by decide) ?_
  refine lv_iload_n hx hb dX10_reads_6 rfl (lv_at hl 1 rfl) ?_
  refine lv_iadd hx hb dX10_reads_7 ?_
  refine ti_top (y := 21) (by decide) ?_
  refine lv_iload_n hx hb dX10_reads_8 rfl (lv_at hl 2 rfl) ?_
  refine ti_iastG (ci := 10) (k := 3) (n := 22) C hw ob_60 (by decide) (fun _ _ => rfl) (by unfold vp_in; decide) dX10_reads_9 (fun H locs g_1 eg_1 hw => ?_)
  exact hQ _ _ _ _ _ hw (⟨g_1, rfl, eg_1⟩) dX10_reads_10
set_option maxHeartbeats 4000000 in
set_option maxRecDepth 100000 in
theorem k_X10_here (l : Launch) (D : va_G) (A : Nat → Nat → Nat) (cy : Nat → ClassId) (hJ : ti_inj ti_LM A) (M : ti_M) (h1 : tI M 60 21 = 0) (h2 : tI M 60 20 = 0) : ti_Ki l yX10_here cX10_here 1 (some .int) 0 ti_LM D A cy M [.ref (A 60 0)] (fun r M2 => M2 = M ∧ r = (-1)) := by
  refine ti_eI yp_X10_here hJ ti_LM_nd (Nat.le_of_ble_eq_true rfl) ?_
  intro p e s m args below meth c Q H0 C hQ hw ls hl
  have hx := C.1
  have hb := C.2.1
  have hl : lv_has ls 1 [(0, .ref (A 60 0))] := hl
  refine lv_aload_n hx hb dX10_here_0 rfl (lv_at hl 0 rfl) ?_
  refine ti_get (ci := 10) (k := 21) (N := 67) (T := TX10) C hw iw_10 rfl ob_60 (by decide) (by decide) fl_X10_160 rfl rfl dX10_here_1 ?_
  refine ti_top (y := 0) (h1) ?_
  refine lv_aload_n hx hb dX10_here_4 rfl (lv_at hl 0 rfl) ?_
  refine ti_get (ci := 10) (k := 20) (N := 67) (T := TX10) C hw iw_10 rfl ob_60 (by decide) (by decide) fl_X10_163 rfl rfl dX10_here_5 ?_
  refine ti_top (y := 0) (h2) ?_
  refine lv_icmp_ge (tgt := 23) hx hb dX10_here_8 (by decide) (fun c_8 => ?_) (fun c => absurd (by decide) c)
  refine lv_iconst (v := (-1)) hx hb dX10_here_23 (by decide) ?_
  exact hQ _ _ _ _ _ _ hw rfl (⟨rfl, rfl⟩) dX10_here_24
set_option maxHeartbeats 4000000 in
set_option maxRecDepth 100000 in
theorem k_X10_token (l : Launch) (D : va_G) (A : Nat → Nat → Nat) (cy : Nat → ClassId) (hJ : ti_inj ti_LM A) (M : ti_M) (h1 : tI M 60 21 = 0) (h2 : tI M 60 20 = 0) : ti_Kv l yX10_token cX10_token 2 1 ti_LM D A cy M [.ref (A 60 0)] (fun M2 => M2 = (uI (uI M 60 22 0) 60 23 4)) := by
  refine ti_eV yp_X10_token hJ ti_LM_nd (Nat.le_of_ble_eq_true rfl) ?_
  intro p e s m args below meth c Q H0 C hQ hw ls hl
  have hx := C.1
  have hb := C.2.1
  have hl : lv_has ls 2 [(0, .ref (A 60 0))] := hl
  refine lv_aload_n hx hb dX10_token_0 rfl (lv_at hl 0 rfl) ?_
  refine ti_callVi (ci := 10) (av := []) C hw (k_X10_here l D A cy hJ M (h1) (h2)) ⟨ml_X10_166, ym_X10_here, yv_X10_here, yi_X10_here, yc_X10_here⟩ yd_X10_here ob_60 (by decide) rfl rfl hl.1 (Nat.le_of_ble_eq_true rfl) ⟨by decide, by decide⟩ ⟨Nat.zero_le _, Nat.zero_le _⟩ dX10_token_1 (fun r_1 M_2 H locs hp_2 hw => ?_)
  obtain ⟨hm, rfl⟩ := hp_2
  have hw := hw.to hm
  refine lv_bipush (v := 10) hx hb dX10_token_4 (by decide) ?_
  refine lv_icmp_eq (tgt := 18) hx hb dX10_token_6 (by decide) (fun c => absurd c (by decide)) (fun c_6 => ?_)
  refine lv_aload_n hx hb dX10_token_9 rfl (lv_at hl 0 rfl) ?_
  refine ti_callVi (ci := 10) (av := []) C hw (k_X10_here l D A cy hJ M (h1) (h2)) ⟨ml_X10_166, ym_X10_here, yv_X10_here, yi_X10_here, yc_X10_here⟩ yd_X10_here ob_60 (by decide) rfl rfl hl.1 (Nat.le_of_ble_eq_true rfl) ⟨by decide, by decide⟩ ⟨Nat.zero_le _, Nat.zero_le _⟩ dX10_token_10 (fun r_3 M_4 H locs hp_4 hw => ?_)
  obtain ⟨hm, rfl⟩ := hp_4
  have hw := hw.to hm
  refine lv_bipush (v := 32) hx hb dX10_token_13 (by decide) ?_
  refine lv_icmp_ne (tgt := 31) hx hb dX10_token_15 (by decide) (fun c_15 => ?_) (fun c => absurd c (by decide))
  refine lv_aload_n hx hb dX10_token_31 rfl (lv_at hl 0 rfl) ?_
  refine lv_aload_n hx hb dX10_token_32 rfl (lv_at hl 0 rfl) ?_
  refine ti_get (ci := 10) (k := 21) (N := 67) (T := TX10) C hw iw_10 rfl ob_60 (by decide) (by decide) fl_X10_160 rfl rfl dX10_token_33 ?_
  refine ti_top (y := 0) (h1) ?_
  refine ti_putI (ci := 10) (k := 22) (N := 67) (T := TX10) C hw iw_10 tyX10 tyX10_ok nmX10 rfl ob_60 (by decide) (by decide) fl_X10_170 rfl rfl rfl rfl (fn_10 A _) fs_10_22 dX10_token_36 (fun H locs hw => ?_)
  refine lv_aload_n hx hb dX10_token_39 rfl (lv_at hl 0 rfl) ?_
  refine ti_callVi (ci := 10) (av := []) C hw (k_X10_here l D A cy hJ (uI M 60 22 0) ((tI_k _ _ _ _ (by decide)).trans h1) ((tI_k _ _ _ _ (by decide)).trans h2)) ⟨ml_X10_166, ym_X10_here, yv_X10_here, yi_X10_here, yc_X10_here⟩ yd_X10_here ob_60 (by decide) rfl rfl hl.1 (Nat.le_of_ble_eq_true rfl) ⟨by decide, by decide⟩ ⟨Nat.zero_le _, Nat.zero_le _⟩ dX10_token_40 (fun r_5 M_6 H locs hp_6 hw => ?_)
  obtain ⟨hm, rfl⟩ := hp_6
  have hw := hw.to hm
  refine lv_istore_n (lv' := [(1, .int (-1)), (0, .ref (A 60 0))]) hx hb dX10_token_43 rfl hl (by decide) rfl (fun ls hl => ?_)
  refine lv_iload_n hx hb dX10_token_44 rfl (lv_at hl 0 rfl) ?_
  refine lv_iconst (v := (-1)) hx hb dX10_token_45 (by decide) ?_
  refine lv_icmp_ne (tgt := 57) hx hb dX10_token_46 (by decide) (fun c => absurd (by decide) c) (fun c_46 => ?_)
  refine lv_aload_n hx hb dX10_token_49 rfl (lv_at hl 1 rfl) ?_
  refine lv_iconst (v := 4) hx hb dX10_token_50 (by decide) ?_
  refine ti_putI (ci := 10) (k := 23) (N := 67) (T := TX10) C hw iw_10 tyX10 tyX10_ok nmX10 rfl ob_60 (by decide) (by decide) fl_X10_173 rfl rfl rfl rfl (fn_10 A _) fs_10_23 dX10_token_51 (fun H locs hw => ?_)
  refine lv_goto (tgt := 225) hx hb dX10_token_54 (by decide) ?_
  exact hQ _ _ _ _ _ hw rfl dX10_token_225
set_option maxHeartbeats 4000000 in
set_option maxRecDepth 100000 in
/-- half(row): the second half comes into the first -/
theorem k_half (l : Launch) (D : va_G) (A : Nat → Nat → Nat) (cy : Nat → ClassId) (hJ : ti_inj ti_LM A) (M : ti_M) (k len hn : Nat) (hj : k + 1 ∈ ti_parts 10) (har : ∀ f g, ti_ar A cy 10 60 k f g = (cy 1, len, .inl f)) (hlen : len = hn + hn) (hsm : len < 2 ^ 30) (hdv : nI len / 2 = nI hn) : ti_Kv l yX10_half cX10_half 3 0 ti_LM D A cy M [.ref (A 60 (k + 1))] (fun M2 => ∃ g, M2 = uY M 60 k g ∧ ∀ j, j < hn → g j = tY M 60 k (hn + j)) := by
  refine ti_eV yp_X10_half hJ ti_LM_nd (Nat.le_of_ble_eq_true rfl) ?_
  intro p e s m args below meth c Q H0 C hQ hw ls hl
  have hx := C.1
  have hb := C.2.1
  have hl : lv_has ls 3 [(0, .ref (A 60 (k + 1)))] := hl
  refine lv_aload_n hx hb dX10_half_0 rfl (lv_at hl 0 rfl) ?_
  refine ti_alen (ci := 10) (n := len) (t0 := 1) (v := nI len) C hw ob_60 hj (fun f g => by rw [har]; exact ⟨rfl, rfl⟩) rfl rfl dX10_half_1 ?_
  refine lv_iconst (v := 2) hx hb dX10_half_2 (by decide) ?_
  refine lv_idiv hx hb dX10_half_3 (by decide) ?_
  refine ti_top (y := nI hn) hdv ?_
  refine lv_istore_n (lv' := [(1, .int (nI hn)), (0, .ref (A 60 (k + 1)))]) hx hb dX10_half_4 rfl hl (by decide) rfl (fun ls hl => ?_)
  refine lv_iconst (v := 0) hx hb dX10_half_5 (by decide) ?_
  refine lv_istore_n (lv' := [(2, .int 0), (1, .int (nI hn)), (0, .ref (A 60 (k + 1)))]) hx hb dX10_half_6 rfl hl (by decide) rfl (fun ls hl => ?_)
  suffices hloop : ∀ (n i : Nat) (g : Nat → Int32) (H : Heap) (locs : List Loc) (ls : Array Slot), hn < i + n → i ≤ hn → (∀ j, j < i → g j = tY M 60 k (hn + j)) → (∀ j, i ≤ j → g j = tY M 60 k j) → ti_H ti_LM D A cy H0 (uY M 60 k g) H locs → lv_has ls 3 [(2, .int (nI i)), (1, .int (nI hn)), (0, .ref (A 60 (k + 1)))] → W p l e (ti_rm 0) s m args below meth c H locs 0 0 Q (F0 m 7 ls []) from
    hloop (hn + 1) 0 (tY M 60 k) _ _ _ (by omega) (Nat.zero_le _) (fun j h => by omega) (fun j _ => rfl) (hw.to (uY_eta M 60 k).symm) hl
  intro n
  induction n with
  | zero => intro i g H locs ls h1 h2; omega
  | succ n ih =>
    intro i g H locs ls hf hi hg hg2 hw hl
    refine lv_iload_n hx hb dX10_half_7 rfl (lv_at hl 0 rfl) ?_
    refine lv_iload_n hx hb dX10_half_8 rfl (lv_at hl 1 rfl) ?_
    refine lv_icmp_ge (tgt := 26) hx hb dX10_half_9 (by decide) (fun c_9 => ?_) (fun c_9 => ?_)
    · have he : i = hn := by
        have := (nI_leI (a := hn) (b := i) (by omega) (by omega)).mp c_9
        omega
      exact hQ _ _ _ _ _ hw ⟨g, rfl, by rw [← he]; rw [← he] at hg; exact hg⟩ dX10_half_26
    · have hlt : i < hn := by
        rcases Nat.lt_or_ge i hn with q | q
        · exact q
        · exact absurd ((nI_leI (a := hn) (b := i) (by omega) (by omega)).mpr q) c_9
      refine lv_aload_n hx hb dX10_half_12 rfl (lv_at hl 2 rfl) ?_
      refine lv_iload_n hx hb dX10_half_13 rfl (lv_at hl 0 rfl) ?_
      refine lv_aload_n hx hb dX10_half_14 rfl (lv_at hl 2 rfl) ?_
      refine lv_iload_n hx hb dX10_half_15 rfl (lv_at hl 1 rfl) ?_
      refine lv_iload_n hx hb dX10_half_16 rfl (lv_at hl 0 rfl) ?_
      refine lv_iadd hx hb dX10_half_17 ?_
      refine ti_top (y := nI (hn + i)) (nI_add hn i) ?_
      refine ti_iald (ci := 10) (k := k) (n := len) C hw ob_60 hj har (vp_in_nI (by omega) (by omega)) dX10_half_18 ?_
      refine ti_top (y := tY M 60 k (hn + i)) (by rw [tY_u, nI_clamp (by omega)]; exact hg2 _ (by omega)) ?_
      refine ti_iast (ci := 10) (n := len) C hw ob_60 hj har (vp_in_nI (by omega) (by omega)) dX10_half_19 (fun H locs hw => ?_)
      rw [tY_u, uY_uY, nI_clamp (by omega)] at hw
      refine lv_iinc (v := nI (i + 1)) (lv' := [(2, .int (nI (i + 1))), (1, .int (nI hn)), (0, .ref (A 60 (k + 1)))]) hx hb dX10_half_20 hl (k := 0) rfl (nI_1 i) (by decide) rfl (fun ls hl => ?_)
      refine lv_goto (tgt := 7) hx hb dX10_half_23 (by decide) ?_
      refine ih (i + 1) (upd g i (tY M 60 k (hn + i))) _ _ _ (by omega) hlt (fun j hj => ?_) (fun j hj => ?_) hw hl
      · by_cases e : j = i
        · subst e; exact pk_us
        · rw [pk_un e]; exact hg j (by omega)
      · rw [pk_un (by omega)]; exact hg2 j (by omega)
set_option maxHeartbeats 4000000 in
set_option maxRecDepth 100000 in
theorem k_X10_starts (l : Launch) (D : va_G) (A : Nat → Nat → Nat) (cy : Nat → ClassId) (hJ : ti_inj ti_LM A) (M : ti_M) (w0 s0 p0 p1 p2 : Int32) (h0 : tY M 60 3 0 = 0) (h1 : tY M 60 3 1 = w0) (h6 : tY M 60 3 6 = s0) (h8 : tY M 60 3 8 = p0) (h9 : tY M 60 3 9 = p1) (h10 : tY M 60 3 10 = p2) : ti_Kv l yX10_starts cX10_starts 4 0 ti_LM D A cy M [.ref (A 60 0), .int 0] (fun M2 => ∃ g_1 g_2 g_3 g_4 g_5 g_6 g_7 g_8 : Nat → Int32, M2 = (uY (uY (uY (uY (uY (uY (uY (uY M 60 34 g_1) 60 35 g_2) 60 36 g_3) 60 37 g_4) 60 38 g_5) 60 49 g_6) 60 49 g_7) 60 49 g_8) ∧ g_1 = upd (tY M 60 34) 0 0 ∧ g_2 = upd (tY M 60 35) 0 w0 ∧ g_3 = upd (tY M 60 36) 0 s0 ∧ g_4 = upd (tY M 60 37) 0 0 ∧ g_5 = upd (tY M 60 38) 0 0 ∧ g_6 = upd (tY M 60 49) 0 p0 ∧ g_7 = upd g_6 1 p1 ∧ g_8 = upd g_7 2 p2) := by
  refine ti_eV yp_X10_starts hJ ti_LM_nd (Nat.le_of_ble_eq_true rfl) ?_
  intro p e s m args below meth c Q H0 C hQ hw ls hl
  have hx := C.1
  have hb := C.2.1
  have hl : lv_has ls 4 [(0, .ref (A 60 0)), (1, .int 0)] := hl
  refine lv_aload_n hx hb dX10_starts_0 rfl (lv_at hl 0 rfl) ?_
  refine ti_get (ci := 10) (k := 34) (N := 67) (T := TX10) (v := .ref (A 60 35)) C hw iw_10 rfl ob_60 (by decide) (by decide) fl_X10_69 rfl rfl dX10_starts_1 ?_
  refine lv_iload_n hx hb dX10_starts_4 rfl (lv_at hl 1 rfl) ?_
  refine lv_iconst (v := 0) hx hb dX10_starts_5 (by decide) ?_
  refine ti_iastG (ci := 10) (k := 34) (n := 23) C hw ob_60 (by decide) (fun _ _ => rfl) (by unfold vp_in; decide) dX10_starts_6 (fun H locs g_1 eg_1 hw => ?_)
  refine lv_aload_n hx hb dX10_starts_7 rfl (lv_at hl 0 rfl) ?_
  refine ti_get (ci := 10) (k := 35) (N := 67) (T := TX10) (v := .ref (A 60 36)) C hw iw_10 rfl ob_60 (by decide) (by decide) fl_X10_72 rfl rfl dX10_starts_8 ?_
  refine lv_iload_n hx hb dX10_starts_11 rfl (lv_at hl 1 rfl) ?_
  refine lv_aload_n hx hb dX10_starts_12 rfl (lv_at hl 0 rfl) ?_
  refine ti_get (ci := 10) (k := 3) (N := 67) (T := TX10) (v := .ref (A 60 4)) C hw iw_10 rfl ob_60 (by decide) (by decide) fl_X10_13 rfl rfl dX10_starts_13 ?_
  refine lv_iconst (v := 1) hx hb dX10_starts_16 (by decide) ?_
  refine ti_iald (ci := 10) (k := 3) (n := 22) C hw ob_60 (by decide) (fun _ _ => rfl) (by unfold vp_in; decide) dX10_starts_17 ?_
  refine ti_top (y := w0) ((congrFun ((tY_k _ _ _ _ (by decide)).trans rfl) 1).trans h1) ?_
  refine ti_iastG (ci := 10) (k := 35) (n := 23) C hw ob_60 (by decide) (fun _ _ => rfl) (by unfold vp_in; decide) dX10_starts_18 (fun H locs g_2 eg_2 hw => ?_)
  refine lv_aload_n hx hb dX10_starts_19 rfl (lv_at hl 0 rfl) ?_
  refine ti_get (ci := 10) (k := 36) (N := 67) (T := TX10) (v := .ref (A 60 37)) C hw iw_10 rfl ob_60 (by decide) (by decide) fl_X10_75 rfl rfl dX10_starts_20 ?_
  refine lv_iload_n hx hb dX10_starts_23 rfl (lv_at hl 1 rfl) ?_
  refine lv_aload_n hx hb dX10_starts_24 rfl (lv_at hl 0 rfl) ?_
  refine ti_get (ci := 10) (k := 3) (N := 67) (T := TX10) (v := .ref (A 60 4)) C hw iw_10 rfl ob_60 (by decide) (by decide) fl_X10_13 rfl rfl dX10_starts_25 ?_
  refine lv_bipush (v := 6) hx hb dX10_starts_28 (by decide) ?_
  refine ti_iald (ci := 10) (k := 3) (n := 22) C hw ob_60 (by decide) (fun _ _ => rfl) (by unfold vp_in; decide) dX10_starts_30 ?_
  refine ti_top (y := s0) ((congrFun ((tY_k _ _ _ _ (by decide)).trans ((tY_k _ _ _ _ (by decide)).trans rfl)) 6).trans h6) ?_
  refine ti_iastG (ci := 10) (k := 36) (n := 23) C hw ob_60 (by decide) (fun _ _ => rfl) (by unfold vp_in; decide) dX10_starts_31 (fun H locs g_3 eg_3 hw => ?_)
  refine lv_aload_n hx hb dX10_starts_32 rfl (lv_at hl 0 rfl) ?_
  refine ti_get (ci := 10) (k := 37) (N := 67) (T := TX10) (v := .ref (A 60 38)) C hw iw_10 rfl ob_60 (by decide) (by decide) fl_X10_78 rfl rfl dX10_starts_33 ?_
  refine lv_iload_n hx hb dX10_starts_36 rfl (lv_at hl 1 rfl) ?_
  refine lv_iconst (v := 0) hx hb dX10_starts_37 (by decide) ?_
  refine ti_iastG (ci := 10) (k := 37) (n := 23) C hw ob_60 (by decide) (fun _ _ => rfl) (by unfold vp_in; decide) dX10_starts_38 (fun H locs g_4 eg_4 hw => ?_)
  refine lv_aload_n hx hb dX10_starts_39 rfl (lv_at hl 0 rfl) ?_
  refine ti_get (ci := 10) (k := 38) (N := 67) (T := TX10) (v := .ref (A 60 39)) C hw iw_10 rfl ob_60 (by decide) (by decide) fl_X10_81 rfl rfl dX10_starts_40 ?_
  refine lv_iload_n hx hb dX10_starts_43 rfl (lv_at hl 1 rfl) ?_
  refine lv_iconst (v := 0) hx hb dX10_starts_44 (by decide) ?_
  refine ti_iastG (ci := 10) (k := 38) (n := 23) C hw ob_60 (by decide) (fun _ _ => rfl) (by unfold vp_in; decide) dX10_starts_45 (fun H locs g_5 eg_5 hw => ?_)
  refine lv_iconst (v := 0) hx hb dX10_starts_46 (by decide) ?_
  refine lv_istore_n (lv' := [(2, .int 0), (0, .ref (A 60 0)), (1, .int 0)]) hx hb dX10_starts_47 rfl hl (by decide) rfl (fun ls hl => ?_)
  refine lv_iload_n hx hb dX10_starts_48 rfl (lv_at hl 0 rfl) ?_
  refine lv_aload_n hx hb dX10_starts_49 rfl (lv_at hl 1 rfl) ?_
  refine ti_get (ci := 10) (k := 3) (N := 67) (T := TX10) (v := .ref (A 60 4)) C hw iw_10 rfl ob_60 (by decide) (by decide) fl_X10_13 rfl rfl dX10_starts_50 ?_
  refine lv_iconst (v := 0) hx hb dX10_starts_53 (by decide) ?_
  refine ti_iald (ci := 10) (k := 3) (n := 22) C hw ob_60 (by decide) (fun _ _ => rfl) (by unfold vp_in; decide) dX10_starts_54 ?_
  refine ti_top (y := 0) ((congrFun ((tY_k _ _ _ _ (by decide)).trans ((tY_k _ _ _ _ (by decide)).trans ((tY_k _ _ _ _ (by decide)).trans ((tY_k _ _ _ _ (by decide)).trans ((tY_k _ _ _ _ (by decide)).trans rfl))))) 0).trans h0) ?_
  refine lv_icmp_ge (tgt := 150) hx hb dX10_starts_55 (by decide) (fun c_55 => ?_) (fun c => absurd (by decide) c)
  refine lv_iconst (v := 0) hx hb dX10_starts_150 (by decide) ?_
  refine lv_istore_n (lv' := [(2, .int 0), (0, .ref (A 60 0)), (1, .int 0)]) hx hb dX10_starts_151 rfl hl (by decide) rfl (fun ls hl => ?_)
  refine lv_iload_n hx hb dX10_starts_152 rfl (lv_at hl 0 rfl) ?_
  refine lv_iconst (v := 3) hx hb dX10_starts_153 (by decide) ?_
  refine lv_icmp_ge (tgt := 182) hx hb dX10_starts_154 (by decide) (fun c => absurd c (by decide)) (fun c_154 => ?_)
  refine lv_aload_n hx hb dX10_starts_157 rfl (lv_at hl 1 rfl) ?_
  refine ti_get (ci := 10) (k := 49) (N := 67) (T := TX10) (v := .ref (A 60 50)) C hw iw_10 rfl ob_60 (by decide) (by decide) fl_X10_114 rfl rfl dX10_starts_158 ?_
  refine lv_iconst (v := 3) hx hb dX10_starts_161 (by decide) ?_
  refine lv_iload_n hx hb dX10_starts_162 rfl (lv_at hl 2 rfl) ?_
  refine lv_imul hx hb dX10_starts_163 ?_
  refine ti_top (y := 0) (by decide) ?_
  refine lv_iload_n hx hb dX10_starts_164 rfl (lv_at hl 0 rfl) ?_
  refine lv_iadd hx hb dX10_starts_165 ?_
  refine ti_top (y := 0) (by decide) ?_
  refine lv_aload_n hx hb dX10_starts_166 rfl (lv_at hl 1 rfl) ?_
  refine ti_get (ci := 10) (k := 3) (N := 67) (T := TX10) (v := .ref (A 60 4)) C hw iw_10 rfl ob_60 (by decide) (by decide) fl_X10_13 rfl rfl dX10_starts_167 ?_
  refine lv_bipush (v := 8) hx hb dX10_starts_170 (by decide) ?_
  refine lv_iload_n hx hb dX10_starts_172 rfl (lv_at hl 0 rfl) ?_
  refine lv_iadd hx hb dX10_starts_173 ?_
  refine ti_top (y := 8) (by decide) ?_
  refine ti_iald (ci := 10) (k := 3) (n := 22) C hw ob_60 (by decide) (fun _ _ => rfl) (by unfold vp_in; decide) dX10_starts_174 ?_
  refine ti_top (y := p0) ((congrFun ((tY_k _ _ _ _ (by decide)).trans ((tY_k _ _ _ _ (by decide)).trans ((tY_k _ _ _ _ (by decide)).trans ((tY_k _ _ _ _ (by decide)).trans ((tY_k _ _ _ _ (by decide)).trans rfl))))) 8).trans h8) ?_
  refine ti_iastG (ci := 10) (k := 49) (n := 69) C hw ob_60 (by decide) (fun _ _ => rfl) (by unfold vp_in; decide) dX10_starts_175 (fun H locs g_6 eg_6 hw => ?_)
  refine lv_iinc (v := 1) (lv' := [(2, .int 1), (0, .ref (A 60 0)), (1, .int 0)]) hx hb dX10_starts_176 hl (k := 0) rfl (by decide) (by decide) rfl (fun ls hl => ?_)
  refine lv_goto (tgt := 152) hx hb dX10_starts_179 (by decide) ?_
  refine lv_iload_n hx hb dX10_starts_152 rfl (lv_at hl 0 rfl) ?_
  refine lv_iconst (v := 3) hx hb dX10_starts_153 (by decide) ?_
  refine lv_icmp_ge (tgt := 182) hx hb dX10_starts_154 (by decide) (fun c => absurd c (by decide)) (fun c_154 => ?_)
  refine lv_aload_n hx hb dX10_starts_157 rfl (lv_at hl 1 rfl) ?_
  refine ti_get (ci := 10) (k := 49) (N := 67) (T := TX10) (v := .ref (A 60 50)) C hw iw_10 rfl ob_60 (by decide) (by decide) fl_X10_114 rfl rfl dX10_starts_158 ?_
  refine lv_iconst (v := 3) hx hb dX10_starts_161 (by decide) ?_
  refine lv_iload_n hx hb dX10_starts_162 rfl (lv_at hl 2 rfl) ?_
  refine lv_imul hx hb dX10_starts_163 ?_
  refine ti_top (y := 0) (by decide) ?_
  refine lv_iload_n hx hb dX10_starts_164 rfl (lv_at hl 0 rfl) ?_
  refine lv_iadd hx hb dX10_starts_165 ?_
  refine ti_top (y := 1) (by decide) ?_
  refine lv_aload_n hx hb dX10_starts_166 rfl (lv_at hl 1 rfl) ?_
  refine ti_get (ci := 10) (k := 3) (N := 67) (T := TX10) (v := .ref (A 60 4)) C hw iw_10 rfl ob_60 (by decide) (by decide) fl_X10_13 rfl rfl dX10_starts_167 ?_
  refine lv_bipush (v := 8) hx hb dX10_starts_170 (by decide) ?_
  refine lv_iload_n hx hb dX10_starts_172 rfl (lv_at hl 0 rfl) ?_
  refine lv_iadd hx hb dX10_starts_173 ?_
  refine ti_top (y := 9) (by decide) ?_
  refine ti_iald (ci := 10) (k := 3) (n := 22) C hw ob_60 (by decide) (fun _ _ => rfl) (by unfold vp_in; decide) dX10_starts_174 ?_
  refine ti_top (y := p1) ((congrFun ((tY_k _ _ _ _ (by decide)).trans ((tY_k _ _ _ _ (by decide)).trans ((tY_k _ _ _ _ (by decide)).trans ((tY_k _ _ _ _ (by decide)).trans ((tY_k _ _ _ _ (by decide)).trans ((tY_k _ _ _ _ (by decide)).trans rfl)))))) 9).trans h9) ?_
  refine ti_iastG (ci := 10) (k := 49) (n := 69) C hw ob_60 (by decide) (fun _ _ => rfl) (by unfold vp_in; decide) dX10_starts_175 (fun H locs g_7 eg_7 hw => ?_)
  refine lv_iinc (v := 2) (lv' := [(2, .int 2), (0, .ref (A 60 0)), (1, .int 0)]) hx hb dX10_starts_176 hl (k := 0) rfl (by decide) (by decide) rfl (fun ls hl => ?_)
  refine lv_goto (tgt := 152) hx hb dX10_starts_179 (by decide) ?_
  refine lv_iload_n hx hb dX10_starts_152 rfl (lv_at hl 0 rfl) ?_
  refine lv_iconst (v := 3) hx hb dX10_starts_153 (by decide) ?_
  refine lv_icmp_ge (tgt := 182) hx hb dX10_starts_154 (by decide) (fun c => absurd c (by decide)) (fun c_154 => ?_)
  refine lv_aload_n hx hb dX10_starts_157 rfl (lv_at hl 1 rfl) ?_
  refine ti_get (ci := 10) (k := 49) (N := 67) (T := TX10) (v := .ref (A 60 50)) C hw iw_10 rfl ob_60 (by decide) (by decide) fl_X10_114 rfl rfl dX10_starts_158 ?_
  refine lv_iconst (v := 3) hx hb dX10_starts_161 (by decide) ?_
  refine lv_iload_n hx hb dX10_starts_162 rfl (lv_at hl 2 rfl) ?_
  refine lv_imul hx hb dX10_starts_163 ?_
  refine ti_top (y := 0) (by decide) ?_
  refine lv_iload_n hx hb dX10_starts_164 rfl (lv_at hl 0 rfl) ?_
  refine lv_iadd hx hb dX10_starts_165 ?_
  refine ti_top (y := 2) (by decide) ?_
  refine lv_aload_n hx hb dX10_starts_166 rfl (lv_at hl 1 rfl) ?_
  refine ti_get (ci := 10) (k := 3) (N := 67) (T := TX10) (v := .ref (A 60 4)) C hw iw_10 rfl ob_60 (by decide) (by decide) fl_X10_13 rfl rfl dX10_starts_167 ?_
  refine lv_bipush (v := 8) hx hb dX10_starts_170 (by decide) ?_
  refine lv_iload_n hx hb dX10_starts_172 rfl (lv_at hl 0 rfl) ?_
  refine lv_iadd hx hb dX10_starts_173 ?_
  refine ti_top (y := 10) (by decide) ?_
  refine ti_iald (ci := 10) (k := 3) (n := 22) C hw ob_60 (by decide) (fun _ _ => rfl) (by unfold vp_in; decide) dX10_starts_174 ?_
  refine ti_top (y := p2) ((congrFun ((tY_k _ _ _ _ (by decide)).trans ((tY_k _ _ _ _ (by decide)).trans ((tY_k _ _ _ _ (by decide)).trans ((tY_k _ _ _ _ (by decide)).trans ((tY_k _ _ _ _ (by decide)).trans ((tY_k _ _ _ _ (by decide)).trans ((tY_k _ _ _ _ (by decide)).trans rfl))))))) 10).trans h10) ?_
  refine ti_iastG (ci := 10) (k := 49) (n := 69) C hw ob_60 (by decide) (fun _ _ => rfl) (by unfold vp_in; decide) dX10_starts_175 (fun H locs g_8 eg_8 hw => ?_)
  refine lv_iinc (v := 3) (lv' := [(2, .int 3), (0, .ref (A 60 0)), (1, .int 0)]) hx hb dX10_starts_176 hl (k := 0) rfl (by decide) (by decide) rfl (fun ls hl => ?_)
  refine lv_goto (tgt := 152) hx hb dX10_starts_179 (by decide) ?_
  refine lv_iload_n hx hb dX10_starts_152 rfl (lv_at hl 0 rfl) ?_
  refine lv_iconst (v := 3) hx hb dX10_starts_153 (by decide) ?_
  refine lv_icmp_ge (tgt := 182) hx hb dX10_starts_154 (by decide) (fun c_154 => ?_) (fun c => absurd (by decide) c)
  exact hQ _ _ _ _ _ hw (⟨g_1, g_2, g_3, g_4, g_5, g_6, g_7, g_8, rfl, eg_1, eg_2, eg_3, eg_4, eg_5, eg_6, eg_7, eg_8⟩) dX10_starts_182
set_option maxHeartbeats 4000000 in
set_option maxRecDepth 100000 in
theorem k_X10_begins (l : Launch) (D : va_G) (A : Nat → Nat → Nat) (cy : Nat → ClassId) (hJ : ti_inj ti_LM A) (M : ti_M) (w0 s0 p0 p1 p2 : Int32) (h0 : tY M 60 3 0 = 0) (h1 : tY M 60 3 1 = w0) (h6 : tY M 60 3 6 = s0) (h8 : tY M 60 3 8 = p0) (h9 : tY M 60 3 9 = p1) (h10 : tY M 60 3 10 = p2) : ti_Kv l yX10_begins cX10_begins 1 1 ti_LM D A cy M [.ref (A 60 0)] (fun M2 => ∃ g_1_2 g_2_2 g_3_2 g_4_2 g_5_2 g_6_2 g_7_2 g_8_2 : Nat → Int32, M2 = (uY (uY (uY (uY (uY (uY (uY (uY M 60 34 g_1_2) 60 35 g_2_2) 60 36 g_3_2) 60 37 g_4_2) 60 38 g_5_2) 60 49 g_6_2) 60 49 g_7_2) 60 49 g_8_2) ∧ g_1_2 = upd (tY M 60 34) 0 0 ∧ g_2_2 = upd (tY M 60 35) 0 w0 ∧ g_3_2 = upd (tY M 60 36) 0 s0 ∧ g_4_2 = upd (tY M 60 37) 0 0 ∧ g_5_2 = upd (tY M 60 38) 0 0 ∧ g_6_2 = upd (tY M 60 49) 0 p0 ∧ g_7_2 = upd g_6_2 1 p1 ∧ g_8_2 = upd g_7_2 2 p2) := by
  refine ti_eV yp_X10_begins hJ ti_LM_nd (Nat.le_of_ble_eq_true rfl) ?_
  intro p e s m args below meth c Q H0 C hQ hw ls hl
  have hx := C.1
  have hb := C.2.1
  have hl : lv_has ls 1 [(0, .ref (A 60 0))] := hl
  refine lv_aload_n hx hb dX10_begins_0 rfl (lv_at hl 0 rfl) ?_
  refine lv_iconst (v := 0) hx hb dX10_begins_1 (by decide) ?_
  refine ti_callVv (ci := 10) (av := [.int 0]) C hw (k_X10_starts l D A cy hJ M w0 s0 p0 p1 p2 ((congrFun (rfl) 0).trans h0) ((congrFun (rfl) 1).trans h1) ((congrFun (rfl) 6).trans h6) ((congrFun (rfl) 8).trans h8) ((congrFun (rfl) 9).trans h9) ((congrFun (rfl) 10).trans h10)) ⟨ml_X10_353, ym_X10_starts, yv_X10_starts, yi_X10_starts, yc_X10_starts⟩ yd_X10_starts ob_60 (by decide) rfl rfl hl.1 (Nat.le_of_ble_eq_true rfl) ⟨by decide, by decide⟩ ⟨Nat.zero_le _, Nat.zero_le _⟩ dX10_begins_2 (fun M_2 H locs hp_2 hw => ?_)
  obtain ⟨g_1_2, g_2_2, g_3_2, g_4_2, g_5_2, g_6_2, g_7_2, g_8_2, hm, eg_1_2, eg_2_2, eg_3_2, eg_4_2, eg_5_2, eg_6_2, eg_7_2, eg_8_2⟩ := hp_2
  have hw := hw.to hm
  exact hQ _ _ _ _ _ hw (⟨g_1_2, g_2_2, g_3_2, g_4_2, g_5_2, g_6_2, g_7_2, g_8_2, rfl, eg_1_2, eg_2_2, eg_3_2, eg_4_2, eg_5_2, eg_6_2, eg_7_2, eg_8_2⟩) dX10_begins_5
set_option maxHeartbeats 4000000 in
set_option maxRecDepth 100000 in
theorem k_X10_text (l : Launch) (D : va_G) (A : Nat → Nat → Nat) (cy : Nat → ClassId) (hJ : ti_inj ti_LM A) (M : ti_M) (hF : ti_FM M) (z : Int32) : ti_Ki l yX10_text cX10_text 3 (some .int) 2 ti_LM D A cy M [.ref (A 60 0), .int z] (fun r _ => r = pf_text z) := by
  refine ti_eI yp_X10_text hJ ti_LM_nd (Nat.le_of_ble_eq_true rfl) ?_
  intro p e s m args below meth c Q H0 C hQ hw ls hl
  have hx := C.1
  have hb := C.2.1
  have hl : lv_has ls 3 [(0, .ref (A 60 0)), (1, .int z)] := hl
  obtain ⟨m_taped, m_lf, m_lp, m_hi, m_un, m_st, m_kb, n0, n3, n5, n7, mi0, wa0, co0, ma0, pw0, pw1, pw2, sf, sto⟩ := id hF
  refine lv_aload_n hx hb dX10_text_0 rfl (lv_at hl 0 rfl) ?_
  refine lv_iconst (v := 0) hx hb dX10_text_1 (by decide) ?_
  refine ti_putI (ci := 10) (k := 0) (N := 67) (T := TX10) C hw iw_10 tyX10 tyX10_ok nmX10 rfl ob_60 (by decide) (by decide) fl_X10_154 rfl rfl rfl rfl (fn_10 A _) fs_10_0 dX10_text_2 (fun H locs hw => ?_)
  refine lv_iload_n hx hb dX10_text_5 rfl (lv_at hl 1 rfl) ?_
  refine lv_if_lt (tgt := 17) hx hb dX10_text_6 (by decide) (fun c_6 => ?_) (fun c_6 => ?_)
  · refine lv_bipush (v := (-2)) hx hb dX10_text_17 (by decide) ?_
    exact hQ _ _ _ _ _ _ hw rfl (by unfold pf_text; (try simp only [Int32.lt_iff_toInt_lt, Int32.le_iff_toInt_le, ← Int32.toInt_inj, ti_l0, ti_l1, ti_l2, ti_l3, ti_l5, ti_l7, ti_l8, ti_l24, ti_l59, ti_l60, ti_l119, ti_l120, ti_lm1, ti_lm2] at c_6); (try simp only [Int32.lt_iff_toInt_lt, Int32.le_iff_toInt_le, ← Int32.toInt_inj, ti_l0, ti_l1, ti_l2, ti_l3, ti_l5, ti_l7, ti_l8, ti_l24, ti_l59, ti_l60, ti_l119, ti_l120, ti_lm1, ti_lm2]); (repeat' split) <;> first | rfl | omega) dX10_text_19
  · refine lv_iload_n hx hb dX10_text_9 rfl (lv_at hl 1 rfl) ?_
    refine lv_aload_n hx hb dX10_text_10 rfl (lv_at hl 0 rfl) ?_
    refine ti_get (ci := 10) (k := 2) (N := 67) (T := TX10) C hw iw_10 rfl ob_60 (by decide) (by decide) fl_X10_157 rfl rfl dX10_text_11 ?_
    refine ti_top (y := 0) ((tI_k _ _ _ _ (by decide)).trans m_taped) ?_
    refine lv_icmp_le (tgt := 20) hx hb dX10_text_14 (by decide) (fun c_14 => ?_) (fun c_14 => ?_)
    · obtain rfl : z = 0 := (by (try simp only [Int32.lt_iff_toInt_lt, Int32.le_iff_toInt_le, ← Int32.toInt_inj, ti_l0, ti_l1, ti_l2, ti_l3, ti_l5, ti_l7, ti_l8, ti_l24, ti_l59, ti_l60, ti_l119, ti_l120, ti_lm1, ti_lm2] at c_6); (try simp only [Int32.lt_iff_toInt_lt, Int32.le_iff_toInt_le, ← Int32.toInt_inj, ti_l0, ti_l1, ti_l2, ti_l3, ti_l5, ti_l7, ti_l8, ti_l24, ti_l59, ti_l60, ti_l119, ti_l120, ti_lm1, ti_lm2] at c_14); (try simp only [Int32.lt_iff_toInt_lt, Int32.le_iff_toInt_le, ← Int32.toInt_inj, ti_l0, ti_l1, ti_l2, ti_l3, ti_l5, ti_l7, ti_l8, ti_l24, ti_l59, ti_l60, ti_l119, ti_l120, ti_lm1, ti_lm2]); omega)
      refine lv_aload_n hx hb dX10_text_20 rfl (lv_at hl 0 rfl) ?_
      refine lv_iload_n hx hb dX10_text_21 rfl (lv_at hl 1 rfl) ?_
      refine ti_putI (ci := 10) (k := 20) (N := 67) (T := TX10) C hw iw_10 tyX10 tyX10_ok nmX10 rfl ob_60 (by decide) (by decide) fl_X10_163 rfl rfl rfl rfl (fn_10 A _) fs_10_20 dX10_text_22 (fun H locs hw => ?_)
      refine lv_aload_n hx hb dX10_text_25 rfl (lv_at hl 0 rfl) ?_
      refine lv_iconst (v := 0) hx hb dX10_text_26 (by decide) ?_
      refine ti_putI (ci := 10) (k := 2) (N := 67) (T := TX10) C hw iw_10 tyX10 tyX10_ok nmX10 rfl ob_60 (by decide) (by decide) fl_X10_157 rfl rfl rfl rfl (fn_10 A _) fs_10_2 dX10_text_27 (fun H locs hw => ?_)
      refine lv_aload_n hx hb dX10_text_30 rfl (lv_at hl 0 rfl) ?_
      refine lv_iconst (v := 0) hx hb dX10_text_31 (by decide) ?_
      refine ti_putI (ci := 10) (k := 21) (N := 67) (T := TX10) C hw iw_10 tyX10 tyX10_ok nmX10 rfl ob_60 (by decide) (by decide) fl_X10_160 rfl rfl rfl rfl (fn_10 A _) fs_10_21 dX10_text_32 (fun H locs hw => ?_)
      refine lv_aload_n hx hb dX10_text_35 rfl (lv_at hl 0 rfl) ?_
      refine lv_iconst (v := 0) hx hb dX10_text_36 (by decide) ?_
      refine ti_putI (ci := 10) (k := 25) (N := 67) (T := TX10) C hw iw_10 tyX10 tyX10_ok nmX10 rfl ob_60 (by decide) (by decide) fl_X10_208 rfl rfl rfl rfl (fn_10 A _) fs_10_25 dX10_text_37 (fun H locs hw => ?_)
      refine lv_aload_n hx hb dX10_text_40 rfl (lv_at hl 0 rfl) ?_
      refine lv_iconst (v := (-1)) hx hb dX10_text_41 (by decide) ?_
      refine ti_putI (ci := 10) (k := 26) (N := 67) (T := TX10) C hw iw_10 tyX10 tyX10_ok nmX10 rfl ob_60 (by decide) (by decide) fl_X10_211 rfl rfl rfl rfl (fn_10 A _) fs_10_26 dX10_text_42 (fun H locs hw => ?_)
      refine lv_iconst (v := 0) hx hb dX10_text_45 (by decide) ?_
      refine lv_istore_n (lv' := [(2, .int 0), (0, .ref (A 60 0)), (1, .int 0)]) hx hb dX10_text_46 rfl hl (by decide) rfl (fun ls hl => ?_)
      refine lv_iload_n hx hb dX10_text_47 rfl (lv_at hl 0 rfl) ?_
      refine lv_bipush (v := 11) hx hb dX10_text_48 (by decide) ?_
      refine lv_icmp_ge (tgt := 120) hx hb dX10_text_50 (by decide) (fun c => absurd c (by decide)) (fun c_50 => ?_)
      refine lv_aload_n hx hb dX10_text_53 rfl (lv_at hl 1 rfl) ?_
      refine lv_iload_n hx hb dX10_text_54 rfl (lv_at hl 0 rfl) ?_
      refine lv_iload_n hx hb dX10_text_55 rfl (lv_at hl 0 rfl) ?_
      refine lv_iconst (v := 1) hx hb dX10_text_56 (by decide) ?_
      refine lv_icmp_ne (tgt := 66) hx hb dX10_text_57 (by decide) (fun c_57 => ?_) (fun c => absurd c (by decide))
      refine lv_iload_n hx hb dX10_text_66 rfl (lv_at hl 0 rfl) ?_
      refine lv_iconst (v := 2) hx hb dX10_text_67 (by decide) ?_
      refine lv_icmp_eq (tgt := 77) hx hb dX10_text_68 (by decide) (fun c => absurd c (by decide)) (fun c_68 => ?_)
      refine lv_iload_n hx hb dX10_text_71 rfl (lv_at hl 0 rfl) ?_
      refine lv_bipush (v := 10) hx hb dX10_text_72 (by decide) ?_
      refine lv_icmp_ne (tgt := 81) hx hb dX10_text_74 (by decide) (fun c_74 => ?_) (fun c => absurd c (by decide))
      refine lv_iload_n hx hb dX10_text_81 rfl (lv_at hl 0 rfl) ?_
      refine lv_iconst (v := 3) hx hb dX10_text_82 (by decide) ?_
      refine lv_icmp_ne (tgt := 91) hx hb dX10_text_83 (by decide) (fun c_83 => ?_) (fun c => absurd c (by decide))
      refine lv_iload_n hx hb dX10_text_91 rfl (lv_at hl 0 rfl) ?_
      refine lv_iconst (v := 4) hx hb dX10_text_92 (by decide) ?_
      refine lv_icmp_ne (tgt := 100) hx hb dX10_text_93 (by decide) (fun c_93 => ?_) (fun c => absurd c (by decide))
      refine lv_iload_n hx hb dX10_text_100 rfl (lv_at hl 0 rfl) ?_
      refine lv_bipush (v := 9) hx hb dX10_text_101 (by decide) ?_
      refine lv_icmp_ne (tgt := 110) hx hb dX10_text_103 (by decide) (fun c_103 => ?_) (fun c => absurd c (by decide))
      refine lv_iconst (v := 0) hx hb dX10_text_110 (by decide) ?_
      refine ti_callVv (ci := 10) (av := [.int 0, .int 0]) C hw (k_reads_0 l D A cy hJ (uI (uI (uI (uI (uI (uI M 60 0 0) 60 20 0) 60 2 0) 60 21 0) 60 25 0) 60 26 (-1)) 0) ⟨ml_X10_244, ym_X10_reads, yv_X10_reads, yi_X10_reads, yc_X10_reads⟩ yd_X10_reads ob_60 (by decide) rfl rfl hl.1 (Nat.le_of_ble_eq_true rfl) ⟨by decide, by decide⟩ ⟨Nat.zero_le _, Nat.zero_le _⟩ dX10_text_111 (fun M_2 H locs hp_2 hw => ?_)
      obtain ⟨g_1_2, hm, eg_1_2⟩ := hp_2
      have hw := hw.to hm
      refine lv_iinc (v := 1) (lv' := [(2, .int 1), (0, .ref (A 60 0)), (1, .int 0)]) hx hb dX10_text_114 hl (k := 0) rfl (by decide) (by decide) rfl (fun ls hl => ?_)
      refine lv_goto (tgt := 47) hx hb dX10_text_117 (by decide) ?_
      refine lv_iload_n hx hb dX10_text_47 rfl (lv_at hl 0 rfl) ?_
      refine lv_bipush (v := 11) hx hb dX10_text_48 (by decide) ?_
      refine lv_icmp_ge (tgt := 120) hx hb dX10_text_50 (by decide) (fun c => absurd c (by decide)) (fun c_50 => ?_)
      refine lv_aload_n hx hb dX10_text_53 rfl (lv_at hl 1 rfl) ?_
      refine lv_iload_n hx hb dX10_text_54 rfl (lv_at hl 0 rfl) ?_
      refine lv_iload_n hx hb dX10_text_55 rfl (lv_at hl 0 rfl) ?_
      refine lv_iconst (v := 1) hx hb dX10_text_56 (by decide) ?_
      refine lv_icmp_ne (tgt := 66) hx hb dX10_text_57 (by decide) (fun c => absurd (by decide) c) (fun c_57 => ?_)
      refine lv_sipush (v := 200) hx hb dX10_text_60 (by decide) ?_
      refine lv_goto (tgt := 111) hx hb dX10_text_63 (by decide) ?_
      refine ti_callVv (ci := 10) (av := [.int 1, .int 200]) C hw (k_reads_1 l D A cy hJ (uY (uI (uI (uI (uI (uI (uI M 60 0 0) 60 20 0) 60 2 0) 60 21 0) 60 25 0) 60 26 (-1)) 60 3 g_1_2) 200) ⟨ml_X10_244, ym_X10_reads, yv_X10_reads, yi_X10_reads, yc_X10_reads⟩ yd_X10_reads ob_60 (by decide) rfl rfl hl.1 (Nat.le_of_ble_eq_true rfl) ⟨by decide, by decide⟩ ⟨Nat.zero_le _, Nat.zero_le _⟩ dX10_text_111 (fun M_4 H locs hp_4 hw => ?_)
      obtain ⟨g_1_4, hm, eg_1_4⟩ := hp_4
      have hw := hw.to hm
      refine lv_iinc (v := 2) (lv' := [(2, .int 2), (0, .ref (A 60 0)), (1, .int 0)]) hx hb dX10_text_114 hl (k := 0) rfl (by decide) (by decide) rfl (fun ls hl => ?_)
      refine lv_goto (tgt := 47) hx hb dX10_text_117 (by decide) ?_
      refine lv_iload_n hx hb dX10_text_47 rfl (lv_at hl 0 rfl) ?_
      refine lv_bipush (v := 11) hx hb dX10_text_48 (by decide) ?_
      refine lv_icmp_ge (tgt := 120) hx hb dX10_text_50 (by decide) (fun c => absurd c (by decide)) (fun c_50 => ?_)
      refine lv_aload_n hx hb dX10_text_53 rfl (lv_at hl 1 rfl) ?_
      refine lv_iload_n hx hb dX10_text_54 rfl (lv_at hl 0 rfl) ?_
      refine lv_iload_n hx hb dX10_text_55 rfl (lv_at hl 0 rfl) ?_
      refine lv_iconst (v := 1) hx hb dX10_text_56 (by decide) ?_
      refine lv_icmp_ne (tgt := 66) hx hb dX10_text_57 (by decide) (fun c_57 => ?_) (fun c => absurd c (by decide))
      refine lv_iload_n hx hb dX10_text_66 rfl (lv_at hl 0 rfl) ?_
      refine lv_iconst (v := 2) hx hb dX10_text_67 (by decide) ?_
      refine lv_icmp_eq (tgt := 77) hx hb dX10_text_68 (by decide) (fun c_68 => ?_) (fun c => absurd (by decide) c)
      refine lv_iconst (v := 2) hx hb dX10_text_77 (by decide) ?_
      refine lv_goto (tgt := 111) hx hb dX10_text_78 (by decide) ?_
      refine ti_callVv (ci := 10) (av := [.int 2, .int 2]) C hw (k_reads_2 l D A cy hJ (uY (uY (uI (uI (uI (uI (uI (uI M 60 0 0) 60 20 0) 60 2 0) 60 21 0) 60 25 0) 60 26 (-1)) 60 3 g_1_2) 60 3 g_1_4) 2) ⟨ml_X10_244, ym_X10_reads, yv_X10_reads, yi_X10_reads, yc_X10_reads⟩ yd_X10_reads ob_60 (by decide) rfl rfl hl.1 (Nat.le_of_ble_eq_true rfl) ⟨by decide, by decide⟩ ⟨Nat.zero_le _, Nat.zero_le _⟩ dX10_text_111 (fun M_6 H locs hp_6 hw => ?_)
      obtain ⟨g_1_6, hm, eg_1_6⟩ := hp_6
      have hw := hw.to hm
      refine lv_iinc (v := 3) (lv' := [(2, .int 3), (0, .ref (A 60 0)), (1, .int 0)]) hx hb dX10_text_114 hl (k := 0) rfl (by decide) (by decide) rfl (fun ls hl => ?_)
      refine lv_goto (tgt := 47) hx hb dX10_text_117 (by decide) ?_
      refine lv_iload_n hx hb dX10_text_47 rfl (lv_at hl 0 rfl) ?_
      refine lv_bipush (v := 11) hx hb dX10_text_48 (by decide) ?_
      refine lv_icmp_ge (tgt := 120) hx hb dX10_text_50 (by decide) (fun c => absurd c (by decide)) (fun c_50 => ?_)
      refine lv_aload_n hx hb dX10_text_53 rfl (lv_at hl 1 rfl) ?_
      refine lv_iload_n hx hb dX10_text_54 rfl (lv_at hl 0 rfl) ?_
      refine lv_iload_n hx hb dX10_text_55 rfl (lv_at hl 0 rfl) ?_
      refine lv_iconst (v := 1) hx hb dX10_text_56 (by decide) ?_
      refine lv_icmp_ne (tgt := 66) hx hb dX10_text_57 (by decide) (fun c_57 => ?_) (fun c => absurd c (by decide))
      refine lv_iload_n hx hb dX10_text_66 rfl (lv_at hl 0 rfl) ?_
      refine lv_iconst (v := 2) hx hb dX10_text_67 (by decide) ?_
      refine lv_icmp_eq (tgt := 77) hx hb dX10_text_68 (by decide) (fun c => absurd c (by decide)) (fun c_68 => ?_)
      refine lv_iload_n hx hb dX10_text_71 rfl (lv_at hl 0 rfl) ?_
      refine lv_bipush (v := 10) hx hb dX10_text_72 (by decide) ?_
      refine lv_icmp_ne (tgt := 81) hx hb dX10_text_74 (by decide) (fun c_74 => ?_) (fun c => absurd c (by decide))
      refine lv_iload_n hx hb dX10_text_81 rfl (lv_at hl 0 rfl) ?_
      refine lv_iconst (v := 3) hx hb dX10_text_82 (by decide) ?_
      refine lv_icmp_ne (tgt := 91) hx hb dX10_text_83 (by decide) (fun c => absurd (by decide) c) (fun c_83 => ?_)
      refine lv_bipush (v := 10) hx hb dX10_text_86 (by decide) ?_
      refine lv_goto (tgt := 111) hx hb dX10_text_88 (by decide) ?_
      refine ti_callVv (ci := 10) (av := [.int 3, .int 10]) C hw (k_reads_3 l D A cy hJ (uY (uY (uY (uI (uI (uI (uI (uI (uI M 60 0 0) 60 20 0) 60 2 0) 60 21 0) 60 25 0) 60 26 (-1)) 60 3 g_1_2) 60 3 g_1_4) 60 3 g_1_6) 10) ⟨ml_X10_244, ym_X10_reads, yv_X10_reads, yi_X10_reads, yc_X10_reads⟩ yd_X10_reads ob_60 (by decide) rfl rfl hl.1 (Nat.le_of_ble_eq_true rfl) ⟨by decide, by decide⟩ ⟨Nat.zero_le _, Nat.zero_le _⟩ dX10_text_111 (fun M_8 H locs hp_8 hw => ?_)
      obtain ⟨g_1_8, hm, eg_1_8⟩ := hp_8
      have hw := hw.to hm
      refine lv_iinc (v := 4) (lv' := [(2, .int 4), (0, .ref (A 60 0)), (1, .int 0)]) hx hb dX10_text_114 hl (k := 0) rfl (by decide) (by decide) rfl (fun ls hl => ?_)
      refine lv_goto (tgt := 47) hx hb dX10_text_117 (by decide) ?_
      refine lv_iload_n hx hb dX10_text_47 rfl (lv_at hl 0 rfl) ?_
      refine lv_bipush (v := 11) hx hb dX10_text_48 (by decide) ?_
      refine lv_icmp_ge (tgt := 120) hx hb dX10_text_50 (by decide) (fun c => absurd c (by decide)) (fun c_50 => ?_)
      refine lv_aload_n hx hb dX10_text_53 rfl (lv_at hl 1 rfl) ?_
      refine lv_iload_n hx hb dX10_text_54 rfl (lv_at hl 0 rfl) ?_
      refine lv_iload_n hx hb dX10_text_55 rfl (lv_at hl 0 rfl) ?_
      refine lv_iconst (v := 1) hx hb dX10_text_56 (by decide) ?_
      refine lv_icmp_ne (tgt := 66) hx hb dX10_text_57 (by decide) (fun c_57 => ?_) (fun c => absurd c (by decide))
      refine lv_iload_n hx hb dX10_text_66 rfl (lv_at hl 0 rfl) ?_
      refine lv_iconst (v := 2) hx hb dX10_text_67 (by decide) ?_
      refine lv_icmp_eq (tgt := 77) hx hb dX10_text_68 (by decide) (fun c => absurd c (by decide)) (fun c_68 => ?_)
      refine lv_iload_n hx hb dX10_text_71 rfl (lv_at hl 0 rfl) ?_
      refine lv_bipush (v := 10) hx hb dX10_text_72 (by decide) ?_
      refine lv_icmp_ne (tgt := 81) hx hb dX10_text_74 (by decide) (fun c_74 => ?_) (fun c => absurd c (by decide))
      refine lv_iload_n hx hb dX10_text_81 rfl (lv_at hl 0 rfl) ?_
      refine lv_iconst (v := 3) hx hb dX10_text_82 (by decide) ?_
      refine lv_icmp_ne (tgt := 91) hx hb dX10_text_83 (by decide) (fun c_83 => ?_) (fun c => absurd c (by decide))
      refine lv_iload_n hx hb dX10_text_91 rfl (lv_at hl 0 rfl) ?_
      refine lv_iconst (v := 4) hx hb dX10_text_92 (by decide) ?_
      refine lv_icmp_ne (tgt := 100) hx hb dX10_text_93 (by decide) (fun c => absurd (by decide) c) (fun c_93 => ?_)
      refine lv_iconst (v := 3) hx hb dX10_text_96 (by decide) ?_
      refine lv_goto (tgt := 111) hx hb dX10_text_97 (by decide) ?_
      refine ti_callVv (ci := 10) (av := [.int 4, .int 3]) C hw (k_reads_4 l D A cy hJ (uY (uY (uY (uY (uI (uI (uI (uI (uI (uI M 60 0 0) 60 20 0) 60 2 0) 60 21 0) 60 25 0) 60 26 (-1)) 60 3 g_1_2) 60 3 g_1_4) 60 3 g_1_6) 60 3 g_1_8) 3) ⟨ml_X10_244, ym_X10_reads, yv_X10_reads, yi_X10_reads, yc_X10_reads⟩ yd_X10_reads ob_60 (by decide) rfl rfl hl.1 (Nat.le_of_ble_eq_true rfl) ⟨by decide, by decide⟩ ⟨Nat.zero_le _, Nat.zero_le _⟩ dX10_text_111 (fun M_10 H locs hp_10 hw => ?_)
      obtain ⟨g_1_10, hm, eg_1_10⟩ := hp_10
      have hw := hw.to hm
      refine lv_iinc (v := 5) (lv' := [(2, .int 5), (0, .ref (A 60 0)), (1, .int 0)]) hx hb dX10_text_114 hl (k := 0) rfl (by decide) (by decide) rfl (fun ls hl => ?_)
      refine lv_goto (tgt := 47) hx hb dX10_text_117 (by decide) ?_
      refine lv_iload_n hx hb dX10_text_47 rfl (lv_at hl 0 rfl) ?_
      refine lv_bipush (v := 11) hx hb dX10_text_48 (by decide) ?_
      refine lv_icmp_ge (tgt := 120) hx hb dX10_text_50 (by decide) (fun c => absurd c (by decide)) (fun c_50 => ?_)
      refine lv_aload_n hx hb dX10_text_53 rfl (lv_at hl 1 rfl) ?_
      refine lv_iload_n hx hb dX10_text_54 rfl (lv_at hl 0 rfl) ?_
      refine lv_iload_n hx hb dX10_text_55 rfl (lv_at hl 0 rfl) ?_
      refine lv_iconst (v := 1) hx hb dX10_text_56 (by decide) ?_
      refine lv_icmp_ne (tgt := 66) hx hb dX10_text_57 (by decide) (fun c_57 => ?_) (fun c => absurd c (by decide))
      refine lv_iload_n hx hb dX10_text_66 rfl (lv_at hl 0 rfl) ?_
      refine lv_iconst (v := 2) hx hb dX10_text_67 (by decide) ?_
      refine lv_icmp_eq (tgt := 77) hx hb dX10_text_68 (by decide) (fun c => absurd c (by decide)) (fun c_68 => ?_)
      refine lv_iload_n hx hb dX10_text_71 rfl (lv_at hl 0 rfl) ?_
      refine lv_bipush (v := 10) hx hb dX10_text_72 (by decide) ?_
      refine lv_icmp_ne (tgt := 81) hx hb dX10_text_74 (by decide) (fun c_74 => ?_) (fun c => absurd c (by decide))
      refine lv_iload_n hx hb dX10_text_81 rfl (lv_at hl 0 rfl) ?_
      refine lv_iconst (v := 3) hx hb dX10_text_82 (by decide) ?_
      refine lv_icmp_ne (tgt := 91) hx hb dX10_text_83 (by decide) (fun c_83 => ?_) (fun c => absurd c (by decide))
      refine lv_iload_n hx hb dX10_text_91 rfl (lv_at hl 0 rfl) ?_
      refine lv_iconst (v := 4) hx hb dX10_text_92 (by decide) ?_
      refine lv_icmp_ne (tgt := 100) hx hb dX10_text_93 (by decide) (fun c_93 => ?_) (fun c => absurd c (by decide))
      refine lv_iload_n hx hb dX10_text_100 rfl (lv_at hl 0 rfl) ?_
      refine lv_bipush (v := 9) hx hb dX10_text_101 (by decide) ?_
      refine lv_icmp_ne (tgt := 110) hx hb dX10_text_103 (by decide) (fun c_103 => ?_) (fun c => absurd c (by decide))
      refine lv_iconst (v := 0) hx hb dX10_text_110 (by decide) ?_
      refine ti_callVv (ci := 10) (av := [.int 5, .int 0]) C hw (k_reads_5 l D A cy hJ (uY (uY (uY (uY (uY (uI (uI (uI (uI (uI (uI M 60 0 0) 60 20 0) 60 2 0) 60 21 0) 60 25 0) 60 26 (-1)) 60 3 g_1_2) 60 3 g_1_4) 60 3 g_1_6) 60 3 g_1_8) 60 3 g_1_10) 0) ⟨ml_X10_244, ym_X10_reads, yv_X10_reads, yi_X10_reads, yc_X10_reads⟩ yd_X10_reads ob_60 (by decide) rfl rfl hl.1 (Nat.le_of_ble_eq_true rfl) ⟨by decide, by decide⟩ ⟨Nat.zero_le _, Nat.zero_le _⟩ dX10_text_111 (fun M_12 H locs hp_12 hw => ?_)
      obtain ⟨g_1_12, hm, eg_1_12⟩ := hp_12
      have hw := hw.to hm
      refine lv_iinc (v := 6) (lv' := [(2, .int 6), (0, .ref (A 60 0)), (1, .int 0)]) hx hb dX10_text_114 hl (k := 0) rfl (by decide) (by decide) rfl (fun ls hl => ?_)
      refine lv_goto (tgt := 47) hx hb dX10_text_117 (by decide) ?_
      refine lv_iload_n hx hb dX10_text_47 rfl (lv_at hl 0 rfl) ?_
      refine lv_bipush (v := 11) hx hb dX10_text_48 (by decide) ?_
      refine lv_icmp_ge (tgt := 120) hx hb dX10_text_50 (by decide) (fun c => absurd c (by decide)) (fun c_50 => ?_)
      refine lv_aload_n hx hb dX10_text_53 rfl (lv_at hl 1 rfl) ?_
      refine lv_iload_n hx hb dX10_text_54 rfl (lv_at hl 0 rfl) ?_
      refine lv_iload_n hx hb dX10_text_55 rfl (lv_at hl 0 rfl) ?_
      refine lv_iconst (v := 1) hx hb dX10_text_56 (by decide) ?_
      refine lv_icmp_ne (tgt := 66) hx hb dX10_text_57 (by decide) (fun c_57 => ?_) (fun c => absurd c (by decide))
      refine lv_iload_n hx hb dX10_text_66 rfl (lv_at hl 0 rfl) ?_
      refine lv_iconst (v := 2) hx hb dX10_text_67 (by decide) ?_
      refine lv_icmp_eq (tgt := 77) hx hb dX10_text_68 (by decide) (fun c => absurd c (by decide)) (fun c_68 => ?_)
      refine lv_iload_n hx hb dX10_text_71 rfl (lv_at hl 0 rfl) ?_
      refine lv_bipush (v := 10) hx hb dX10_text_72 (by decide) ?_
      refine lv_icmp_ne (tgt := 81) hx hb dX10_text_74 (by decide) (fun c_74 => ?_) (fun c => absurd c (by decide))
      refine lv_iload_n hx hb dX10_text_81 rfl (lv_at hl 0 rfl) ?_
      refine lv_iconst (v := 3) hx hb dX10_text_82 (by decide) ?_
      refine lv_icmp_ne (tgt := 91) hx hb dX10_text_83 (by decide) (fun c_83 => ?_) (fun c => absurd c (by decide))
      refine lv_iload_n hx hb dX10_text_91 rfl (lv_at hl 0 rfl) ?_
      refine lv_iconst (v := 4) hx hb dX10_text_92 (by decide) ?_
      refine lv_icmp_ne (tgt := 100) hx hb dX10_text_93 (by decide) (fun c_93 => ?_) (fun c => absurd c (by decide))
      refine lv_iload_n hx hb dX10_text_100 rfl (lv_at hl 0 rfl) ?_
      refine lv_bipush (v := 9) hx hb dX10_text_101 (by decide) ?_
      refine lv_icmp_ne (tgt := 110) hx hb dX10_text_103 (by decide) (fun c_103 => ?_) (fun c => absurd c (by decide))
      refine lv_iconst (v := 0) hx hb dX10_text_110 (by decide) ?_
      refine ti_callVv (ci := 10) (av := [.int 6, .int 0]) C hw (k_reads_6 l D A cy hJ (uY (uY (uY (uY (uY (uY (uI (uI (uI (uI (uI (uI M 60 0 0) 60 20 0) 60 2 0) 60 21 0) 60 25 0) 60 26 (-1)) 60 3 g_1_2) 60 3 g_1_4) 60 3 g_1_6) 60 3 g_1_8) 60 3 g_1_10) 60 3 g_1_12) 0) ⟨ml_X10_244, ym_X10_reads, yv_X10_reads, yi_X10_reads, yc_X10_reads⟩ yd_X10_reads ob_60 (by decide) rfl rfl hl.1 (Nat.le_of_ble_eq_true rfl) ⟨by decide, by decide⟩ ⟨Nat.zero_le _, Nat.zero_le _⟩ dX10_text_111 (fun M_14 H locs hp_14 hw => ?_)
      obtain ⟨g_1_14, hm, eg_1_14⟩ := hp_14
      have hw := hw.to hm
      refine lv_iinc (v := 7) (lv' := [(2, .int 7), (0, .ref (A 60 0)), (1, .int 0)]) hx hb dX10_text_114 hl (k := 0) rfl (by decide) (by decide) rfl (fun ls hl => ?_)
      refine lv_goto (tgt := 47) hx hb dX10_text_117 (by decide) ?_
      refine lv_iload_n hx hb dX10_text_47 rfl (lv_at hl 0 rfl) ?_
      refine lv_bipush (v := 11) hx hb dX10_text_48 (by decide) ?_
      refine lv_icmp_ge (tgt := 120) hx hb dX10_text_50 (by decide) (fun c => absurd c (by decide)) (fun c_50 => ?_)
      refine lv_aload_n hx hb dX10_text_53 rfl (lv_at hl 1 rfl) ?_
      refine lv_iload_n hx hb dX10_text_54 rfl (lv_at hl 0 rfl) ?_
      refine lv_iload_n hx hb dX10_text_55 rfl (lv_at hl 0 rfl) ?_
      refine lv_iconst (v := 1) hx hb dX10_text_56 (by decide) ?_
      refine lv_icmp_ne (tgt := 66) hx hb dX10_text_57 (by decide) (fun c_57 => ?_) (fun c => absurd c (by decide))
      refine lv_iload_n hx hb dX10_text_66 rfl (lv_at hl 0 rfl) ?_
      refine lv_iconst (v := 2) hx hb dX10_text_67 (by decide) ?_
      refine lv_icmp_eq (tgt := 77) hx hb dX10_text_68 (by decide) (fun c => absurd c (by decide)) (fun c_68 => ?_)
      refine lv_iload_n hx hb dX10_text_71 rfl (lv_at hl 0 rfl) ?_
      refine lv_bipush (v := 10) hx hb dX10_text_72 (by decide) ?_
      refine lv_icmp_ne (tgt := 81) hx hb dX10_text_74 (by decide) (fun c_74 => ?_) (fun c => absurd c (by decide))
      refine lv_iload_n hx hb dX10_text_81 rfl (lv_at hl 0 rfl) ?_
      refine lv_iconst (v := 3) hx hb dX10_text_82 (by decide) ?_
      refine lv_icmp_ne (tgt := 91) hx hb dX10_text_83 (by decide) (fun c_83 => ?_) (fun c => absurd c (by decide))
      refine lv_iload_n hx hb dX10_text_91 rfl (lv_at hl 0 rfl) ?_
      refine lv_iconst (v := 4) hx hb dX10_text_92 (by decide) ?_
      refine lv_icmp_ne (tgt := 100) hx hb dX10_text_93 (by decide) (fun c_93 => ?_) (fun c => absurd c (by decide))
      refine lv_iload_n hx hb dX10_text_100 rfl (lv_at hl 0 rfl) ?_
      refine lv_bipush (v := 9) hx hb dX10_text_101 (by decide) ?_
      refine lv_icmp_ne (tgt := 110) hx hb dX10_text_103 (by decide) (fun c_103 => ?_) (fun c => absurd c (by decide))
      refine lv_iconst (v := 0) hx hb dX10_text_110 (by decide) ?_
      refine ti_callVv (ci := 10) (av := [.int 7, .int 0]) C hw (k_reads_7 l D A cy hJ (uY (uY (uY (uY (uY (uY (uY (uI (uI (uI (uI (uI (uI M 60 0 0) 60 20 0) 60 2 0) 60 21 0) 60 25 0) 60 26 (-1)) 60 3 g_1_2) 60 3 g_1_4) 60 3 g_1_6) 60 3 g_1_8) 60 3 g_1_10) 60 3 g_1_12) 60 3 g_1_14) 0) ⟨ml_X10_244, ym_X10_reads, yv_X10_reads, yi_X10_reads, yc_X10_reads⟩ yd_X10_reads ob_60 (by decide) rfl rfl hl.1 (Nat.le_of_ble_eq_true rfl) ⟨by decide, by decide⟩ ⟨Nat.zero_le _, Nat.zero_le _⟩ dX10_text_111 (fun M_16 H locs hp_16 hw => ?_)
      obtain ⟨g_1_16, hm, eg_1_16⟩ := hp_16
      have hw := hw.to hm
      refine lv_iinc (v := 8) (lv' := [(2, .int 8), (0, .ref (A 60 0)), (1, .int 0)]) hx hb dX10_text_114 hl (k := 0) rfl (by decide) (by decide) rfl (fun ls hl => ?_)
      refine lv_goto (tgt := 47) hx hb dX10_text_117 (by decide) ?_
      refine lv_iload_n hx hb dX10_text_47 rfl (lv_at hl 0 rfl) ?_
      refine lv_bipush (v := 11) hx hb dX10_text_48 (by decide) ?_
      refine lv_icmp_ge (tgt := 120) hx hb dX10_text_50 (by decide) (fun c => absurd c (by decide)) (fun c_50 => ?_)
      refine lv_aload_n hx hb dX10_text_53 rfl (lv_at hl 1 rfl) ?_
      refine lv_iload_n hx hb dX10_text_54 rfl (lv_at hl 0 rfl) ?_
      refine lv_iload_n hx hb dX10_text_55 rfl (lv_at hl 0 rfl) ?_
      refine lv_iconst (v := 1) hx hb dX10_text_56 (by decide) ?_
      refine lv_icmp_ne (tgt := 66) hx hb dX10_text_57 (by decide) (fun c_57 => ?_) (fun c => absurd c (by decide))
      refine lv_iload_n hx hb dX10_text_66 rfl (lv_at hl 0 rfl) ?_
      refine lv_iconst (v := 2) hx hb dX10_text_67 (by decide) ?_
      refine lv_icmp_eq (tgt := 77) hx hb dX10_text_68 (by decide) (fun c => absurd c (by decide)) (fun c_68 => ?_)
      refine lv_iload_n hx hb dX10_text_71 rfl (lv_at hl 0 rfl) ?_
      refine lv_bipush (v := 10) hx hb dX10_text_72 (by decide) ?_
      refine lv_icmp_ne (tgt := 81) hx hb dX10_text_74 (by decide) (fun c_74 => ?_) (fun c => absurd c (by decide))
      refine lv_iload_n hx hb dX10_text_81 rfl (lv_at hl 0 rfl) ?_
      refine lv_iconst (v := 3) hx hb dX10_text_82 (by decide) ?_
      refine lv_icmp_ne (tgt := 91) hx hb dX10_text_83 (by decide) (fun c_83 => ?_) (fun c => absurd c (by decide))
      refine lv_iload_n hx hb dX10_text_91 rfl (lv_at hl 0 rfl) ?_
      refine lv_iconst (v := 4) hx hb dX10_text_92 (by decide) ?_
      refine lv_icmp_ne (tgt := 100) hx hb dX10_text_93 (by decide) (fun c_93 => ?_) (fun c => absurd c (by decide))
      refine lv_iload_n hx hb dX10_text_100 rfl (lv_at hl 0 rfl) ?_
      refine lv_bipush (v := 9) hx hb dX10_text_101 (by decide) ?_
      refine lv_icmp_ne (tgt := 110) hx hb dX10_text_103 (by decide) (fun c_103 => ?_) (fun c => absurd c (by decide))
      refine lv_iconst (v := 0) hx hb dX10_text_110 (by decide) ?_
      refine ti_callVv (ci := 10) (av := [.int 8, .int 0]) C hw (k_reads_8 l D A cy hJ (uY (uY (uY (uY (uY (uY (uY (uY (uI (uI (uI (uI (uI (uI M 60 0 0) 60 20 0) 60 2 0) 60 21 0) 60 25 0) 60 26 (-1)) 60 3 g_1_2) 60 3 g_1_4) 60 3 g_1_6) 60 3 g_1_8) 60 3 g_1_10) 60 3 g_1_12) 60 3 g_1_14) 60 3 g_1_16) 0) ⟨ml_X10_244, ym_X10_reads, yv_X10_reads, yi_X10_reads, yc_X10_reads⟩ yd_X10_reads ob_60 (by decide) rfl rfl hl.1 (Nat.le_of_ble_eq_true rfl) ⟨by decide, by decide⟩ ⟨Nat.zero_le _, Nat.zero_le _⟩ dX10_text_111 (fun M_18 H locs hp_18 hw => ?_)
      obtain ⟨g_1_18, hm, eg_1_18⟩ := hp_18
      have hw := hw.to hm
      refine lv_iinc (v := 9) (lv' := [(2, .int 9), (0, .ref (A 60 0)), (1, .int 0)]) hx hb dX10_text_114 hl (k := 0) rfl (by decide) (by decide) rfl (fun ls hl => ?_)
      refine lv_goto (tgt := 47) hx hb dX10_text_117 (by decide) ?_
      refine lv_iload_n hx hb dX10_text_47 rfl (lv_at hl 0 rfl) ?_
      refine lv_bipush (v := 11) hx hb dX10_text_48 (by decide) ?_
      refine lv_icmp_ge (tgt := 120) hx hb dX10_text_50 (by decide) (fun c => absurd c (by decide)) (fun c_50 => ?_)
      refine lv_aload_n hx hb dX10_text_53 rfl (lv_at hl 1 rfl) ?_
      refine lv_iload_n hx hb dX10_text_54 rfl (lv_at hl 0 rfl) ?_
      refine lv_iload_n hx hb dX10_text_55 rfl (lv_at hl 0 rfl) ?_
      refine lv_iconst (v := 1) hx hb dX10_text_56 (by decide) ?_
      refine lv_icmp_ne (tgt := 66) hx hb dX10_text_57 (by decide) (fun c_57 => ?_) (fun c => absurd c (by decide))
      refine lv_iload_n hx hb dX10_text_66 rfl (lv_at hl 0 rfl) ?_
      refine lv_iconst (v := 2) hx hb dX10_text_67 (by decide) ?_
      refine lv_icmp_eq (tgt := 77) hx hb dX10_text_68 (by decide) (fun c => absurd c (by decide)) (fun c_68 => ?_)
      refine lv_iload_n hx hb dX10_text_71 rfl (lv_at hl 0 rfl) ?_
      refine lv_bipush (v := 10) hx hb dX10_text_72 (by decide) ?_
      refine lv_icmp_ne (tgt := 81) hx hb dX10_text_74 (by decide) (fun c_74 => ?_) (fun c => absurd c (by decide))
      refine lv_iload_n hx hb dX10_text_81 rfl (lv_at hl 0 rfl) ?_
      refine lv_iconst (v := 3) hx hb dX10_text_82 (by decide) ?_
      refine lv_icmp_ne (tgt := 91) hx hb dX10_text_83 (by decide) (fun c_83 => ?_) (fun c => absurd c (by decide))
      refine lv_iload_n hx hb dX10_text_91 rfl (lv_at hl 0 rfl) ?_
      refine lv_iconst (v := 4) hx hb dX10_text_92 (by decide) ?_
      refine lv_icmp_ne (tgt := 100) hx hb dX10_text_93 (by decide) (fun c_93 => ?_) (fun c => absurd c (by decide))
      refine lv_iload_n hx hb dX10_text_100 rfl (lv_at hl 0 rfl) ?_
      refine lv_bipush (v := 9) hx hb dX10_text_101 (by decide) ?_
      refine lv_icmp_ne (tgt := 110) hx hb dX10_text_103 (by decide) (fun c => absurd (by decide) c) (fun c_103 => ?_)
      refine lv_iconst (v := 1) hx hb dX10_text_106 (by decide) ?_
      refine lv_goto (tgt := 111) hx hb dX10_text_107 (by decide) ?_
      refine ti_callVv (ci := 10) (av := [.int 9, .int 1]) C hw (k_reads_9 l D A cy hJ (uY (uY (uY (uY (uY (uY (uY (uY (uY (uI (uI (uI (uI (uI (uI M 60 0 0) 60 20 0) 60 2 0) 60 21 0) 60 25 0) 60 26 (-1)) 60 3 g_1_2) 60 3 g_1_4) 60 3 g_1_6) 60 3 g_1_8) 60 3 g_1_10) 60 3 g_1_12) 60 3 g_1_14) 60 3 g_1_16) 60 3 g_1_18) 1) ⟨ml_X10_244, ym_X10_reads, yv_X10_reads, yi_X10_reads, yc_X10_reads⟩ yd_X10_reads ob_60 (by decide) rfl rfl hl.1 (Nat.le_of_ble_eq_true rfl) ⟨by decide, by decide⟩ ⟨Nat.zero_le _, Nat.zero_le _⟩ dX10_text_111 (fun M_20 H locs hp_20 hw => ?_)
      obtain ⟨g_1_20, hm, eg_1_20⟩ := hp_20
      have hw := hw.to hm
      refine lv_iinc (v := 10) (lv' := [(2, .int 10), (0, .ref (A 60 0)), (1, .int 0)]) hx hb dX10_text_114 hl (k := 0) rfl (by decide) (by decide) rfl (fun ls hl => ?_)
      refine lv_goto (tgt := 47) hx hb dX10_text_117 (by decide) ?_
      refine lv_iload_n hx hb dX10_text_47 rfl (lv_at hl 0 rfl) ?_
      refine lv_bipush (v := 11) hx hb dX10_text_48 (by decide) ?_
      refine lv_icmp_ge (tgt := 120) hx hb dX10_text_50 (by decide) (fun c => absurd c (by decide)) (fun c_50 => ?_)
      refine lv_aload_n hx hb dX10_text_53 rfl (lv_at hl 1 rfl) ?_
      refine lv_iload_n hx hb dX10_text_54 rfl (lv_at hl 0 rfl) ?_
      refine lv_iload_n hx hb dX10_text_55 rfl (lv_at hl 0 rfl) ?_
      refine lv_iconst (v := 1) hx hb dX10_text_56 (by decide) ?_
      refine lv_icmp_ne (tgt := 66) hx hb dX10_text_57 (by decide) (fun c_57 => ?_) (fun c => absurd c (by decide))
      refine lv_iload_n hx hb dX10_text_66 rfl (lv_at hl 0 rfl) ?_
      refine lv_iconst (v := 2) hx hb dX10_text_67 (by decide) ?_
      refine lv_icmp_eq (tgt := 77) hx hb dX10_text_68 (by decide) (fun c => absurd c (by decide)) (fun c_68 => ?_)
      refine lv_iload_n hx hb dX10_text_71 rfl (lv_at hl 0 rfl) ?_
      refine lv_bipush (v := 10) hx hb dX10_text_72 (by decide) ?_
      refine lv_icmp_ne (tgt := 81) hx hb dX10_text_74 (by decide) (fun c => absurd (by decide) c) (fun c_74 => ?_)
      refine lv_iconst (v := 2) hx hb dX10_text_77 (by decide) ?_
      refine lv_goto (tgt := 111) hx hb dX10_text_78 (by decide) ?_
      refine ti_callVv (ci := 10) (av := [.int 10, .int 2]) C hw (k_reads_10 l D A cy hJ (uY (uY (uY (uY (uY (uY (uY (uY (uY (uY (uI (uI (uI (uI (uI (uI M 60 0 0) 60 20 0) 60 2 0) 60 21 0) 60 25 0) 60 26 (-1)) 60 3 g_1_2) 60 3 g_1_4) 60 3 g_1_6) 60 3 g_1_8) 60 3 g_1_10) 60 3 g_1_12) 60 3 g_1_14) 60 3 g_1_16) 60 3 g_1_18) 60 3 g_1_20) 2) ⟨ml_X10_244, ym_X10_reads, yv_X10_reads, yi_X10_reads, yc_X10_reads⟩ yd_X10_reads ob_60 (by decide) rfl rfl hl.1 (Nat.le_of_ble_eq_true rfl) ⟨by decide, by decide⟩ ⟨Nat.zero_le _, Nat.zero_le _⟩ dX10_text_111 (fun M_22 H locs hp_22 hw => ?_)
      obtain ⟨g_1_22, hm, eg_1_22⟩ := hp_22
      have hw := hw.to hm
      refine lv_iinc (v := 11) (lv' := [(2, .int 11), (0, .ref (A 60 0)), (1, .int 0)]) hx hb dX10_text_114 hl (k := 0) rfl (by decide) (by decide) rfl (fun ls hl => ?_)
      refine lv_goto (tgt := 47) hx hb dX10_text_117 (by decide) ?_
      refine lv_iload_n hx hb dX10_text_47 rfl (lv_at hl 0 rfl) ?_
      refine lv_bipush (v := 11) hx hb dX10_text_48 (by decide) ?_
      refine lv_icmp_ge (tgt := 120) hx hb dX10_text_50 (by decide) (fun c_50 => ?_) (fun c => absurd (by decide) c)
      refine lv_iconst (v := 3) hx hb dX10_text_120 (by decide) ?_
      refine lv_istore_n (lv' := [(2, .int 3), (0, .ref (A 60 0)), (1, .int 0)]) hx hb dX10_text_121 rfl hl (by decide) rfl (fun ls hl => ?_)
      refine lv_iload_n hx hb dX10_text_122 rfl (lv_at hl 0 rfl) ?_
      refine lv_bipush (v := 6) hx hb dX10_text_123 (by decide) ?_
      refine lv_icmp_ge (tgt := 148) hx hb dX10_text_125 (by decide) (fun c => absurd c (by decide)) (fun c_125 => ?_)
      refine lv_aload_n hx hb dX10_text_128 rfl (lv_at hl 1 rfl) ?_
      refine ti_get (ci := 10) (k := 14) (N := 67) (T := TX10) (v := .ref (A 60 15)) C hw iw_10 rfl ob_60 (by decide) (by decide) fl_X10_46 rfl rfl dX10_text_129 ?_
      refine lv_iload_n hx hb dX10_text_132 rfl (lv_at hl 0 rfl) ?_
      refine lv_iconst (v := 0) hx hb dX10_text_133 (by decide) ?_
      refine ti_iastG (ci := 10) (k := 14) (n := 6) C hw ob_60 (by decide) (fun _ _ => rfl) (by unfold vp_in; decide) dX10_text_134 (fun H locs g_23 eg_23 hw => ?_)
      refine lv_aload_n hx hb dX10_text_135 rfl (lv_at hl 1 rfl) ?_
      refine ti_get (ci := 10) (k := 15) (N := 67) (T := TX10) (v := .ref (A 60 16)) C hw iw_10 rfl ob_60 (by decide) (by decide) fl_X10_49 rfl rfl dX10_text_136 ?_
      refine lv_iload_n hx hb dX10_text_139 rfl (lv_at hl 0 rfl) ?_
      refine lv_iconst (v := 0) hx hb dX10_text_140 (by decide) ?_
      refine ti_iastG (ci := 10) (k := 15) (n := 6) C hw ob_60 (by decide) (fun _ _ => rfl) (by unfold vp_in; decide) dX10_text_141 (fun H locs g_24 eg_24 hw => ?_)
      refine lv_iinc (v := 4) (lv' := [(2, .int 4), (0, .ref (A 60 0)), (1, .int 0)]) hx hb dX10_text_142 hl (k := 0) rfl (by decide) (by decide) rfl (fun ls hl => ?_)
      refine lv_goto (tgt := 122) hx hb dX10_text_145 (by decide) ?_
      refine lv_iload_n hx hb dX10_text_122 rfl (lv_at hl 0 rfl) ?_
      refine lv_bipush (v := 6) hx hb dX10_text_123 (by decide) ?_
      refine lv_icmp_ge (tgt := 148) hx hb dX10_text_125 (by decide) (fun c => absurd c (by decide)) (fun c_125 => ?_)
      refine lv_aload_n hx hb dX10_text_128 rfl (lv_at hl 1 rfl) ?_
      refine ti_get (ci := 10) (k := 14) (N := 67) (T := TX10) (v := .ref (A 60 15)) C hw iw_10 rfl ob_60 (by decide) (by decide) fl_X10_46 rfl rfl dX10_text_129 ?_
      refine lv_iload_n hx hb dX10_text_132 rfl (lv_at hl 0 rfl) ?_
      refine lv_iconst (v := 0) hx hb dX10_text_133 (by decide) ?_
      refine ti_iastG (ci := 10) (k := 14) (n := 6) C hw ob_60 (by decide) (fun _ _ => rfl) (by unfold vp_in; decide) dX10_text_134 (fun H locs g_25 eg_25 hw => ?_)
      refine lv_aload_n hx hb dX10_text_135 rfl (lv_at hl 1 rfl) ?_
      refine ti_get (ci := 10) (k := 15) (N := 67) (T := TX10) (v := .ref (A 60 16)) C hw iw_10 rfl ob_60 (by decide) (by decide) fl_X10_49 rfl rfl dX10_text_136 ?_
      refine lv_iload_n hx hb dX10_text_139 rfl (lv_at hl 0 rfl) ?_
      refine lv_iconst (v := 0) hx hb dX10_text_140 (by decide) ?_
      refine ti_iastG (ci := 10) (k := 15) (n := 6) C hw ob_60 (by decide) (fun _ _ => rfl) (by unfold vp_in; decide) dX10_text_141 (fun H locs g_26 eg_26 hw => ?_)
      refine lv_iinc (v := 5) (lv' := [(2, .int 5), (0, .ref (A 60 0)), (1, .int 0)]) hx hb dX10_text_142 hl (k := 0) rfl (by decide) (by decide) rfl (fun ls hl => ?_)
      refine lv_goto (tgt := 122) hx hb dX10_text_145 (by decide) ?_
      refine lv_iload_n hx hb dX10_text_122 rfl (lv_at hl 0 rfl) ?_
      refine lv_bipush (v := 6) hx hb dX10_text_123 (by decide) ?_
      refine lv_icmp_ge (tgt := 148) hx hb dX10_text_125 (by decide) (fun c => absurd c (by decide)) (fun c_125 => ?_)
      refine lv_aload_n hx hb dX10_text_128 rfl (lv_at hl 1 rfl) ?_
      refine ti_get (ci := 10) (k := 14) (N := 67) (T := TX10) (v := .ref (A 60 15)) C hw iw_10 rfl ob_60 (by decide) (by decide) fl_X10_46 rfl rfl dX10_text_129 ?_
      refine lv_iload_n hx hb dX10_text_132 rfl (lv_at hl 0 rfl) ?_
      refine lv_iconst (v := 0) hx hb dX10_text_133 (by decide) ?_
      refine ti_iastG (ci := 10) (k := 14) (n := 6) C hw ob_60 (by decide) (fun _ _ => rfl) (by unfold vp_in; decide) dX10_text_134 (fun H locs g_27 eg_27 hw => ?_)
      refine lv_aload_n hx hb dX10_text_135 rfl (lv_at hl 1 rfl) ?_
      refine ti_get (ci := 10) (k := 15) (N := 67) (T := TX10) (v := .ref (A 60 16)) C hw iw_10 rfl ob_60 (by decide) (by decide) fl_X10_49 rfl rfl dX10_text_136 ?_
      refine lv_iload_n hx hb dX10_text_139 rfl (lv_at hl 0 rfl) ?_
      refine lv_iconst (v := 0) hx hb dX10_text_140 (by decide) ?_
      refine ti_iastG (ci := 10) (k := 15) (n := 6) C hw ob_60 (by decide) (fun _ _ => rfl) (by unfold vp_in; decide) dX10_text_141 (fun H locs g_28 eg_28 hw => ?_)
      refine lv_iinc (v := 6) (lv' := [(2, .int 6), (0, .ref (A 60 0)), (1, .int 0)]) hx hb dX10_text_142 hl (k := 0) rfl (by decide) (by decide) rfl (fun ls hl => ?_)
      refine lv_goto (tgt := 122) hx hb dX10_text_145 (by decide) ?_
      refine lv_iload_n hx hb dX10_text_122 rfl (lv_at hl 0 rfl) ?_
      refine lv_bipush (v := 6) hx hb dX10_text_123 (by decide) ?_
      refine lv_icmp_ge (tgt := 148) hx hb dX10_text_125 (by decide) (fun c_125 => ?_) (fun c => absurd (by decide) c)
      refine lv_aload_n hx hb dX10_text_148 rfl (lv_at hl 1 rfl) ?_
      refine lv_iconst (v := 0) hx hb dX10_text_149 (by decide) ?_
      refine ti_putI (ci := 10) (k := 18) (N := 67) (T := TX10) C hw iw_10 tyX10 tyX10_ok nmX10 rfl ob_60 (by decide) (by decide) fl_X10_228 rfl rfl rfl rfl (fn_10 A _) fs_10_18 dX10_text_150 (fun H locs hw => ?_)
      refine lv_aload_n hx hb dX10_text_153 rfl (lv_at hl 1 rfl) ?_
      refine lv_iconst (v := 0) hx hb dX10_text_154 (by decide) ?_
      refine ti_putI (ci := 10) (k := 19) (N := 67) (T := TX10) C hw iw_10 tyX10 tyX10_ok nmX10 rfl ob_60 (by decide) (by decide) fl_X10_254 rfl rfl rfl rfl (fn_10 A _) fs_10_19 dX10_text_155 (fun H locs hw => ?_)
      refine lv_aload_n hx hb dX10_text_158 rfl (lv_at hl 1 rfl) ?_
      refine lv_iconst (v := 0) hx hb dX10_text_159 (by decide) ?_
      refine ti_putI (ci := 10) (k := 29) (N := 67) (T := TX10) C hw iw_10 tyX10 tyX10_ok nmX10 rfl ob_60 (by decide) (by decide) fl_X10_297 rfl rfl rfl rfl (fn_10 A _) fs_10_29 dX10_text_160 (fun H locs hw => ?_)
      refine lv_aload_n hx hb dX10_text_163 rfl (lv_at hl 1 rfl) ?_
      refine lv_iconst (v := 0) hx hb dX10_text_164 (by decide) ?_
      refine ti_putI (ci := 10) (k := 30) (N := 67) (T := TX10) C hw iw_10 tyX10 tyX10_ok nmX10 rfl ob_60 (by decide) (by decide) fl_X10_273 rfl rfl rfl rfl (fn_10 A _) fs_10_30 dX10_text_165 (fun H locs hw => ?_)
      refine lv_aload_n hx hb dX10_text_168 rfl (lv_at hl 1 rfl) ?_
      refine ti_callVv (ci := 10) (av := []) C hw (k_X10_token l D A cy hJ (uI (uI (uI (uI (uY (uY (uY (uY (uY (uY (uY (uY (uY (uY (uY (uY (uY (uY (uY (uY (uY (uI (uI (uI (uI (uI (uI M 60 0 0) 60 20 0) 60 2 0) 60 21 0) 60 25 0) 60 26 (-1)) 60 3 g_1_2) 60 3 g_1_4) 60 3 g_1_6) 60 3 g_1_8) 60 3 g_1_10) 60 3 g_1_12) 60 3 g_1_14) 60 3 g_1_16) 60 3 g_1_18) 60 3 g_1_20) 60 3 g_1_22) 60 14 g_23) 60 15 g_24) 60 14 g_25) 60 15 g_26) 60 14 g_27) 60 15 g_28) 60 18 0) 60 19 0) 60 29 0) 60 30 0) ((tI_k _ _ _ _ (by decide)).trans ((tI_k _ _ _ _ (by decide)).trans ((tI_k _ _ _ _ (by decide)).trans ((tI_k _ _ _ _ (by decide)).trans ((tI_uY _ _ _ _ _ _).trans ((tI_uY _ _ _ _ _ _).trans ((tI_uY _ _ _ _ _ _).trans ((tI_uY _ _ _ _ _ _).trans ((tI_uY _ _ _ _ _ _).trans ((tI_uY _ _ _ _ _ _).trans ((tI_uY _ _ _ _ _ _).trans ((tI_uY _ _ _ _ _ _).trans ((tI_uY _ _ _ _ _ _).trans ((tI_uY _ _ _ _ _ _).trans ((tI_uY _ _ _ _ _ _).trans ((tI_uY _ _ _ _ _ _).trans ((tI_uY _ _ _ _ _ _).trans ((tI_uY _ _ _ _ _ _).trans ((tI_uY _ _ _ _ _ _).trans ((tI_uY _ _ _ _ _ _).trans ((tI_uY _ _ _ _ _ _).trans ((tI_k _ _ _ _ (by decide)).trans ((tI_k _ _ _ _ (by decide)).trans (tI_u _ _ _ _)))))))))))))))))))))))) ((tI_k _ _ _ _ (by decide)).trans ((tI_k _ _ _ _ (by decide)).trans ((tI_k _ _ _ _ (by decide)).trans ((tI_k _ _ _ _ (by decide)).trans ((tI_uY _ _ _ _ _ _).trans ((tI_uY _ _ _ _ _ _).trans ((tI_uY _ _ _ _ _ _).trans ((tI_uY _ _ _ _ _ _).trans ((tI_uY _ _ _ _ _ _).trans ((tI_uY _ _ _ _ _ _).trans ((tI_uY _ _ _ _ _ _).trans ((tI_uY _ _ _ _ _ _).trans ((tI_uY _ _ _ _ _ _).trans ((tI_uY _ _ _ _ _ _).trans ((tI_uY _ _ _ _ _ _).trans ((tI_uY _ _ _ _ _ _).trans ((tI_uY _ _ _ _ _ _).trans ((tI_uY _ _ _ _ _ _).trans ((tI_uY _ _ _ _ _ _).trans ((tI_uY _ _ _ _ _ _).trans ((tI_uY _ _ _ _ _ _).trans ((tI_k _ _ _ _ (by decide)).trans ((tI_k _ _ _ _ (by decide)).trans ((tI_k _ _ _ _ (by decide)).trans ((tI_k _ _ _ _ (by decide)).trans (tI_u _ _ _ _))))))))))))))))))))))))))) ⟨ml_X10_214, ym_X10_token, yv_X10_token, yi_X10_token, yc_X10_token⟩ yd_X10_token ob_60 (by decide) rfl rfl hl.1 (Nat.le_of_ble_eq_true rfl) ⟨by decide, by decide⟩ ⟨Nat.zero_le _, Nat.zero_le _⟩ dX10_text_169 (fun M_30 H locs hp_30 hw => ?_)
      have hm := hp_30
      have hw := hw.to hm
      refine lv_aload_n hx hb dX10_text_172 rfl (lv_at hl 1 rfl) ?_
      refine ti_get (ci := 10) (k := 25) (N := 67) (T := TX10) C hw iw_10 rfl ob_60 (by decide) (by decide) fl_X10_208 rfl rfl dX10_text_173 ?_
      refine ti_top (y := 0) ((tI_k _ _ _ _ (by decide)).trans ((tI_k _ _ _ _ (by decide)).trans ((tI_k _ _ _ _ (by decide)).trans ((tI_k _ _ _ _ (by decide)).trans ((tI_k _ _ _ _ (by decide)).trans ((tI_k _ _ _ _ (by decide)).trans ((tI_uY _ _ _ _ _ _).trans ((tI_uY _ _ _ _ _ _).trans ((tI_uY _ _ _ _ _ _).trans ((tI_uY _ _ _ _ _ _).trans ((tI_uY _ _ _ _ _ _).trans ((tI_uY _ _ _ _ _ _).trans ((tI_uY _ _ _ _ _ _).trans ((tI_uY _ _ _ _ _ _).trans ((tI_uY _ _ _ _ _ _).trans ((tI_uY _ _ _ _ _ _).trans ((tI_uY _ _ _ _ _ _).trans ((tI_uY _ _ _ _ _ _).trans ((tI_uY _ _ _ _ _ _).trans ((tI_uY _ _ _ _ _ _).trans ((tI_uY _ _ _ _ _ _).trans ((tI_uY _ _ _ _ _ _).trans ((tI_uY _ _ _ _ _ _).trans ((tI_k _ _ _ _ (by decide)).trans (tI_u _ _ _ _))))))))))))))))))))))))) ?_
      refine lv_if_ne (tgt := 194) hx hb dX10_text_176 (by decide) (fun c => absurd (by decide) c) (fun c_176 => ?_)
      refine lv_aload_n hx hb dX10_text_179 rfl (lv_at hl 1 rfl) ?_
      refine ti_get (ci := 10) (k := 23) (N := 67) (T := TX10) C hw iw_10 rfl ob_60 (by decide) (by decide) fl_X10_173 rfl rfl dX10_text_180 ?_
      refine ti_top (y := 4) (tI_u _ _ _ _) ?_
      refine lv_iconst (v := 4) hx hb dX10_text_183 (by decide) ?_
      refine lv_icmp_eq (tgt := 194) hx hb dX10_text_184 (by decide) (fun c_184 => ?_) (fun c => absurd (by decide) c)
      refine lv_aload_n hx hb dX10_text_194 rfl (lv_at hl 1 rfl) ?_
      refine lv_aload_n hx hb dX10_text_195 rfl (lv_at hl 1 rfl) ?_
      refine ti_get (ci := 10) (k := 25) (N := 67) (T := TX10) C hw iw_10 rfl ob_60 (by decide) (by decide) fl_X10_208 rfl rfl dX10_text_196 ?_
      refine ti_top (y := 0) ((tI_k _ _ _ _ (by decide)).trans ((tI_k _ _ _ _ (by decide)).trans ((tI_k _ _ _ _ (by decide)).trans ((tI_k _ _ _ _ (by decide)).trans ((tI_k _ _ _ _ (by decide)).trans ((tI_k _ _ _ _ (by decide)).trans ((tI_uY _ _ _ _ _ _).trans ((tI_uY _ _ _ _ _ _).trans ((tI_uY _ _ _ _ _ _).trans ((tI_uY _ _ _ _ _ _).trans ((tI_uY _ _ _ _ _ _).trans ((tI_uY _ _ _ _ _ _).trans ((tI_uY _ _ _ _ _ _).trans ((tI_uY _ _ _ _ _ _).trans ((tI_uY _ _ _ _ _ _).trans ((tI_uY _ _ _ _ _ _).trans ((tI_uY _ _ _ _ _ _).trans ((tI_uY _ _ _ _ _ _).trans ((tI_uY _ _ _ _ _ _).trans ((tI_uY _ _ _ _ _ _).trans ((tI_uY _ _ _ _ _ _).trans ((tI_uY _ _ _ _ _ _).trans ((tI_uY _ _ _ _ _ _).trans ((tI_k _ _ _ _ (by decide)).trans (tI_u _ _ _ _))))))))))))))))))))))))) ?_
      refine ti_putI (ci := 10) (k := 27) (N := 67) (T := TX10) C hw iw_10 tyX10 tyX10_ok nmX10 rfl ob_60 (by decide) (by decide) fl_X10_303 rfl rfl rfl rfl (fn_10 A _) fs_10_27 dX10_text_199 (fun H locs hw => ?_)
      refine lv_aload_n hx hb dX10_text_202 rfl (lv_at hl 1 rfl) ?_
      refine lv_aload_n hx hb dX10_text_203 rfl (lv_at hl 1 rfl) ?_
      refine ti_get (ci := 10) (k := 26) (N := 67) (T := TX10) C hw iw_10 rfl ob_60 (by decide) (by decide) fl_X10_211 rfl rfl dX10_text_204 ?_
      refine ti_top (y := (-1)) ((tI_k _ _ _ _ (by decide)).trans ((tI_k _ _ _ _ (by decide)).trans ((tI_k _ _ _ _ (by decide)).trans ((tI_k _ _ _ _ (by decide)).trans ((tI_k _ _ _ _ (by decide)).trans ((tI_k _ _ _ _ (by decide)).trans ((tI_k _ _ _ _ (by decide)).trans ((tI_uY _ _ _ _ _ _).trans ((tI_uY _ _ _ _ _ _).trans ((tI_uY _ _ _ _ _ _).trans ((tI_uY _ _ _ _ _ _).trans ((tI_uY _ _ _ _ _ _).trans ((tI_uY _ _ _ _ _ _).trans ((tI_uY _ _ _ _ _ _).trans ((tI_uY _ _ _ _ _ _).trans ((tI_uY _ _ _ _ _ _).trans ((tI_uY _ _ _ _ _ _).trans ((tI_uY _ _ _ _ _ _).trans ((tI_uY _ _ _ _ _ _).trans ((tI_uY _ _ _ _ _ _).trans ((tI_uY _ _ _ _ _ _).trans ((tI_uY _ _ _ _ _ _).trans ((tI_uY _ _ _ _ _ _).trans ((tI_uY _ _ _ _ _ _).trans (tI_u _ _ _ _))))))))))))))))))))))))) ?_
      refine ti_putI (ci := 10) (k := 28) (N := 67) (T := TX10) C hw iw_10 tyX10 tyX10_ok nmX10 rfl ob_60 (by decide) (by decide) fl_X10_58 rfl rfl rfl rfl (fn_10 A _) fs_10_28 dX10_text_207 (fun H locs hw => ?_)
      refine lv_aload_n hx hb dX10_text_210 rfl (lv_at hl 1 rfl) ?_
      refine ti_get (ci := 10) (k := 25) (N := 67) (T := TX10) C hw iw_10 rfl ob_60 (by decide) (by decide) fl_X10_208 rfl rfl dX10_text_211 ?_
      refine ti_top (y := 0) ((tI_k _ _ _ _ (by decide)).trans ((tI_k _ _ _ _ (by decide)).trans ((tI_k _ _ _ _ (by decide)).trans ((tI_k _ _ _ _ (by decide)).trans ((tI_k _ _ _ _ (by decide)).trans ((tI_k _ _ _ _ (by decide)).trans ((tI_k _ _ _ _ (by decide)).trans ((tI_k _ _ _ _ (by decide)).trans ((tI_uY _ _ _ _ _ _).trans ((tI_uY _ _ _ _ _ _).trans ((tI_uY _ _ _ _ _ _).trans ((tI_uY _ _ _ _ _ _).trans ((tI_uY _ _ _ _ _ _).trans ((tI_uY _ _ _ _ _ _).trans ((tI_uY _ _ _ _ _ _).trans ((tI_uY _ _ _ _ _ _).trans ((tI_uY _ _ _ _ _ _).trans ((tI_uY _ _ _ _ _ _).trans ((tI_uY _ _ _ _ _ _).trans ((tI_uY _ _ _ _ _ _).trans ((tI_uY _ _ _ _ _ _).trans ((tI_uY _ _ _ _ _ _).trans ((tI_uY _ _ _ _ _ _).trans ((tI_uY _ _ _ _ _ _).trans ((tI_uY _ _ _ _ _ _).trans ((tI_k _ _ _ _ (by decide)).trans (tI_u _ _ _ _))))))))))))))))))))))))))) ?_
      refine lv_if_eq (tgt := 219) hx hb dX10_text_214 (by decide) (fun c_214 => ?_) (fun c => absurd (by decide) c)
      refine lv_aload_n hx hb dX10_text_219 rfl (lv_at hl 1 rfl) ?_
      refine ti_get (ci := 10) (k := 3) (N := 67) (T := TX10) (v := .ref (A 60 4)) C hw iw_10 rfl ob_60 (by decide) (by decide) fl_X10_13 rfl rfl dX10_text_220 ?_
      refine ti_callSv (av := [.ref (A 60 4)]) C hw (k_half l D A cy hJ (uI (uI (uI (uI (uI (uI (uI (uI (uY (uY (uY (uY (uY (uY (uY (uY (uY (uY (uY (uY (uY (uY (uY (uY (uY (uI (uI (uI (uI (uI (uI M 60 0 0) 60 20 0) 60 2 0) 60 21 0) 60 25 0) 60 26 (-1)) 60 3 g_1_2) 60 3 g_1_4) 60 3 g_1_6) 60 3 g_1_8) 60 3 g_1_10) 60 3 g_1_12) 60 3 g_1_14) 60 3 g_1_16) 60 3 g_1_18) 60 3 g_1_20) 60 3 g_1_22) 60 14 g_23) 60 15 g_24) 60 14 g_25) 60 15 g_26) 60 14 g_27) 60 15 g_28) 60 18 0) 60 19 0) 60 29 0) 60 30 0) 60 22 0) 60 23 4) 60 27 0) 60 28 (-1)) 3 22 11 (by decide) (fun _ _ => rfl) (by decide) (by decide) (by decide)) ⟨ml_X10_306, ys_X10_half, yi_X10_half, yc_X10_half⟩ yd_X10_half rfl hl.1 (Nat.le_of_ble_eq_true rfl) ⟨by decide, by decide⟩ ⟨Nat.zero_le _, Nat.zero_le _⟩ dX10_text_223 (fun M_32 H locs hp_32 hw => ?_)
      obtain ⟨g_31, hm, hg_31⟩ := hp_32
      have hw := hw.to hm
      refine lv_aload_n hx hb dX10_text_226 rfl (lv_at hl 1 rfl) ?_
      refine ti_get (ci := 10) (k := 4) (N := 67) (T := TX10) (v := .ref (A 60 5)) C hw iw_10 rfl ob_60 (by decide) (by decide) fl_X10_16 rfl rfl dX10_text_227 ?_
      refine ti_callSv (av := [.ref (A 60 5)]) C hw (k_half l D A cy hJ (uY (uI (uI (uI (uI (uI (uI (uI (uI (uY (uY (uY (uY (uY (uY (uY (uY (uY (uY (uY (uY (uY (uY (uY (uY (uY (uI (uI (uI (uI (uI (uI M 60 0 0) 60 20 0) 60 2 0) 60 21 0) 60 25 0) 60 26 (-1)) 60 3 g_1_2) 60 3 g_1_4) 60 3 g_1_6) 60 3 g_1_8) 60 3 g_1_10) 60 3 g_1_12) 60 3 g_1_14) 60 3 g_1_16) 60 3 g_1_18) 60 3 g_1_20) 60 3 g_1_22) 60 14 g_23) 60 15 g_24) 60 14 g_25) 60 15 g_26) 60 14 g_27) 60 15 g_28) 60 18 0) 60 19 0) 60 29 0) 60 30 0) 60 22 0) 60 23 4) 60 27 0) 60 28 (-1)) 60 3 g_31) 4 16 8 (by decide) (fun _ _ => rfl) (by decide) (by decide) (by decide)) ⟨ml_X10_306, ys_X10_half, yi_X10_half, yc_X10_half⟩ yd_X10_half rfl hl.1 (Nat.le_of_ble_eq_true rfl) ⟨by decide, by decide⟩ ⟨Nat.zero_le _, Nat.zero_le _⟩ dX10_text_230 (fun M_34 H locs hp_34 hw => ?_)
      obtain ⟨g_33, hm, hg_33⟩ := hp_34
      have hw := hw.to hm
      refine lv_aload_n hx hb dX10_text_233 rfl (lv_at hl 1 rfl) ?_
      refine ti_get (ci := 10) (k := 5) (N := 67) (T := TX10) (v := .ref (A 60 6)) C hw iw_10 rfl ob_60 (by decide) (by decide) fl_X10_19 rfl rfl dX10_text_234 ?_
      refine ti_callSv (av := [.ref (A 60 6)]) C hw (k_half l D A cy hJ (uY (uY (uI (uI (uI (uI (uI (uI (uI (uI (uY (uY (uY (uY (uY (uY (uY (uY (uY (uY (uY (uY (uY (uY (uY (uY (uY (uI (uI (uI (uI (uI (uI M 60 0 0) 60 20 0) 60 2 0) 60 21 0) 60 25 0) 60 26 (-1)) 60 3 g_1_2) 60 3 g_1_4) 60 3 g_1_6) 60 3 g_1_8) 60 3 g_1_10) 60 3 g_1_12) 60 3 g_1_14) 60 3 g_1_16) 60 3 g_1_18) 60 3 g_1_20) 60 3 g_1_22) 60 14 g_23) 60 15 g_24) 60 14 g_25) 60 15 g_26) 60 14 g_27) 60 15 g_28) 60 18 0) 60 19 0) 60 29 0) 60 30 0) 60 22 0) 60 23 4) 60 27 0) 60 28 (-1)) 60 3 g_31) 60 4 g_33) 5 16 8 (by decide) (fun _ _ => rfl) (by decide) (by decide) (by decide)) ⟨ml_X10_306, ys_X10_half, yi_X10_half, yc_X10_half⟩ yd_X10_half rfl hl.1 (Nat.le_of_ble_eq_true rfl) ⟨by decide, by decide⟩ ⟨Nat.zero_le _, Nat.zero_le _⟩ dX10_text_237 (fun M_36 H locs hp_36 hw => ?_)
      obtain ⟨g_35, hm, hg_35⟩ := hp_36
      have hw := hw.to hm
      refine lv_aload_n hx hb dX10_text_240 rfl (lv_at hl 1 rfl) ?_
      refine ti_get (ci := 10) (k := 6) (N := 67) (T := TX10) (v := .ref (A 60 7)) C hw iw_10 rfl ob_60 (by decide) (by decide) fl_X10_22 rfl rfl dX10_text_241 ?_
      refine ti_callSv (av := [.ref (A 60 7)]) C hw (k_half l D A cy hJ (uY (uY (uY (uI (uI (uI (uI (uI (uI (uI (uI (uY (uY (uY (uY (uY (uY (uY (uY (uY (uY (uY (uY (uY (uY (uY (uY (uY (uI (uI (uI (uI (uI (uI M 60 0 0) 60 20 0) 60 2 0) 60 21 0) 60 25 0) 60 26 (-1)) 60 3 g_1_2) 60 3 g_1_4) 60 3 g_1_6) 60 3 g_1_8) 60 3 g_1_10) 60 3 g_1_12) 60 3 g_1_14) 60 3 g_1_16) 60 3 g_1_18) 60 3 g_1_20) 60 3 g_1_22) 60 14 g_23) 60 15 g_24) 60 14 g_25) 60 15 g_26) 60 14 g_27) 60 15 g_28) 60 18 0) 60 19 0) 60 29 0) 60 30 0) 60 22 0) 60 23 4) 60 27 0) 60 28 (-1)) 60 3 g_31) 60 4 g_33) 60 5 g_35) 6 16 8 (by decide) (fun _ _ => rfl) (by decide) (by decide) (by decide)) ⟨ml_X10_306, ys_X10_half, yi_X10_half, yc_X10_half⟩ yd_X10_half rfl hl.1 (Nat.le_of_ble_eq_true rfl) ⟨by decide, by decide⟩ ⟨Nat.zero_le _, Nat.zero_le _⟩ dX10_text_244 (fun M_38 H locs hp_38 hw => ?_)
      obtain ⟨g_37, hm, hg_37⟩ := hp_38
      have hw := hw.to hm
      refine lv_aload_n hx hb dX10_text_247 rfl (lv_at hl 1 rfl) ?_
      refine ti_get (ci := 10) (k := 7) (N := 67) (T := TX10) (v := .ref (A 60 8)) C hw iw_10 rfl ob_60 (by decide) (by decide) fl_X10_25 rfl rfl dX10_text_248 ?_
      refine ti_callSv (av := [.ref (A 60 8)]) C hw (k_half l D A cy hJ (uY (uY (uY (uY (uI (uI (uI (uI (uI (uI (uI (uI (uY (uY (uY (uY (uY (uY (uY (uY (uY (uY (uY (uY (uY (uY (uY (uY (uY (uI (uI (uI (uI (uI (uI M 60 0 0) 60 20 0) 60 2 0) 60 21 0) 60 25 0) 60 26 (-1)) 60 3 g_1_2) 60 3 g_1_4) 60 3 g_1_6) 60 3 g_1_8) 60 3 g_1_10) 60 3 g_1_12) 60 3 g_1_14) 60 3 g_1_16) 60 3 g_1_18) 60 3 g_1_20) 60 3 g_1_22) 60 14 g_23) 60 15 g_24) 60 14 g_25) 60 15 g_26) 60 14 g_27) 60 15 g_28) 60 18 0) 60 19 0) 60 29 0) 60 30 0) 60 22 0) 60 23 4) 60 27 0) 60 28 (-1)) 60 3 g_31) 60 4 g_33) 60 5 g_35) 60 6 g_37) 7 16 8 (by decide) (fun _ _ => rfl) (by decide) (by decide) (by decide)) ⟨ml_X10_306, ys_X10_half, yi_X10_half, yc_X10_half⟩ yd_X10_half rfl hl.1 (Nat.le_of_ble_eq_true rfl) ⟨by decide, by decide⟩ ⟨Nat.zero_le _, Nat.zero_le _⟩ dX10_text_251 (fun M_40 H locs hp_40 hw => ?_)
      obtain ⟨g_39, hm, hg_39⟩ := hp_40
      have hw := hw.to hm
      refine lv_aload_n hx hb dX10_text_254 rfl (lv_at hl 1 rfl) ?_
      refine ti_get (ci := 10) (k := 8) (N := 67) (T := TX10) (v := .ref (A 60 9)) C hw iw_10 rfl ob_60 (by decide) (by decide) fl_X10_28 rfl rfl dX10_text_255 ?_
      refine ti_callSv (av := [.ref (A 60 9)]) C hw (k_half l D A cy hJ (uY (uY (uY (uY (uY (uI (uI (uI (uI (uI (uI (uI (uI (uY (uY (uY (uY (uY (uY (uY (uY (uY (uY (uY (uY (uY (uY (uY (uY (uY (uI (uI (uI (uI (uI (uI M 60 0 0) 60 20 0) 60 2 0) 60 21 0) 60 25 0) 60 26 (-1)) 60 3 g_1_2) 60 3 g_1_4) 60 3 g_1_6) 60 3 g_1_8) 60 3 g_1_10) 60 3 g_1_12) 60 3 g_1_14) 60 3 g_1_16) 60 3 g_1_18) 60 3 g_1_20) 60 3 g_1_22) 60 14 g_23) 60 15 g_24) 60 14 g_25) 60 15 g_26) 60 14 g_27) 60 15 g_28) 60 18 0) 60 19 0) 60 29 0) 60 30 0) 60 22 0) 60 23 4) 60 27 0) 60 28 (-1)) 60 3 g_31) 60 4 g_33) 60 5 g_35) 60 6 g_37) 60 7 g_39) 8 16 8 (by decide) (fun _ _ => rfl) (by decide) (by decide) (by decide)) ⟨ml_X10_306, ys_X10_half, yi_X10_half, yc_X10_half⟩ yd_X10_half rfl hl.1 (Nat.le_of_ble_eq_true rfl) ⟨by decide, by decide⟩ ⟨Nat.zero_le _, Nat.zero_le _⟩ dX10_text_258 (fun M_42 H locs hp_42 hw => ?_)
      obtain ⟨g_41, hm, hg_41⟩ := hp_42
      have hw := hw.to hm
      refine lv_aload_n hx hb dX10_text_261 rfl (lv_at hl 1 rfl) ?_
      refine ti_get (ci := 10) (k := 9) (N := 67) (T := TX10) (v := .ref (A 60 10)) C hw iw_10 rfl ob_60 (by decide) (by decide) fl_X10_31 rfl rfl dX10_text_262 ?_
      refine ti_callSv (av := [.ref (A 60 10)]) C hw (k_half l D A cy hJ (uY (uY (uY (uY (uY (uY (uI (uI (uI (uI (uI (uI (uI (uI (uY (uY (uY (uY (uY (uY (uY (uY (uY (uY (uY (uY (uY (uY (uY (uY (uY (uI (uI (uI (uI (uI (uI M 60 0 0) 60 20 0) 60 2 0) 60 21 0) 60 25 0) 60 26 (-1)) 60 3 g_1_2) 60 3 g_1_4) 60 3 g_1_6) 60 3 g_1_8) 60 3 g_1_10) 60 3 g_1_12) 60 3 g_1_14) 60 3 g_1_16) 60 3 g_1_18) 60 3 g_1_20) 60 3 g_1_22) 60 14 g_23) 60 15 g_24) 60 14 g_25) 60 15 g_26) 60 14 g_27) 60 15 g_28) 60 18 0) 60 19 0) 60 29 0) 60 30 0) 60 22 0) 60 23 4) 60 27 0) 60 28 (-1)) 60 3 g_31) 60 4 g_33) 60 5 g_35) 60 6 g_37) 60 7 g_39) 60 8 g_41) 9 16 8 (by decide) (fun _ _ => rfl) (by decide) (by decide) (by decide)) ⟨ml_X10_306, ys_X10_half, yi_X10_half, yc_X10_half⟩ yd_X10_half rfl hl.1 (Nat.le_of_ble_eq_true rfl) ⟨by decide, by decide⟩ ⟨Nat.zero_le _, Nat.zero_le _⟩ dX10_text_265 (fun M_44 H locs hp_44 hw => ?_)
      obtain ⟨g_43, hm, hg_43⟩ := hp_44
      have hw := hw.to hm
      refine lv_aload_n hx hb dX10_text_268 rfl (lv_at hl 1 rfl) ?_
      refine ti_get (ci := 10) (k := 10) (N := 67) (T := TX10) (v := .ref (A 60 11)) C hw iw_10 rfl ob_60 (by decide) (by decide) fl_X10_34 rfl rfl dX10_text_269 ?_
      refine ti_callSv (av := [.ref (A 60 11)]) C hw (k_half l D A cy hJ (uY (uY (uY (uY (uY (uY (uY (uI (uI (uI (uI (uI (uI (uI (uI (uY (uY (uY (uY (uY (uY (uY (uY (uY (uY (uY (uY (uY (uY (uY (uY (uY (uI (uI (uI (uI (uI (uI M 60 0 0) 60 20 0) 60 2 0) 60 21 0) 60 25 0) 60 26 (-1)) 60 3 g_1_2) 60 3 g_1_4) 60 3 g_1_6) 60 3 g_1_8) 60 3 g_1_10) 60 3 g_1_12) 60 3 g_1_14) 60 3 g_1_16) 60 3 g_1_18) 60 3 g_1_20) 60 3 g_1_22) 60 14 g_23) 60 15 g_24) 60 14 g_25) 60 15 g_26) 60 14 g_27) 60 15 g_28) 60 18 0) 60 19 0) 60 29 0) 60 30 0) 60 22 0) 60 23 4) 60 27 0) 60 28 (-1)) 60 3 g_31) 60 4 g_33) 60 5 g_35) 60 6 g_37) 60 7 g_39) 60 8 g_41) 60 9 g_43) 10 16 8 (by decide) (fun _ _ => rfl) (by decide) (by decide) (by decide)) ⟨ml_X10_306, ys_X10_half, yi_X10_half, yc_X10_half⟩ yd_X10_half rfl hl.1 (Nat.le_of_ble_eq_true rfl) ⟨by decide, by decide⟩ ⟨Nat.zero_le _, Nat.zero_le _⟩ dX10_text_272 (fun M_46 H locs hp_46 hw => ?_)
      obtain ⟨g_45, hm, hg_45⟩ := hp_46
      have hw := hw.to hm
      refine lv_aload_n hx hb dX10_text_275 rfl (lv_at hl 1 rfl) ?_
      refine ti_get (ci := 10) (k := 11) (N := 67) (T := TX10) (v := .ref (A 60 12)) C hw iw_10 rfl ob_60 (by decide) (by decide) fl_X10_37 rfl rfl dX10_text_276 ?_
      refine ti_callSv (av := [.ref (A 60 12)]) C hw (k_half l D A cy hJ (uY (uY (uY (uY (uY (uY (uY (uY (uI (uI (uI (uI (uI (uI (uI (uI (uY (uY (uY (uY (uY (uY (uY (uY (uY (uY (uY (uY (uY (uY (uY (uY (uY (uI (uI (uI (uI (uI (uI M 60 0 0) 60 20 0) 60 2 0) 60 21 0) 60 25 0) 60 26 (-1)) 60 3 g_1_2) 60 3 g_1_4) 60 3 g_1_6) 60 3 g_1_8) 60 3 g_1_10) 60 3 g_1_12) 60 3 g_1_14) 60 3 g_1_16) 60 3 g_1_18) 60 3 g_1_20) 60 3 g_1_22) 60 14 g_23) 60 15 g_24) 60 14 g_25) 60 15 g_26) 60 14 g_27) 60 15 g_28) 60 18 0) 60 19 0) 60 29 0) 60 30 0) 60 22 0) 60 23 4) 60 27 0) 60 28 (-1)) 60 3 g_31) 60 4 g_33) 60 5 g_35) 60 6 g_37) 60 7 g_39) 60 8 g_41) 60 9 g_43) 60 10 g_45) 11 16 8 (by decide) (fun _ _ => rfl) (by decide) (by decide) (by decide)) ⟨ml_X10_306, ys_X10_half, yi_X10_half, yc_X10_half⟩ yd_X10_half rfl hl.1 (Nat.le_of_ble_eq_true rfl) ⟨by decide, by decide⟩ ⟨Nat.zero_le _, Nat.zero_le _⟩ dX10_text_279 (fun M_48 H locs hp_48 hw => ?_)
      obtain ⟨g_47, hm, hg_47⟩ := hp_48
      have hw := hw.to hm
      refine lv_aload_n hx hb dX10_text_282 rfl (lv_at hl 1 rfl) ?_
      refine ti_get (ci := 10) (k := 12) (N := 67) (T := TX10) (v := .ref (A 60 13)) C hw iw_10 rfl ob_60 (by decide) (by decide) fl_X10_40 rfl rfl dX10_text_283 ?_
      refine ti_callSv (av := [.ref (A 60 13)]) C hw (k_half l D A cy hJ (uY (uY (uY (uY (uY (uY (uY (uY (uY (uI (uI (uI (uI (uI (uI (uI (uI (uY (uY (uY (uY (uY (uY (uY (uY (uY (uY (uY (uY (uY (uY (uY (uY (uY (uI (uI (uI (uI (uI (uI M 60 0 0) 60 20 0) 60 2 0) 60 21 0) 60 25 0) 60 26 (-1)) 60 3 g_1_2) 60 3 g_1_4) 60 3 g_1_6) 60 3 g_1_8) 60 3 g_1_10) 60 3 g_1_12) 60 3 g_1_14) 60 3 g_1_16) 60 3 g_1_18) 60 3 g_1_20) 60 3 g_1_22) 60 14 g_23) 60 15 g_24) 60 14 g_25) 60 15 g_26) 60 14 g_27) 60 15 g_28) 60 18 0) 60 19 0) 60 29 0) 60 30 0) 60 22 0) 60 23 4) 60 27 0) 60 28 (-1)) 60 3 g_31) 60 4 g_33) 60 5 g_35) 60 6 g_37) 60 7 g_39) 60 8 g_41) 60 9 g_43) 60 10 g_45) 60 11 g_47) 12 16 8 (by decide) (fun _ _ => rfl) (by decide) (by decide) (by decide)) ⟨ml_X10_306, ys_X10_half, yi_X10_half, yc_X10_half⟩ yd_X10_half rfl hl.1 (Nat.le_of_ble_eq_true rfl) ⟨by decide, by decide⟩ ⟨Nat.zero_le _, Nat.zero_le _⟩ dX10_text_286 (fun M_50 H locs hp_50 hw => ?_)
      obtain ⟨g_49, hm, hg_49⟩ := hp_50
      have hw := hw.to hm
      refine lv_aload_n hx hb dX10_text_289 rfl (lv_at hl 1 rfl) ?_
      refine ti_get (ci := 10) (k := 13) (N := 67) (T := TX10) (v := .ref (A 60 14)) C hw iw_10 rfl ob_60 (by decide) (by decide) fl_X10_43 rfl rfl dX10_text_290 ?_
      refine ti_callSv (av := [.ref (A 60 14)]) C hw (k_half l D A cy hJ (uY (uY (uY (uY (uY (uY (uY (uY (uY (uY (uI (uI (uI (uI (uI (uI (uI (uI (uY (uY (uY (uY (uY (uY (uY (uY (uY (uY (uY (uY (uY (uY (uY (uY (uY (uI (uI (uI (uI (uI (uI M 60 0 0) 60 20 0) 60 2 0) 60 21 0) 60 25 0) 60 26 (-1)) 60 3 g_1_2) 60 3 g_1_4) 60 3 g_1_6) 60 3 g_1_8) 60 3 g_1_10) 60 3 g_1_12) 60 3 g_1_14) 60 3 g_1_16) 60 3 g_1_18) 60 3 g_1_20) 60 3 g_1_22) 60 14 g_23) 60 15 g_24) 60 14 g_25) 60 15 g_26) 60 14 g_27) 60 15 g_28) 60 18 0) 60 19 0) 60 29 0) 60 30 0) 60 22 0) 60 23 4) 60 27 0) 60 28 (-1)) 60 3 g_31) 60 4 g_33) 60 5 g_35) 60 6 g_37) 60 7 g_39) 60 8 g_41) 60 9 g_43) 60 10 g_45) 60 11 g_47) 60 12 g_49) 13 16 8 (by decide) (fun _ _ => rfl) (by decide) (by decide) (by decide)) ⟨ml_X10_306, ys_X10_half, yi_X10_half, yc_X10_half⟩ yd_X10_half rfl hl.1 (Nat.le_of_ble_eq_true rfl) ⟨by decide, by decide⟩ ⟨Nat.zero_le _, Nat.zero_le _⟩ dX10_text_293 (fun M_52 H locs hp_52 hw => ?_)
      obtain ⟨g_51, hm, hg_51⟩ := hp_52
      have hw := hw.to hm
      refine lv_aload_n hx hb dX10_text_296 rfl (lv_at hl 1 rfl) ?_
      refine ti_get (ci := 10) (k := 14) (N := 67) (T := TX10) (v := .ref (A 60 15)) C hw iw_10 rfl ob_60 (by decide) (by decide) fl_X10_46 rfl rfl dX10_text_297 ?_
      refine ti_callSv (av := [.ref (A 60 15)]) C hw (k_half l D A cy hJ (uY (uY (uY (uY (uY (uY (uY (uY (uY (uY (uY (uI (uI (uI (uI (uI (uI (uI (uI (uY (uY (uY (uY (uY (uY (uY (uY (uY (uY (uY (uY (uY (uY (uY (uY (uY (uI (uI (uI (uI (uI (uI M 60 0 0) 60 20 0) 60 2 0) 60 21 0) 60 25 0) 60 26 (-1)) 60 3 g_1_2) 60 3 g_1_4) 60 3 g_1_6) 60 3 g_1_8) 60 3 g_1_10) 60 3 g_1_12) 60 3 g_1_14) 60 3 g_1_16) 60 3 g_1_18) 60 3 g_1_20) 60 3 g_1_22) 60 14 g_23) 60 15 g_24) 60 14 g_25) 60 15 g_26) 60 14 g_27) 60 15 g_28) 60 18 0) 60 19 0) 60 29 0) 60 30 0) 60 22 0) 60 23 4) 60 27 0) 60 28 (-1)) 60 3 g_31) 60 4 g_33) 60 5 g_35) 60 6 g_37) 60 7 g_39) 60 8 g_41) 60 9 g_43) 60 10 g_45) 60 11 g_47) 60 12 g_49) 60 13 g_51) 14 6 3 (by decide) (fun _ _ => rfl) (by decide) (by decide) (by decide)) ⟨ml_X10_306, ys_X10_half, yi_X10_half, yc_X10_half⟩ yd_X10_half rfl hl.1 (Nat.le_of_ble_eq_true rfl) ⟨by decide, by decide⟩ ⟨Nat.zero_le _, Nat.zero_le _⟩ dX10_text_300 (fun M_54 H locs hp_54 hw => ?_)
      obtain ⟨g_53, hm, hg_53⟩ := hp_54
      have hw := hw.to hm
      refine lv_aload_n hx hb dX10_text_303 rfl (lv_at hl 1 rfl) ?_
      refine ti_get (ci := 10) (k := 15) (N := 67) (T := TX10) (v := .ref (A 60 16)) C hw iw_10 rfl ob_60 (by decide) (by decide) fl_X10_49 rfl rfl dX10_text_304 ?_
      refine ti_callSv (av := [.ref (A 60 16)]) C hw (k_half l D A cy hJ (uY (uY (uY (uY (uY (uY (uY (uY (uY (uY (uY (uY (uI (uI (uI (uI (uI (uI (uI (uI (uY (uY (uY (uY (uY (uY (uY (uY (uY (uY (uY (uY (uY (uY (uY (uY (uY (uI (uI (uI (uI (uI (uI M 60 0 0) 60 20 0) 60 2 0) 60 21 0) 60 25 0) 60 26 (-1)) 60 3 g_1_2) 60 3 g_1_4) 60 3 g_1_6) 60 3 g_1_8) 60 3 g_1_10) 60 3 g_1_12) 60 3 g_1_14) 60 3 g_1_16) 60 3 g_1_18) 60 3 g_1_20) 60 3 g_1_22) 60 14 g_23) 60 15 g_24) 60 14 g_25) 60 15 g_26) 60 14 g_27) 60 15 g_28) 60 18 0) 60 19 0) 60 29 0) 60 30 0) 60 22 0) 60 23 4) 60 27 0) 60 28 (-1)) 60 3 g_31) 60 4 g_33) 60 5 g_35) 60 6 g_37) 60 7 g_39) 60 8 g_41) 60 9 g_43) 60 10 g_45) 60 11 g_47) 60 12 g_49) 60 13 g_51) 60 14 g_53) 15 6 3 (by decide) (fun _ _ => rfl) (by decide) (by decide) (by decide)) ⟨ml_X10_306, ys_X10_half, yi_X10_half, yc_X10_half⟩ yd_X10_half rfl hl.1 (Nat.le_of_ble_eq_true rfl) ⟨by decide, by decide⟩ ⟨Nat.zero_le _, Nat.zero_le _⟩ dX10_text_307 (fun M_56 H locs hp_56 hw => ?_)
      obtain ⟨g_55, hm, hg_55⟩ := hp_56
      have hw := hw.to hm
      refine lv_aload_n hx hb dX10_text_310 rfl (lv_at hl 1 rfl) ?_
      refine ti_get (ci := 10) (k := 16) (N := 67) (T := TX10) (v := .ref (A 60 17)) C hw iw_10 rfl ob_60 (by decide) (by decide) fl_X10_52 rfl rfl dX10_text_311 ?_
      refine ti_callSv (av := [.ref (A 60 17)]) C hw (k_half l D A cy hJ (uY (uY (uY (uY (uY (uY (uY (uY (uY (uY (uY (uY (uY (uI (uI (uI (uI (uI (uI (uI (uI (uY (uY (uY (uY (uY (uY (uY (uY (uY (uY (uY (uY (uY (uY (uY (uY (uY (uI (uI (uI (uI (uI (uI M 60 0 0) 60 20 0) 60 2 0) 60 21 0) 60 25 0) 60 26 (-1)) 60 3 g_1_2) 60 3 g_1_4) 60 3 g_1_6) 60 3 g_1_8) 60 3 g_1_10) 60 3 g_1_12) 60 3 g_1_14) 60 3 g_1_16) 60 3 g_1_18) 60 3 g_1_20) 60 3 g_1_22) 60 14 g_23) 60 15 g_24) 60 14 g_25) 60 15 g_26) 60 14 g_27) 60 15 g_28) 60 18 0) 60 19 0) 60 29 0) 60 30 0) 60 22 0) 60 23 4) 60 27 0) 60 28 (-1)) 60 3 g_31) 60 4 g_33) 60 5 g_35) 60 6 g_37) 60 7 g_39) 60 8 g_41) 60 9 g_43) 60 10 g_45) 60 11 g_47) 60 12 g_49) 60 13 g_51) 60 14 g_53) 60 15 g_55) 16 128 64 (by decide) (fun _ _ => rfl) (by decide) (by decide) (by decide)) ⟨ml_X10_306, ys_X10_half, yi_X10_half, yc_X10_half⟩ yd_X10_half rfl hl.1 (Nat.le_of_ble_eq_true rfl) ⟨by decide, by decide⟩ ⟨Nat.zero_le _, Nat.zero_le _⟩ dX10_text_314 (fun M_58 H locs hp_58 hw => ?_)
      obtain ⟨g_57, hm, hg_57⟩ := hp_58
      have hw := hw.to hm
      refine lv_aload_n hx hb dX10_text_317 rfl (lv_at hl 1 rfl) ?_
      refine ti_get (ci := 10) (k := 17) (N := 67) (T := TX10) (v := .ref (A 60 18)) C hw iw_10 rfl ob_60 (by decide) (by decide) fl_X10_55 rfl rfl dX10_text_318 ?_
      refine ti_callSv (av := [.ref (A 60 18)]) C hw (k_half l D A cy hJ (uY (uY (uY (uY (uY (uY (uY (uY (uY (uY (uY (uY (uY (uY (uI (uI (uI (uI (uI (uI (uI (uI (uY (uY (uY (uY (uY (uY (uY (uY (uY (uY (uY (uY (uY (uY (uY (uY (uY (uI (uI (uI (uI (uI (uI M 60 0 0) 60 20 0) 60 2 0) 60 21 0) 60 25 0) 60 26 (-1)) 60 3 g_1_2) 60 3 g_1_4) 60 3 g_1_6) 60 3 g_1_8) 60 3 g_1_10) 60 3 g_1_12) 60 3 g_1_14) 60 3 g_1_16) 60 3 g_1_18) 60 3 g_1_20) 60 3 g_1_22) 60 14 g_23) 60 15 g_24) 60 14 g_25) 60 15 g_26) 60 14 g_27) 60 15 g_28) 60 18 0) 60 19 0) 60 29 0) 60 30 0) 60 22 0) 60 23 4) 60 27 0) 60 28 (-1)) 60 3 g_31) 60 4 g_33) 60 5 g_35) 60 6 g_37) 60 7 g_39) 60 8 g_41) 60 9 g_43) 60 10 g_45) 60 11 g_47) 60 12 g_49) 60 13 g_51) 60 14 g_53) 60 15 g_55) 60 16 g_57) 17 128 64 (by decide) (fun _ _ => rfl) (by decide) (by decide) (by decide)) ⟨ml_X10_306, ys_X10_half, yi_X10_half, yc_X10_half⟩ yd_X10_half rfl hl.1 (Nat.le_of_ble_eq_true rfl) ⟨by decide, by decide⟩ ⟨Nat.zero_le _, Nat.zero_le _⟩ dX10_text_321 (fun M_60 H locs hp_60 hw => ?_)
      obtain ⟨g_59, hm, hg_59⟩ := hp_60
      have hw := hw.to hm
      refine lv_aload_n hx hb dX10_text_324 rfl (lv_at hl 1 rfl) ?_
      refine lv_iconst (v := 0) hx hb dX10_text_325 (by decide) ?_
      refine ti_putI (ci := 10) (k := 58) (N := 67) (T := TX10) C hw iw_10 tyX10 tyX10_ok nmX10 rfl ob_60 (by decide) (by decide) fl_X10_310 rfl rfl rfl rfl (fn_10 A _) fs_10_58 dX10_text_326 (fun H locs hw => ?_)
      refine lv_aload_n hx hb dX10_text_329 rfl (lv_at hl 1 rfl) ?_
      refine lv_iconst (v := (-1)) hx hb dX10_text_330 (by decide) ?_
      refine ti_putI (ci := 10) (k := 59) (N := 67) (T := TX10) C hw iw_10 tyX10 tyX10_ok nmX10 rfl ob_60 (by decide) (by decide) fl_X10_132 rfl rfl rfl rfl (fn_10 A _) fs_10_59 dX10_text_331 (fun H locs hw => ?_)
      refine lv_aload_n hx hb dX10_text_334 rfl (lv_at hl 1 rfl) ?_
      refine lv_iconst (v := 0) hx hb dX10_text_335 (by decide) ?_
      refine ti_putI (ci := 10) (k := 51) (N := 67) (T := TX10) C hw iw_10 tyX10 tyX10_ok nmX10 rfl ob_60 (by decide) (by decide) fl_X10_313 rfl rfl rfl rfl (fn_10 A _) fs_10_51 dX10_text_336 (fun H locs hw => ?_)
      refine lv_aload_n hx hb dX10_text_339 rfl (lv_at hl 1 rfl) ?_
      refine lv_iconst (v := 0) hx hb dX10_text_340 (by decide) ?_
      refine ti_putI (ci := 10) (k := 52) (N := 67) (T := TX10) C hw iw_10 tyX10 tyX10_ok nmX10 rfl ob_60 (by decide) (by decide) fl_X10_317 rfl rfl rfl rfl (fn_10 A _) fs_10_52 dX10_text_341 (fun H locs hw => ?_)
      refine lv_aload_n hx hb dX10_text_344 rfl (lv_at hl 1 rfl) ?_
      refine ti_callVv (ci := 10) (av := []) C hw (k_X10_begins l D A cy hJ (uI (uI (uI (uI (uY (uY (uY (uY (uY (uY (uY (uY (uY (uY (uY (uY (uY (uY (uY (uI (uI (uI (uI (uI (uI (uI (uI (uY (uY (uY (uY (uY (uY (uY (uY (uY (uY (uY (uY (uY (uY (uY (uY (uY (uI (uI (uI (uI (uI (uI M 60 0 0) 60 20 0) 60 2 0) 60 21 0) 60 25 0) 60 26 (-1)) 60 3 g_1_2) 60 3 g_1_4) 60 3 g_1_6) 60 3 g_1_8) 60 3 g_1_10) 60 3 g_1_12) 60 3 g_1_14) 60 3 g_1_16) 60 3 g_1_18) 60 3 g_1_20) 60 3 g_1_22) 60 14 g_23) 60 15 g_24) 60 14 g_25) 60 15 g_26) 60 14 g_27) 60 15 g_28) 60 18 0) 60 19 0) 60 29 0) 60 30 0) 60 22 0) 60 23 4) 60 27 0) 60 28 (-1)) 60 3 g_31) 60 4 g_33) 60 5 g_35) 60 6 g_37) 60 7 g_39) 60 8 g_41) 60 9 g_43) 60 10 g_45) 60 11 g_47) 60 12 g_49) 60 13 g_51) 60 14 g_53) 60 15 g_55) 60 16 g_57) 60 17 g_59) 60 58 0) 60 59 (-1)) 60 51 0) 60 52 0) 200 0 0 1 2 ((congrFun ((tY_uI _ _ _ _ _ _).trans ((tY_uI _ _ _ _ _ _).trans ((tY_uI _ _ _ _ _ _).trans ((tY_uI _ _ _ _ _ _).trans ((tY_k _ _ _ _ (by decide)).trans ((tY_k _ _ _ _ (by decide)).trans ((tY_k _ _ _ _ (by decide)).trans ((tY_k _ _ _ _ (by decide)).trans ((tY_k _ _ _ _ (by decide)).trans ((tY_k _ _ _ _ (by decide)).trans ((tY_k _ _ _ _ (by decide)).trans ((tY_k _ _ _ _ (by decide)).trans ((tY_k _ _ _ _ (by decide)).trans ((tY_k _ _ _ _ (by decide)).trans ((tY_k _ _ _ _ (by decide)).trans ((tY_k _ _ _ _ (by decide)).trans ((tY_k _ _ _ _ (by decide)).trans ((tY_k _ _ _ _ (by decide)).trans (tY_u _ _ _ _))))))))))))))))))) 0).trans ((hg_31 0 (by decide)).trans ((congrFun ((tY_uI _ _ _ _ _ _).trans ((tY_uI _ _ _ _ _ _).trans ((tY_uI _ _ _ _ _ _).trans ((tY_uI _ _ _ _ _ _).trans ((tY_uI _ _ _ _ _ _).trans ((tY_uI _ _ _ _ _ _).trans ((tY_uI _ _ _ _ _ _).trans ((tY_uI _ _ _ _ _ _).trans ((tY_k _ _ _ _ (by decide)).trans ((tY_k _ _ _ _ (by decide)).trans ((tY_k _ _ _ _ (by decide)).trans ((tY_k _ _ _ _ (by decide)).trans ((tY_k _ _ _ _ (by decide)).trans ((tY_k _ _ _ _ (by decide)).trans (tY_u _ _ _ _))))))))))))))) 11).trans ((congrFun eg_1_22 11).trans ((congrFun eg_1_20 11).trans ((congrFun eg_1_18 11).trans ((congrFun eg_1_16 11).trans ((congrFun eg_1_14 11).trans ((congrFun eg_1_12 11).trans ((congrFun eg_1_10 11).trans ((congrFun eg_1_8 11).trans ((congrFun eg_1_6 11).trans ((congrFun eg_1_4 11).trans ((congrFun eg_1_2 11).trans rfl)))))))))))))) ((congrFun ((tY_uI _ _ _ _ _ _).trans ((tY_uI _ _ _ _ _ _).trans ((tY_uI _ _ _ _ _ _).trans ((tY_uI _ _ _ _ _ _).trans ((tY_k _ _ _ _ (by decide)).trans ((tY_k _ _ _ _ (by decide)).trans ((tY_k _ _ _ _ (by decide)).trans ((tY_k _ _ _ _ (by decide)).trans ((tY_k _ _ _ _ (by decide)).trans ((tY_k _ _ _ _ (by decide)).trans ((tY_k _ _ _ _ (by decide)).trans ((tY_k _ _ _ _ (by decide)).trans ((tY_k _ _ _ _ (by decide)).trans ((tY_k _ _ _ _ (by decide)).trans ((tY_k _ _ _ _ (by decide)).trans ((tY_k _ _ _ _ (by decide)).trans ((tY_k _ _ _ _ (by decide)).trans ((tY_k _ _ _ _ (by decide)).trans (tY_u _ _ _ _))))))))))))))))))) 1).trans ((hg_31 1 (by decide)).trans ((congrFun ((tY_uI _ _ _ _ _ _).trans ((tY_uI _ _ _ _ _ _).trans ((tY_uI _ _ _ _ _ _).trans ((tY_uI _ _ _ _ _ _).trans ((tY_uI _ _ _ _ _ _).trans ((tY_uI _ _ _ _ _ _).trans ((tY_uI _ _ _ _ _ _).trans ((tY_uI _ _ _ _ _ _).trans ((tY_k _ _ _ _ (by decide)).trans ((tY_k _ _ _ _ (by decide)).trans ((tY_k _ _ _ _ (by decide)).trans ((tY_k _ _ _ _ (by decide)).trans ((tY_k _ _ _ _ (by decide)).trans ((tY_k _ _ _ _ (by decide)).trans (tY_u _ _ _ _))))))))))))))) 12).trans ((congrFun eg_1_22 12).trans ((congrFun eg_1_20 12).trans ((congrFun eg_1_18 12).trans ((congrFun eg_1_16 12).trans ((congrFun eg_1_14 12).trans ((congrFun eg_1_12 12).trans ((congrFun eg_1_10 12).trans ((congrFun eg_1_8 12).trans ((congrFun eg_1_6 12).trans ((congrFun eg_1_4 12).trans rfl))))))))))))) ((congrFun ((tY_uI _ _ _ _ _ _).trans ((tY_uI _ _ _ _ _ _).trans ((tY_uI _ _ _ _ _ _).trans ((tY_uI _ _ _ _ _ _).trans ((tY_k _ _ _ _ (by decide)).trans ((tY_k _ _ _ _ (by decide)).trans ((tY_k _ _ _ _ (by decide)).trans ((tY_k _ _ _ _ (by decide)).trans ((tY_k _ _ _ _ (by decide)).trans ((tY_k _ _ _ _ (by decide)).trans ((tY_k _ _ _ _ (by decide)).trans ((tY_k _ _ _ _ (by decide)).trans ((tY_k _ _ _ _ (by decide)).trans ((tY_k _ _ _ _ (by decide)).trans ((tY_k _ _ _ _ (by decide)).trans ((tY_k _ _ _ _ (by decide)).trans ((tY_k _ _ _ _ (by decide)).trans ((tY_k _ _ _ _ (by decide)).trans (tY_u _ _ _ _))))))))))))))))))) 6).trans ((hg_31 6 (by decide)).trans ((congrFun ((tY_uI _ _ _ _ _ _).trans ((tY_uI _ _ _ _ _ _).trans ((tY_uI _ _ _ _ _ _).trans ((tY_uI _ _ _ _ _ _).trans ((tY_uI _ _ _ _ _ _).trans ((tY_uI _ _ _ _ _ _).trans ((tY_uI _ _ _ _ _ _).trans ((tY_uI _ _ _ _ _ _).trans ((tY_k _ _ _ _ (by decide)).trans ((tY_k _ _ _ _ (by decide)).trans ((tY_k _ _ _ _ (by decide)).trans ((tY_k _ _ _ _ (by decide)).trans ((tY_k _ _ _ _ (by decide)).trans ((tY_k _ _ _ _ (by decide)).trans (tY_u _ _ _ _))))))))))))))) 17).trans ((congrFun eg_1_22 17).trans ((congrFun eg_1_20 17).trans ((congrFun eg_1_18 17).trans ((congrFun eg_1_16 17).trans ((congrFun eg_1_14 17).trans rfl)))))))) ((congrFun ((tY_uI _ _ _ _ _ _).trans ((tY_uI _ _ _ _ _ _).trans ((tY_uI _ _ _ _ _ _).trans ((tY_uI _ _ _ _ _ _).trans ((tY_k _ _ _ _ (by decide)).trans ((tY_k _ _ _ _ (by decide)).trans ((tY_k _ _ _ _ (by decide)).trans ((tY_k _ _ _ _ (by decide)).trans ((tY_k _ _ _ _ (by decide)).trans ((tY_k _ _ _ _ (by decide)).trans ((tY_k _ _ _ _ (by decide)).trans ((tY_k _ _ _ _ (by decide)).trans ((tY_k _ _ _ _ (by decide)).trans ((tY_k _ _ _ _ (by decide)).trans ((tY_k _ _ _ _ (by decide)).trans ((tY_k _ _ _ _ (by decide)).trans ((tY_k _ _ _ _ (by decide)).trans ((tY_k _ _ _ _ (by decide)).trans (tY_u _ _ _ _))))))))))))))))))) 8).trans ((hg_31 8 (by decide)).trans ((congrFun ((tY_uI _ _ _ _ _ _).trans ((tY_uI _ _ _ _ _ _).trans ((tY_uI _ _ _ _ _ _).trans ((tY_uI _ _ _ _ _ _).trans ((tY_uI _ _ _ _ _ _).trans ((tY_uI _ _ _ _ _ _).trans ((tY_uI _ _ _ _ _ _).trans ((tY_uI _ _ _ _ _ _).trans ((tY_k _ _ _ _ (by decide)).trans ((tY_k _ _ _ _ (by decide)).trans ((tY_k _ _ _ _ (by decide)).trans ((tY_k _ _ _ _ (by decide)).trans ((tY_k _ _ _ _ (by decide)).trans ((tY_k _ _ _ _ (by decide)).trans (tY_u _ _ _ _))))))))))))))) 19).trans ((congrFun eg_1_22 19).trans ((congrFun eg_1_20 19).trans ((congrFun eg_1_18 19).trans rfl)))))) ((congrFun ((tY_uI _ _ _ _ _ _).trans ((tY_uI _ _ _ _ _ _).trans ((tY_uI _ _ _ _ _ _).trans ((tY_uI _ _ _ _ _ _).trans ((tY_k _ _ _ _ (by decide)).trans ((tY_k _ _ _ _ (by decide)).trans ((tY_k _ _ _ _ (by decide)).trans ((tY_k _ _ _ _ (by decide)).trans ((tY_k _ _ _ _ (by decide)).trans ((tY_k _ _ _ _ (by decide)).trans ((tY_k _ _ _ _ (by decide)).trans ((tY_k _ _ _ _ (by decide)).trans ((tY_k _ _ _ _ (by decide)).trans ((tY_k _ _ _ _ (by decide)).trans ((tY_k _ _ _ _ (by decide)).trans ((tY_k _ _ _ _ (by decide)).trans ((tY_k _ _ _ _ (by decide)).trans ((tY_k _ _ _ _ (by decide)).trans (tY_u _ _ _ _))))))))))))))))))) 9).trans ((hg_31 9 (by decide)).trans ((congrFun ((tY_uI _ _ _ _ _ _).trans ((tY_uI _ _ _ _ _ _).trans ((tY_uI _ _ _ _ _ _).trans ((tY_uI _ _ _ _ _ _).trans ((tY_uI _ _ _ _ _ _).trans ((tY_uI _ _ _ _ _ _).trans ((tY_uI _ _ _ _ _ _).trans ((tY_uI _ _ _ _ _ _).trans ((tY_k _ _ _ _ (by decide)).trans ((tY_k _ _ _ _ (by decide)).trans ((tY_k _ _ _ _ (by decide)).trans ((tY_k _ _ _ _ (by decide)).trans ((tY_k _ _ _ _ (by decide)).trans ((tY_k _ _ _ _ (by decide)).trans (tY_u _ _ _ _))))))))))))))) 20).trans ((congrFun eg_1_22 20).trans ((congrFun eg_1_20 20).trans rfl))))) ((congrFun ((tY_uI _ _ _ _ _ _).trans ((tY_uI _ _ _ _ _ _).trans ((tY_uI _ _ _ _ _ _).trans ((tY_uI _ _ _ _ _ _).trans ((tY_k _ _ _ _ (by decide)).trans ((tY_k _ _ _ _ (by decide)).trans ((tY_k _ _ _ _ (by decide)).trans ((tY_k _ _ _ _ (by decide)).trans ((tY_k _ _ _ _ (by decide)).trans ((tY_k _ _ _ _ (by decide)).trans ((tY_k _ _ _ _ (by decide)).trans ((tY_k _ _ _ _ (by decide)).trans ((tY_k _ _ _ _ (by decide)).trans ((tY_k _ _ _ _ (by decide)).trans ((tY_k _ _ _ _ (by decide)).trans ((tY_k _ _ _ _ (by decide)).trans ((tY_k _ _ _ _ (by decide)).trans ((tY_k _ _ _ _ (by decide)).trans (tY_u _ _ _ _))))))))))))))))))) 10).trans ((hg_31 10 (by decide)).trans ((congrFun ((tY_uI _ _ _ _ _ _).trans ((tY_uI _ _ _ _ _ _).trans ((tY_uI _ _ _ _ _ _).trans ((tY_uI _ _ _ _ _ _).trans ((tY_uI _ _ _ _ _ _).trans ((tY_uI _ _ _ _ _ _).trans ((tY_uI _ _ _ _ _ _).trans ((tY_uI _ _ _ _ _ _).trans ((tY_k _ _ _ _ (by decide)).trans ((tY_k _ _ _ _ (by decide)).trans ((tY_k _ _ _ _ (by decide)).trans ((tY_k _ _ _ _ (by decide)).trans ((tY_k _ _ _ _ (by decide)).trans ((tY_k _ _ _ _ (by decide)).trans (tY_u _ _ _ _))))))))))))))) 21).trans ((congrFun eg_1_22 21).trans rfl))))) ⟨ml_X10_151, ym_X10_begins, yv_X10_begins, yi_X10_begins, yc_X10_begins⟩ yd_X10_begins ob_60 (by decide) rfl rfl hl.1 (Nat.le_of_ble_eq_true rfl) ⟨by decide, by decide⟩ ⟨Nat.zero_le _, Nat.zero_le _⟩ dX10_text_345 (fun M_62 H locs hp_62 hw => ?_)
      obtain ⟨g_1_2_62, g_2_2_62, g_3_2_62, g_4_2_62, g_5_2_62, g_6_2_62, g_7_2_62, g_8_2_62, hm, eg_1_2_62, eg_2_2_62, eg_3_2_62, eg_4_2_62, eg_5_2_62, eg_6_2_62, eg_7_2_62, eg_8_2_62⟩ := hp_62
      have hw := hw.to hm
      refine lv_aload_n hx hb dX10_text_348 rfl (lv_at hl 1 rfl) ?_
      refine ti_get (ci := 10) (k := 19) (N := 67) (T := TX10) C hw iw_10 rfl ob_60 (by decide) (by decide) fl_X10_254 rfl rfl dX10_text_349 ?_
      refine ti_top (y := 0) ((tI_uY _ _ _ _ _ _).trans ((tI_uY _ _ _ _ _ _).trans ((tI_uY _ _ _ _ _ _).trans ((tI_uY _ _ _ _ _ _).trans ((tI_uY _ _ _ _ _ _).trans ((tI_uY _ _ _ _ _ _).trans ((tI_uY _ _ _ _ _ _).trans ((tI_uY _ _ _ _ _ _).trans ((tI_k _ _ _ _ (by decide)).trans ((tI_k _ _ _ _ (by decide)).trans ((tI_k _ _ _ _ (by decide)).trans ((tI_k _ _ _ _ (by decide)).trans ((tI_uY _ _ _ _ _ _).trans ((tI_uY _ _ _ _ _ _).trans ((tI_uY _ _ _ _ _ _).trans ((tI_uY _ _ _ _ _ _).trans ((tI_uY _ _ _ _ _ _).trans ((tI_uY _ _ _ _ _ _).trans ((tI_uY _ _ _ _ _ _).trans ((tI_uY _ _ _ _ _ _).trans ((tI_uY _ _ _ _ _ _).trans ((tI_uY _ _ _ _ _ _).trans ((tI_uY _ _ _ _ _ _).trans ((tI_uY _ _ _ _ _ _).trans ((tI_uY _ _ _ _ _ _).trans ((tI_uY _ _ _ _ _ _).trans ((tI_uY _ _ _ _ _ _).trans ((tI_k _ _ _ _ (by decide)).trans ((tI_k _ _ _ _ (by decide)).trans ((tI_k _ _ _ _ (by decide)).trans ((tI_k _ _ _ _ (by decide)).trans ((tI_k _ _ _ _ (by decide)).trans ((tI_k _ _ _ _ (by decide)).trans (tI_u _ _ _ _)))))))))))))))))))))))))))))))))) ?_
      exact hQ _ _ _ _ _ _ hw rfl rfl dX10_text_352
    · refine lv_bipush (v := (-2)) hx hb dX10_text_17 (by decide) ?_
      exact hQ _ _ _ _ _ _ hw rfl (by unfold pf_text; (try simp only [Int32.lt_iff_toInt_lt, Int32.le_iff_toInt_le, ← Int32.toInt_inj, ti_l0, ti_l1, ti_l2, ti_l3, ti_l5, ti_l7, ti_l8, ti_l24, ti_l59, ti_l60, ti_l119, ti_l120, ti_lm1, ti_lm2] at c_6); (try simp only [Int32.lt_iff_toInt_lt, Int32.le_iff_toInt_le, ← Int32.toInt_inj, ti_l0, ti_l1, ti_l2, ti_l3, ti_l5, ti_l7, ti_l8, ti_l24, ti_l59, ti_l60, ti_l119, ti_l120, ti_lm1, ti_lm2] at c_14); (try simp only [Int32.lt_iff_toInt_lt, Int32.le_iff_toInt_le, ← Int32.toInt_inj, ti_l0, ti_l1, ti_l2, ti_l3, ti_l5, ti_l7, ti_l8, ti_l24, ti_l59, ti_l60, ti_l119, ti_l120, ti_lm1, ti_lm2]); (repeat' split) <;> first | rfl | omega) dX10_text_19

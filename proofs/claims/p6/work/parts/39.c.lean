section
variable {Tc : gC} {Tm : gM}
theorem ti_iastG {p : Program} {l : Launch} {e : Env} {R : Room} {s : State} {m : MethodId} {args : Array Value} {below : List Frame} {meth : Method} {c : Code} {H H0 : Heap} {locs : List Loc} {cells slots : Nat} {Q : State → Prop} {pc : Nat} {ls : Array Slot} {rest : List Value} {cc : ByteArray} {own : String} {nL : Nat} {D : va_G} {cy : Nat → ClassId} {Ls : List (Nat × Nat)} {A : Nat → Nat → Nat} {M : ti_M} {ci o k n : Nat} (C : ti_C p s m c args cc own nL D cy Ls A) (hw : ti_H Ls D A cy H0 M H locs) (hob : ti_ob Ls o ci) (hj : k + 1 ∈ ti_parts ci) (har : ∀ f g, ti_ar A cy ci o k f g = (cy 1, n, .inl f)) {i x : Int32} (hi : vp_in i n) (hdg : decode cc pc = .ok (.iastore, 1))
    (kk : ∀ (H1 : Heap) (locs1 : List Loc) (g : Nat → Int32), g = upd (tY M o k) i.toNatClampNeg x → ti_H Ls D A cy H0 (uY M o k g) H1 locs1 → W p l e R s m args below meth c H1 locs1 cells slots Q (F0 m (pc + 1) ls rest)) : W p l e R s m args below meth c H locs cells slots Q (F0 m pc ls (.int x :: .int i :: .ref (A o (k + 1)) :: rest)) :=
  ti_iast C hw hob hj har hi hdg (fun H1 locs1 h => kk H1 locs1 _ rfl h)
def ti_L3 : List (Nat × Nat) := [(3, 0), (3, 1), (3, 2), (3, 3), (5, 0), (6, 0), (7, 0), (8, 0), (9, 0), (10, 0), (11, 0), (12, 0), (21, 0), (21, 1), (21, 2), (21, 3), (22, 0), (22, 1), (22, 2), (22, 3), (23, 0), (23, 1), (23, 2), (23, 3)]
theorem ti_L3_nd : ti_L3.Nodup := by decide +kernel
theorem ob3_3 : ti_ob ti_L3 3 8 := by unfold ti_ob; decide +kernel
theorem ob3_21 : ti_ob ti_L3 21 1 := by unfold ti_ob; decide +kernel
theorem ob3_22 : ti_ob ti_L3 22 1 := by unfold ti_ob; decide +kernel
theorem ob3_23 : ti_ob ti_L3 23 1 := by unfold ti_ob; decide +kernel
def ti_M00 : ti_M := (fun _ _ => 0, fun _ _ _ => 0, fun _ _ _ => 0, fun _ _ => none)
/-- memory behind clear, from a memory M -/
def ti_clr (M : ti_M) (g_1 g_2 g_3 : Nat → Int32) : ti_M := (uI (uI (uI (uY (uY (uY (uI (uI (uI (uI (uI (uI (uI (uI (uI M 3 3 0) 3 4 0) 3 5 0) 3 6 200) 3 7 2) 3 8 10) 3 9 3) 3 10 0) 3 11 0) 3 1 g_1) 3 1 g_2) 3 1 g_3) 21 3 0) 22 3 0) 23 3 0)
set_option maxHeartbeats 4000000 in
set_option maxRecDepth 100000 in
theorem k_clearL (l : Launch) (D : va_G) (A : Nat → Nat → Nat) (cy : Nat → ClassId) (hJ : ti_inj ti_L3 A) (M : ti_M)  : ti_Kv l yX8_clear cX8_clear 2 0 ti_L3 D A cy M [.ref (A 3 0)] (fun M2 => ∃ g_1 g_2 g_3 : Nat → Int32, M2 = ti_clr M g_1 g_2 g_3 ∧ g_3 0 = 0 ∧ g_3 1 = 1 ∧ g_3 2 = 2) := by
  refine ti_eV yp_X8_clear hJ ti_L3_nd (Nat.le_of_ble_eq_true rfl) ?_
  intro p e s m args below meth c Q H0 C hQ hw ls hl
  have hx := C.1
  have hb := C.2.1
  have hl : lv_has ls 2 [(0, .ref (A 3 0))] := hl
  refine lv_aload_n hx hb dX8_clear_0 rfl (lv_at hl 0 rfl) ?_
  refine lv_iconst (v := 0) hx hb dX8_clear_1 (by decide) ?_
  refine ti_putI (ci := 8) (k := 3) (N := 12) (T := TX8) C hw iw_8 tyX8 tyX8_ok nmX8 rfl ob3_3 (by decide) (by decide) fl_X8_32 rfl rfl rfl rfl (fn_8 A _) fs_8_3 dX8_clear_2 (fun H locs hw => ?_)
  refine lv_aload_n hx hb dX8_clear_5 rfl (lv_at hl 0 rfl) ?_
  refine lv_iconst (v := 0) hx hb dX8_clear_6 (by decide) ?_
  refine ti_putI (ci := 8) (k := 4) (N := 12) (T := TX8) C hw iw_8 tyX8 tyX8_ok nmX8 rfl ob3_3 (by decide) (by decide) fl_X8_36 rfl rfl rfl rfl (fn_8 A _) fs_8_4 dX8_clear_7 (fun H locs hw => ?_)
  refine lv_aload_n hx hb dX8_clear_10 rfl (lv_at hl 0 rfl) ?_
  refine lv_iconst (v := 0) hx hb dX8_clear_11 (by decide) ?_
  refine ti_putI (ci := 8) (k := 5) (N := 12) (T := TX8) C hw iw_8 tyX8 tyX8_ok nmX8 rfl ob3_3 (by decide) (by decide) fl_X8_39 rfl rfl rfl rfl (fn_8 A _) fs_8_5 dX8_clear_12 (fun H locs hw => ?_)
  refine lv_aload_n hx hb dX8_clear_15 rfl (lv_at hl 0 rfl) ?_
  refine lv_sipush (v := 200) hx hb dX8_clear_16 (by decide) ?_
  refine ti_putI (ci := 8) (k := 6) (N := 12) (T := TX8) C hw iw_8 tyX8 tyX8_ok nmX8 rfl ob3_3 (by decide) (by decide) fl_X8_42 rfl rfl rfl rfl (fn_8 A _) fs_8_6 dX8_clear_19 (fun H locs hw => ?_)
  refine lv_aload_n hx hb dX8_clear_22 rfl (lv_at hl 0 rfl) ?_
  refine lv_iconst (v := 2) hx hb dX8_clear_23 (by decide) ?_
  refine ti_putI (ci := 8) (k := 7) (N := 12) (T := TX8) C hw iw_8 tyX8 tyX8_ok nmX8 rfl ob3_3 (by decide) (by decide) fl_X8_45 rfl rfl rfl rfl (fn_8 A _) fs_8_7 dX8_clear_24 (fun H locs hw => ?_)
  refine lv_aload_n hx hb dX8_clear_27 rfl (lv_at hl 0 rfl) ?_
  refine lv_bipush (v := 10) hx hb dX8_clear_28 (by decide) ?_
  refine ti_putI (ci := 8) (k := 8) (N := 12) (T := TX8) C hw iw_8 tyX8 tyX8_ok nmX8 rfl ob3_3 (by decide) (by decide) fl_X8_48 rfl rfl rfl rfl (fn_8 A _) fs_8_8 dX8_clear_30 (fun H locs hw => ?_)
  refine lv_aload_n hx hb dX8_clear_33 rfl (lv_at hl 0 rfl) ?_
  refine lv_iconst (v := 3) hx hb dX8_clear_34 (by decide) ?_
  refine ti_putI (ci := 8) (k := 9) (N := 12) (T := TX8) C hw iw_8 tyX8 tyX8_ok nmX8 rfl ob3_3 (by decide) (by decide) fl_X8_51 rfl rfl rfl rfl (fn_8 A _) fs_8_9 dX8_clear_35 (fun H locs hw => ?_)
  refine lv_aload_n hx hb dX8_clear_38 rfl (lv_at hl 0 rfl) ?_
  refine lv_iconst (v := 0) hx hb dX8_clear_39 (by decide) ?_
  refine ti_putI (ci := 8) (k := 10) (N := 12) (T := TX8) C hw iw_8 tyX8 tyX8_ok nmX8 rfl ob3_3 (by decide) (by decide) fl_X8_54 rfl rfl rfl rfl (fn_8 A _) fs_8_10 dX8_clear_40 (fun H locs hw => ?_)
  refine lv_aload_n hx hb dX8_clear_43 rfl (lv_at hl 0 rfl) ?_
  refine lv_iconst (v := 0) hx hb dX8_clear_44 (by decide) ?_
  refine ti_putI (ci := 8) (k := 11) (N := 12) (T := TX8) C hw iw_8 tyX8 tyX8_ok nmX8 rfl ob3_3 (by decide) (by decide) fl_X8_57 rfl rfl rfl rfl (fn_8 A _) fs_8_11 dX8_clear_45 (fun H locs hw => ?_)
  refine lv_iconst (v := 0) hx hb dX8_clear_48 (by decide) ?_
  refine lv_istore_n (lv' := [(1, .int 0), (0, .ref (A 3 0))]) hx hb dX8_clear_49 rfl hl (by decide) rfl (fun ls hl => ?_)
  refine lv_iload_n hx hb dX8_clear_50 rfl (lv_at hl 0 rfl) ?_
  refine lv_iconst (v := 3) hx hb dX8_clear_51 (by decide) ?_
  refine lv_icmp_ge (tgt := 68) hx hb dX8_clear_52 (by decide) (fun c => absurd c (by decide)) (fun c_52 => ?_)
  refine lv_aload_n hx hb dX8_clear_55 rfl (lv_at hl 1 rfl) ?_
  refine ti_get (ci := 8) (k := 1) (N := 12) (T := TX8) (v := .ref (A 3 2)) C hw iw_8 rfl ob3_3 (by decide) (by decide) fl_X8_17 rfl rfl dX8_clear_56 ?_
  refine lv_iload_n hx hb dX8_clear_59 rfl (lv_at hl 0 rfl) ?_
  refine lv_iload_n hx hb dX8_clear_60 rfl (lv_at hl 0 rfl) ?_
  refine ti_iastG (ci := 8) (k := 1) (n := 3) C hw ob3_3 (by decide) (fun _ _ => rfl) (by unfold vp_in; decide) dX8_clear_61 (fun H locs g_1 eg_1 hw => ?_)
  refine lv_iinc (v := 1) (lv' := [(1, .int 1), (0, .ref (A 3 0))]) hx hb dX8_clear_62 hl (k := 0) rfl (by decide) (by decide) rfl (fun ls hl => ?_)
  refine lv_goto (tgt := 50) hx hb dX8_clear_65 (by decide) ?_
  refine lv_iload_n hx hb dX8_clear_50 rfl (lv_at hl 0 rfl) ?_
  refine lv_iconst (v := 3) hx hb dX8_clear_51 (by decide) ?_
  refine lv_icmp_ge (tgt := 68) hx hb dX8_clear_52 (by decide) (fun c => absurd c (by decide)) (fun c_52 => ?_)
  refine lv_aload_n hx hb dX8_clear_55 rfl (lv_at hl 1 rfl) ?_
  refine ti_get (ci := 8) (k := 1) (N := 12) (T := TX8) (v := .ref (A 3 2)) C hw iw_8 rfl ob3_3 (by decide) (by decide) fl_X8_17 rfl rfl dX8_clear_56 ?_
  refine lv_iload_n hx hb dX8_clear_59 rfl (lv_at hl 0 rfl) ?_
  refine lv_iload_n hx hb dX8_clear_60 rfl (lv_at hl 0 rfl) ?_
  refine ti_iastG (ci := 8) (k := 1) (n := 3) C hw ob3_3 (by decide) (fun _ _ => rfl) (by unfold vp_in; decide) dX8_clear_61 (fun H locs g_2 eg_2 hw => ?_)
  refine lv_iinc (v := 2) (lv' := [(1, .int 2), (0, .ref (A 3 0))]) hx hb dX8_clear_62 hl (k := 0) rfl (by decide) (by decide) rfl (fun ls hl => ?_)
  refine lv_goto (tgt := 50) hx hb dX8_clear_65 (by decide) ?_
  refine lv_iload_n hx hb dX8_clear_50 rfl (lv_at hl 0 rfl) ?_
  refine lv_iconst (v := 3) hx hb dX8_clear_51 (by decide) ?_
  refine lv_icmp_ge (tgt := 68) hx hb dX8_clear_52 (by decide) (fun c => absurd c (by decide)) (fun c_52 => ?_)
  refine lv_aload_n hx hb dX8_clear_55 rfl (lv_at hl 1 rfl) ?_
  refine ti_get (ci := 8) (k := 1) (N := 12) (T := TX8) (v := .ref (A 3 2)) C hw iw_8 rfl ob3_3 (by decide) (by decide) fl_X8_17 rfl rfl dX8_clear_56 ?_
  refine lv_iload_n hx hb dX8_clear_59 rfl (lv_at hl 0 rfl) ?_
  refine lv_iload_n hx hb dX8_clear_60 rfl (lv_at hl 0 rfl) ?_
  refine ti_iastG (ci := 8) (k := 1) (n := 3) C hw ob3_3 (by decide) (fun _ _ => rfl) (by unfold vp_in; decide) dX8_clear_61 (fun H locs g_3 eg_3 hw => ?_)
  refine lv_iinc (v := 3) (lv' := [(1, .int 3), (0, .ref (A 3 0))]) hx hb dX8_clear_62 hl (k := 0) rfl (by decide) (by decide) rfl (fun ls hl => ?_)
  refine lv_goto (tgt := 50) hx hb dX8_clear_65 (by decide) ?_
  refine lv_iload_n hx hb dX8_clear_50 rfl (lv_at hl 0 rfl) ?_
  refine lv_iconst (v := 3) hx hb dX8_clear_51 (by decide) ?_
  refine lv_icmp_ge (tgt := 68) hx hb dX8_clear_52 (by decide) (fun c_52 => ?_) (fun c => absurd (by decide) c)
  refine lv_iconst (v := 0) hx hb dX8_clear_68 (by decide) ?_
  refine lv_istore_n (lv' := [(1, .int 0), (0, .ref (A 3 0))]) hx hb dX8_clear_69 rfl hl (by decide) rfl (fun ls hl => ?_)
  refine lv_iload_n hx hb dX8_clear_70 rfl (lv_at hl 0 rfl) ?_
  refine lv_iconst (v := 3) hx hb dX8_clear_71 (by decide) ?_
  refine lv_icmp_ge (tgt := 91) hx hb dX8_clear_72 (by decide) (fun c => absurd c (by decide)) (fun c_72 => ?_)
  refine lv_aload_n hx hb dX8_clear_75 rfl (lv_at hl 1 rfl) ?_
  refine ti_get (ci := 8) (k := 2) (N := 12) (T := TX8) (v := .ref (A 3 3)) C hw iw_8 rfl ob3_3 (by decide) (by decide) fl_X8_23 rfl rfl dX8_clear_76 ?_
  refine lv_iload_n hx hb dX8_clear_79 rfl (lv_at hl 0 rfl) ?_
  refine ti_aald (ci := 8) (k := 2) (n := 3) (t0 := 4) (Cn := RX1) (gg := (ti_laws 3)) (j := 0) C hw ob3_3 (by decide) (fun _ _ => rfl) rfl (by unfold vp_in; decide) (by decide) dX8_clear_80 ?_
  refine ti_topv (y := .ref (A 21 0)) rfl ?_
  refine lv_iconst (v := 0) hx hb dX8_clear_81 (by decide) ?_
  refine ti_putI (ci := 1) (k := 3) (N := 4) (T := TX1) C hw iw_1 tyX1 tyX1_ok nmX1 rfl ob3_21 (by decide) (by decide) fl_X8_60 rfl rfl rfl rfl (fn_1 A _) fs_1_3 dX8_clear_82 (fun H locs hw => ?_)
  refine lv_iinc (v := 1) (lv' := [(1, .int 1), (0, .ref (A 3 0))]) hx hb dX8_clear_85 hl (k := 0) rfl (by decide) (by decide) rfl (fun ls hl => ?_)
  refine lv_goto (tgt := 70) hx hb dX8_clear_88 (by decide) ?_
  refine lv_iload_n hx hb dX8_clear_70 rfl (lv_at hl 0 rfl) ?_
  refine lv_iconst (v := 3) hx hb dX8_clear_71 (by decide) ?_
  refine lv_icmp_ge (tgt := 91) hx hb dX8_clear_72 (by decide) (fun c => absurd c (by decide)) (fun c_72 => ?_)
  refine lv_aload_n hx hb dX8_clear_75 rfl (lv_at hl 1 rfl) ?_
  refine ti_get (ci := 8) (k := 2) (N := 12) (T := TX8) (v := .ref (A 3 3)) C hw iw_8 rfl ob3_3 (by decide) (by decide) fl_X8_23 rfl rfl dX8_clear_76 ?_
  refine lv_iload_n hx hb dX8_clear_79 rfl (lv_at hl 0 rfl) ?_
  refine ti_aald (ci := 8) (k := 2) (n := 3) (t0 := 4) (Cn := RX1) (gg := (ti_laws 3)) (j := 1) C hw ob3_3 (by decide) (fun _ _ => rfl) rfl (by unfold vp_in; decide) (by decide) dX8_clear_80 ?_
  refine ti_topv (y := .ref (A 22 0)) rfl ?_
  refine lv_iconst (v := 0) hx hb dX8_clear_81 (by decide) ?_
  refine ti_putI (ci := 1) (k := 3) (N := 4) (T := TX1) C hw iw_1 tyX1 tyX1_ok nmX1 rfl ob3_22 (by decide) (by decide) fl_X8_60 rfl rfl rfl rfl (fn_1 A _) fs_1_3 dX8_clear_82 (fun H locs hw => ?_)
  refine lv_iinc (v := 2) (lv' := [(1, .int 2), (0, .ref (A 3 0))]) hx hb dX8_clear_85 hl (k := 0) rfl (by decide) (by decide) rfl (fun ls hl => ?_)
  refine lv_goto (tgt := 70) hx hb dX8_clear_88 (by decide) ?_
  refine lv_iload_n hx hb dX8_clear_70 rfl (lv_at hl 0 rfl) ?_
  refine lv_iconst (v := 3) hx hb dX8_clear_71 (by decide) ?_
  refine lv_icmp_ge (tgt := 91) hx hb dX8_clear_72 (by decide) (fun c => absurd c (by decide)) (fun c_72 => ?_)
  refine lv_aload_n hx hb dX8_clear_75 rfl (lv_at hl 1 rfl) ?_
  refine ti_get (ci := 8) (k := 2) (N := 12) (T := TX8) (v := .ref (A 3 3)) C hw iw_8 rfl ob3_3 (by decide) (by decide) fl_X8_23 rfl rfl dX8_clear_76 ?_
  refine lv_iload_n hx hb dX8_clear_79 rfl (lv_at hl 0 rfl) ?_
  refine ti_aald (ci := 8) (k := 2) (n := 3) (t0 := 4) (Cn := RX1) (gg := (ti_laws 3)) (j := 2) C hw ob3_3 (by decide) (fun _ _ => rfl) rfl (by unfold vp_in; decide) (by decide) dX8_clear_80 ?_
  refine ti_topv (y := .ref (A 23 0)) rfl ?_
  refine lv_iconst (v := 0) hx hb dX8_clear_81 (by decide) ?_
  refine ti_putI (ci := 1) (k := 3) (N := 4) (T := TX1) C hw iw_1 tyX1 tyX1_ok nmX1 rfl ob3_23 (by decide) (by decide) fl_X8_60 rfl rfl rfl rfl (fn_1 A _) fs_1_3 dX8_clear_82 (fun H locs hw => ?_)
  refine lv_iinc (v := 3) (lv' := [(1, .int 3), (0, .ref (A 3 0))]) hx hb dX8_clear_85 hl (k := 0) rfl (by decide) (by decide) rfl (fun ls hl => ?_)
  refine lv_goto (tgt := 70) hx hb dX8_clear_88 (by decide) ?_
  refine lv_iload_n hx hb dX8_clear_70 rfl (lv_at hl 0 rfl) ?_
  refine lv_iconst (v := 3) hx hb dX8_clear_71 (by decide) ?_
  refine lv_icmp_ge (tgt := 91) hx hb dX8_clear_72 (by decide) (fun c_72 => ?_) (fun c => absurd (by decide) c)
  exact hQ _ _ _ _ _ hw (⟨g_1, g_2, g_3, rfl, by simp only [eg_3, eg_2, eg_1, tY_u]; rfl, by simp only [eg_3, eg_2, eg_1, tY_u]; rfl, by simp only [eg_3, eg_2, eg_1, tY_u]; rfl⟩) dX8_clear_91
set_option maxHeartbeats 8000000 in
set_option maxRecDepth 100000 in
theorem k_X8_init (l : Launch) (D : va_G) (cy : Nat → ClassId) (h0 sz : Nat) : ti_Kc l yX8_init cX8_init 2 2 23 508 D cy h0 sz (.inr (8, [.null, .null, .null, .int 0, .int 0, .int 0, .int 0, .int 0, .int 0, .int 0, .int 0, .int 0])) (fun u : (Nat → Nat → Nat) × (Nat → Int32) × (Nat → Int32) × (Nat → Int32) => u.1 3 0 = h0 ∧ u.2.2.2 0 = 0 ∧ u.2.2.2 1 = 1 ∧ u.2.2.2 2 = 2) (fun u => ti_W ti_L3 u.1 cy (ti_clr ti_M00 u.2.1 u.2.2.1 u.2.2.2)) := by
  refine ti_eC yp_X8_init (by decide) rfl ?_
  intro p e s m args below meth c Q H0 As C hQ hP hD hS hA ls hl
  have hx := C.1
  have hb := C.2.1
  have hts := C.2.2.1
  have hown := C.2.2.2.1
  have hK := C.2.2.2.2.1
  have hml := C.2.2.2.2.2.1
  have hin := C.2.2.2.2.2.2.1
  have hN := C.2.2.2.2.2.2.2
  refine lv_aload_n hx hb dX8_init_0 rfl (lv_at hl 0 rfl) ?_
  refine W.objInit hx hb hown (hts _ oi_X8_3) (hts _ oi_m) (hts _ oi_c) rfl (by rw [hml]; exact hl.1) rfl dX8_init_1 (Nat.le_of_ble_eq_true rfl) (Nat.le_of_ble_eq_true rfl) ?_
  refine W.eq (g2 := F0 m 4 ls []) rfl ?_
  refine lv_aload_n hx hb dX8_init_4 rfl (lv_at hl 0 rfl) ?_
  refine lv_bipush (v := 8) hx hb dX8_init_5 (by decide) ?_
  refine ti_nQ (Cn := RX2) (N' := 8) 5 C ck_X8_9 (ao_RX2 hN) rfl hP hD hS hA (by decide) (by decide) (Nat.le_of_ble_eq_true rfl) 1 8 (Nat.le_of_ble_eq_true rfl) (Nat.le_of_ble_eq_true rfl) ⟨Nat.le_of_ble_eq_true rfl, Nat.le_of_ble_eq_true rfl⟩ dX8_init_7 (fun q_1 H hP hD hS => ?_)
  have hP : va_P D vwCl ([(h0, .inr (8, [.null, .null, .null, .int 0, .int 0, .int 0, .int 0, .int 0, .int 0, .int 0, .int 0, .int 0])), (q_1, .inl (cy 5, 8, .inr (.inr (.inr (.inr (fun _ => none))))))]) H := hP
  have hD : va_D As ([(h0, .inr (8, [.null, .null, .null, .int 0, .int 0, .int 0, .int 0, .int 0, .int 0, .int 0, .int 0, .int 0])), (q_1, .inl (cy 5, 8, .inr (.inr (.inr (.inr (fun _ => none))))))]) := hD
  refine va_putF (D := D) (ci := 8) (v := .ref q_1) (ty := (.array (.object "ThirdInLine$Man"))) (C := RX8) (T := TX8) (N := 12) hx hb hts iw_8 tyX8 tyX8_ok nmX8 hown hK hP hD hS 0 rfl rfl 0 (by decide) (hts _ fl_X8_11) (fun _ h9 => h9) rfl hin rfl (by decide +kernel) rfl rfl (Nat.le_of_ble_eq_true rfl) dX8_init_10 (fun H locs hP hD hS => ?_)
  have hP : va_P D vwCl ([(h0, .inr (8, [.ref q_1, .null, .null, .int 0, .int 0, .int 0, .int 0, .int 0, .int 0, .int 0, .int 0, .int 0])), (q_1, .inl (cy 5, 8, .inr (.inr (.inr (.inr (fun _ => none))))))]) H := hP
  have hD : va_D As ([(h0, .inr (8, [.ref q_1, .null, .null, .int 0, .int 0, .int 0, .int 0, .int 0, .int 0, .int 0, .int 0, .int 0])), (q_1, .inl (cy 5, 8, .inr (.inr (.inr (.inr (fun _ => none))))))]) := hD
  refine lv_aload_n hx hb dX8_init_13 rfl (lv_at hl 0 rfl) ?_
  refine lv_iconst (v := 3) hx hb dX8_init_14 (by decide) ?_
  refine ti_nA (atype := .int) (a0 := (3, .inl (fun _ => 0))) 1 C ac_int rfl (fun C h => by cases h) rfl hP hD hS hA (fun _ => rfl) (by decide) (by decide) (Nat.le_of_ble_eq_true rfl) 2 11 (Nat.le_of_ble_eq_true rfl) (Nat.le_of_ble_eq_true rfl) ⟨Nat.le_of_ble_eq_true rfl, Nat.le_of_ble_eq_true rfl⟩ dX8_init_15 (fun q_2 H hP hD hS => ?_)
  have hP : va_P D vwCl ([(h0, .inr (8, [.ref q_1, .null, .null, .int 0, .int 0, .int 0, .int 0, .int 0, .int 0, .int 0, .int 0, .int 0])), (q_1, .inl (cy 5, 8, .inr (.inr (.inr (.inr (fun _ => none)))))), (q_2, .inl (cy 1, 3, .inl (fun _ => 0)))]) H := hP
  have hD : va_D As ([(h0, .inr (8, [.ref q_1, .null, .null, .int 0, .int 0, .int 0, .int 0, .int 0, .int 0, .int 0, .int 0, .int 0])), (q_1, .inl (cy 5, 8, .inr (.inr (.inr (.inr (fun _ => none)))))), (q_2, .inl (cy 1, 3, .inl (fun _ => 0)))]) := hD
  refine va_putF (D := D) (ci := 8) (v := .ref q_2) (ty := (.array .int)) (C := RX8) (T := TX8) (N := 12) hx hb hts iw_8 tyX8 tyX8_ok nmX8 hown hK hP hD hS 0 rfl rfl 1 (by decide) (hts _ fl_X8_17) (fun _ h9 => h9) rfl hin rfl (by decide +kernel) rfl rfl (Nat.le_of_ble_eq_true rfl) dX8_init_17 (fun H locs hP hD hS => ?_)
  have hP : va_P D vwCl ([(h0, .inr (8, [.ref q_1, .ref q_2, .null, .int 0, .int 0, .int 0, .int 0, .int 0, .int 0, .int 0, .int 0, .int 0])), (q_1, .inl (cy 5, 8, .inr (.inr (.inr (.inr (fun _ => none)))))), (q_2, .inl (cy 1, 3, .inl (fun _ => 0)))]) H := hP
  have hD : va_D As ([(h0, .inr (8, [.ref q_1, .ref q_2, .null, .int 0, .int 0, .int 0, .int 0, .int 0, .int 0, .int 0, .int 0, .int 0])), (q_1, .inl (cy 5, 8, .inr (.inr (.inr (.inr (fun _ => none)))))), (q_2, .inl (cy 1, 3, .inl (fun _ => 0)))]) := hD
  refine lv_aload_n hx hb dX8_init_20 rfl (lv_at hl 0 rfl) ?_
  refine lv_iconst (v := 3) hx hb dX8_init_21 (by decide) ?_
  refine ti_nQ (Cn := RX1) (N' := 3) 4 C ck_X8_21 (ao_RX1 hN) rfl hP hD hS hA (by decide) (by decide) (Nat.le_of_ble_eq_true rfl) 3 14 (Nat.le_of_ble_eq_true rfl) (Nat.le_of_ble_eq_true rfl) ⟨Nat.le_of_ble_eq_true rfl, Nat.le_of_ble_eq_true rfl⟩ dX8_init_22 (fun q_3 H hP hD hS => ?_)
  have hP : va_P D vwCl ([(h0, .inr (8, [.ref q_1, .ref q_2, .null, .int 0, .int 0, .int 0, .int 0, .int 0, .int 0, .int 0, .int 0, .int 0])), (q_1, .inl (cy 5, 8, .inr (.inr (.inr (.inr (fun _ => none)))))), (q_2, .inl (cy 1, 3, .inl (fun _ => 0))), (q_3, .inl (cy 4, 3, .inr (.inr (.inr (.inr (fun _ => none))))))]) H := hP
  have hD : va_D As ([(h0, .inr (8, [.ref q_1, .ref q_2, .null, .int 0, .int 0, .int 0, .int 0, .int 0, .int 0, .int 0, .int 0, .int 0])), (q_1, .inl (cy 5, 8, .inr (.inr (.inr (.inr (fun _ => none)))))), (q_2, .inl (cy 1, 3, .inl (fun _ => 0))), (q_3, .inl (cy 4, 3, .inr (.inr (.inr (.inr (fun _ => none))))))]) := hD
  refine va_putF (D := D) (ci := 8) (v := .ref q_3) (ty := (.array (.object "ThirdInLine$Law"))) (C := RX8) (T := TX8) (N := 12) hx hb hts iw_8 tyX8 tyX8_ok nmX8 hown hK hP hD hS 0 rfl rfl 2 (by decide) (hts _ fl_X8_23) (fun _ h9 => h9) rfl hin rfl (by decide +kernel) rfl rfl (Nat.le_of_ble_eq_true rfl) dX8_init_25 (fun H locs hP hD hS => ?_)
  have hP : va_P D vwCl ([(h0, .inr (8, [.ref q_1, .ref q_2, .ref q_3, .int 0, .int 0, .int 0, .int 0, .int 0, .int 0, .int 0, .int 0, .int 0])), (q_1, .inl (cy 5, 8, .inr (.inr (.inr (.inr (fun _ => none)))))), (q_2, .inl (cy 1, 3, .inl (fun _ => 0))), (q_3, .inl (cy 4, 3, .inr (.inr (.inr (.inr (fun _ => none))))))]) H := hP
  have hD : va_D As ([(h0, .inr (8, [.ref q_1, .ref q_2, .ref q_3, .int 0, .int 0, .int 0, .int 0, .int 0, .int 0, .int 0, .int 0, .int 0])), (q_1, .inl (cy 5, 8, .inr (.inr (.inr (.inr (fun _ => none)))))), (q_2, .inl (cy 1, 3, .inl (fun _ => 0))), (q_3, .inl (cy 4, 3, .inr (.inr (.inr (.inr (fun _ => none))))))]) := hD
  refine lv_iconst (v := 0) hx hb dX8_init_28 (by decide) ?_
  refine lv_istore_n (lv' := [(1, .int 0), (0, .ref h0)]) hx hb dX8_init_29 rfl hl (by decide) rfl (fun ls hl => ?_)
  refine lv_iload_n hx hb dX8_init_30 rfl (lv_at hl 0 rfl) ?_
  refine lv_bipush (v := 8) hx hb dX8_init_31 (by decide) ?_
  refine lv_icmp_ge (tgt := 55) hx hb dX8_init_33 (by decide) (fun c => absurd c (by decide)) (fun c => ?_)
  refine lv_aload_n hx hb dX8_init_36 rfl (lv_at hl 1 rfl) ?_
  refine va_get (D := D) (ci := 8) (v := .ref q_1) (C := RX8) (T := TX8) (N := 12) hx hb hts iw_8 hown hK hP 0 rfl rfl 0 (by decide) (hts _ fl_X8_11) (fun _ h9 => h9) rfl dX8_init_37 ?_
  refine lv_iload_n hx hb dX8_init_40 rfl (lv_at hl 0 rfl) ?_
  refine ti_nO (ci := 2) (fs := [.int 0, .int 0, .int 0, .int 0, .int 0, .int 0, .int 0, .int 0, .int 0, .int 0]) (T := TX2) (N := 10) tyX2 tyX2_ok C iw_2 ck_X8_9 is_X2 in_X2 rfl hP hD hS hA nf_2 4 24 (Nat.le_of_ble_eq_true rfl) (Nat.le_of_ble_eq_true rfl) ⟨Nat.le_of_ble_eq_true rfl, Nat.le_of_ble_eq_true rfl⟩ dX8_init_41 (fun q_4 H hP hD hS => ?_)
  refine lv_dup hx hb dX8_init_44 rfl ?_
  refine ti_callCN C (k_X2_init l D cy q_4 H.size) (nl_X8_27 hN) rfl ym_X2_init yi_X2_init yc_X2_init yd_X2_init hP hD hS hA hl.1 (Nat.le_of_ble_eq_true rfl) ⟨by decide, by decide⟩ 4 24 (Nat.le_of_ble_eq_true rfl) (Nat.le_of_ble_eq_true rfl) ⟨Nat.le_of_ble_eq_true rfl, Nat.le_of_ble_eq_true rfl⟩ dX8_init_45 (fun u_5 H locs hp_5 hPn hDn hSn => ?_)
  have hP : va_P D vwCl ([(h0, .inr (8, [.ref q_1, .ref q_2, .ref q_3, .int 0, .int 0, .int 0, .int 0, .int 0, .int 0, .int 0, .int 0, .int 0])), (q_1, .inl (cy 5, 8, .inr (.inr (.inr (.inr (fun _ => none)))))), (q_2, .inl (cy 1, 3, .inl (fun _ => 0))), (q_3, .inl (cy 4, 3, .inr (.inr (.inr (.inr (fun _ => none)))))), (q_4, .inr (2, [.int 0, .int 0, .int 0, .int 0, .int 0, .int 0, .int 0, .int 0, .int 0, .int 0]))]) H := hPn
  have hD : va_D As ([(h0, .inr (8, [.ref q_1, .ref q_2, .ref q_3, .int 0, .int 0, .int 0, .int 0, .int 0, .int 0, .int 0, .int 0, .int 0])), (q_1, .inl (cy 5, 8, .inr (.inr (.inr (.inr (fun _ => none)))))), (q_2, .inl (cy 1, 3, .inl (fun _ => 0))), (q_3, .inl (cy 4, 3, .inr (.inr (.inr (.inr (fun _ => none)))))), (q_4, .inr (2, [.int 0, .int 0, .int 0, .int 0, .int 0, .int 0, .int 0, .int 0, .int 0, .int 0]))]) := hDn
  have hS := hSn
  refine va_astq (f := (fun _ => none)) hx hb hK hP hD hS 1 5 4 2 rfl rfl rfl rfl (by unfold vp_in; decide) dX8_init_48 (fun H locs hP hD hS => ?_)
  have hP : va_P D vwCl ([(h0, .inr (8, [.ref q_1, .ref q_2, .ref q_3, .int 0, .int 0, .int 0, .int 0, .int 0, .int 0, .int 0, .int 0, .int 0])), (q_1, .inl (cy 5, 8, .inr (.inr (.inr (.inr (va_up (fun _ => none) 0 (some q_4))))))), (q_2, .inl (cy 1, 3, .inl (fun _ => 0))), (q_3, .inl (cy 4, 3, .inr (.inr (.inr (.inr (fun _ => none)))))), (q_4, .inr (2, [.int 0, .int 0, .int 0, .int 0, .int 0, .int 0, .int 0, .int 0, .int 0, .int 0]))]) H := hP
  have hD : va_D As ([(h0, .inr (8, [.ref q_1, .ref q_2, .ref q_3, .int 0, .int 0, .int 0, .int 0, .int 0, .int 0, .int 0, .int 0, .int 0])), (q_1, .inl (cy 5, 8, .inr (.inr (.inr (.inr (va_up (fun _ => none) 0 (some q_4))))))), (q_2, .inl (cy 1, 3, .inl (fun _ => 0))), (q_3, .inl (cy 4, 3, .inr (.inr (.inr (.inr (fun _ => none)))))), (q_4, .inr (2, [.int 0, .int 0, .int 0, .int 0, .int 0, .int 0, .int 0, .int 0, .int 0, .int 0]))]) := hD
  refine lv_iinc (v := 1) (lv' := [(1, .int 1), (0, .ref h0)]) hx hb dX8_init_49 hl (k := 0) rfl (by decide) (by decide) rfl (fun ls hl => ?_)
  refine lv_goto (tgt := 30) hx hb dX8_init_52 (by decide) ?_
  refine lv_iload_n hx hb dX8_init_30 rfl (lv_at hl 0 rfl) ?_
  refine lv_bipush (v := 8) hx hb dX8_init_31 (by decide) ?_
  refine lv_icmp_ge (tgt := 55) hx hb dX8_init_33 (by decide) (fun c => absurd c (by decide)) (fun c => ?_)
  refine lv_aload_n hx hb dX8_init_36 rfl (lv_at hl 1 rfl) ?_
  refine va_get (D := D) (ci := 8) (v := .ref q_1) (C := RX8) (T := TX8) (N := 12) hx hb hts iw_8 hown hK hP 0 rfl rfl 0 (by decide) (hts _ fl_X8_11) (fun _ h9 => h9) rfl dX8_init_37 ?_
  refine lv_iload_n hx hb dX8_init_40 rfl (lv_at hl 0 rfl) ?_
  refine ti_nO (ci := 2) (fs := [.int 0, .int 0, .int 0, .int 0, .int 0, .int 0, .int 0, .int 0, .int 0, .int 0]) (T := TX2) (N := 10) tyX2 tyX2_ok C iw_2 ck_X8_9 is_X2 in_X2 rfl hP hD hS hA nf_2 5 34 (Nat.le_of_ble_eq_true rfl) (Nat.le_of_ble_eq_true rfl) ⟨Nat.le_of_ble_eq_true rfl, Nat.le_of_ble_eq_true rfl⟩ dX8_init_41 (fun q_6 H hP hD hS => ?_)
  refine lv_dup hx hb dX8_init_44 rfl ?_
  refine ti_callCN C (k_X2_init l D cy q_6 H.size) (nl_X8_27 hN) rfl ym_X2_init yi_X2_init yc_X2_init yd_X2_init hP hD hS hA hl.1 (Nat.le_of_ble_eq_true rfl) ⟨by decide, by decide⟩ 5 34 (Nat.le_of_ble_eq_true rfl) (Nat.le_of_ble_eq_true rfl) ⟨Nat.le_of_ble_eq_true rfl, Nat.le_of_ble_eq_true rfl⟩ dX8_init_45 (fun u_7 H locs hp_7 hPn hDn hSn => ?_)
  have hP : va_P D vwCl ([(h0, .inr (8, [.ref q_1, .ref q_2, .ref q_3, .int 0, .int 0, .int 0, .int 0, .int 0, .int 0, .int 0, .int 0, .int 0])), (q_1, .inl (cy 5, 8, .inr (.inr (.inr (.inr (va_up (fun _ => none) 0 (some q_4))))))), (q_2, .inl (cy 1, 3, .inl (fun _ => 0))), (q_3, .inl (cy 4, 3, .inr (.inr (.inr (.inr (fun _ => none)))))), (q_4, .inr (2, [.int 0, .int 0, .int 0, .int 0, .int 0, .int 0, .int 0, .int 0, .int 0, .int 0])), (q_6, .inr (2, [.int 0, .int 0, .int 0, .int 0, .int 0, .int 0, .int 0, .int 0, .int 0, .int 0]))]) H := hPn
  have hD : va_D As ([(h0, .inr (8, [.ref q_1, .ref q_2, .ref q_3, .int 0, .int 0, .int 0, .int 0, .int 0, .int 0, .int 0, .int 0, .int 0])), (q_1, .inl (cy 5, 8, .inr (.inr (.inr (.inr (va_up (fun _ => none) 0 (some q_4))))))), (q_2, .inl (cy 1, 3, .inl (fun _ => 0))), (q_3, .inl (cy 4, 3, .inr (.inr (.inr (.inr (fun _ => none)))))), (q_4, .inr (2, [.int 0, .int 0, .int 0, .int 0, .int 0, .int 0, .int 0, .int 0, .int 0, .int 0])), (q_6, .inr (2, [.int 0, .int 0, .int 0, .int 0, .int 0, .int 0, .int 0, .int 0, .int 0, .int 0]))]) := hDn
  have hS := hSn
  refine va_astq (f := (va_up (fun _ => none) 0 (some q_4))) hx hb hK hP hD hS 1 5 5 2 rfl rfl rfl rfl (by unfold vp_in; decide) dX8_init_48 (fun H locs hP hD hS => ?_)
  have hP : va_P D vwCl ([(h0, .inr (8, [.ref q_1, .ref q_2, .ref q_3, .int 0, .int 0, .int 0, .int 0, .int 0, .int 0, .int 0, .int 0, .int 0])), (q_1, .inl (cy 5, 8, .inr (.inr (.inr (.inr (va_up (va_up (fun _ => none) 0 (some q_4)) 1 (some q_6))))))), (q_2, .inl (cy 1, 3, .inl (fun _ => 0))), (q_3, .inl (cy 4, 3, .inr (.inr (.inr (.inr (fun _ => none)))))), (q_4, .inr (2, [.int 0, .int 0, .int 0, .int 0, .int 0, .int 0, .int 0, .int 0, .int 0, .int 0])), (q_6, .inr (2, [.int 0, .int 0, .int 0, .int 0, .int 0, .int 0, .int 0, .int 0, .int 0, .int 0]))]) H := hP
  have hD : va_D As ([(h0, .inr (8, [.ref q_1, .ref q_2, .ref q_3, .int 0, .int 0, .int 0, .int 0, .int 0, .int 0, .int 0, .int 0, .int 0])), (q_1, .inl (cy 5, 8, .inr (.inr (.inr (.inr (va_up (va_up (fun _ => none) 0 (some q_4)) 1 (some q_6))))))), (q_2, .inl (cy 1, 3, .inl (fun _ => 0))), (q_3, .inl (cy 4, 3, .inr (.inr (.inr (.inr (fun _ => none)))))), (q_4, .inr (2, [.int 0, .int 0, .int 0, .int 0, .int 0, .int 0, .int 0, .int 0, .int 0, .int 0])), (q_6, .inr (2, [.int 0, .int 0, .int 0, .int 0, .int 0, .int 0, .int 0, .int 0, .int 0, .int 0]))]) := hD
  refine lv_iinc (v := 2) (lv' := [(1, .int 2), (0, .ref h0)]) hx hb dX8_init_49 hl (k := 0) rfl (by decide) (by decide) rfl (fun ls hl => ?_)
  refine lv_goto (tgt := 30) hx hb dX8_init_52 (by decide) ?_
  refine lv_iload_n hx hb dX8_init_30 rfl (lv_at hl 0 rfl) ?_
  refine lv_bipush (v := 8) hx hb dX8_init_31 (by decide) ?_
  refine lv_icmp_ge (tgt := 55) hx hb dX8_init_33 (by decide) (fun c => absurd c (by decide)) (fun c => ?_)
  refine lv_aload_n hx hb dX8_init_36 rfl (lv_at hl 1 rfl) ?_
  refine va_get (D := D) (ci := 8) (v := .ref q_1) (C := RX8) (T := TX8) (N := 12) hx hb hts iw_8 hown hK hP 0 rfl rfl 0 (by decide) (hts _ fl_X8_11) (fun _ h9 => h9) rfl dX8_init_37 ?_
  refine lv_iload_n hx hb dX8_init_40 rfl (lv_at hl 0 rfl) ?_
  refine ti_nO (ci := 2) (fs := [.int 0, .int 0, .int 0, .int 0, .int 0, .int 0, .int 0, .int 0, .int 0, .int 0]) (T := TX2) (N := 10) tyX2 tyX2_ok C iw_2 ck_X8_9 is_X2 in_X2 rfl hP hD hS hA nf_2 6 44 (Nat.le_of_ble_eq_true rfl) (Nat.le_of_ble_eq_true rfl) ⟨Nat.le_of_ble_eq_true rfl, Nat.le_of_ble_eq_true rfl⟩ dX8_init_41 (fun q_8 H hP hD hS => ?_)
  refine lv_dup hx hb dX8_init_44 rfl ?_
  refine ti_callCN C (k_X2_init l D cy q_8 H.size) (nl_X8_27 hN) rfl ym_X2_init yi_X2_init yc_X2_init yd_X2_init hP hD hS hA hl.1 (Nat.le_of_ble_eq_true rfl) ⟨by decide, by decide⟩ 6 44 (Nat.le_of_ble_eq_true rfl) (Nat.le_of_ble_eq_true rfl) ⟨Nat.le_of_ble_eq_true rfl, Nat.le_of_ble_eq_true rfl⟩ dX8_init_45 (fun u_9 H locs hp_9 hPn hDn hSn => ?_)
  have hP : va_P D vwCl ([(h0, .inr (8, [.ref q_1, .ref q_2, .ref q_3, .int 0, .int 0, .int 0, .int 0, .int 0, .int 0, .int 0, .int 0, .int 0])), (q_1, .inl (cy 5, 8, .inr (.inr (.inr (.inr (va_up (va_up (fun _ => none) 0 (some q_4)) 1 (some q_6))))))), (q_2, .inl (cy 1, 3, .inl (fun _ => 0))), (q_3, .inl (cy 4, 3, .inr (.inr (.inr (.inr (fun _ => none)))))), (q_4, .inr (2, [.int 0, .int 0, .int 0, .int 0, .int 0, .int 0, .int 0, .int 0, .int 0, .int 0])), (q_6, .inr (2, [.int 0, .int 0, .int 0, .int 0, .int 0, .int 0, .int 0, .int 0, .int 0, .int 0])), (q_8, .inr (2, [.int 0, .int 0, .int 0, .int 0, .int 0, .int 0, .int 0, .int 0, .int 0, .int 0]))]) H := hPn
  have hD : va_D As ([(h0, .inr (8, [.ref q_1, .ref q_2, .ref q_3, .int 0, .int 0, .int 0, .int 0, .int 0, .int 0, .int 0, .int 0, .int 0])), (q_1, .inl (cy 5, 8, .inr (.inr (.inr (.inr (va_up (va_up (fun _ => none) 0 (some q_4)) 1 (some q_6))))))), (q_2, .inl (cy 1, 3, .inl (fun _ => 0))), (q_3, .inl (cy 4, 3, .inr (.inr (.inr (.inr (fun _ => none)))))), (q_4, .inr (2, [.int 0, .int 0, .int 0, .int 0, .int 0, .int 0, .int 0, .int 0, .int 0, .int 0])), (q_6, .inr (2, [.int 0, .int 0, .int 0, .int 0, .int 0, .int 0, .int 0, .int 0, .int 0, .int 0])), (q_8, .inr (2, [.int 0, .int 0, .int 0, .int 0, .int 0, .int 0, .int 0, .int 0, .int 0, .int 0]))]) := hDn
  have hS := hSn
  refine va_astq (f := (va_up (va_up (fun _ => none) 0 (some q_4)) 1 (some q_6))) hx hb hK hP hD hS 1 5 6 2 rfl rfl rfl rfl (by unfold vp_in; decide) dX8_init_48 (fun H locs hP hD hS => ?_)
  have hP : va_P D vwCl ([(h0, .inr (8, [.ref q_1, .ref q_2, .ref q_3, .int 0, .int 0, .int 0, .int 0, .int 0, .int 0, .int 0, .int 0, .int 0])), (q_1, .inl (cy 5, 8, .inr (.inr (.inr (.inr (va_up (va_up (va_up (fun _ => none) 0 (some q_4)) 1 (some q_6)) 2 (some q_8))))))), (q_2, .inl (cy 1, 3, .inl (fun _ => 0))), (q_3, .inl (cy 4, 3, .inr (.inr (.inr (.inr (fun _ => none)))))), (q_4, .inr (2, [.int 0, .int 0, .int 0, .int 0, .int 0, .int 0, .int 0, .int 0, .int 0, .int 0])), (q_6, .inr (2, [.int 0, .int 0, .int 0, .int 0, .int 0, .int 0, .int 0, .int 0, .int 0, .int 0])), (q_8, .inr (2, [.int 0, .int 0, .int 0, .int 0, .int 0, .int 0, .int 0, .int 0, .int 0, .int 0]))]) H := hP
  have hD : va_D As ([(h0, .inr (8, [.ref q_1, .ref q_2, .ref q_3, .int 0, .int 0, .int 0, .int 0, .int 0, .int 0, .int 0, .int 0, .int 0])), (q_1, .inl (cy 5, 8, .inr (.inr (.inr (.inr (va_up (va_up (va_up (fun _ => none) 0 (some q_4)) 1 (some q_6)) 2 (some q_8))))))), (q_2, .inl (cy 1, 3, .inl (fun _ => 0))), (q_3, .inl (cy 4, 3, .inr (.inr (.inr (.inr (fun _ => none)))))), (q_4, .inr (2, [.int 0, .int 0, .int 0, .int 0, .int 0, .int 0, .int 0, .int 0, .int 0, .int 0])), (q_6, .inr (2, [.int 0, .int 0, .int 0, .int 0, .int 0, .int 0, .int 0, .int 0, .int 0, .int 0])), (q_8, .inr (2, [.int 0, .int 0, .int 0, .int 0, .int 0, .int 0, .int 0, .int 0, .int 0, .int 0]))]) := hD
  refine lv_iinc (v := 3) (lv' := [(1, .int 3), (0, .ref h0)]) hx hb dX8_init_49 hl (k := 0) rfl (by decide) (by decide) rfl (fun ls hl => ?_)
  refine lv_goto (tgt := 30) hx hb dX8_init_52 (by decide) ?_
  refine lv_iload_n hx hb dX8_init_30 rfl (lv_at hl 0 rfl) ?_
  refine lv_bipush (v := 8) hx hb dX8_init_31 (by decide) ?_
  refine lv_icmp_ge (tgt := 55) hx hb dX8_init_33 (by decide) (fun c => absurd c (by decide)) (fun c => ?_)
  refine lv_aload_n hx hb dX8_init_36 rfl (lv_at hl 1 rfl) ?_
  refine va_get (D := D) (ci := 8) (v := .ref q_1) (C := RX8) (T := TX8) (N := 12) hx hb hts iw_8 hown hK hP 0 rfl rfl 0 (by decide) (hts _ fl_X8_11) (fun _ h9 => h9) rfl dX8_init_37 ?_
  refine lv_iload_n hx hb dX8_init_40 rfl (lv_at hl 0 rfl) ?_
  refine ti_nO (ci := 2) (fs := [.int 0, .int 0, .int 0, .int 0, .int 0, .int 0, .int 0, .int 0, .int 0, .int 0]) (T := TX2) (N := 10) tyX2 tyX2_ok C iw_2 ck_X8_9 is_X2 in_X2 rfl hP hD hS hA nf_2 7 54 (Nat.le_of_ble_eq_true rfl) (Nat.le_of_ble_eq_true rfl) ⟨Nat.le_of_ble_eq_true rfl, Nat.le_of_ble_eq_true rfl⟩ dX8_init_41 (fun q_10 H hP hD hS => ?_)
  refine lv_dup hx hb dX8_init_44 rfl ?_
  refine ti_callCN C (k_X2_init l D cy q_10 H.size) (nl_X8_27 hN) rfl ym_X2_init yi_X2_init yc_X2_init yd_X2_init hP hD hS hA hl.1 (Nat.le_of_ble_eq_true rfl) ⟨by decide, by decide⟩ 7 54 (Nat.le_of_ble_eq_true rfl) (Nat.le_of_ble_eq_true rfl) ⟨Nat.le_of_ble_eq_true rfl, Nat.le_of_ble_eq_true rfl⟩ dX8_init_45 (fun u_11 H locs hp_11 hPn hDn hSn => ?_)
  have hP : va_P D vwCl ([(h0, .inr (8, [.ref q_1, .ref q_2, .ref q_3, .int 0, .int 0, .int 0, .int 0, .int 0, .int 0, .int 0, .int 0, .int 0])), (q_1, .inl (cy 5, 8, .inr (.inr (.inr (.inr (va_up (va_up (va_up (fun _ => none) 0 (some q_4)) 1 (some q_6)) 2 (some q_8))))))), (q_2, .inl (cy 1, 3, .inl (fun _ => 0))), (q_3, .inl (cy 4, 3, .inr (.inr (.inr (.inr (fun _ => none)))))), (q_4, .inr (2, [.int 0, .int 0, .int 0, .int 0, .int 0, .int 0, .int 0, .int 0, .int 0, .int 0])), (q_6, .inr (2, [.int 0, .int 0, .int 0, .int 0, .int 0, .int 0, .int 0, .int 0, .int 0, .int 0])), (q_8, .inr (2, [.int 0, .int 0, .int 0, .int 0, .int 0, .int 0, .int 0, .int 0, .int 0, .int 0])), (q_10, .inr (2, [.int 0, .int 0, .int 0, .int 0, .int 0, .int 0, .int 0, .int 0, .int 0, .int 0]))]) H := hPn
  have hD : va_D As ([(h0, .inr (8, [.ref q_1, .ref q_2, .ref q_3, .int 0, .int 0, .int 0, .int 0, .int 0, .int 0, .int 0, .int 0, .int 0])), (q_1, .inl (cy 5, 8, .inr (.inr (.inr (.inr (va_up (va_up (va_up (fun _ => none) 0 (some q_4)) 1 (some q_6)) 2 (some q_8))))))), (q_2, .inl (cy 1, 3, .inl (fun _ => 0))), (q_3, .inl (cy 4, 3, .inr (.inr (.inr (.inr (fun _ => none)))))), (q_4, .inr (2, [.int 0, .int 0, .int 0, .int 0, .int 0, .int 0, .int 0, .int 0, .int 0, .int 0])), (q_6, .inr (2, [.int 0, .int 0, .int 0, .int 0, .int 0, .int 0, .int 0, .int 0, .int 0, .int 0])), (q_8, .inr (2, [.int 0, .int 0, .int 0, .int 0, .int 0, .int 0, .int 0, .int 0, .int 0, .int 0])), (q_10, .inr (2, [.int 0, .int 0, .int 0, .int 0, .int 0, .int 0, .int 0, .int 0, .int 0, .int 0]))]) := hDn
  have hS := hSn
  refine va_astq (f := (va_up (va_up (va_up (fun _ => none) 0 (some q_4)) 1 (some q_6)) 2 (some q_8))) hx hb hK hP hD hS 1 5 7 2 rfl rfl rfl rfl (by unfold vp_in; decide) dX8_init_48 (fun H locs hP hD hS => ?_)
  have hP : va_P D vwCl ([(h0, .inr (8, [.ref q_1, .ref q_2, .ref q_3, .int 0, .int 0, .int 0, .int 0, .int 0, .int 0, .int 0, .int 0, .int 0])), (q_1, .inl (cy 5, 8, .inr (.inr (.inr (.inr (va_up (va_up (va_up (va_up (fun _ => none) 0 (some q_4)) 1 (some q_6)) 2 (some q_8)) 3 (some q_10))))))), (q_2, .inl (cy 1, 3, .inl (fun _ => 0))), (q_3, .inl (cy 4, 3, .inr (.inr (.inr (.inr (fun _ => none)))))), (q_4, .inr (2, [.int 0, .int 0, .int 0, .int 0, .int 0, .int 0, .int 0, .int 0, .int 0, .int 0])), (q_6, .inr (2, [.int 0, .int 0, .int 0, .int 0, .int 0, .int 0, .int 0, .int 0, .int 0, .int 0])), (q_8, .inr (2, [.int 0, .int 0, .int 0, .int 0, .int 0, .int 0, .int 0, .int 0, .int 0, .int 0])), (q_10, .inr (2, [.int 0, .int 0, .int 0, .int 0, .int 0, .int 0, .int 0, .int 0, .int 0, .int 0]))]) H := hP
  have hD : va_D As ([(h0, .inr (8, [.ref q_1, .ref q_2, .ref q_3, .int 0, .int 0, .int 0, .int 0, .int 0, .int 0, .int 0, .int 0, .int 0])), (q_1, .inl (cy 5, 8, .inr (.inr (.inr (.inr (va_up (va_up (va_up (va_up (fun _ => none) 0 (some q_4)) 1 (some q_6)) 2 (some q_8)) 3 (some q_10))))))), (q_2, .inl (cy 1, 3, .inl (fun _ => 0))), (q_3, .inl (cy 4, 3, .inr (.inr (.inr (.inr (fun _ => none)))))), (q_4, .inr (2, [.int 0, .int 0, .int 0, .int 0, .int 0, .int 0, .int 0, .int 0, .int 0, .int 0])), (q_6, .inr (2, [.int 0, .int 0, .int 0, .int 0, .int 0, .int 0, .int 0, .int 0, .int 0, .int 0])), (q_8, .inr (2, [.int 0, .int 0, .int 0, .int 0, .int 0, .int 0, .int 0, .int 0, .int 0, .int 0])), (q_10, .inr (2, [.int 0, .int 0, .int 0, .int 0, .int 0, .int 0, .int 0, .int 0, .int 0, .int 0]))]) := hD
  refine lv_iinc (v := 4) (lv' := [(1, .int 4), (0, .ref h0)]) hx hb dX8_init_49 hl (k := 0) rfl (by decide) (by decide) rfl (fun ls hl => ?_)
  refine lv_goto (tgt := 30) hx hb dX8_init_52 (by decide) ?_
  refine lv_iload_n hx hb dX8_init_30 rfl (lv_at hl 0 rfl) ?_
  refine lv_bipush (v := 8) hx hb dX8_init_31 (by decide) ?_
  refine lv_icmp_ge (tgt := 55) hx hb dX8_init_33 (by decide) (fun c => absurd c (by decide)) (fun c => ?_)
  refine lv_aload_n hx hb dX8_init_36 rfl (lv_at hl 1 rfl) ?_
  refine va_get (D := D) (ci := 8) (v := .ref q_1) (C := RX8) (T := TX8) (N := 12) hx hb hts iw_8 hown hK hP 0 rfl rfl 0 (by decide) (hts _ fl_X8_11) (fun _ h9 => h9) rfl dX8_init_37 ?_
  refine lv_iload_n hx hb dX8_init_40 rfl (lv_at hl 0 rfl) ?_
  refine ti_nO (ci := 2) (fs := [.int 0, .int 0, .int 0, .int 0, .int 0, .int 0, .int 0, .int 0, .int 0, .int 0]) (T := TX2) (N := 10) tyX2 tyX2_ok C iw_2 ck_X8_9 is_X2 in_X2 rfl hP hD hS hA nf_2 8 64 (Nat.le_of_ble_eq_true rfl) (Nat.le_of_ble_eq_true rfl) ⟨Nat.le_of_ble_eq_true rfl, Nat.le_of_ble_eq_true rfl⟩ dX8_init_41 (fun q_12 H hP hD hS => ?_)
  refine lv_dup hx hb dX8_init_44 rfl ?_
  refine ti_callCN C (k_X2_init l D cy q_12 H.size) (nl_X8_27 hN) rfl ym_X2_init yi_X2_init yc_X2_init yd_X2_init hP hD hS hA hl.1 (Nat.le_of_ble_eq_true rfl) ⟨by decide, by decide⟩ 8 64 (Nat.le_of_ble_eq_true rfl) (Nat.le_of_ble_eq_true rfl) ⟨Nat.le_of_ble_eq_true rfl, Nat.le_of_ble_eq_true rfl⟩ dX8_init_45 (fun u_13 H locs hp_13 hPn hDn hSn => ?_)
  have hP : va_P D vwCl ([(h0, .inr (8, [.ref q_1, .ref q_2, .ref q_3, .int 0, .int 0, .int 0, .int 0, .int 0, .int 0, .int 0, .int 0, .int 0])), (q_1, .inl (cy 5, 8, .inr (.inr (.inr (.inr (va_up (va_up (va_up (va_up (fun _ => none) 0 (some q_4)) 1 (some q_6)) 2 (some q_8)) 3 (some q_10))))))), (q_2, .inl (cy 1, 3, .inl (fun _ => 0))), (q_3, .inl (cy 4, 3, .inr (.inr (.inr (.inr (fun _ => none)))))), (q_4, .inr (2, [.int 0, .int 0, .int 0, .int 0, .int 0, .int 0, .int 0, .int 0, .int 0, .int 0])), (q_6, .inr (2, [.int 0, .int 0, .int 0, .int 0, .int 0, .int 0, .int 0, .int 0, .int 0, .int 0])), (q_8, .inr (2, [.int 0, .int 0, .int 0, .int 0, .int 0, .int 0, .int 0, .int 0, .int 0, .int 0])), (q_10, .inr (2, [.int 0, .int 0, .int 0, .int 0, .int 0, .int 0, .int 0, .int 0, .int 0, .int 0])), (q_12, .inr (2, [.int 0, .int 0, .int 0, .int 0, .int 0, .int 0, .int 0, .int 0, .int 0, .int 0]))]) H := hPn
  have hD : va_D As ([(h0, .inr (8, [.ref q_1, .ref q_2, .ref q_3, .int 0, .int 0, .int 0, .int 0, .int 0, .int 0, .int 0, .int 0, .int 0])), (q_1, .inl (cy 5, 8, .inr (.inr (.inr (.inr (va_up (va_up (va_up (va_up (fun _ => none) 0 (some q_4)) 1 (some q_6)) 2 (some q_8)) 3 (some q_10))))))), (q_2, .inl (cy 1, 3, .inl (fun _ => 0))), (q_3, .inl (cy 4, 3, .inr (.inr (.inr (.inr (fun _ => none)))))), (q_4, .inr (2, [.int 0, .int 0, .int 0, .int 0, .int 0, .int 0, .int 0, .int 0, .int 0, .int 0])), (q_6, .inr (2, [.int 0, .int 0, .int 0, .int 0, .int 0, .int 0, .int 0, .int 0, .int 0, .int 0])), (q_8, .inr (2, [.int 0, .int 0, .int 0, .int 0, .int 0, .int 0, .int 0, .int 0, .int 0, .int 0])), (q_10, .inr (2, [.int 0, .int 0, .int 0, .int 0, .int 0, .int 0, .int 0, .int 0, .int 0, .int 0])), (q_12, .inr (2, [.int 0, .int 0, .int 0, .int 0, .int 0, .int 0, .int 0, .int 0, .int 0, .int 0]))]) := hDn
  have hS := hSn
  refine va_astq (f := (va_up (va_up (va_up (va_up (fun _ => none) 0 (some q_4)) 1 (some q_6)) 2 (some q_8)) 3 (some q_10))) hx hb hK hP hD hS 1 5 8 2 rfl rfl rfl rfl (by unfold vp_in; decide) dX8_init_48 (fun H locs hP hD hS => ?_)
  have hP : va_P D vwCl ([(h0, .inr (8, [.ref q_1, .ref q_2, .ref q_3, .int 0, .int 0, .int 0, .int 0, .int 0, .int 0, .int 0, .int 0, .int 0])), (q_1, .inl (cy 5, 8, .inr (.inr (.inr (.inr (va_up (va_up (va_up (va_up (va_up (fun _ => none) 0 (some q_4)) 1 (some q_6)) 2 (some q_8)) 3 (some q_10)) 4 (some q_12))))))), (q_2, .inl (cy 1, 3, .inl (fun _ => 0))), (q_3, .inl (cy 4, 3, .inr (.inr (.inr (.inr (fun _ => none)))))), (q_4, .inr (2, [.int 0, .int 0, .int 0, .int 0, .int 0, .int 0, .int 0, .int 0, .int 0, .int 0])), (q_6, .inr (2, [.int 0, .int 0, .int 0, .int 0, .int 0, .int 0, .int 0, .int 0, .int 0, .int 0])), (q_8, .inr (2, [.int 0, .int 0, .int 0, .int 0, .int 0, .int 0, .int 0, .int 0, .int 0, .int 0])), (q_10, .inr (2, [.int 0, .int 0, .int 0, .int 0, .int 0, .int 0, .int 0, .int 0, .int 0, .int 0])), (q_12, .inr (2, [.int 0, .int 0, .int 0, .int 0, .int 0, .int 0, .int 0, .int 0, .int 0, .int 0]))]) H := hP
  have hD : va_D As ([(h0, .inr (8, [.ref q_1, .ref q_2, .ref q_3, .int 0, .int 0, .int 0, .int 0, .int 0, .int 0, .int 0, .int 0, .int 0])), (q_1, .inl (cy 5, 8, .inr (.inr (.inr (.inr (va_up (va_up (va_up (va_up (va_up (fun _ => none) 0 (some q_4)) 1 (some q_6)) 2 (some q_8)) 3 (some q_10)) 4 (some q_12))))))), (q_2, .inl (cy 1, 3, .inl (fun _ => 0))), (q_3, .inl (cy 4, 3, .inr (.inr (.inr (.inr (fun _ => none)))))), (q_4, .inr (2, [.int 0, .int 0, .int 0, .int 0, .int 0, .int 0, .int 0, .int 0, .int 0, .int 0])), (q_6, .inr (2, [.int 0, .int 0, .int 0, .int 0, .int 0, .int 0, .int 0, .int 0, .int 0, .int 0])), (q_8, .inr (2, [.int 0, .int 0, .int 0, .int 0, .int 0, .int 0, .int 0, .int 0, .int 0, .int 0])), (q_10, .inr (2, [.int 0, .int 0, .int 0, .int 0, .int 0, .int 0, .int 0, .int 0, .int 0, .int 0])), (q_12, .inr (2, [.int 0, .int 0, .int 0, .int 0, .int 0, .int 0, .int 0, .int 0, .int 0, .int 0]))]) := hD
  refine lv_iinc (v := 5) (lv' := [(1, .int 5), (0, .ref h0)]) hx hb dX8_init_49 hl (k := 0) rfl (by decide) (by decide) rfl (fun ls hl => ?_)
  refine lv_goto (tgt := 30) hx hb dX8_init_52 (by decide) ?_
  refine lv_iload_n hx hb dX8_init_30 rfl (lv_at hl 0 rfl) ?_
  refine lv_bipush (v := 8) hx hb dX8_init_31 (by decide) ?_
  refine lv_icmp_ge (tgt := 55) hx hb dX8_init_33 (by decide) (fun c => absurd c (by decide)) (fun c => ?_)
  refine lv_aload_n hx hb dX8_init_36 rfl (lv_at hl 1 rfl) ?_
  refine va_get (D := D) (ci := 8) (v := .ref q_1) (C := RX8) (T := TX8) (N := 12) hx hb hts iw_8 hown hK hP 0 rfl rfl 0 (by decide) (hts _ fl_X8_11) (fun _ h9 => h9) rfl dX8_init_37 ?_
  refine lv_iload_n hx hb dX8_init_40 rfl (lv_at hl 0 rfl) ?_
  refine ti_nO (ci := 2) (fs := [.int 0, .int 0, .int 0, .int 0, .int 0, .int 0, .int 0, .int 0, .int 0, .int 0]) (T := TX2) (N := 10) tyX2 tyX2_ok C iw_2 ck_X8_9 is_X2 in_X2 rfl hP hD hS hA nf_2 9 74 (Nat.le_of_ble_eq_true rfl) (Nat.le_of_ble_eq_true rfl) ⟨Nat.le_of_ble_eq_true rfl, Nat.le_of_ble_eq_true rfl⟩ dX8_init_41 (fun q_14 H hP hD hS => ?_)
  refine lv_dup hx hb dX8_init_44 rfl ?_
  refine ti_callCN C (k_X2_init l D cy q_14 H.size) (nl_X8_27 hN) rfl ym_X2_init yi_X2_init yc_X2_init yd_X2_init hP hD hS hA hl.1 (Nat.le_of_ble_eq_true rfl) ⟨by decide, by decide⟩ 9 74 (Nat.le_of_ble_eq_true rfl) (Nat.le_of_ble_eq_true rfl) ⟨Nat.le_of_ble_eq_true rfl, Nat.le_of_ble_eq_true rfl⟩ dX8_init_45 (fun u_15 H locs hp_15 hPn hDn hSn => ?_)
  have hP : va_P D vwCl ([(h0, .inr (8, [.ref q_1, .ref q_2, .ref q_3, .int 0, .int 0, .int 0, .int 0, .int 0, .int 0, .int 0, .int 0, .int 0])), (q_1, .inl (cy 5, 8, .inr (.inr (.inr (.inr (va_up (va_up (va_up (va_up (va_up (fun _ => none) 0 (some q_4)) 1 (some q_6)) 2 (some q_8)) 3 (some q_10)) 4 (some q_12))))))), (q_2, .inl (cy 1, 3, .inl (fun _ => 0))), (q_3, .inl (cy 4, 3, .inr (.inr (.inr (.inr (fun _ => none)))))), (q_4, .inr (2, [.int 0, .int 0, .int 0, .int 0, .int 0, .int 0, .int 0, .int 0, .int 0, .int 0])), (q_6, .inr (2, [.int 0, .int 0, .int 0, .int 0, .int 0, .int 0, .int 0, .int 0, .int 0, .int 0])), (q_8, .inr (2, [.int 0, .int 0, .int 0, .int 0, .int 0, .int 0, .int 0, .int 0, .int 0, .int 0])), (q_10, .inr (2, [.int 0, .int 0, .int 0, .int 0, .int 0, .int 0, .int 0, .int 0, .int 0, .int 0])), (q_12, .inr (2, [.int 0, .int 0, .int 0, .int 0, .int 0, .int 0, .int 0, .int 0, .int 0, .int 0])), (q_14, .inr (2, [.int 0, .int 0, .int 0, .int 0, .int 0, .int 0, .int 0, .int 0, .int 0, .int 0]))]) H := hPn
  have hD : va_D As ([(h0, .inr (8, [.ref q_1, .ref q_2, .ref q_3, .int 0, .int 0, .int 0, .int 0, .int 0, .int 0, .int 0, .int 0, .int 0])), (q_1, .inl (cy 5, 8, .inr (.inr (.inr (.inr (va_up (va_up (va_up (va_up (va_up (fun _ => none) 0 (some q_4)) 1 (some q_6)) 2 (some q_8)) 3 (some q_10)) 4 (some q_12))))))), (q_2, .inl (cy 1, 3, .inl (fun _ => 0))), (q_3, .inl (cy 4, 3, .inr (.inr (.inr (.inr (fun _ => none)))))), (q_4, .inr (2, [.int 0, .int 0, .int 0, .int 0, .int 0, .int 0, .int 0, .int 0, .int 0, .int 0])), (q_6, .inr (2, [.int 0, .int 0, .int 0, .int 0, .int 0, .int 0, .int 0, .int 0, .int 0, .int 0])), (q_8, .inr (2, [.int 0, .int 0, .int 0, .int 0, .int 0, .int 0, .int 0, .int 0, .int 0, .int 0])), (q_10, .inr (2, [.int 0, .int 0, .int 0, .int 0, .int 0, .int 0, .int 0, .int 0, .int 0, .int 0])), (q_12, .inr (2, [.int 0, .int 0, .int 0, .int 0, .int 0, .int 0, .int 0, .int 0, .int 0, .int 0])), (q_14, .inr (2, [.int 0, .int 0, .int 0, .int 0, .int 0, .int 0, .int 0, .int 0, .int 0, .int 0]))]) := hDn
  have hS := hSn
  refine va_astq (f := (va_up (va_up (va_up (va_up (va_up (fun _ => none) 0 (some q_4)) 1 (some q_6)) 2 (some q_8)) 3 (some q_10)) 4 (some q_12))) hx hb hK hP hD hS 1 5 9 2 rfl rfl rfl rfl (by unfold vp_in; decide) dX8_init_48 (fun H locs hP hD hS => ?_)
  have hP : va_P D vwCl ([(h0, .inr (8, [.ref q_1, .ref q_2, .ref q_3, .int 0, .int 0, .int 0, .int 0, .int 0, .int 0, .int 0, .int 0, .int 0])), (q_1, .inl (cy 5, 8, .inr (.inr (.inr (.inr (va_up (va_up (va_up (va_up (va_up (va_up (fun _ => none) 0 (some q_4)) 1 (some q_6)) 2 (some q_8)) 3 (some q_10)) 4 (some q_12)) 5 (some q_14))))))), (q_2, .inl (cy 1, 3, .inl (fun _ => 0))), (q_3, .inl (cy 4, 3, .inr (.inr (.inr (.inr (fun _ => none)))))), (q_4, .inr (2, [.int 0, .int 0, .int 0, .int 0, .int 0, .int 0, .int 0, .int 0, .int 0, .int 0])), (q_6, .inr (2, [.int 0, .int 0, .int 0, .int 0, .int 0, .int 0, .int 0, .int 0, .int 0, .int 0])), (q_8, .inr (2, [.int 0, .int 0, .int 0, .int 0, .int 0, .int 0, .int 0, .int 0, .int 0, .int 0])), (q_10, .inr (2, [.int 0, .int 0, .int 0, .int 0, .int 0, .int 0, .int 0, .int 0, .int 0, .int 0])), (q_12, .inr (2, [.int 0, .int 0, .int 0, .int 0, .int 0, .int 0, .int 0, .int 0, .int 0, .int 0])), (q_14, .inr (2, [.int 0, .int 0, .int 0, .int 0, .int 0, .int 0, .int 0, .int 0, .int 0, .int 0]))]) H := hP
  have hD : va_D As ([(h0, .inr (8, [.ref q_1, .ref q_2, .ref q_3, .int 0, .int 0, .int 0, .int 0, .int 0, .int 0, .int 0, .int 0, .int 0])), (q_1, .inl (cy 5, 8, .inr (.inr (.inr (.inr (va_up (va_up (va_up (va_up (va_up (va_up (fun _ => none) 0 (some q_4)) 1 (some q_6)) 2 (some q_8)) 3 (some q_10)) 4 (some q_12)) 5 (some q_14))))))), (q_2, .inl (cy 1, 3, .inl (fun _ => 0))), (q_3, .inl (cy 4, 3, .inr (.inr (.inr (.inr (fun _ => none)))))), (q_4, .inr (2, [.int 0, .int 0, .int 0, .int 0, .int 0, .int 0, .int 0, .int 0, .int 0, .int 0])), (q_6, .inr (2, [.int 0, .int 0, .int 0, .int 0, .int 0, .int 0, .int 0, .int 0, .int 0, .int 0])), (q_8, .inr (2, [.int 0, .int 0, .int 0, .int 0, .int 0, .int 0, .int 0, .int 0, .int 0, .int 0])), (q_10, .inr (2, [.int 0, .int 0, .int 0, .int 0, .int 0, .int 0, .int 0, .int 0, .int 0, .int 0])), (q_12, .inr (2, [.int 0, .int 0, .int 0, .int 0, .int 0, .int 0, .int 0, .int 0, .int 0, .int 0])), (q_14, .inr (2, [.int 0, .int 0, .int 0, .int 0, .int 0, .int 0, .int 0, .int 0, .int 0, .int 0]))]) := hD
  refine lv_iinc (v := 6) (lv' := [(1, .int 6), (0, .ref h0)]) hx hb dX8_init_49 hl (k := 0) rfl (by decide) (by decide) rfl (fun ls hl => ?_)
  refine lv_goto (tgt := 30) hx hb dX8_init_52 (by decide) ?_
  refine lv_iload_n hx hb dX8_init_30 rfl (lv_at hl 0 rfl) ?_
  refine lv_bipush (v := 8) hx hb dX8_init_31 (by decide) ?_
  refine lv_icmp_ge (tgt := 55) hx hb dX8_init_33 (by decide) (fun c => absurd c (by decide)) (fun c => ?_)
  refine lv_aload_n hx hb dX8_init_36 rfl (lv_at hl 1 rfl) ?_
  refine va_get (D := D) (ci := 8) (v := .ref q_1) (C := RX8) (T := TX8) (N := 12) hx hb hts iw_8 hown hK hP 0 rfl rfl 0 (by decide) (hts _ fl_X8_11) (fun _ h9 => h9) rfl dX8_init_37 ?_
  refine lv_iload_n hx hb dX8_init_40 rfl (lv_at hl 0 rfl) ?_
  refine ti_nO (ci := 2) (fs := [.int 0, .int 0, .int 0, .int 0, .int 0, .int 0, .int 0, .int 0, .int 0, .int 0]) (T := TX2) (N := 10) tyX2 tyX2_ok C iw_2 ck_X8_9 is_X2 in_X2 rfl hP hD hS hA nf_2 10 84 (Nat.le_of_ble_eq_true rfl) (Nat.le_of_ble_eq_true rfl) ⟨Nat.le_of_ble_eq_true rfl, Nat.le_of_ble_eq_true rfl⟩ dX8_init_41 (fun q_16 H hP hD hS => ?_)
  refine lv_dup hx hb dX8_init_44 rfl ?_
  refine ti_callCN C (k_X2_init l D cy q_16 H.size) (nl_X8_27 hN) rfl ym_X2_init yi_X2_init yc_X2_init yd_X2_init hP hD hS hA hl.1 (Nat.le_of_ble_eq_true rfl) ⟨by decide, by decide⟩ 10 84 (Nat.le_of_ble_eq_true rfl) (Nat.le_of_ble_eq_true rfl) ⟨Nat.le_of_ble_eq_true rfl, Nat.le_of_ble_eq_true rfl⟩ dX8_init_45 (fun u_17 H locs hp_17 hPn hDn hSn => ?_)
  have hP : va_P D vwCl ([(h0, .inr (8, [.ref q_1, .ref q_2, .ref q_3, .int 0, .int 0, .int 0, .int 0, .int 0, .int 0, .int 0, .int 0, .int 0])), (q_1, .inl (cy 5, 8, .inr (.inr (.inr (.inr (va_up (va_up (va_up (va_up (va_up (va_up (fun _ => none) 0 (some q_4)) 1 (some q_6)) 2 (some q_8)) 3 (some q_10)) 4 (some q_12)) 5 (some q_14))))))), (q_2, .inl (cy 1, 3, .inl (fun _ => 0))), (q_3, .inl (cy 4, 3, .inr (.inr (.inr (.inr (fun _ => none)))))), (q_4, .inr (2, [.int 0, .int 0, .int 0, .int 0, .int 0, .int 0, .int 0, .int 0, .int 0, .int 0])), (q_6, .inr (2, [.int 0, .int 0, .int 0, .int 0, .int 0, .int 0, .int 0, .int 0, .int 0, .int 0])), (q_8, .inr (2, [.int 0, .int 0, .int 0, .int 0, .int 0, .int 0, .int 0, .int 0, .int 0, .int 0])), (q_10, .inr (2, [.int 0, .int 0, .int 0, .int 0, .int 0, .int 0, .int 0, .int 0, .int 0, .int 0])), (q_12, .inr (2, [.int 0, .int 0, .int 0, .int 0, .int 0, .int 0, .int 0, .int 0, .int 0, .int 0])), (q_14, .inr (2, [.int 0, .int 0, .int 0, .int 0, .int 0, .int 0, .int 0, .int 0, .int 0, .int 0])), (q_16, .inr (2, [.int 0, .int 0, .int 0, .int 0, .int 0, .int 0, .int 0, .int 0, .int 0, .int 0]))]) H := hPn
  have hD : va_D As ([(h0, .inr (8, [.ref q_1, .ref q_2, .ref q_3, .int 0, .int 0, .int 0, .int 0, .int 0, .int 0, .int 0, .int 0, .int 0])), (q_1, .inl (cy 5, 8, .inr (.inr (.inr (.inr (va_up (va_up (va_up (va_up (va_up (va_up (fun _ => none) 0 (some q_4)) 1 (some q_6)) 2 (some q_8)) 3 (some q_10)) 4 (some q_12)) 5 (some q_14))))))), (q_2, .inl (cy 1, 3, .inl (fun _ => 0))), (q_3, .inl (cy 4, 3, .inr (.inr (.inr (.inr (fun _ => none)))))), (q_4, .inr (2, [.int 0, .int 0, .int 0, .int 0, .int 0, .int 0, .int 0, .int 0, .int 0, .int 0])), (q_6, .inr (2, [.int 0, .int 0, .int 0, .int 0, .int 0, .int 0, .int 0, .int 0, .int 0, .int 0])), (q_8, .inr (2, [.int 0, .int 0, .int 0, .int 0, .int 0, .int 0, .int 0, .int 0, .int 0, .int 0])), (q_10, .inr (2, [.int 0, .int 0, .int 0, .int 0, .int 0, .int 0, .int 0, .int 0, .int 0, .int 0])), (q_12, .inr (2, [.int 0, .int 0, .int 0, .int 0, .int 0, .int 0, .int 0, .int 0, .int 0, .int 0])), (q_14, .inr (2, [.int 0, .int 0, .int 0, .int 0, .int 0, .int 0, .int 0, .int 0, .int 0, .int 0])), (q_16, .inr (2, [.int 0, .int 0, .int 0, .int 0, .int 0, .int 0, .int 0, .int 0, .int 0, .int 0]))]) := hDn
  have hS := hSn
  refine va_astq (f := (va_up (va_up (va_up (va_up (va_up (va_up (fun _ => none) 0 (some q_4)) 1 (some q_6)) 2 (some q_8)) 3 (some q_10)) 4 (some q_12)) 5 (some q_14))) hx hb hK hP hD hS 1 5 10 2 rfl rfl rfl rfl (by unfold vp_in; decide) dX8_init_48 (fun H locs hP hD hS => ?_)
  have hP : va_P D vwCl ([(h0, .inr (8, [.ref q_1, .ref q_2, .ref q_3, .int 0, .int 0, .int 0, .int 0, .int 0, .int 0, .int 0, .int 0, .int 0])), (q_1, .inl (cy 5, 8, .inr (.inr (.inr (.inr (va_up (va_up (va_up (va_up (va_up (va_up (va_up (fun _ => none) 0 (some q_4)) 1 (some q_6)) 2 (some q_8)) 3 (some q_10)) 4 (some q_12)) 5 (some q_14)) 6 (some q_16))))))), (q_2, .inl (cy 1, 3, .inl (fun _ => 0))), (q_3, .inl (cy 4, 3, .inr (.inr (.inr (.inr (fun _ => none)))))), (q_4, .inr (2, [.int 0, .int 0, .int 0, .int 0, .int 0, .int 0, .int 0, .int 0, .int 0, .int 0])), (q_6, .inr (2, [.int 0, .int 0, .int 0, .int 0, .int 0, .int 0, .int 0, .int 0, .int 0, .int 0])), (q_8, .inr (2, [.int 0, .int 0, .int 0, .int 0, .int 0, .int 0, .int 0, .int 0, .int 0, .int 0])), (q_10, .inr (2, [.int 0, .int 0, .int 0, .int 0, .int 0, .int 0, .int 0, .int 0, .int 0, .int 0])), (q_12, .inr (2, [.int 0, .int 0, .int 0, .int 0, .int 0, .int 0, .int 0, .int 0, .int 0, .int 0])), (q_14, .inr (2, [.int 0, .int 0, .int 0, .int 0, .int 0, .int 0, .int 0, .int 0, .int 0, .int 0])), (q_16, .inr (2, [.int 0, .int 0, .int 0, .int 0, .int 0, .int 0, .int 0, .int 0, .int 0, .int 0]))]) H := hP
  have hD : va_D As ([(h0, .inr (8, [.ref q_1, .ref q_2, .ref q_3, .int 0, .int 0, .int 0, .int 0, .int 0, .int 0, .int 0, .int 0, .int 0])), (q_1, .inl (cy 5, 8, .inr (.inr (.inr (.inr (va_up (va_up (va_up (va_up (va_up (va_up (va_up (fun _ => none) 0 (some q_4)) 1 (some q_6)) 2 (some q_8)) 3 (some q_10)) 4 (some q_12)) 5 (some q_14)) 6 (some q_16))))))), (q_2, .inl (cy 1, 3, .inl (fun _ => 0))), (q_3, .inl (cy 4, 3, .inr (.inr (.inr (.inr (fun _ => none)))))), (q_4, .inr (2, [.int 0, .int 0, .int 0, .int 0, .int 0, .int 0, .int 0, .int 0, .int 0, .int 0])), (q_6, .inr (2, [.int 0, .int 0, .int 0, .int 0, .int 0, .int 0, .int 0, .int 0, .int 0, .int 0])), (q_8, .inr (2, [.int 0, .int 0, .int 0, .int 0, .int 0, .int 0, .int 0, .int 0, .int 0, .int 0])), (q_10, .inr (2, [.int 0, .int 0, .int 0, .int 0, .int 0, .int 0, .int 0, .int 0, .int 0, .int 0])), (q_12, .inr (2, [.int 0, .int 0, .int 0, .int 0, .int 0, .int 0, .int 0, .int 0, .int 0, .int 0])), (q_14, .inr (2, [.int 0, .int 0, .int 0, .int 0, .int 0, .int 0, .int 0, .int 0, .int 0, .int 0])), (q_16, .inr (2, [.int 0, .int 0, .int 0, .int 0, .int 0, .int 0, .int 0, .int 0, .int 0, .int 0]))]) := hD
  refine lv_iinc (v := 7) (lv' := [(1, .int 7), (0, .ref h0)]) hx hb dX8_init_49 hl (k := 0) rfl (by decide) (by decide) rfl (fun ls hl => ?_)
  refine lv_goto (tgt := 30) hx hb dX8_init_52 (by decide) ?_
  refine lv_iload_n hx hb dX8_init_30 rfl (lv_at hl 0 rfl) ?_
  refine lv_bipush (v := 8) hx hb dX8_init_31 (by decide) ?_
  refine lv_icmp_ge (tgt := 55) hx hb dX8_init_33 (by decide) (fun c => absurd c (by decide)) (fun c => ?_)
  refine lv_aload_n hx hb dX8_init_36 rfl (lv_at hl 1 rfl) ?_
  refine va_get (D := D) (ci := 8) (v := .ref q_1) (C := RX8) (T := TX8) (N := 12) hx hb hts iw_8 hown hK hP 0 rfl rfl 0 (by decide) (hts _ fl_X8_11) (fun _ h9 => h9) rfl dX8_init_37 ?_
  refine lv_iload_n hx hb dX8_init_40 rfl (lv_at hl 0 rfl) ?_
  refine ti_nO (ci := 2) (fs := [.int 0, .int 0, .int 0, .int 0, .int 0, .int 0, .int 0, .int 0, .int 0, .int 0]) (T := TX2) (N := 10) tyX2 tyX2_ok C iw_2 ck_X8_9 is_X2 in_X2 rfl hP hD hS hA nf_2 11 94 (Nat.le_of_ble_eq_true rfl) (Nat.le_of_ble_eq_true rfl) ⟨Nat.le_of_ble_eq_true rfl, Nat.le_of_ble_eq_true rfl⟩ dX8_init_41 (fun q_18 H hP hD hS => ?_)
  refine lv_dup hx hb dX8_init_44 rfl ?_
  refine ti_callCN C (k_X2_init l D cy q_18 H.size) (nl_X8_27 hN) rfl ym_X2_init yi_X2_init yc_X2_init yd_X2_init hP hD hS hA hl.1 (Nat.le_of_ble_eq_true rfl) ⟨by decide, by decide⟩ 11 94 (Nat.le_of_ble_eq_true rfl) (Nat.le_of_ble_eq_true rfl) ⟨Nat.le_of_ble_eq_true rfl, Nat.le_of_ble_eq_true rfl⟩ dX8_init_45 (fun u_19 H locs hp_19 hPn hDn hSn => ?_)
  have hP : va_P D vwCl ([(h0, .inr (8, [.ref q_1, .ref q_2, .ref q_3, .int 0, .int 0, .int 0, .int 0, .int 0, .int 0, .int 0, .int 0, .int 0])), (q_1, .inl (cy 5, 8, .inr (.inr (.inr (.inr (va_up (va_up (va_up (va_up (va_up (va_up (va_up (fun _ => none) 0 (some q_4)) 1 (some q_6)) 2 (some q_8)) 3 (some q_10)) 4 (some q_12)) 5 (some q_14)) 6 (some q_16))))))), (q_2, .inl (cy 1, 3, .inl (fun _ => 0))), (q_3, .inl (cy 4, 3, .inr (.inr (.inr (.inr (fun _ => none)))))), (q_4, .inr (2, [.int 0, .int 0, .int 0, .int 0, .int 0, .int 0, .int 0, .int 0, .int 0, .int 0])), (q_6, .inr (2, [.int 0, .int 0, .int 0, .int 0, .int 0, .int 0, .int 0, .int 0, .int 0, .int 0])), (q_8, .inr (2, [.int 0, .int 0, .int 0, .int 0, .int 0, .int 0, .int 0, .int 0, .int 0, .int 0])), (q_10, .inr (2, [.int 0, .int 0, .int 0, .int 0, .int 0, .int 0, .int 0, .int 0, .int 0, .int 0])), (q_12, .inr (2, [.int 0, .int 0, .int 0, .int 0, .int 0, .int 0, .int 0, .int 0, .int 0, .int 0])), (q_14, .inr (2, [.int 0, .int 0, .int 0, .int 0, .int 0, .int 0, .int 0, .int 0, .int 0, .int 0])), (q_16, .inr (2, [.int 0, .int 0, .int 0, .int 0, .int 0, .int 0, .int 0, .int 0, .int 0, .int 0])), (q_18, .inr (2, [.int 0, .int 0, .int 0, .int 0, .int 0, .int 0, .int 0, .int 0, .int 0, .int 0]))]) H := hPn
  have hD : va_D As ([(h0, .inr (8, [.ref q_1, .ref q_2, .ref q_3, .int 0, .int 0, .int 0, .int 0, .int 0, .int 0, .int 0, .int 0, .int 0])), (q_1, .inl (cy 5, 8, .inr (.inr (.inr (.inr (va_up (va_up (va_up (va_up (va_up (va_up (va_up (fun _ => none) 0 (some q_4)) 1 (some q_6)) 2 (some q_8)) 3 (some q_10)) 4 (some q_12)) 5 (some q_14)) 6 (some q_16))))))), (q_2, .inl (cy 1, 3, .inl (fun _ => 0))), (q_3, .inl (cy 4, 3, .inr (.inr (.inr (.inr (fun _ => none)))))), (q_4, .inr (2, [.int 0, .int 0, .int 0, .int 0, .int 0, .int 0, .int 0, .int 0, .int 0, .int 0])), (q_6, .inr (2, [.int 0, .int 0, .int 0, .int 0, .int 0, .int 0, .int 0, .int 0, .int 0, .int 0])), (q_8, .inr (2, [.int 0, .int 0, .int 0, .int 0, .int 0, .int 0, .int 0, .int 0, .int 0, .int 0])), (q_10, .inr (2, [.int 0, .int 0, .int 0, .int 0, .int 0, .int 0, .int 0, .int 0, .int 0, .int 0])), (q_12, .inr (2, [.int 0, .int 0, .int 0, .int 0, .int 0, .int 0, .int 0, .int 0, .int 0, .int 0])), (q_14, .inr (2, [.int 0, .int 0, .int 0, .int 0, .int 0, .int 0, .int 0, .int 0, .int 0, .int 0])), (q_16, .inr (2, [.int 0, .int 0, .int 0, .int 0, .int 0, .int 0, .int 0, .int 0, .int 0, .int 0])), (q_18, .inr (2, [.int 0, .int 0, .int 0, .int 0, .int 0, .int 0, .int 0, .int 0, .int 0, .int 0]))]) := hDn
  have hS := hSn
  refine va_astq (f := (va_up (va_up (va_up (va_up (va_up (va_up (va_up (fun _ => none) 0 (some q_4)) 1 (some q_6)) 2 (some q_8)) 3 (some q_10)) 4 (some q_12)) 5 (some q_14)) 6 (some q_16))) hx hb hK hP hD hS 1 5 11 2 rfl rfl rfl rfl (by unfold vp_in; decide) dX8_init_48 (fun H locs hP hD hS => ?_)
  have hP : va_P D vwCl ([(h0, .inr (8, [.ref q_1, .ref q_2, .ref q_3, .int 0, .int 0, .int 0, .int 0, .int 0, .int 0, .int 0, .int 0, .int 0])), (q_1, .inl (cy 5, 8, .inr (.inr (.inr (.inr (va_up (va_up (va_up (va_up (va_up (va_up (va_up (va_up (fun _ => none) 0 (some q_4)) 1 (some q_6)) 2 (some q_8)) 3 (some q_10)) 4 (some q_12)) 5 (some q_14)) 6 (some q_16)) 7 (some q_18))))))), (q_2, .inl (cy 1, 3, .inl (fun _ => 0))), (q_3, .inl (cy 4, 3, .inr (.inr (.inr (.inr (fun _ => none)))))), (q_4, .inr (2, [.int 0, .int 0, .int 0, .int 0, .int 0, .int 0, .int 0, .int 0, .int 0, .int 0])), (q_6, .inr (2, [.int 0, .int 0, .int 0, .int 0, .int 0, .int 0, .int 0, .int 0, .int 0, .int 0])), (q_8, .inr (2, [.int 0, .int 0, .int 0, .int 0, .int 0, .int 0, .int 0, .int 0, .int 0, .int 0])), (q_10, .inr (2, [.int 0, .int 0, .int 0, .int 0, .int 0, .int 0, .int 0, .int 0, .int 0, .int 0])), (q_12, .inr (2, [.int 0, .int 0, .int 0, .int 0, .int 0, .int 0, .int 0, .int 0, .int 0, .int 0])), (q_14, .inr (2, [.int 0, .int 0, .int 0, .int 0, .int 0, .int 0, .int 0, .int 0, .int 0, .int 0])), (q_16, .inr (2, [.int 0, .int 0, .int 0, .int 0, .int 0, .int 0, .int 0, .int 0, .int 0, .int 0])), (q_18, .inr (2, [.int 0, .int 0, .int 0, .int 0, .int 0, .int 0, .int 0, .int 0, .int 0, .int 0]))]) H := hP
  have hD : va_D As ([(h0, .inr (8, [.ref q_1, .ref q_2, .ref q_3, .int 0, .int 0, .int 0, .int 0, .int 0, .int 0, .int 0, .int 0, .int 0])), (q_1, .inl (cy 5, 8, .inr (.inr (.inr (.inr (va_up (va_up (va_up (va_up (va_up (va_up (va_up (va_up (fun _ => none) 0 (some q_4)) 1 (some q_6)) 2 (some q_8)) 3 (some q_10)) 4 (some q_12)) 5 (some q_14)) 6 (some q_16)) 7 (some q_18))))))), (q_2, .inl (cy 1, 3, .inl (fun _ => 0))), (q_3, .inl (cy 4, 3, .inr (.inr (.inr (.inr (fun _ => none)))))), (q_4, .inr (2, [.int 0, .int 0, .int 0, .int 0, .int 0, .int 0, .int 0, .int 0, .int 0, .int 0])), (q_6, .inr (2, [.int 0, .int 0, .int 0, .int 0, .int 0, .int 0, .int 0, .int 0, .int 0, .int 0])), (q_8, .inr (2, [.int 0, .int 0, .int 0, .int 0, .int 0, .int 0, .int 0, .int 0, .int 0, .int 0])), (q_10, .inr (2, [.int 0, .int 0, .int 0, .int 0, .int 0, .int 0, .int 0, .int 0, .int 0, .int 0])), (q_12, .inr (2, [.int 0, .int 0, .int 0, .int 0, .int 0, .int 0, .int 0, .int 0, .int 0, .int 0])), (q_14, .inr (2, [.int 0, .int 0, .int 0, .int 0, .int 0, .int 0, .int 0, .int 0, .int 0, .int 0])), (q_16, .inr (2, [.int 0, .int 0, .int 0, .int 0, .int 0, .int 0, .int 0, .int 0, .int 0, .int 0])), (q_18, .inr (2, [.int 0, .int 0, .int 0, .int 0, .int 0, .int 0, .int 0, .int 0, .int 0, .int 0]))]) := hD
  refine lv_iinc (v := 8) (lv' := [(1, .int 8), (0, .ref h0)]) hx hb dX8_init_49 hl (k := 0) rfl (by decide) (by decide) rfl (fun ls hl => ?_)
  refine lv_goto (tgt := 30) hx hb dX8_init_52 (by decide) ?_
  refine lv_iload_n hx hb dX8_init_30 rfl (lv_at hl 0 rfl) ?_
  refine lv_bipush (v := 8) hx hb dX8_init_31 (by decide) ?_
  refine lv_icmp_ge (tgt := 55) hx hb dX8_init_33 (by decide) (fun c => ?_) (fun c => absurd (by decide) c)
  refine lv_iconst (v := 0) hx hb dX8_init_55 (by decide) ?_
  refine lv_istore_n (lv' := [(1, .int 0), (0, .ref h0)]) hx hb dX8_init_56 rfl hl (by decide) rfl (fun ls hl => ?_)
  refine lv_iload_n hx hb dX8_init_57 rfl (lv_at hl 0 rfl) ?_
  refine lv_iconst (v := 3) hx hb dX8_init_58 (by decide) ?_
  refine lv_icmp_ge (tgt := 81) hx hb dX8_init_59 (by decide) (fun c => absurd c (by decide)) (fun c => ?_)
  refine lv_aload_n hx hb dX8_init_62 rfl (lv_at hl 1 rfl) ?_
  refine va_get (D := D) (ci := 8) (v := .ref q_3) (C := RX8) (T := TX8) (N := 12) hx hb hts iw_8 hown hK hP 0 rfl rfl 2 (by decide) (hts _ fl_X8_23) (fun _ h9 => h9) rfl dX8_init_63 ?_
  refine lv_iload_n hx hb dX8_init_66 rfl (lv_at hl 0 rfl) ?_
  refine ti_nO (ci := 1) (fs := [.null, .null, .null, .int 0]) (T := TX1) (N := 4) tyX1 tyX1_ok C iw_1 ck_X8_21 is_X1 in_X1 rfl hP hD hS hA nf_1 12 98 (Nat.le_of_ble_eq_true rfl) (Nat.le_of_ble_eq_true rfl) ⟨Nat.le_of_ble_eq_true rfl, Nat.le_of_ble_eq_true rfl⟩ dX8_init_67 (fun q_20 H hP hD hS => ?_)
  refine lv_dup hx hb dX8_init_70 rfl ?_
  refine ti_callCN C (k_X1_init l D cy q_20 H.size) (nl_X8_28 hN) rfl ym_X1_init yi_X1_init yc_X1_init yd_X1_init hP hD hS hA hl.1 (Nat.le_of_ble_eq_true rfl) ⟨by decide, by decide⟩ 15 232 (Nat.le_of_ble_eq_true rfl) (Nat.le_of_ble_eq_true rfl) ⟨Nat.le_of_ble_eq_true rfl, Nat.le_of_ble_eq_true rfl⟩ dX8_init_71 (fun u_21 H locs hp_21 hPn hDn hSn => ?_)
  obtain rfl := hp_21
  have hP : va_P D vwCl ([(h0, .inr (8, [.ref q_1, .ref q_2, .ref q_3, .int 0, .int 0, .int 0, .int 0, .int 0, .int 0, .int 0, .int 0, .int 0])), (q_1, .inl (cy 5, 8, .inr (.inr (.inr (.inr (va_up (va_up (va_up (va_up (va_up (va_up (va_up (va_up (fun _ => none) 0 (some q_4)) 1 (some q_6)) 2 (some q_8)) 3 (some q_10)) 4 (some q_12)) 5 (some q_14)) 6 (some q_16)) 7 (some q_18))))))), (q_2, .inl (cy 1, 3, .inl (fun _ => 0))), (q_3, .inl (cy 4, 3, .inr (.inr (.inr (.inr (fun _ => none)))))), (q_4, .inr (2, [.int 0, .int 0, .int 0, .int 0, .int 0, .int 0, .int 0, .int 0, .int 0, .int 0])), (q_6, .inr (2, [.int 0, .int 0, .int 0, .int 0, .int 0, .int 0, .int 0, .int 0, .int 0, .int 0])), (q_8, .inr (2, [.int 0, .int 0, .int 0, .int 0, .int 0, .int 0, .int 0, .int 0, .int 0, .int 0])), (q_10, .inr (2, [.int 0, .int 0, .int 0, .int 0, .int 0, .int 0, .int 0, .int 0, .int 0, .int 0])), (q_12, .inr (2, [.int 0, .int 0, .int 0, .int 0, .int 0, .int 0, .int 0, .int 0, .int 0, .int 0])), (q_14, .inr (2, [.int 0, .int 0, .int 0, .int 0, .int 0, .int 0, .int 0, .int 0, .int 0, .int 0])), (q_16, .inr (2, [.int 0, .int 0, .int 0, .int 0, .int 0, .int 0, .int 0, .int 0, .int 0, .int 0])), (q_18, .inr (2, [.int 0, .int 0, .int 0, .int 0, .int 0, .int 0, .int 0, .int 0, .int 0, .int 0])), (u_21 0, .inr (1, [.ref (u_21 1), .ref (u_21 2), .ref (u_21 3), .int 0])), (u_21 1, .inl (cy 1, 64, .inl (fun _ => 0))), (u_21 2, .inl (cy 2, 64, .inr (.inl (fun _ => 0)))), (u_21 3, .inl (cy 2, 6, .inr (.inl (fun _ => 0))))]) H := hPn
  have hD : va_D As ([(h0, .inr (8, [.ref q_1, .ref q_2, .ref q_3, .int 0, .int 0, .int 0, .int 0, .int 0, .int 0, .int 0, .int 0, .int 0])), (q_1, .inl (cy 5, 8, .inr (.inr (.inr (.inr (va_up (va_up (va_up (va_up (va_up (va_up (va_up (va_up (fun _ => none) 0 (some q_4)) 1 (some q_6)) 2 (some q_8)) 3 (some q_10)) 4 (some q_12)) 5 (some q_14)) 6 (some q_16)) 7 (some q_18))))))), (q_2, .inl (cy 1, 3, .inl (fun _ => 0))), (q_3, .inl (cy 4, 3, .inr (.inr (.inr (.inr (fun _ => none)))))), (q_4, .inr (2, [.int 0, .int 0, .int 0, .int 0, .int 0, .int 0, .int 0, .int 0, .int 0, .int 0])), (q_6, .inr (2, [.int 0, .int 0, .int 0, .int 0, .int 0, .int 0, .int 0, .int 0, .int 0, .int 0])), (q_8, .inr (2, [.int 0, .int 0, .int 0, .int 0, .int 0, .int 0, .int 0, .int 0, .int 0, .int 0])), (q_10, .inr (2, [.int 0, .int 0, .int 0, .int 0, .int 0, .int 0, .int 0, .int 0, .int 0, .int 0])), (q_12, .inr (2, [.int 0, .int 0, .int 0, .int 0, .int 0, .int 0, .int 0, .int 0, .int 0, .int 0])), (q_14, .inr (2, [.int 0, .int 0, .int 0, .int 0, .int 0, .int 0, .int 0, .int 0, .int 0, .int 0])), (q_16, .inr (2, [.int 0, .int 0, .int 0, .int 0, .int 0, .int 0, .int 0, .int 0, .int 0, .int 0])), (q_18, .inr (2, [.int 0, .int 0, .int 0, .int 0, .int 0, .int 0, .int 0, .int 0, .int 0, .int 0])), (u_21 0, .inr (1, [.ref (u_21 1), .ref (u_21 2), .ref (u_21 3), .int 0])), (u_21 1, .inl (cy 1, 64, .inl (fun _ => 0))), (u_21 2, .inl (cy 2, 64, .inr (.inl (fun _ => 0)))), (u_21 3, .inl (cy 2, 6, .inr (.inl (fun _ => 0))))]) := hDn
  have hS := hSn
  refine va_astq (f := (fun _ => none)) hx hb hK hP hD hS 3 4 12 1 rfl rfl rfl rfl (by unfold vp_in; decide) dX8_init_74 (fun H locs hP hD hS => ?_)
  have hP : va_P D vwCl ([(h0, .inr (8, [.ref q_1, .ref q_2, .ref q_3, .int 0, .int 0, .int 0, .int 0, .int 0, .int 0, .int 0, .int 0, .int 0])), (q_1, .inl (cy 5, 8, .inr (.inr (.inr (.inr (va_up (va_up (va_up (va_up (va_up (va_up (va_up (va_up (fun _ => none) 0 (some q_4)) 1 (some q_6)) 2 (some q_8)) 3 (some q_10)) 4 (some q_12)) 5 (some q_14)) 6 (some q_16)) 7 (some q_18))))))), (q_2, .inl (cy 1, 3, .inl (fun _ => 0))), (q_3, .inl (cy 4, 3, .inr (.inr (.inr (.inr (va_up (fun _ => none) 0 (some (u_21 0)))))))), (q_4, .inr (2, [.int 0, .int 0, .int 0, .int 0, .int 0, .int 0, .int 0, .int 0, .int 0, .int 0])), (q_6, .inr (2, [.int 0, .int 0, .int 0, .int 0, .int 0, .int 0, .int 0, .int 0, .int 0, .int 0])), (q_8, .inr (2, [.int 0, .int 0, .int 0, .int 0, .int 0, .int 0, .int 0, .int 0, .int 0, .int 0])), (q_10, .inr (2, [.int 0, .int 0, .int 0, .int 0, .int 0, .int 0, .int 0, .int 0, .int 0, .int 0])), (q_12, .inr (2, [.int 0, .int 0, .int 0, .int 0, .int 0, .int 0, .int 0, .int 0, .int 0, .int 0])), (q_14, .inr (2, [.int 0, .int 0, .int 0, .int 0, .int 0, .int 0, .int 0, .int 0, .int 0, .int 0])), (q_16, .inr (2, [.int 0, .int 0, .int 0, .int 0, .int 0, .int 0, .int 0, .int 0, .int 0, .int 0])), (q_18, .inr (2, [.int 0, .int 0, .int 0, .int 0, .int 0, .int 0, .int 0, .int 0, .int 0, .int 0])), (u_21 0, .inr (1, [.ref (u_21 1), .ref (u_21 2), .ref (u_21 3), .int 0])), (u_21 1, .inl (cy 1, 64, .inl (fun _ => 0))), (u_21 2, .inl (cy 2, 64, .inr (.inl (fun _ => 0)))), (u_21 3, .inl (cy 2, 6, .inr (.inl (fun _ => 0))))]) H := hP
  have hD : va_D As ([(h0, .inr (8, [.ref q_1, .ref q_2, .ref q_3, .int 0, .int 0, .int 0, .int 0, .int 0, .int 0, .int 0, .int 0, .int 0])), (q_1, .inl (cy 5, 8, .inr (.inr (.inr (.inr (va_up (va_up (va_up (va_up (va_up (va_up (va_up (va_up (fun _ => none) 0 (some q_4)) 1 (some q_6)) 2 (some q_8)) 3 (some q_10)) 4 (some q_12)) 5 (some q_14)) 6 (some q_16)) 7 (some q_18))))))), (q_2, .inl (cy 1, 3, .inl (fun _ => 0))), (q_3, .inl (cy 4, 3, .inr (.inr (.inr (.inr (va_up (fun _ => none) 0 (some (u_21 0)))))))), (q_4, .inr (2, [.int 0, .int 0, .int 0, .int 0, .int 0, .int 0, .int 0, .int 0, .int 0, .int 0])), (q_6, .inr (2, [.int 0, .int 0, .int 0, .int 0, .int 0, .int 0, .int 0, .int 0, .int 0, .int 0])), (q_8, .inr (2, [.int 0, .int 0, .int 0, .int 0, .int 0, .int 0, .int 0, .int 0, .int 0, .int 0])), (q_10, .inr (2, [.int 0, .int 0, .int 0, .int 0, .int 0, .int 0, .int 0, .int 0, .int 0, .int 0])), (q_12, .inr (2, [.int 0, .int 0, .int 0, .int 0, .int 0, .int 0, .int 0, .int 0, .int 0, .int 0])), (q_14, .inr (2, [.int 0, .int 0, .int 0, .int 0, .int 0, .int 0, .int 0, .int 0, .int 0, .int 0])), (q_16, .inr (2, [.int 0, .int 0, .int 0, .int 0, .int 0, .int 0, .int 0, .int 0, .int 0, .int 0])), (q_18, .inr (2, [.int 0, .int 0, .int 0, .int 0, .int 0, .int 0, .int 0, .int 0, .int 0, .int 0])), (u_21 0, .inr (1, [.ref (u_21 1), .ref (u_21 2), .ref (u_21 3), .int 0])), (u_21 1, .inl (cy 1, 64, .inl (fun _ => 0))), (u_21 2, .inl (cy 2, 64, .inr (.inl (fun _ => 0)))), (u_21 3, .inl (cy 2, 6, .inr (.inl (fun _ => 0))))]) := hD
  refine lv_iinc (v := 1) (lv' := [(1, .int 1), (0, .ref h0)]) hx hb dX8_init_75 hl (k := 0) rfl (by decide) (by decide) rfl (fun ls hl => ?_)
  refine lv_goto (tgt := 57) hx hb dX8_init_78 (by decide) ?_
  refine lv_iload_n hx hb dX8_init_57 rfl (lv_at hl 0 rfl) ?_
  refine lv_iconst (v := 3) hx hb dX8_init_58 (by decide) ?_
  refine lv_icmp_ge (tgt := 81) hx hb dX8_init_59 (by decide) (fun c => absurd c (by decide)) (fun c => ?_)
  refine lv_aload_n hx hb dX8_init_62 rfl (lv_at hl 1 rfl) ?_
  refine va_get (D := D) (ci := 8) (v := .ref q_3) (C := RX8) (T := TX8) (N := 12) hx hb hts iw_8 hown hK hP 0 rfl rfl 2 (by decide) (hts _ fl_X8_23) (fun _ h9 => h9) rfl dX8_init_63 ?_
  refine lv_iload_n hx hb dX8_init_66 rfl (lv_at hl 0 rfl) ?_
  refine ti_nO (ci := 1) (fs := [.null, .null, .null, .int 0]) (T := TX1) (N := 4) tyX1 tyX1_ok C iw_1 ck_X8_21 is_X1 in_X1 rfl hP hD hS hA nf_1 16 236 (Nat.le_of_ble_eq_true rfl) (Nat.le_of_ble_eq_true rfl) ⟨Nat.le_of_ble_eq_true rfl, Nat.le_of_ble_eq_true rfl⟩ dX8_init_67 (fun q_22 H hP hD hS => ?_)
  refine lv_dup hx hb dX8_init_70 rfl ?_
  refine ti_callCN C (k_X1_init l D cy q_22 H.size) (nl_X8_28 hN) rfl ym_X1_init yi_X1_init yc_X1_init yd_X1_init hP hD hS hA hl.1 (Nat.le_of_ble_eq_true rfl) ⟨by decide, by decide⟩ 19 370 (Nat.le_of_ble_eq_true rfl) (Nat.le_of_ble_eq_true rfl) ⟨Nat.le_of_ble_eq_true rfl, Nat.le_of_ble_eq_true rfl⟩ dX8_init_71 (fun u_23 H locs hp_23 hPn hDn hSn => ?_)
  obtain rfl := hp_23
  have hP : va_P D vwCl ([(h0, .inr (8, [.ref q_1, .ref q_2, .ref q_3, .int 0, .int 0, .int 0, .int 0, .int 0, .int 0, .int 0, .int 0, .int 0])), (q_1, .inl (cy 5, 8, .inr (.inr (.inr (.inr (va_up (va_up (va_up (va_up (va_up (va_up (va_up (va_up (fun _ => none) 0 (some q_4)) 1 (some q_6)) 2 (some q_8)) 3 (some q_10)) 4 (some q_12)) 5 (some q_14)) 6 (some q_16)) 7 (some q_18))))))), (q_2, .inl (cy 1, 3, .inl (fun _ => 0))), (q_3, .inl (cy 4, 3, .inr (.inr (.inr (.inr (va_up (fun _ => none) 0 (some (u_21 0)))))))), (q_4, .inr (2, [.int 0, .int 0, .int 0, .int 0, .int 0, .int 0, .int 0, .int 0, .int 0, .int 0])), (q_6, .inr (2, [.int 0, .int 0, .int 0, .int 0, .int 0, .int 0, .int 0, .int 0, .int 0, .int 0])), (q_8, .inr (2, [.int 0, .int 0, .int 0, .int 0, .int 0, .int 0, .int 0, .int 0, .int 0, .int 0])), (q_10, .inr (2, [.int 0, .int 0, .int 0, .int 0, .int 0, .int 0, .int 0, .int 0, .int 0, .int 0])), (q_12, .inr (2, [.int 0, .int 0, .int 0, .int 0, .int 0, .int 0, .int 0, .int 0, .int 0, .int 0])), (q_14, .inr (2, [.int 0, .int 0, .int 0, .int 0, .int 0, .int 0, .int 0, .int 0, .int 0, .int 0])), (q_16, .inr (2, [.int 0, .int 0, .int 0, .int 0, .int 0, .int 0, .int 0, .int 0, .int 0, .int 0])), (q_18, .inr (2, [.int 0, .int 0, .int 0, .int 0, .int 0, .int 0, .int 0, .int 0, .int 0, .int 0])), (u_21 0, .inr (1, [.ref (u_21 1), .ref (u_21 2), .ref (u_21 3), .int 0])), (u_21 1, .inl (cy 1, 64, .inl (fun _ => 0))), (u_21 2, .inl (cy 2, 64, .inr (.inl (fun _ => 0)))), (u_21 3, .inl (cy 2, 6, .inr (.inl (fun _ => 0)))), (u_23 0, .inr (1, [.ref (u_23 1), .ref (u_23 2), .ref (u_23 3), .int 0])), (u_23 1, .inl (cy 1, 64, .inl (fun _ => 0))), (u_23 2, .inl (cy 2, 64, .inr (.inl (fun _ => 0)))), (u_23 3, .inl (cy 2, 6, .inr (.inl (fun _ => 0))))]) H := hPn
  have hD : va_D As ([(h0, .inr (8, [.ref q_1, .ref q_2, .ref q_3, .int 0, .int 0, .int 0, .int 0, .int 0, .int 0, .int 0, .int 0, .int 0])), (q_1, .inl (cy 5, 8, .inr (.inr (.inr (.inr (va_up (va_up (va_up (va_up (va_up (va_up (va_up (va_up (fun _ => none) 0 (some q_4)) 1 (some q_6)) 2 (some q_8)) 3 (some q_10)) 4 (some q_12)) 5 (some q_14)) 6 (some q_16)) 7 (some q_18))))))), (q_2, .inl (cy 1, 3, .inl (fun _ => 0))), (q_3, .inl (cy 4, 3, .inr (.inr (.inr (.inr (va_up (fun _ => none) 0 (some (u_21 0)))))))), (q_4, .inr (2, [.int 0, .int 0, .int 0, .int 0, .int 0, .int 0, .int 0, .int 0, .int 0, .int 0])), (q_6, .inr (2, [.int 0, .int 0, .int 0, .int 0, .int 0, .int 0, .int 0, .int 0, .int 0, .int 0])), (q_8, .inr (2, [.int 0, .int 0, .int 0, .int 0, .int 0, .int 0, .int 0, .int 0, .int 0, .int 0])), (q_10, .inr (2, [.int 0, .int 0, .int 0, .int 0, .int 0, .int 0, .int 0, .int 0, .int 0, .int 0])), (q_12, .inr (2, [.int 0, .int 0, .int 0, .int 0, .int 0, .int 0, .int 0, .int 0, .int 0, .int 0])), (q_14, .inr (2, [.int 0, .int 0, .int 0, .int 0, .int 0, .int 0, .int 0, .int 0, .int 0, .int 0])), (q_16, .inr (2, [.int 0, .int 0, .int 0, .int 0, .int 0, .int 0, .int 0, .int 0, .int 0, .int 0])), (q_18, .inr (2, [.int 0, .int 0, .int 0, .int 0, .int 0, .int 0, .int 0, .int 0, .int 0, .int 0])), (u_21 0, .inr (1, [.ref (u_21 1), .ref (u_21 2), .ref (u_21 3), .int 0])), (u_21 1, .inl (cy 1, 64, .inl (fun _ => 0))), (u_21 2, .inl (cy 2, 64, .inr (.inl (fun _ => 0)))), (u_21 3, .inl (cy 2, 6, .inr (.inl (fun _ => 0)))), (u_23 0, .inr (1, [.ref (u_23 1), .ref (u_23 2), .ref (u_23 3), .int 0])), (u_23 1, .inl (cy 1, 64, .inl (fun _ => 0))), (u_23 2, .inl (cy 2, 64, .inr (.inl (fun _ => 0)))), (u_23 3, .inl (cy 2, 6, .inr (.inl (fun _ => 0))))]) := hDn
  have hS := hSn
  refine va_astq (f := (va_up (fun _ => none) 0 (some (u_21 0)))) hx hb hK hP hD hS 3 4 16 1 rfl rfl rfl rfl (by unfold vp_in; decide) dX8_init_74 (fun H locs hP hD hS => ?_)
  have hP : va_P D vwCl ([(h0, .inr (8, [.ref q_1, .ref q_2, .ref q_3, .int 0, .int 0, .int 0, .int 0, .int 0, .int 0, .int 0, .int 0, .int 0])), (q_1, .inl (cy 5, 8, .inr (.inr (.inr (.inr (va_up (va_up (va_up (va_up (va_up (va_up (va_up (va_up (fun _ => none) 0 (some q_4)) 1 (some q_6)) 2 (some q_8)) 3 (some q_10)) 4 (some q_12)) 5 (some q_14)) 6 (some q_16)) 7 (some q_18))))))), (q_2, .inl (cy 1, 3, .inl (fun _ => 0))), (q_3, .inl (cy 4, 3, .inr (.inr (.inr (.inr (va_up (va_up (fun _ => none) 0 (some (u_21 0))) 1 (some (u_23 0)))))))), (q_4, .inr (2, [.int 0, .int 0, .int 0, .int 0, .int 0, .int 0, .int 0, .int 0, .int 0, .int 0])), (q_6, .inr (2, [.int 0, .int 0, .int 0, .int 0, .int 0, .int 0, .int 0, .int 0, .int 0, .int 0])), (q_8, .inr (2, [.int 0, .int 0, .int 0, .int 0, .int 0, .int 0, .int 0, .int 0, .int 0, .int 0])), (q_10, .inr (2, [.int 0, .int 0, .int 0, .int 0, .int 0, .int 0, .int 0, .int 0, .int 0, .int 0])), (q_12, .inr (2, [.int 0, .int 0, .int 0, .int 0, .int 0, .int 0, .int 0, .int 0, .int 0, .int 0])), (q_14, .inr (2, [.int 0, .int 0, .int 0, .int 0, .int 0, .int 0, .int 0, .int 0, .int 0, .int 0])), (q_16, .inr (2, [.int 0, .int 0, .int 0, .int 0, .int 0, .int 0, .int 0, .int 0, .int 0, .int 0])), (q_18, .inr (2, [.int 0, .int 0, .int 0, .int 0, .int 0, .int 0, .int 0, .int 0, .int 0, .int 0])), (u_21 0, .inr (1, [.ref (u_21 1), .ref (u_21 2), .ref (u_21 3), .int 0])), (u_21 1, .inl (cy 1, 64, .inl (fun _ => 0))), (u_21 2, .inl (cy 2, 64, .inr (.inl (fun _ => 0)))), (u_21 3, .inl (cy 2, 6, .inr (.inl (fun _ => 0)))), (u_23 0, .inr (1, [.ref (u_23 1), .ref (u_23 2), .ref (u_23 3), .int 0])), (u_23 1, .inl (cy 1, 64, .inl (fun _ => 0))), (u_23 2, .inl (cy 2, 64, .inr (.inl (fun _ => 0)))), (u_23 3, .inl (cy 2, 6, .inr (.inl (fun _ => 0))))]) H := hP
  have hD : va_D As ([(h0, .inr (8, [.ref q_1, .ref q_2, .ref q_3, .int 0, .int 0, .int 0, .int 0, .int 0, .int 0, .int 0, .int 0, .int 0])), (q_1, .inl (cy 5, 8, .inr (.inr (.inr (.inr (va_up (va_up (va_up (va_up (va_up (va_up (va_up (va_up (fun _ => none) 0 (some q_4)) 1 (some q_6)) 2 (some q_8)) 3 (some q_10)) 4 (some q_12)) 5 (some q_14)) 6 (some q_16)) 7 (some q_18))))))), (q_2, .inl (cy 1, 3, .inl (fun _ => 0))), (q_3, .inl (cy 4, 3, .inr (.inr (.inr (.inr (va_up (va_up (fun _ => none) 0 (some (u_21 0))) 1 (some (u_23 0)))))))), (q_4, .inr (2, [.int 0, .int 0, .int 0, .int 0, .int 0, .int 0, .int 0, .int 0, .int 0, .int 0])), (q_6, .inr (2, [.int 0, .int 0, .int 0, .int 0, .int 0, .int 0, .int 0, .int 0, .int 0, .int 0])), (q_8, .inr (2, [.int 0, .int 0, .int 0, .int 0, .int 0, .int 0, .int 0, .int 0, .int 0, .int 0])), (q_10, .inr (2, [.int 0, .int 0, .int 0, .int 0, .int 0, .int 0, .int 0, .int 0, .int 0, .int 0])), (q_12, .inr (2, [.int 0, .int 0, .int 0, .int 0, .int 0, .int 0, .int 0, .int 0, .int 0, .int 0])), (q_14, .inr (2, [.int 0, .int 0, .int 0, .int 0, .int 0, .int 0, .int 0, .int 0, .int 0, .int 0])), (q_16, .inr (2, [.int 0, .int 0, .int 0, .int 0, .int 0, .int 0, .int 0, .int 0, .int 0, .int 0])), (q_18, .inr (2, [.int 0, .int 0, .int 0, .int 0, .int 0, .int 0, .int 0, .int 0, .int 0, .int 0])), (u_21 0, .inr (1, [.ref (u_21 1), .ref (u_21 2), .ref (u_21 3), .int 0])), (u_21 1, .inl (cy 1, 64, .inl (fun _ => 0))), (u_21 2, .inl (cy 2, 64, .inr (.inl (fun _ => 0)))), (u_21 3, .inl (cy 2, 6, .inr (.inl (fun _ => 0)))), (u_23 0, .inr (1, [.ref (u_23 1), .ref (u_23 2), .ref (u_23 3), .int 0])), (u_23 1, .inl (cy 1, 64, .inl (fun _ => 0))), (u_23 2, .inl (cy 2, 64, .inr (.inl (fun _ => 0)))), (u_23 3, .inl (cy 2, 6, .inr (.inl (fun _ => 0))))]) := hD
  refine lv_iinc (v := 2) (lv' := [(1, .int 2), (0, .ref h0)]) hx hb dX8_init_75 hl (k := 0) rfl (by decide) (by decide) rfl (fun ls hl => ?_)
  refine lv_goto (tgt := 57) hx hb dX8_init_78 (by decide) ?_
  refine lv_iload_n hx hb dX8_init_57 rfl (lv_at hl 0 rfl) ?_
  refine lv_iconst (v := 3) hx hb dX8_init_58 (by decide) ?_
  refine lv_icmp_ge (tgt := 81) hx hb dX8_init_59 (by decide) (fun c => absurd c (by decide)) (fun c => ?_)
  refine lv_aload_n hx hb dX8_init_62 rfl (lv_at hl 1 rfl) ?_
  refine va_get (D := D) (ci := 8) (v := .ref q_3) (C := RX8) (T := TX8) (N := 12) hx hb hts iw_8 hown hK hP 0 rfl rfl 2 (by decide) (hts _ fl_X8_23) (fun _ h9 => h9) rfl dX8_init_63 ?_
  refine lv_iload_n hx hb dX8_init_66 rfl (lv_at hl 0 rfl) ?_
  refine ti_nO (ci := 1) (fs := [.null, .null, .null, .int 0]) (T := TX1) (N := 4) tyX1 tyX1_ok C iw_1 ck_X8_21 is_X1 in_X1 rfl hP hD hS hA nf_1 20 374 (Nat.le_of_ble_eq_true rfl) (Nat.le_of_ble_eq_true rfl) ⟨Nat.le_of_ble_eq_true rfl, Nat.le_of_ble_eq_true rfl⟩ dX8_init_67 (fun q_24 H hP hD hS => ?_)
  refine lv_dup hx hb dX8_init_70 rfl ?_
  refine ti_callCN C (k_X1_init l D cy q_24 H.size) (nl_X8_28 hN) rfl ym_X1_init yi_X1_init yc_X1_init yd_X1_init hP hD hS hA hl.1 (Nat.le_of_ble_eq_true rfl) ⟨by decide, by decide⟩ 23 508 (Nat.le_of_ble_eq_true rfl) (Nat.le_of_ble_eq_true rfl) ⟨Nat.le_of_ble_eq_true rfl, Nat.le_of_ble_eq_true rfl⟩ dX8_init_71 (fun u_25 H locs hp_25 hPn hDn hSn => ?_)
  obtain rfl := hp_25
  have hP : va_P D vwCl ([(h0, .inr (8, [.ref q_1, .ref q_2, .ref q_3, .int 0, .int 0, .int 0, .int 0, .int 0, .int 0, .int 0, .int 0, .int 0])), (q_1, .inl (cy 5, 8, .inr (.inr (.inr (.inr (va_up (va_up (va_up (va_up (va_up (va_up (va_up (va_up (fun _ => none) 0 (some q_4)) 1 (some q_6)) 2 (some q_8)) 3 (some q_10)) 4 (some q_12)) 5 (some q_14)) 6 (some q_16)) 7 (some q_18))))))), (q_2, .inl (cy 1, 3, .inl (fun _ => 0))), (q_3, .inl (cy 4, 3, .inr (.inr (.inr (.inr (va_up (va_up (fun _ => none) 0 (some (u_21 0))) 1 (some (u_23 0)))))))), (q_4, .inr (2, [.int 0, .int 0, .int 0, .int 0, .int 0, .int 0, .int 0, .int 0, .int 0, .int 0])), (q_6, .inr (2, [.int 0, .int 0, .int 0, .int 0, .int 0, .int 0, .int 0, .int 0, .int 0, .int 0])), (q_8, .inr (2, [.int 0, .int 0, .int 0, .int 0, .int 0, .int 0, .int 0, .int 0, .int 0, .int 0])), (q_10, .inr (2, [.int 0, .int 0, .int 0, .int 0, .int 0, .int 0, .int 0, .int 0, .int 0, .int 0])), (q_12, .inr (2, [.int 0, .int 0, .int 0, .int 0, .int 0, .int 0, .int 0, .int 0, .int 0, .int 0])), (q_14, .inr (2, [.int 0, .int 0, .int 0, .int 0, .int 0, .int 0, .int 0, .int 0, .int 0, .int 0])), (q_16, .inr (2, [.int 0, .int 0, .int 0, .int 0, .int 0, .int 0, .int 0, .int 0, .int 0, .int 0])), (q_18, .inr (2, [.int 0, .int 0, .int 0, .int 0, .int 0, .int 0, .int 0, .int 0, .int 0, .int 0])), (u_21 0, .inr (1, [.ref (u_21 1), .ref (u_21 2), .ref (u_21 3), .int 0])), (u_21 1, .inl (cy 1, 64, .inl (fun _ => 0))), (u_21 2, .inl (cy 2, 64, .inr (.inl (fun _ => 0)))), (u_21 3, .inl (cy 2, 6, .inr (.inl (fun _ => 0)))), (u_23 0, .inr (1, [.ref (u_23 1), .ref (u_23 2), .ref (u_23 3), .int 0])), (u_23 1, .inl (cy 1, 64, .inl (fun _ => 0))), (u_23 2, .inl (cy 2, 64, .inr (.inl (fun _ => 0)))), (u_23 3, .inl (cy 2, 6, .inr (.inl (fun _ => 0)))), (u_25 0, .inr (1, [.ref (u_25 1), .ref (u_25 2), .ref (u_25 3), .int 0])), (u_25 1, .inl (cy 1, 64, .inl (fun _ => 0))), (u_25 2, .inl (cy 2, 64, .inr (.inl (fun _ => 0)))), (u_25 3, .inl (cy 2, 6, .inr (.inl (fun _ => 0))))]) H := hPn
  have hD : va_D As ([(h0, .inr (8, [.ref q_1, .ref q_2, .ref q_3, .int 0, .int 0, .int 0, .int 0, .int 0, .int 0, .int 0, .int 0, .int 0])), (q_1, .inl (cy 5, 8, .inr (.inr (.inr (.inr (va_up (va_up (va_up (va_up (va_up (va_up (va_up (va_up (fun _ => none) 0 (some q_4)) 1 (some q_6)) 2 (some q_8)) 3 (some q_10)) 4 (some q_12)) 5 (some q_14)) 6 (some q_16)) 7 (some q_18))))))), (q_2, .inl (cy 1, 3, .inl (fun _ => 0))), (q_3, .inl (cy 4, 3, .inr (.inr (.inr (.inr (va_up (va_up (fun _ => none) 0 (some (u_21 0))) 1 (some (u_23 0)))))))), (q_4, .inr (2, [.int 0, .int 0, .int 0, .int 0, .int 0, .int 0, .int 0, .int 0, .int 0, .int 0])), (q_6, .inr (2, [.int 0, .int 0, .int 0, .int 0, .int 0, .int 0, .int 0, .int 0, .int 0, .int 0])), (q_8, .inr (2, [.int 0, .int 0, .int 0, .int 0, .int 0, .int 0, .int 0, .int 0, .int 0, .int 0])), (q_10, .inr (2, [.int 0, .int 0, .int 0, .int 0, .int 0, .int 0, .int 0, .int 0, .int 0, .int 0])), (q_12, .inr (2, [.int 0, .int 0, .int 0, .int 0, .int 0, .int 0, .int 0, .int 0, .int 0, .int 0])), (q_14, .inr (2, [.int 0, .int 0, .int 0, .int 0, .int 0, .int 0, .int 0, .int 0, .int 0, .int 0])), (q_16, .inr (2, [.int 0, .int 0, .int 0, .int 0, .int 0, .int 0, .int 0, .int 0, .int 0, .int 0])), (q_18, .inr (2, [.int 0, .int 0, .int 0, .int 0, .int 0, .int 0, .int 0, .int 0, .int 0, .int 0])), (u_21 0, .inr (1, [.ref (u_21 1), .ref (u_21 2), .ref (u_21 3), .int 0])), (u_21 1, .inl (cy 1, 64, .inl (fun _ => 0))), (u_21 2, .inl (cy 2, 64, .inr (.inl (fun _ => 0)))), (u_21 3, .inl (cy 2, 6, .inr (.inl (fun _ => 0)))), (u_23 0, .inr (1, [.ref (u_23 1), .ref (u_23 2), .ref (u_23 3), .int 0])), (u_23 1, .inl (cy 1, 64, .inl (fun _ => 0))), (u_23 2, .inl (cy 2, 64, .inr (.inl (fun _ => 0)))), (u_23 3, .inl (cy 2, 6, .inr (.inl (fun _ => 0)))), (u_25 0, .inr (1, [.ref (u_25 1), .ref (u_25 2), .ref (u_25 3), .int 0])), (u_25 1, .inl (cy 1, 64, .inl (fun _ => 0))), (u_25 2, .inl (cy 2, 64, .inr (.inl (fun _ => 0)))), (u_25 3, .inl (cy 2, 6, .inr (.inl (fun _ => 0))))]) := hDn
  have hS := hSn
  refine va_astq (f := (va_up (va_up (fun _ => none) 0 (some (u_21 0))) 1 (some (u_23 0)))) hx hb hK hP hD hS 3 4 20 1 rfl rfl rfl rfl (by unfold vp_in; decide) dX8_init_74 (fun H locs hP hD hS => ?_)
  have hP : va_P D vwCl ([(h0, .inr (8, [.ref q_1, .ref q_2, .ref q_3, .int 0, .int 0, .int 0, .int 0, .int 0, .int 0, .int 0, .int 0, .int 0])), (q_1, .inl (cy 5, 8, .inr (.inr (.inr (.inr (va_up (va_up (va_up (va_up (va_up (va_up (va_up (va_up (fun _ => none) 0 (some q_4)) 1 (some q_6)) 2 (some q_8)) 3 (some q_10)) 4 (some q_12)) 5 (some q_14)) 6 (some q_16)) 7 (some q_18))))))), (q_2, .inl (cy 1, 3, .inl (fun _ => 0))), (q_3, .inl (cy 4, 3, .inr (.inr (.inr (.inr (va_up (va_up (va_up (fun _ => none) 0 (some (u_21 0))) 1 (some (u_23 0))) 2 (some (u_25 0)))))))), (q_4, .inr (2, [.int 0, .int 0, .int 0, .int 0, .int 0, .int 0, .int 0, .int 0, .int 0, .int 0])), (q_6, .inr (2, [.int 0, .int 0, .int 0, .int 0, .int 0, .int 0, .int 0, .int 0, .int 0, .int 0])), (q_8, .inr (2, [.int 0, .int 0, .int 0, .int 0, .int 0, .int 0, .int 0, .int 0, .int 0, .int 0])), (q_10, .inr (2, [.int 0, .int 0, .int 0, .int 0, .int 0, .int 0, .int 0, .int 0, .int 0, .int 0])), (q_12, .inr (2, [.int 0, .int 0, .int 0, .int 0, .int 0, .int 0, .int 0, .int 0, .int 0, .int 0])), (q_14, .inr (2, [.int 0, .int 0, .int 0, .int 0, .int 0, .int 0, .int 0, .int 0, .int 0, .int 0])), (q_16, .inr (2, [.int 0, .int 0, .int 0, .int 0, .int 0, .int 0, .int 0, .int 0, .int 0, .int 0])), (q_18, .inr (2, [.int 0, .int 0, .int 0, .int 0, .int 0, .int 0, .int 0, .int 0, .int 0, .int 0])), (u_21 0, .inr (1, [.ref (u_21 1), .ref (u_21 2), .ref (u_21 3), .int 0])), (u_21 1, .inl (cy 1, 64, .inl (fun _ => 0))), (u_21 2, .inl (cy 2, 64, .inr (.inl (fun _ => 0)))), (u_21 3, .inl (cy 2, 6, .inr (.inl (fun _ => 0)))), (u_23 0, .inr (1, [.ref (u_23 1), .ref (u_23 2), .ref (u_23 3), .int 0])), (u_23 1, .inl (cy 1, 64, .inl (fun _ => 0))), (u_23 2, .inl (cy 2, 64, .inr (.inl (fun _ => 0)))), (u_23 3, .inl (cy 2, 6, .inr (.inl (fun _ => 0)))), (u_25 0, .inr (1, [.ref (u_25 1), .ref (u_25 2), .ref (u_25 3), .int 0])), (u_25 1, .inl (cy 1, 64, .inl (fun _ => 0))), (u_25 2, .inl (cy 2, 64, .inr (.inl (fun _ => 0)))), (u_25 3, .inl (cy 2, 6, .inr (.inl (fun _ => 0))))]) H := hP
  have hD : va_D As ([(h0, .inr (8, [.ref q_1, .ref q_2, .ref q_3, .int 0, .int 0, .int 0, .int 0, .int 0, .int 0, .int 0, .int 0, .int 0])), (q_1, .inl (cy 5, 8, .inr (.inr (.inr (.inr (va_up (va_up (va_up (va_up (va_up (va_up (va_up (va_up (fun _ => none) 0 (some q_4)) 1 (some q_6)) 2 (some q_8)) 3 (some q_10)) 4 (some q_12)) 5 (some q_14)) 6 (some q_16)) 7 (some q_18))))))), (q_2, .inl (cy 1, 3, .inl (fun _ => 0))), (q_3, .inl (cy 4, 3, .inr (.inr (.inr (.inr (va_up (va_up (va_up (fun _ => none) 0 (some (u_21 0))) 1 (some (u_23 0))) 2 (some (u_25 0)))))))), (q_4, .inr (2, [.int 0, .int 0, .int 0, .int 0, .int 0, .int 0, .int 0, .int 0, .int 0, .int 0])), (q_6, .inr (2, [.int 0, .int 0, .int 0, .int 0, .int 0, .int 0, .int 0, .int 0, .int 0, .int 0])), (q_8, .inr (2, [.int 0, .int 0, .int 0, .int 0, .int 0, .int 0, .int 0, .int 0, .int 0, .int 0])), (q_10, .inr (2, [.int 0, .int 0, .int 0, .int 0, .int 0, .int 0, .int 0, .int 0, .int 0, .int 0])), (q_12, .inr (2, [.int 0, .int 0, .int 0, .int 0, .int 0, .int 0, .int 0, .int 0, .int 0, .int 0])), (q_14, .inr (2, [.int 0, .int 0, .int 0, .int 0, .int 0, .int 0, .int 0, .int 0, .int 0, .int 0])), (q_16, .inr (2, [.int 0, .int 0, .int 0, .int 0, .int 0, .int 0, .int 0, .int 0, .int 0, .int 0])), (q_18, .inr (2, [.int 0, .int 0, .int 0, .int 0, .int 0, .int 0, .int 0, .int 0, .int 0, .int 0])), (u_21 0, .inr (1, [.ref (u_21 1), .ref (u_21 2), .ref (u_21 3), .int 0])), (u_21 1, .inl (cy 1, 64, .inl (fun _ => 0))), (u_21 2, .inl (cy 2, 64, .inr (.inl (fun _ => 0)))), (u_21 3, .inl (cy 2, 6, .inr (.inl (fun _ => 0)))), (u_23 0, .inr (1, [.ref (u_23 1), .ref (u_23 2), .ref (u_23 3), .int 0])), (u_23 1, .inl (cy 1, 64, .inl (fun _ => 0))), (u_23 2, .inl (cy 2, 64, .inr (.inl (fun _ => 0)))), (u_23 3, .inl (cy 2, 6, .inr (.inl (fun _ => 0)))), (u_25 0, .inr (1, [.ref (u_25 1), .ref (u_25 2), .ref (u_25 3), .int 0])), (u_25 1, .inl (cy 1, 64, .inl (fun _ => 0))), (u_25 2, .inl (cy 2, 64, .inr (.inl (fun _ => 0)))), (u_25 3, .inl (cy 2, 6, .inr (.inl (fun _ => 0))))]) := hD
  refine lv_iinc (v := 3) (lv' := [(1, .int 3), (0, .ref h0)]) hx hb dX8_init_75 hl (k := 0) rfl (by decide) (by decide) rfl (fun ls hl => ?_)
  refine lv_goto (tgt := 57) hx hb dX8_init_78 (by decide) ?_
  refine lv_iload_n hx hb dX8_init_57 rfl (lv_at hl 0 rfl) ?_
  refine lv_iconst (v := 3) hx hb dX8_init_58 (by decide) ?_
  refine lv_icmp_ge (tgt := 81) hx hb dX8_init_59 (by decide) (fun c => ?_) (fun c => absurd (by decide) c)
  refine lv_aload_n hx hb dX8_init_81 rfl (lv_at hl 1 rfl) ?_
  obtain ⟨A3, hA3⟩ : ∃ A3 : Nat → Nat → Nat, A3 = (fun o j : Nat => if o = 3 then (if j = 0 then h0 else if j = 1 then q_1 else if j = 2 then q_2 else q_3) else if o = 5 then q_4 else if o = 6 then q_6 else if o = 7 then q_8 else if o = 8 then q_10 else if o = 9 then q_12 else if o = 10 then q_14 else if o = 11 then q_16 else if o = 12 then q_18 else if o = 21 then u_21 j else if o = 22 then u_23 j else if o = 23 then u_25 j else (fun _ => 0) 0) := ⟨_, rfl⟩
  have hWW : ti_W ti_L3 A3 cy ti_M00 = [(h0, .inr (8, [.ref q_1, .ref q_2, .ref q_3, .int 0, .int 0, .int 0, .int 0, .int 0, .int 0, .int 0, .int 0, .int 0])), (q_1, .inl (cy 5, 8, .inr (.inr (.inr (.inr (va_up (va_up (va_up (va_up (va_up (va_up (va_up (va_up (fun _ => none) 0 (some q_4)) 1 (some q_6)) 2 (some q_8)) 3 (some q_10)) 4 (some q_12)) 5 (some q_14)) 6 (some q_16)) 7 (some q_18))))))), (q_2, .inl (cy 1, 3, .inl (fun _ => 0))), (q_3, .inl (cy 4, 3, .inr (.inr (.inr (.inr (va_up (va_up (va_up (fun _ => none) 0 (some (u_21 0))) 1 (some (u_23 0))) 2 (some (u_25 0)))))))), (q_4, .inr (2, [.int 0, .int 0, .int 0, .int 0, .int 0, .int 0, .int 0, .int 0, .int 0, .int 0])), (q_6, .inr (2, [.int 0, .int 0, .int 0, .int 0, .int 0, .int 0, .int 0, .int 0, .int 0, .int 0])), (q_8, .inr (2, [.int 0, .int 0, .int 0, .int 0, .int 0, .int 0, .int 0, .int 0, .int 0, .int 0])), (q_10, .inr (2, [.int 0, .int 0, .int 0, .int 0, .int 0, .int 0, .int 0, .int 0, .int 0, .int 0])), (q_12, .inr (2, [.int 0, .int 0, .int 0, .int 0, .int 0, .int 0, .int 0, .int 0, .int 0, .int 0])), (q_14, .inr (2, [.int 0, .int 0, .int 0, .int 0, .int 0, .int 0, .int 0, .int 0, .int 0, .int 0])), (q_16, .inr (2, [.int 0, .int 0, .int 0, .int 0, .int 0, .int 0, .int 0, .int 0, .int 0, .int 0])), (q_18, .inr (2, [.int 0, .int 0, .int 0, .int 0, .int 0, .int 0, .int 0, .int 0, .int 0, .int 0])), (u_21 0, .inr (1, [.ref (u_21 1), .ref (u_21 2), .ref (u_21 3), .int 0])), (u_21 1, .inl (cy 1, 64, .inl (fun _ => 0))), (u_21 2, .inl (cy 2, 64, .inr (.inl (fun _ => 0)))), (u_21 3, .inl (cy 2, 6, .inr (.inl (fun _ => 0)))), (u_23 0, .inr (1, [.ref (u_23 1), .ref (u_23 2), .ref (u_23 3), .int 0])), (u_23 1, .inl (cy 1, 64, .inl (fun _ => 0))), (u_23 2, .inl (cy 2, 64, .inr (.inl (fun _ => 0)))), (u_23 3, .inl (cy 2, 6, .inr (.inl (fun _ => 0)))), (u_25 0, .inr (1, [.ref (u_25 1), .ref (u_25 2), .ref (u_25 3), .int 0])), (u_25 1, .inl (cy 1, 64, .inl (fun _ => 0))), (u_25 2, .inl (cy 2, 64, .inr (.inl (fun _ => 0)))), (u_25 3, .inl (cy 2, 6, .inr (.inl (fun _ => 0))))] := by rw [hA3]; rfl
  have h00 : A3 3 0 = h0 := by rw [hA3]; rfl
  rw [← hWW] at hP hD
  refine W.eq (g2 := F0 m 82 ls [.ref (A3 3 0)]) (by rw [h00]) ?_
  refine ti_callCV (av := []) (ci := 8) (o := 3) C ti_L3_nd (fun hJ => k_clearL l D A3 cy hJ ti_M00) ⟨ml_X8_29, ym_X8_clear, yv_X8_clear, yi_X8_clear, yc_X8_clear⟩ yd_X8_clear ob3_3 (by decide) rfl rfl hP hD hS hl.1 (Nat.le_of_ble_eq_true rfl) ⟨by decide, by decide⟩ ⟨Nat.le_of_ble_eq_true rfl, Nat.le_of_ble_eq_true rfl⟩ dX8_init_82 (fun M2 H locs hp hP hD hS => ?_)
  obtain ⟨g1, g2, g3, rfl, hg0, hg1, hg2⟩ := hp
  exact hQ (A3, g1, g2, g3) _ _ _ _ ⟨h00, hg0, hg1, hg2⟩ hP hD hS dX8_init_85
end
section
variable {Tc : gC} {Tm : gM}
def ti_rg (cy : Nat → ClassId) (B : Nat → Nat → Nat) : Nat → va_W | 0 => [] | n + 1 => ti_rg cy B n ++ ti_qb cy (B n)
def ti_rwB (B : Nat → Nat → Nat) : Nat → (Nat → Option Nat) | 0 => fun _ => none | n + 1 => va_up (ti_rwB B n) n (some (B n 0))
theorem ti_rg_c (cy : Nat → ClassId) (B B2 : Nat → Nat → Nat) : ∀ n, (∀ j, j < n → B2 j = B j) → ti_rg cy B2 n = ti_rg cy B n ∧ ti_rwB B2 n = ti_rwB B n := by
  intro n
  induction n with
  | zero => intro _; exact ⟨rfl, rfl⟩
  | succ n ih => intro h; have h1 := ih (fun j hj => h j (by omega)); simp only [ti_rg, ti_rwB, h1.1, h1.2, h n (by omega)]; exact ⟨trivial, trivial⟩
/-- the steps and their ring -/
def ti_pb (cy : Nat → ClassId) (u : Nat × Nat × (Nat → Nat → Nat)) : va_W := (u.1, .inr (5, [.ref u.2.1, .int 0, .int 0])) :: (u.2.1, .inl (cy 6, 20, .inr (.inr (.inr (.inr (ti_rwB u.2.2 20)))))) :: ti_rg cy u.2.2 20
set_option maxHeartbeats 8000000 in
set_option maxRecDepth 100000 in
theorem k_X5_init (l : Launch) (D : va_G) (cy : Nat → ClassId) (h0 sz : Nat) : ti_Kc l yX5_init cX5_init 2 2 241 2020 D cy h0 sz (.inr (5, [.null, .int 0, .int 0])) (fun u : Nat × Nat × (Nat → Nat → Nat) => u.1 = h0) (fun u => ti_pb cy u) := by
  refine ti_eC yp_X5_init (by decide) rfl ?_
  intro p e s m args below meth c Q H0 As C hQ hP hD hS hA ls hl
  have hx := C.1
  have hb := C.2.1
  have hts := C.2.2.1
  have hown := C.2.2.2.1
  have hK := C.2.2.2.2.1
  have hml := C.2.2.2.2.2.1
  have hin := C.2.2.2.2.2.2.1
  have hN := C.2.2.2.2.2.2.2
  refine lv_aload_n hx hb dX5_init_0 rfl (lv_at hl 0 rfl) ?_
  refine W.objInit hx hb hown (hts _ oi_X5_3) (hts _ oi_m) (hts _ oi_c) rfl (by rw [hml]; exact hl.1) rfl dX5_init_1 (Nat.le_of_ble_eq_true rfl) (Nat.le_of_ble_eq_true rfl) ?_
  refine W.eq (g2 := F0 m 4 ls []) rfl ?_
  refine lv_aload_n hx hb dX5_init_4 rfl (lv_at hl 0 rfl) ?_
  refine lv_bipush (v := 20) hx hb dX5_init_5 (by decide) ?_
  refine ti_nQ (Cn := RX3) (N' := 20) 6 C ck_X5_9 (ao_RX3 hN) rfl hP hD hS hA (by decide) (by decide) (Nat.le_of_ble_eq_true rfl) 1 20 (Nat.le_of_ble_eq_true rfl) (Nat.le_of_ble_eq_true rfl) ⟨Nat.le_of_ble_eq_true rfl, Nat.le_of_ble_eq_true rfl⟩ dX5_init_7 (fun q_1 H hP hD hS => ?_)
  have hP : va_P D vwCl ([(h0, .inr (5, [.null, .int 0, .int 0])), (q_1, .inl (cy 6, 20, .inr (.inr (.inr (.inr (fun _ => none))))))]) H := hP
  have hD : va_D As ([(h0, .inr (5, [.null, .int 0, .int 0])), (q_1, .inl (cy 6, 20, .inr (.inr (.inr (.inr (fun _ => none))))))]) := hD
  refine va_putF (D := D) (ci := 5) (v := .ref q_1) (ty := (.array (.object "ThirdInLine$Queue"))) (C := RX5) (T := TX5) (N := 3) hx hb hts iw_5 tyX5 tyX5_ok nmX5 hown hK hP hD hS 0 rfl rfl 0 (by decide) (hts _ fl_X5_11) (fun _ h9 => h9) rfl hin rfl (by decide +kernel) rfl rfl (Nat.le_of_ble_eq_true rfl) dX5_init_10 (fun H locs hP hD hS => ?_)
  have hP : va_P D vwCl ([(h0, .inr (5, [.ref q_1, .int 0, .int 0])), (q_1, .inl (cy 6, 20, .inr (.inr (.inr (.inr (fun _ => none))))))]) H := hP
  have hD : va_D As ([(h0, .inr (5, [.ref q_1, .int 0, .int 0])), (q_1, .inl (cy 6, 20, .inr (.inr (.inr (.inr (fun _ => none))))))]) := hD
  refine lv_aload_n hx hb dX5_init_13 rfl (lv_at hl 0 rfl) ?_
  refine lv_iconst (v := 0) hx hb dX5_init_14 (by decide) ?_
  refine va_put (D := D) (ci := 5) (v := .int 0) (ty := .int) (C := RX5) (T := TX5) (N := 3) hx hb hts iw_5 tyX5 tyX5_ok nmX5 hown hK hP hD hS 0 rfl rfl 1 (by decide) (hts _ fl_X5_17) (fun _ h9 => h9) rfl (by decide +kernel) rfl rfl (Nat.le_of_ble_eq_true rfl) dX5_init_15 (fun H locs hP hD hS => ?_)
  have hP : va_P D vwCl ([(h0, .inr (5, [.ref q_1, .int 0, .int 0])), (q_1, .inl (cy 6, 20, .inr (.inr (.inr (.inr (fun _ => none))))))]) H := hP
  have hD : va_D As ([(h0, .inr (5, [.ref q_1, .int 0, .int 0])), (q_1, .inl (cy 6, 20, .inr (.inr (.inr (.inr (fun _ => none))))))]) := hD
  refine lv_aload_n hx hb dX5_init_18 rfl (lv_at hl 0 rfl) ?_
  refine lv_iconst (v := 0) hx hb dX5_init_19 (by decide) ?_
  refine va_put (D := D) (ci := 5) (v := .int 0) (ty := .int) (C := RX5) (T := TX5) (N := 3) hx hb hts iw_5 tyX5 tyX5_ok nmX5 hown hK hP hD hS 0 rfl rfl 2 (by decide) (hts _ fl_X5_21) (fun _ h9 => h9) rfl (by decide +kernel) rfl rfl (Nat.le_of_ble_eq_true rfl) dX5_init_20 (fun H locs hP hD hS => ?_)
  have hP : va_P D vwCl ([(h0, .inr (5, [.ref q_1, .int 0, .int 0])), (q_1, .inl (cy 6, 20, .inr (.inr (.inr (.inr (fun _ => none))))))]) H := hP
  have hD : va_D As ([(h0, .inr (5, [.ref q_1, .int 0, .int 0])), (q_1, .inl (cy 6, 20, .inr (.inr (.inr (.inr (fun _ => none))))))]) := hD
  refine lv_iconst (v := 0) hx hb dX5_init_23 (by decide) ?_
  refine lv_istore_n (lv' := [(1, .int 0), (0, .ref h0)]) hx hb dX5_init_24 rfl hl (by decide) rfl (fun ls hl => ?_)
  suffices hloop : ∀ (n i : Nat) (B : Nat → Nat → Nat) (H : Heap) (locs : List Loc) (ls : Array Slot), 20 < i + n → i ≤ 20 → va_P D vwCl ((h0, .inr (5, [.ref q_1, .int 0, .int 0])) :: (q_1, .inl (cy 6, 20, .inr (.inr (.inr (.inr (ti_rwB B i)))))) :: ti_rg cy B i) H → va_D As ((h0, .inr (5, [.ref q_1, .int 0, .int 0])) :: (q_1, .inl (cy 6, 20, .inr (.inr (.inr (.inr (ti_rwB B i)))))) :: ti_rg cy B i) → va_S As H0 H locs → lv_has ls 2 [(1, .int (nI i)), (0, .ref h0)] → W p l e (ti_rmc 2 241 2020) s m args below meth c H locs (1 + 12 * i) (20 + 100 * i) Q (F0 m 25 ls []) from
    hloop 21 0 (fun _ _ => 0) _ _ _ (by omega) (by omega) hP hD hS hl
  clear hP hD hS hl ls
  intro n
  induction n with
  | zero => intro i B H locs ls h1 h2; omega
  | succ n ih =>
    intro i B H locs ls hf hi hP hD hS hl
    refine lv_iload_n hx hb dX5_init_25 rfl (lv_at hl 0 rfl) ?_
    refine lv_bipush (v := 20) hx hb dX5_init_26 (by decide) ?_
    refine lv_icmp_ge (tgt := 50) hx hb dX5_init_28 (by decide) (fun c_28 => ?_) (fun c_28 => ?_)
    · have he : i = 20 := by
        have := (nI_leI (a := 20) (b := i) (by decide) (by omega)).mp c_28
        omega
      subst he
      exact hQ (h0, q_1, B) _ _ _ _ rfl hP hD hS dX5_init_50
    · have hlt : i < 20 := by
        rcases Nat.lt_or_ge i 20 with q | q
        · exact q
        · exact absurd ((nI_leI (a := 20) (b := i) (by decide) (by omega)).mpr q) c_28
      refine lv_aload_n hx hb dX5_init_31 rfl (lv_at hl 1 rfl) ?_
      refine va_get (D := D) (ci := 5) (v := .ref q_1) (C := RX5) (T := TX5) (N := 3) hx hb hts iw_5 hown hK hP 0 rfl rfl 0 (by decide) (hts _ fl_X5_11) (fun _ h9 => h9) rfl dX5_init_32 ?_
      refine lv_iload_n hx hb dX5_init_35 rfl (lv_at hl 0 rfl) ?_
      refine ti_nO (ci := 3) (fs := [.null, .int 0, .int 0, .int 0, .int 0, .int 0, .null, .null, .null, .null, .null, .null, .null, .null, .null, .null, .null]) (T := TX3) (N := 17) tyX3 tyX3_ok C iw_3 ck_X5_9 is_X3 in_X3 rfl hP hD hS hA nf_3 (2 + 12 * i) (37 + 100 * i) (by omega) (by omega) ⟨by show 2 + 12 * i ≤ 241; omega, by show 37 + 100 * i ≤ 2020; omega⟩ dX5_init_36 (fun q H hP hD hS => ?_)
      refine lv_dup hx hb dX5_init_39 rfl ?_
      refine ti_callCN C (k_X3_init l D cy q H.size) (nl_X5_24 hN) rfl ym_X3_init yi_X3_init yc_X3_init yd_X3_init hP hD hS hA hl.1 (Nat.le_of_ble_eq_true rfl) ⟨by decide, by decide⟩ (13 + 12 * i) (120 + 100 * i) (by omega) (by omega) ⟨by show 13 + 12 * i ≤ 241; omega, by show 120 + 100 * i ≤ 2020; omega⟩ dX5_init_40 (fun u H locs hp hPn hDn hSn => ?_)
      obtain rfl := hp
      refine va_astq (f := ti_rwB B i) hx hb hK hPn hDn hSn 1 6 ((h0, .inr (5, [.ref q_1, .int 0, .int 0])) :: (q_1, .inl (cy 6, 20, .inr (.inr (.inr (.inr (ti_rwB B i)))))) :: ti_rg cy B i : va_W).length 3 rfl rfl (by rw [List.getElem?_append_right (Nat.le_refl _), Nat.sub_self]; rfl) rfl (vp_in_nI hlt (by decide)) dX5_init_43 (fun H locs hP hD hS => ?_)
      rw [nI_clamp (by omega)] at hP hD
      have hc := ti_rg_c cy B (fun j => if j = i then u else B j) i (fun j hj => if_neg (by omega))
      have e1 : ti_rwB (fun j => if j = i then u else B j) (i + 1) = va_up (ti_rwB B i) i (some (u 0)) := by simp only [ti_rwB, hc.2, if_pos rfl]; rfl
      have e2 : ti_rg cy (fun j => if j = i then u else B j) (i + 1) = ti_rg cy B i ++ ti_qb cy u := by simp only [ti_rg, hc.1, if_true]
      refine lv_iinc (v := nI (i + 1)) (lv' := [(1, .int (nI (i + 1))), (0, .ref h0)]) hx hb dX5_init_44 hl (k := 0) rfl (nI_1 i) (by decide) rfl (fun ls hl => ?_)
      refine lv_goto (tgt := 25) hx hb dX5_init_47 (by decide) ?_
      refine W.widen (k := 1 + 12 * (i + 1)) (n := 20 + 100 * (i + 1)) (by omega) (by omega) ?_
      exact ih (i + 1) (fun j => if j = i then u else B j) _ _ _ (by omega) hlt (by rw [e1, e2]; exact hP) (by rw [e1, e2]; exact hD) hS hl
end
section
variable {Tc : gC} {Tm : gM}
def ti_Lq (o : Nat) : List (Nat × Nat) := [(o, 0), (o, 7), (o, 8), (o, 9), (o, 10), (o, 11), (o, 12), (o, 13), (o, 14), (o, 15), (o, 16), (o, 17)]
def ti_L4 : List (Nat × Nat) := [(4, 0), (4, 1), (4, 2), (4, 3), (13, 0), (14, 0), (15, 0), (16, 0), (17, 0), (18, 0), (19, 0), (20, 0), (24, 0), (24, 1), (24, 2), (24, 3), (25, 0), (25, 1), (25, 2), (25, 3), (26, 0), (26, 1), (26, 2), (26, 3)]
theorem ti_W_app (L1 L2 : List (Nat × Nat)) (A : Nat → Nat → Nat) (cy : Nat → ClassId) (M : ti_M) : ti_W (L1 ++ L2) A cy M = ti_W L1 A cy M ++ ti_W L2 A cy M := List.map_append
theorem ti_qb_eq {A : Nat → Nat → Nat} {cy : Nat → ClassId} {M : ti_M} (o : Nat) (b : Nat → Nat) (hc : ti_cls o = 3) (hb : A o = b) (hT : tT M o 0 = none) (h1 : tI M o 1 = 0) (h2 : tI M o 2 = 0) (h3 : tI M o 3 = 0) (h4 : tI M o 4 = 0) (h5 : tI M o 5 = 0) (h6 : tY M o 6 = fun _ => 0) (h7 : tY M o 7 = fun _ => 0) (h8 : tY M o 8 = fun _ => 0) (h9 : tY M o 9 = fun _ => 0) (h10 : tY M o 10 = fun _ => 0) (h11 : tY M o 11 = fun _ => 0) (h12 : tY M o 12 = fun _ => 0) (h13 : tY M o 13 = fun _ => 0) (h14 : tY M o 14 = fun _ => 0) (h15 : tY M o 15 = fun _ => 0) (h16 : tY M o 16 = fun _ => 0) : ti_W (ti_Lq o) A cy M = ti_qb cy b := by
  simp only [ti_W, ti_Lq, List.map, ti_G, hc, ti_fs, ti_ar, hT, h1, h2, h3, h4, h5, h6, h7, h8, h9, h10, h11, h12, h13, h14, h15, h16, hb, ti_qb]
  rfl
def ti_A (h0 qp : Nat) (ur : Nat × (Nat → Nat)) (A3 A4 : Nat → Nat → Nat) (u27 : Nat → Nat) (us : Nat × Nat × (Nat → Nat → Nat)) (u49 : Nat → Nat) (ust uc : (Nat → Nat) × (Nat → Nat) × (Nat → Nat)) : Nat → Nat → Nat := fun o j =>
  if o = 0 then (if j = 0 then h0 else qp) else if o = 1 then ur.1 else if o = 2 then ur.2 j else if o = 3 then A3 3 j else if o = 4 then A4 3 j else if o ≤ 12 then A3 o j else if o ≤ 20 then A4 (o - 8) j else if o ≤ 23 then A3 o j else if o ≤ 26 then A4 (o - 3) j else if o = 27 then u27 j else if o = 28 then (if j = 0 then us.1 else us.2.1) else if o ≤ 48 then us.2.2 (o - 29) j else if o = 49 then u49 j else if o = 50 then ust.1 j else if o = 51 then ust.2.1 j else if o = 52 then ust.2.2 j else if o = 53 then uc.1 j else if o = 54 then uc.2.1 j else uc.2.2 j
def ti_clr4 (M : ti_M) (g_1 g_2 g_3 : Nat → Int32) : ti_M := (uI (uI (uI (uY (uY (uY (uI (uI (uI (uI (uI (uI (uI (uI (uI M 4 3 0) 4 4 0) 4 5 0) 4 6 200) 4 7 2) 4 8 10) 4 9 3) 4 10 0) 4 11 0) 4 1 g_1) 4 1 g_2) 4 1 g_3) 24 3 0) 25 3 0) 26 3 0)
def ti_M0 (a b c d e f : Nat → Int32) : ti_M := ti_clr4 (ti_clr (uT (uT (uI (uI ti_M00 1 5 (-1)) 50 6 (-1)) 0 1 (some 3)) 0 2 (some 4)) a b c) d e f
theorem ti_LT_eq : ti_LT = [(0, 0)] ++ ([(1, 0), (2, 0), (2, 1)] ++ (ti_L3 ++ (ti_L4 ++ (ti_Lq 27 ++ ([(0, 5)] ++ ([(28, 0), (28, 1)] ++ (ti_Lq 29 ++ (ti_Lq 30 ++ (ti_Lq 31 ++ (ti_Lq 32 ++ (ti_Lq 33 ++ (ti_Lq 34 ++ (ti_Lq 35 ++ (ti_Lq 36 ++ (ti_Lq 37 ++ (ti_Lq 38 ++ (ti_Lq 39 ++ (ti_Lq 40 ++ (ti_Lq 41 ++ (ti_Lq 42 ++ (ti_Lq 43 ++ (ti_Lq 44 ++ (ti_Lq 45 ++ (ti_Lq 46 ++ (ti_Lq 47 ++ (ti_Lq 48 ++ (ti_Lq 49 ++ ([(50, 0), (50, 1), (50, 2), (50, 3), (50, 4), (50, 9), (50, 10)] ++ (ti_Lq 51 ++ (ti_Lq 52 ++ ([(53, 0)] ++ (ti_Lq 54 ++ (ti_Lq 55 ++ ([(53, 3), (53, 4), (53, 5)])))))))))))))))))))))))))))))))))) := by decide +kernel
set_option maxRecDepth 100000 in
theorem bq_27 (cy : Nat → ClassId) (h0 qp : Nat) (ur : Nat × (Nat → Nat)) (A3 A4 : Nat → Nat → Nat) (u27 : Nat → Nat) (us : Nat × Nat × (Nat → Nat → Nat)) (u49 : Nat → Nat) (ust uc : (Nat → Nat) × (Nat → Nat) × (Nat → Nat)) (a b c d e f : Nat → Int32) : ti_W (ti_Lq 27) (ti_A h0 qp ur A3 A4 u27 us u49 ust uc) cy (ti_M0 a b c d e f) = ti_qb cy u27 := ti_qb_eq 27 _ rfl rfl rfl rfl rfl rfl rfl rfl rfl rfl rfl rfl rfl rfl rfl rfl rfl rfl rfl
set_option maxRecDepth 100000 in
theorem bq_29 (cy : Nat → ClassId) (h0 qp : Nat) (ur : Nat × (Nat → Nat)) (A3 A4 : Nat → Nat → Nat) (u27 : Nat → Nat) (us : Nat × Nat × (Nat → Nat → Nat)) (u49 : Nat → Nat) (ust uc : (Nat → Nat) × (Nat → Nat) × (Nat → Nat)) (a b c d e f : Nat → Int32) : ti_W (ti_Lq 29) (ti_A h0 qp ur A3 A4 u27 us u49 ust uc) cy (ti_M0 a b c d e f) = ti_qb cy (us.2.2 0) := ti_qb_eq 29 _ rfl rfl rfl rfl rfl rfl rfl rfl rfl rfl rfl rfl rfl rfl rfl rfl rfl rfl rfl
set_option maxRecDepth 100000 in
theorem bq_30 (cy : Nat → ClassId) (h0 qp : Nat) (ur : Nat × (Nat → Nat)) (A3 A4 : Nat → Nat → Nat) (u27 : Nat → Nat) (us : Nat × Nat × (Nat → Nat → Nat)) (u49 : Nat → Nat) (ust uc : (Nat → Nat) × (Nat → Nat) × (Nat → Nat)) (a b c d e f : Nat → Int32) : ti_W (ti_Lq 30) (ti_A h0 qp ur A3 A4 u27 us u49 ust uc) cy (ti_M0 a b c d e f) = ti_qb cy (us.2.2 1) := ti_qb_eq 30 _ rfl rfl rfl rfl rfl rfl rfl rfl rfl rfl rfl rfl rfl rfl rfl rfl rfl rfl rfl
set_option maxRecDepth 100000 in
theorem bq_31 (cy : Nat → ClassId) (h0 qp : Nat) (ur : Nat × (Nat → Nat)) (A3 A4 : Nat → Nat → Nat) (u27 : Nat → Nat) (us : Nat × Nat × (Nat → Nat → Nat)) (u49 : Nat → Nat) (ust uc : (Nat → Nat) × (Nat → Nat) × (Nat → Nat)) (a b c d e f : Nat → Int32) : ti_W (ti_Lq 31) (ti_A h0 qp ur A3 A4 u27 us u49 ust uc) cy (ti_M0 a b c d e f) = ti_qb cy (us.2.2 2) := ti_qb_eq 31 _ rfl rfl rfl rfl rfl rfl rfl rfl rfl rfl rfl rfl rfl rfl rfl rfl rfl rfl rfl
set_option maxRecDepth 100000 in
theorem bq_32 (cy : Nat → ClassId) (h0 qp : Nat) (ur : Nat × (Nat → Nat)) (A3 A4 : Nat → Nat → Nat) (u27 : Nat → Nat) (us : Nat × Nat × (Nat → Nat → Nat)) (u49 : Nat → Nat) (ust uc : (Nat → Nat) × (Nat → Nat) × (Nat → Nat)) (a b c d e f : Nat → Int32) : ti_W (ti_Lq 32) (ti_A h0 qp ur A3 A4 u27 us u49 ust uc) cy (ti_M0 a b c d e f) = ti_qb cy (us.2.2 3) := ti_qb_eq 32 _ rfl rfl rfl rfl rfl rfl rfl rfl rfl rfl rfl rfl rfl rfl rfl rfl rfl rfl rfl
set_option maxRecDepth 100000 in
theorem bq_33 (cy : Nat → ClassId) (h0 qp : Nat) (ur : Nat × (Nat → Nat)) (A3 A4 : Nat → Nat → Nat) (u27 : Nat → Nat) (us : Nat × Nat × (Nat → Nat → Nat)) (u49 : Nat → Nat) (ust uc : (Nat → Nat) × (Nat → Nat) × (Nat → Nat)) (a b c d e f : Nat → Int32) : ti_W (ti_Lq 33) (ti_A h0 qp ur A3 A4 u27 us u49 ust uc) cy (ti_M0 a b c d e f) = ti_qb cy (us.2.2 4) := ti_qb_eq 33 _ rfl rfl rfl rfl rfl rfl rfl rfl rfl rfl rfl rfl rfl rfl rfl rfl rfl rfl rfl
set_option maxRecDepth 100000 in
theorem bq_34 (cy : Nat → ClassId) (h0 qp : Nat) (ur : Nat × (Nat → Nat)) (A3 A4 : Nat → Nat → Nat) (u27 : Nat → Nat) (us : Nat × Nat × (Nat → Nat → Nat)) (u49 : Nat → Nat) (ust uc : (Nat → Nat) × (Nat → Nat) × (Nat → Nat)) (a b c d e f : Nat → Int32) : ti_W (ti_Lq 34) (ti_A h0 qp ur A3 A4 u27 us u49 ust uc) cy (ti_M0 a b c d e f) = ti_qb cy (us.2.2 5) := ti_qb_eq 34 _ rfl rfl rfl rfl rfl rfl rfl rfl rfl rfl rfl rfl rfl rfl rfl rfl rfl rfl rfl
set_option maxRecDepth 100000 in
theorem bq_35 (cy : Nat → ClassId) (h0 qp : Nat) (ur : Nat × (Nat → Nat)) (A3 A4 : Nat → Nat → Nat) (u27 : Nat → Nat) (us : Nat × Nat × (Nat → Nat → Nat)) (u49 : Nat → Nat) (ust uc : (Nat → Nat) × (Nat → Nat) × (Nat → Nat)) (a b c d e f : Nat → Int32) : ti_W (ti_Lq 35) (ti_A h0 qp ur A3 A4 u27 us u49 ust uc) cy (ti_M0 a b c d e f) = ti_qb cy (us.2.2 6) := ti_qb_eq 35 _ rfl rfl rfl rfl rfl rfl rfl rfl rfl rfl rfl rfl rfl rfl rfl rfl rfl rfl rfl
set_option maxRecDepth 100000 in
theorem bq_36 (cy : Nat → ClassId) (h0 qp : Nat) (ur : Nat × (Nat → Nat)) (A3 A4 : Nat → Nat → Nat) (u27 : Nat → Nat) (us : Nat × Nat × (Nat → Nat → Nat)) (u49 : Nat → Nat) (ust uc : (Nat → Nat) × (Nat → Nat) × (Nat → Nat)) (a b c d e f : Nat → Int32) : ti_W (ti_Lq 36) (ti_A h0 qp ur A3 A4 u27 us u49 ust uc) cy (ti_M0 a b c d e f) = ti_qb cy (us.2.2 7) := ti_qb_eq 36 _ rfl rfl rfl rfl rfl rfl rfl rfl rfl rfl rfl rfl rfl rfl rfl rfl rfl rfl rfl
set_option maxRecDepth 100000 in
theorem bq_37 (cy : Nat → ClassId) (h0 qp : Nat) (ur : Nat × (Nat → Nat)) (A3 A4 : Nat → Nat → Nat) (u27 : Nat → Nat) (us : Nat × Nat × (Nat → Nat → Nat)) (u49 : Nat → Nat) (ust uc : (Nat → Nat) × (Nat → Nat) × (Nat → Nat)) (a b c d e f : Nat → Int32) : ti_W (ti_Lq 37) (ti_A h0 qp ur A3 A4 u27 us u49 ust uc) cy (ti_M0 a b c d e f) = ti_qb cy (us.2.2 8) := ti_qb_eq 37 _ rfl rfl rfl rfl rfl rfl rfl rfl rfl rfl rfl rfl rfl rfl rfl rfl rfl rfl rfl
set_option maxRecDepth 100000 in
theorem bq_38 (cy : Nat → ClassId) (h0 qp : Nat) (ur : Nat × (Nat → Nat)) (A3 A4 : Nat → Nat → Nat) (u27 : Nat → Nat) (us : Nat × Nat × (Nat → Nat → Nat)) (u49 : Nat → Nat) (ust uc : (Nat → Nat) × (Nat → Nat) × (Nat → Nat)) (a b c d e f : Nat → Int32) : ti_W (ti_Lq 38) (ti_A h0 qp ur A3 A4 u27 us u49 ust uc) cy (ti_M0 a b c d e f) = ti_qb cy (us.2.2 9) := ti_qb_eq 38 _ rfl rfl rfl rfl rfl rfl rfl rfl rfl rfl rfl rfl rfl rfl rfl rfl rfl rfl rfl
set_option maxRecDepth 100000 in
theorem bq_39 (cy : Nat → ClassId) (h0 qp : Nat) (ur : Nat × (Nat → Nat)) (A3 A4 : Nat → Nat → Nat) (u27 : Nat → Nat) (us : Nat × Nat × (Nat → Nat → Nat)) (u49 : Nat → Nat) (ust uc : (Nat → Nat) × (Nat → Nat) × (Nat → Nat)) (a b c d e f : Nat → Int32) : ti_W (ti_Lq 39) (ti_A h0 qp ur A3 A4 u27 us u49 ust uc) cy (ti_M0 a b c d e f) = ti_qb cy (us.2.2 10) := ti_qb_eq 39 _ rfl rfl rfl rfl rfl rfl rfl rfl rfl rfl rfl rfl rfl rfl rfl rfl rfl rfl rfl
set_option maxRecDepth 100000 in
theorem bq_40 (cy : Nat → ClassId) (h0 qp : Nat) (ur : Nat × (Nat → Nat)) (A3 A4 : Nat → Nat → Nat) (u27 : Nat → Nat) (us : Nat × Nat × (Nat → Nat → Nat)) (u49 : Nat → Nat) (ust uc : (Nat → Nat) × (Nat → Nat) × (Nat → Nat)) (a b c d e f : Nat → Int32) : ti_W (ti_Lq 40) (ti_A h0 qp ur A3 A4 u27 us u49 ust uc) cy (ti_M0 a b c d e f) = ti_qb cy (us.2.2 11) := ti_qb_eq 40 _ rfl rfl rfl rfl rfl rfl rfl rfl rfl rfl rfl rfl rfl rfl rfl rfl rfl rfl rfl
set_option maxRecDepth 100000 in
theorem bq_41 (cy : Nat → ClassId) (h0 qp : Nat) (ur : Nat × (Nat → Nat)) (A3 A4 : Nat → Nat → Nat) (u27 : Nat → Nat) (us : Nat × Nat × (Nat → Nat → Nat)) (u49 : Nat → Nat) (ust uc : (Nat → Nat) × (Nat → Nat) × (Nat → Nat)) (a b c d e f : Nat → Int32) : ti_W (ti_Lq 41) (ti_A h0 qp ur A3 A4 u27 us u49 ust uc) cy (ti_M0 a b c d e f) = ti_qb cy (us.2.2 12) := ti_qb_eq 41 _ rfl rfl rfl rfl rfl rfl rfl rfl rfl rfl rfl rfl rfl rfl rfl rfl rfl rfl rfl
set_option maxRecDepth 100000 in
theorem bq_42 (cy : Nat → ClassId) (h0 qp : Nat) (ur : Nat × (Nat → Nat)) (A3 A4 : Nat → Nat → Nat) (u27 : Nat → Nat) (us : Nat × Nat × (Nat → Nat → Nat)) (u49 : Nat → Nat) (ust uc : (Nat → Nat) × (Nat → Nat) × (Nat → Nat)) (a b c d e f : Nat → Int32) : ti_W (ti_Lq 42) (ti_A h0 qp ur A3 A4 u27 us u49 ust uc) cy (ti_M0 a b c d e f) = ti_qb cy (us.2.2 13) := ti_qb_eq 42 _ rfl rfl rfl rfl rfl rfl rfl rfl rfl rfl rfl rfl rfl rfl rfl rfl rfl rfl rfl
set_option maxRecDepth 100000 in
theorem bq_43 (cy : Nat → ClassId) (h0 qp : Nat) (ur : Nat × (Nat → Nat)) (A3 A4 : Nat → Nat → Nat) (u27 : Nat → Nat) (us : Nat × Nat × (Nat → Nat → Nat)) (u49 : Nat → Nat) (ust uc : (Nat → Nat) × (Nat → Nat) × (Nat → Nat)) (a b c d e f : Nat → Int32) : ti_W (ti_Lq 43) (ti_A h0 qp ur A3 A4 u27 us u49 ust uc) cy (ti_M0 a b c d e f) = ti_qb cy (us.2.2 14) := ti_qb_eq 43 _ rfl rfl rfl rfl rfl rfl rfl rfl rfl rfl rfl rfl rfl rfl rfl rfl rfl rfl rfl
set_option maxRecDepth 100000 in
theorem bq_44 (cy : Nat → ClassId) (h0 qp : Nat) (ur : Nat × (Nat → Nat)) (A3 A4 : Nat → Nat → Nat) (u27 : Nat → Nat) (us : Nat × Nat × (Nat → Nat → Nat)) (u49 : Nat → Nat) (ust uc : (Nat → Nat) × (Nat → Nat) × (Nat → Nat)) (a b c d e f : Nat → Int32) : ti_W (ti_Lq 44) (ti_A h0 qp ur A3 A4 u27 us u49 ust uc) cy (ti_M0 a b c d e f) = ti_qb cy (us.2.2 15) := ti_qb_eq 44 _ rfl rfl rfl rfl rfl rfl rfl rfl rfl rfl rfl rfl rfl rfl rfl rfl rfl rfl rfl
set_option maxRecDepth 100000 in
theorem bq_45 (cy : Nat → ClassId) (h0 qp : Nat) (ur : Nat × (Nat → Nat)) (A3 A4 : Nat → Nat → Nat) (u27 : Nat → Nat) (us : Nat × Nat × (Nat → Nat → Nat)) (u49 : Nat → Nat) (ust uc : (Nat → Nat) × (Nat → Nat) × (Nat → Nat)) (a b c d e f : Nat → Int32) : ti_W (ti_Lq 45) (ti_A h0 qp ur A3 A4 u27 us u49 ust uc) cy (ti_M0 a b c d e f) = ti_qb cy (us.2.2 16) := ti_qb_eq 45 _ rfl rfl rfl rfl rfl rfl rfl rfl rfl rfl rfl rfl rfl rfl rfl rfl rfl rfl rfl
set_option maxRecDepth 100000 in
theorem bq_46 (cy : Nat → ClassId) (h0 qp : Nat) (ur : Nat × (Nat → Nat)) (A3 A4 : Nat → Nat → Nat) (u27 : Nat → Nat) (us : Nat × Nat × (Nat → Nat → Nat)) (u49 : Nat → Nat) (ust uc : (Nat → Nat) × (Nat → Nat) × (Nat → Nat)) (a b c d e f : Nat → Int32) : ti_W (ti_Lq 46) (ti_A h0 qp ur A3 A4 u27 us u49 ust uc) cy (ti_M0 a b c d e f) = ti_qb cy (us.2.2 17) := ti_qb_eq 46 _ rfl rfl rfl rfl rfl rfl rfl rfl rfl rfl rfl rfl rfl rfl rfl rfl rfl rfl rfl
set_option maxRecDepth 100000 in
theorem bq_47 (cy : Nat → ClassId) (h0 qp : Nat) (ur : Nat × (Nat → Nat)) (A3 A4 : Nat → Nat → Nat) (u27 : Nat → Nat) (us : Nat × Nat × (Nat → Nat → Nat)) (u49 : Nat → Nat) (ust uc : (Nat → Nat) × (Nat → Nat) × (Nat → Nat)) (a b c d e f : Nat → Int32) : ti_W (ti_Lq 47) (ti_A h0 qp ur A3 A4 u27 us u49 ust uc) cy (ti_M0 a b c d e f) = ti_qb cy (us.2.2 18) := ti_qb_eq 47 _ rfl rfl rfl rfl rfl rfl rfl rfl rfl rfl rfl rfl rfl rfl rfl rfl rfl rfl rfl
set_option maxRecDepth 100000 in
theorem bq_48 (cy : Nat → ClassId) (h0 qp : Nat) (ur : Nat × (Nat → Nat)) (A3 A4 : Nat → Nat → Nat) (u27 : Nat → Nat) (us : Nat × Nat × (Nat → Nat → Nat)) (u49 : Nat → Nat) (ust uc : (Nat → Nat) × (Nat → Nat) × (Nat → Nat)) (a b c d e f : Nat → Int32) : ti_W (ti_Lq 48) (ti_A h0 qp ur A3 A4 u27 us u49 ust uc) cy (ti_M0 a b c d e f) = ti_qb cy (us.2.2 19) := ti_qb_eq 48 _ rfl rfl rfl rfl rfl rfl rfl rfl rfl rfl rfl rfl rfl rfl rfl rfl rfl rfl rfl
set_option maxRecDepth 100000 in
theorem bq_49 (cy : Nat → ClassId) (h0 qp : Nat) (ur : Nat × (Nat → Nat)) (A3 A4 : Nat → Nat → Nat) (u27 : Nat → Nat) (us : Nat × Nat × (Nat → Nat → Nat)) (u49 : Nat → Nat) (ust uc : (Nat → Nat) × (Nat → Nat) × (Nat → Nat)) (a b c d e f : Nat → Int32) : ti_W (ti_Lq 49) (ti_A h0 qp ur A3 A4 u27 us u49 ust uc) cy (ti_M0 a b c d e f) = ti_qb cy u49 := ti_qb_eq 49 _ rfl rfl rfl rfl rfl rfl rfl rfl rfl rfl rfl rfl rfl rfl rfl rfl rfl rfl rfl
set_option maxRecDepth 100000 in
theorem bq_51 (cy : Nat → ClassId) (h0 qp : Nat) (ur : Nat × (Nat → Nat)) (A3 A4 : Nat → Nat → Nat) (u27 : Nat → Nat) (us : Nat × Nat × (Nat → Nat → Nat)) (u49 : Nat → Nat) (ust uc : (Nat → Nat) × (Nat → Nat) × (Nat → Nat)) (a b c d e f : Nat → Int32) : ti_W (ti_Lq 51) (ti_A h0 qp ur A3 A4 u27 us u49 ust uc) cy (ti_M0 a b c d e f) = ti_qb cy ust.2.1 := ti_qb_eq 51 _ rfl rfl rfl rfl rfl rfl rfl rfl rfl rfl rfl rfl rfl rfl rfl rfl rfl rfl rfl
set_option maxRecDepth 100000 in
theorem bq_52 (cy : Nat → ClassId) (h0 qp : Nat) (ur : Nat × (Nat → Nat)) (A3 A4 : Nat → Nat → Nat) (u27 : Nat → Nat) (us : Nat × Nat × (Nat → Nat → Nat)) (u49 : Nat → Nat) (ust uc : (Nat → Nat) × (Nat → Nat) × (Nat → Nat)) (a b c d e f : Nat → Int32) : ti_W (ti_Lq 52) (ti_A h0 qp ur A3 A4 u27 us u49 ust uc) cy (ti_M0 a b c d e f) = ti_qb cy ust.2.2 := ti_qb_eq 52 _ rfl rfl rfl rfl rfl rfl rfl rfl rfl rfl rfl rfl rfl rfl rfl rfl rfl rfl rfl
set_option maxRecDepth 100000 in
theorem bq_54 (cy : Nat → ClassId) (h0 qp : Nat) (ur : Nat × (Nat → Nat)) (A3 A4 : Nat → Nat → Nat) (u27 : Nat → Nat) (us : Nat × Nat × (Nat → Nat → Nat)) (u49 : Nat → Nat) (ust uc : (Nat → Nat) × (Nat → Nat) × (Nat → Nat)) (a b c d e f : Nat → Int32) : ti_W (ti_Lq 54) (ti_A h0 qp ur A3 A4 u27 us u49 ust uc) cy (ti_M0 a b c d e f) = ti_qb cy uc.2.1 := ti_qb_eq 54 _ rfl rfl rfl rfl rfl rfl rfl rfl rfl rfl rfl rfl rfl rfl rfl rfl rfl rfl rfl
set_option maxRecDepth 100000 in
theorem bq_55 (cy : Nat → ClassId) (h0 qp : Nat) (ur : Nat × (Nat → Nat)) (A3 A4 : Nat → Nat → Nat) (u27 : Nat → Nat) (us : Nat × Nat × (Nat → Nat → Nat)) (u49 : Nat → Nat) (ust uc : (Nat → Nat) × (Nat → Nat) × (Nat → Nat)) (a b c d e f : Nat → Int32) : ti_W (ti_Lq 55) (ti_A h0 qp ur A3 A4 u27 us u49 ust uc) cy (ti_M0 a b c d e f) = ti_qb cy uc.2.2 := ti_qb_eq 55 _ rfl rfl rfl rfl rfl rfl rfl rfl rfl rfl rfl rfl rfl rfl rfl rfl rfl rfl rfl
set_option maxRecDepth 100000 in
theorem bt_3 (cy : Nat → ClassId) (h0 qp : Nat) (ur : Nat × (Nat → Nat)) (A3 A4 : Nat → Nat → Nat) (u27 : Nat → Nat) (us : Nat × Nat × (Nat → Nat → Nat)) (u49 : Nat → Nat) (ust uc : (Nat → Nat) × (Nat → Nat) × (Nat → Nat)) (a b c d e f : Nat → Int32) : ti_W ti_L3 (ti_A h0 qp ur A3 A4 u27 us u49 ust uc) cy (ti_M0 a b c d e f) = ti_W ti_L3 A3 cy (ti_clr ti_M00 a b c) := rfl
set_option maxRecDepth 100000 in
theorem bt_4 (cy : Nat → ClassId) (h0 qp : Nat) (ur : Nat × (Nat → Nat)) (A3 A4 : Nat → Nat → Nat) (u27 : Nat → Nat) (us : Nat × Nat × (Nat → Nat → Nat)) (u49 : Nat → Nat) (ust uc : (Nat → Nat) × (Nat → Nat) × (Nat → Nat)) (a b c d e f : Nat → Int32) : ti_W ti_L4 (ti_A h0 qp ur A3 A4 u27 us u49 ust uc) cy (ti_M0 a b c d e f) = ti_W ti_L3 A4 cy (ti_clr ti_M00 d e f) := rfl
set_option maxRecDepth 100000 in
set_option maxHeartbeats 8000000 in
theorem ti_W_all (cy : Nat → ClassId) (h0 qp : Nat) (ur : Nat × (Nat → Nat)) (A3 A4 : Nat → Nat → Nat) (u27 : Nat → Nat) (us : Nat × Nat × (Nat → Nat → Nat)) (u49 : Nat → Nat) (ust uc : (Nat → Nat) × (Nat → Nat) × (Nat → Nat)) (a b c d e f : Nat → Int32) : ti_W ti_LT (ti_A h0 qp ur A3 A4 u27 us u49 ust uc) cy (ti_M0 a b c d e f) = (h0, .inr (9, [.ref ur.1, .ref (A3 3 0), .ref (A4 3 0), .ref (u27 0), .ref qp, .ref us.1, .ref (u49 0), .int 0, .ref (ust.1 0), .ref (uc.1 0)])) :: (ti_rb cy ur ++ (ti_W ti_L3 A3 cy (ti_clr ti_M00 a b c) ++ (ti_W ti_L3 A4 cy (ti_clr ti_M00 d e f) ++ (ti_qb cy u27 ++ ((qp, .inl (cy 1, 360, .inl (fun _ => 0))) :: (ti_pb cy us ++ (ti_qb cy u49 ++ (ti_sb cy ust ++ ti_cb cy uc)))))))) := by
  have hp : ti_pb cy us = ti_W [(28, 0), (28, 1)] (ti_A h0 qp ur A3 A4 u27 us u49 ust uc) cy (ti_M0 a b c d e f) ++ (ti_qb cy (us.2.2 0) ++ (ti_qb cy (us.2.2 1) ++ (ti_qb cy (us.2.2 2) ++ (ti_qb cy (us.2.2 3) ++ (ti_qb cy (us.2.2 4) ++ (ti_qb cy (us.2.2 5) ++ (ti_qb cy (us.2.2 6) ++ (ti_qb cy (us.2.2 7) ++ (ti_qb cy (us.2.2 8) ++ (ti_qb cy (us.2.2 9) ++ (ti_qb cy (us.2.2 10) ++ (ti_qb cy (us.2.2 11) ++ (ti_qb cy (us.2.2 12) ++ (ti_qb cy (us.2.2 13) ++ (ti_qb cy (us.2.2 14) ++ (ti_qb cy (us.2.2 15) ++ (ti_qb cy (us.2.2 16) ++ (ti_qb cy (us.2.2 17) ++ (ti_qb cy (us.2.2 18) ++ (ti_qb cy (us.2.2 19))))))))))))))))))))) := by
    simp only [ti_pb, ti_rg, List.append_assoc, List.nil_append]
    rfl
  have hs : ti_sb cy ust = ti_W [(50, 0), (50, 1), (50, 2), (50, 3), (50, 4), (50, 9), (50, 10)] (ti_A h0 qp ur A3 A4 u27 us u49 ust uc) cy (ti_M0 a b c d e f) ++ (ti_qb cy ust.2.1 ++ ti_qb cy ust.2.2) := rfl
  have hc : ti_cb cy uc = ti_W [(53, 0)] (ti_A h0 qp ur A3 A4 u27 us u49 ust uc) cy (ti_M0 a b c d e f) ++ (ti_qb cy uc.2.1 ++ (ti_qb cy uc.2.2 ++ ti_W [(53, 3), (53, 4), (53, 5)] (ti_A h0 qp ur A3 A4 u27 us u49 ust uc) cy (ti_M0 a b c d e f))) := rfl
  have hr : ti_rb cy ur = ti_W [(1, 0), (2, 0), (2, 1)] (ti_A h0 qp ur A3 A4 u27 us u49 ust uc) cy (ti_M0 a b c d e f) := rfl
  have h0' : ti_W [(0, 0)] (ti_A h0 qp ur A3 A4 u27 us u49 ust uc) cy (ti_M0 a b c d e f) = [(h0, .inr (9, [.ref ur.1, .ref (A3 3 0), .ref (A4 3 0), .ref (u27 0), .ref qp, .ref us.1, .ref (u49 0), .int 0, .ref (ust.1 0), .ref (uc.1 0)]))] := rfl
  have h5 : ti_W [(0, 5)] (ti_A h0 qp ur A3 A4 u27 us u49 ust uc) cy (ti_M0 a b c d e f) = [(qp, .inl (cy 1, 360, .inl (fun _ => 0)))] := rfl
  rw [ti_LT_eq]
  simp only [ti_W_app, bq_27, bq_29, bq_30, bq_31, bq_32, bq_33, bq_34, bq_35, bq_36, bq_37, bq_38, bq_39, bq_40, bq_41, bq_42, bq_43, bq_44, bq_45, bq_46, bq_47, bq_48, bq_49, bq_51, bq_52, bq_54, bq_55, bt_3, bt_4]
  simp only [hp, hs, hc, hr, h0', h5, List.append_assoc, List.cons_append, List.nil_append]
end
section
variable {Tc : gC} {Tm : gM}
theorem cBI_0 (ci o k : Nat) : cBI ci o k 0 := by
  unfold cBI
  split <;> first | trivial | exact ⟨by decide, by decide⟩ | exact fun _ => ⟨by decide, by decide⟩
theorem cBY_0 (ci k : Nat) : cBY ci k 0 := by
  unfold cBY
  split <;> first | trivial | exact ⟨by decide, by decide⟩ | exact Or.inl (by decide)
def cJ (M : ti_M) : Prop := (∀ o k, cBI (ti_cls o) o k (tI M o k)) ∧ ∀ o k i, cBY (ti_cls o) k (tY M o k i)
theorem cJ_M00 : cJ ti_M00 := ⟨fun o k => cBI_0 _ o k, fun o k _ => cBY_0 _ k⟩
theorem cJ_T {M N : ti_M} {o k : Nat} {v : Option Nat} (h : cJ M) (e : N = uT M o k v) : cJ N := by subst e; exact h
theorem cJ_p {M : ti_M} (o k : Nat) {v : Int32} (ci : Nat) (hc : ti_cls o = ci) (hb : cBI ci o k v) (h : cJ M) : cJ (uI M o k v) := by
  refine ⟨fun o2 k2 => ?_, fun o2 k2 i => h.2 o2 k2 i⟩
  by_cases q : k2 = k ∧ o2 = o
  · obtain ⟨rfl, rfl⟩ := q; rw [tI_u, hc]; exact hb
  · rw [tI_n _ _ _ _ q]; exact h.1 o2 k2
theorem cJ_q {M : ti_M} (o k : Nat) {g : Nat → Int32} (ci : Nat) (hc : ti_cls o = ci) (hb : ∀ i, cBY ci k (g i)) (h : cJ M) : cJ (uY M o k g) := by
  refine ⟨fun o2 k2 => h.1 o2 k2, fun o2 k2 i => ?_⟩
  by_cases q : k2 = k ∧ o2 = o
  · obtain ⟨rfl, rfl⟩ := q; rw [tY_u, hc]; exact hb i
  · rw [tY_n _ _ _ _ q]; exact h.2 o2 k2 i
theorem cJ_M0 (a b c d e f : Nat → Int32) : cJ (ti_M0 a b c d e f) := by
  unfold ti_M0 ti_clr4 ti_clr
  repeat' first
    | exact cJ_M00
    | refine cJ_T (M := _) ?_ rfl
    | refine cJ_p _ _ _ rfl (by first | trivial | exact ⟨by decide, by decide⟩) ?_
    | refine cJ_q _ _ _ rfl (fun _ => trivial) ?_
theorem cI_M0 (a b c d e f : Nat → Int32) : cI (cG (ti_M0 a b c d e f)) (ti_M0 a b c d e f) := ⟨(cJ_M0 a b c d e f).1, (cJ_M0 a b c d e f).2, rfl⟩
end
section
variable {Tc : gC} {Tm : gM}
def ti_MM0 (g : Nat → Int32) : ti_M := uI (uI (uI (uY ti_M00 60 3 g) 60 28 (-1)) 60 53 (-1)) 60 59 (-1)
theorem bn_all {g : Nat → Int32} (h0 : ib 0 8 (g 0)) (h3 : ib 1 30 (g 3)) (h7 : ib 0 64 (g 7)) (h8 : ib 0 7 (g 8)) (h9 : ib 0 7 (g 9)) (h10 : ib 0 7 (g 10)) (h11 : ib 0 8 (g 11)) (h14 : ib 1 30 (g 14)) (h18 : ib 0 64 (g 18)) (h19 : ib 0 7 (g 19)) (h20 : ib 0 7 (g 20)) (h21 : ib 0 7 (g 21)) : ∀ i, mBN i (g i) := by
  intro i
  unfold mBN
  split <;> first | assumption | trivial
theorem mBI_0 (k : Nat) : mBI k 0 := by
  unfold mBI
  split <;> first | trivial | exact ⟨by decide, by decide⟩
theorem mBY_0 (k i : Nat) (h : k ≠ 3) : mBY k i 0 := by
  unfold mBY
  split <;> first | trivial | exact ⟨by decide, by decide⟩ | exact fun _ => ⟨by decide, by decide⟩ | exact absurd rfl h
theorem mI_MM0 {g : Nat → Int32} (h : ∀ i, mBN i (g i)) : mI ((fun _ => 0), 0, -1, 0, -1, (fun _ => 0), (fun _ => 0), (fun _ => 0), (fun _ => 0)) (ti_MM0 g) := by
  have b : mI ((fun _ => 0), 0, 0, 0, 0, (fun _ => 0), (fun _ => 0), (fun _ => 0), (fun _ => 0)) (uY ti_M00 60 3 g) := by
    refine ⟨fun k => mBI_0 k, fun k i => ?_, fun _ => by show (0 : Int32).toInt ≤ 24; decide, rfl⟩
    by_cases q : k = 3
    · subst q; rw [tY_u]; exact h i
    · rw [tY_n _ _ _ _ (nk q)]; exact mBY_0 k i q
  have c : mI ((fun _ => 0), 0, -1, 0, 0, (fun _ => 0), (fun _ => 0), (fun _ => 0), (fun _ => 0)) (uI (uY ti_M00 60 3 g) 60 28 (-1)) := mI_lf (k := 28) (v := -1) b rfl (Or.inr rfl) trivial
  exact mI_ls (k := 59) (v := -1) (mI_uI (k := 53) (v := -1) c rfl (by decide) (by decide) trivial) rfl (Or.inr rfl) ⟨by decide, by decide⟩
theorem mL_MM0 {g : Nat → Int32} : mL (ti_MM0 g) := by
  intro j hj a n h1 h2
  have e1 : (tY (ti_MM0 g) 60 14 j).toInt = 0 := by show (0 : Int32).toInt = 0; decide
  have e2 : (tY (ti_MM0 g) 60 15 j).toInt = 0 := by show (0 : Int32).toInt = 0; decide
  obtain rfl : n = 0 := by omega
  exact ⟨0, rfl⟩
end
section
variable {Tc : gC} {Tm : gM}
def pt_W (c : Int) : Bool := decide (c = 32 ∨ c = 10)
def pt_L (c : Int) : Bool := decide (97 ≤ c ∧ c ≤ 122)
def pt_D (c : Int) : Bool := decide (48 ≤ c ∧ c ≤ 57)
def pt_pk (B : Nat → Int) (n a : Nat) : Int := if a < n then B a else -1
def pt_rn (P : Int → Bool) (B : Nat → Int) (n : Nat) : Nat → Nat → Nat
  | 0, a => a
  | f + 1, a => if a < n ∧ P (B a) = true then pt_rn P B n f (a + 1) else a
/-- the first place from a on where P ends -/
def pt_to (P : Int → Bool) (B : Nat → Int) (n a : Nat) : Nat := pt_rn P B n (n - a) a
theorem pt_to_go {P : Int → Bool} {B : Nat → Int} {n a : Nat} (h : a < n) (hp : P (B a) = true) : pt_to P B n a = pt_to P B n (a + 1) := by
  unfold pt_to
  rw [show n - a = (n - (a + 1)) + 1 by omega, pt_rn, if_pos ⟨h, hp⟩]
theorem pt_to_end {P : Int → Bool} {B : Nat → Int} {n a : Nat} (h : ¬ (a < n ∧ P (B a) = true)) : pt_to P B n a = a := by
  unfold pt_to
  cases n - a with
  | zero => rfl
  | succ f => rw [pt_rn, if_neg h]
theorem pt_rn_le {P : Int → Bool} {B : Nat → Int} {n : Nat} : ∀ f a : Nat, a ≤ pt_rn P B n f a ∧ (a ≤ n → pt_rn P B n f a ≤ n) := by
  intro f
  induction f with
  | zero => intro a; exact ⟨Nat.le_refl _, fun h => h⟩
  | succ f ih =>
    intro a
    rw [pt_rn]
    split
    · rename_i h
      exact ⟨Nat.le_trans (Nat.le_succ a) (ih (a + 1)).1, fun _ => (ih (a + 1)).2 h.1⟩
    · exact ⟨Nat.le_refl _, fun h => h⟩
theorem pt_to_le {P : Int → Bool} {B : Nat → Int} {n a : Nat} : a ≤ pt_to P B n a := (pt_rn_le _ _).1
theorem pt_to_n {P : Int → Bool} {B : Nat → Int} {n a : Nat} (h : a ≤ n) : pt_to P B n a ≤ n := (pt_rn_le _ _).2 h
/-- a number's value, cut at 1000000 -/
def pt_nf (B : Nat → Int) (n : Nat) : Nat → Nat → Int → Int
  | 0, _, v => v
  | f + 1, a, v => if a < n ∧ pt_D (B a) = true then pt_nf B n f (a + 1) (min (v * 10 + B a - 48) 1000000) else v
def pt_nv (B : Nat → Int) (n a : Nat) (v : Int) : Int := pt_nf B n (n - a) a v
theorem pt_nv_go {B : Nat → Int} {n a : Nat} {v : Int} (h : a < n) (hp : pt_D (B a) = true) : pt_nv B n a v = pt_nv B n (a + 1) (min (v * 10 + B a - 48) 1000000) := by
  unfold pt_nv
  rw [show n - a = (n - (a + 1)) + 1 by omega, pt_nf, if_pos ⟨h, hp⟩]
theorem pt_nv_end {B : Nat → Int} {n a : Nat} {v : Int} (h : ¬ (a < n ∧ pt_D (B a) = true)) : pt_nv B n a v = v := by
  unfold pt_nv
  cases n - a with
  | zero => rfl
  | succ f => rw [pt_nf, if_neg h]
def pt_p : Nat → Int
  | 0 => 33554432
  | 1 => 1048576
  | 2 => 32768
  | 3 => 1024
  | 4 => 32
  | 5 => 1
  | _ => 0
/-- a word's letters, five bits each, i of them told already -/
def pt_ef (B : Nat → Int) (n : Nat) : Nat → Nat → Nat → Int → Int
  | 0, _, _, v => v
  | f + 1, a, i, v => if a < n ∧ pt_L (B a) = true then pt_ef B n f (a + 1) (i + 1) (if i < 6 then v + (B a - 96) * pt_p i else v) else v
def pt_ev (B : Nat → Int) (n a i : Nat) (v : Int) : Int := pt_ef B n (n - a) a i v
theorem pt_ev_go {B : Nat → Int} {n a i : Nat} {v : Int} (h : a < n) (hp : pt_L (B a) = true) : pt_ev B n a i v = pt_ev B n (a + 1) (i + 1) (if i < 6 then v + (B a - 96) * pt_p i else v) := by
  unfold pt_ev
  rw [show n - a = (n - (a + 1)) + 1 by omega, pt_ef, if_pos ⟨h, hp⟩]
theorem pt_ev_end {B : Nat → Int} {n a i : Nat} {v : Int} (h : ¬ (a < n ∧ pt_L (B a) = true)) : pt_ev B n a i v = v := by
  unfold pt_ev
  cases n - a with
  | zero => rfl
  | succ f => rw [pt_ef, if_neg h]
/-- the language's words, in the class's order -/
def pt_w : List Int := [437714944, 256952448, 553358912, 777400320, 408626355, 169410560, 458903730, 642945024, 404455424, 120053184, 357702816, 672923648, 408642560, 777046016, 475172864, 844726272, 41058304, 202964992, 89238708, 116701184, 549489824, 773115904, 48365568, 522190848, 486146048]
def pt_wf (v : Int) : Nat → Int
  | 0 => 25
  | f + 1 => if pt_w.getD (24 - f) 0 = v then 24 - (f : Int) else pt_wf v f
/-- the first word from the w-th on with these letters, else 25 -/
def pt_wk (v : Int) (w : Nat) : Int := pt_wf v (25 - w)
theorem pt_wk_go {v : Int} {w : Nat} (h : w < 25) (hp : ¬ pt_w.getD w 0 = v) : pt_wk v w = pt_wk v (w + 1) := by
  unfold pt_wk
  rw [show 25 - w = (25 - (w + 1)) + 1 by omega, pt_wf, if_neg (by rw [show 24 - (25 - (w + 1)) = w by omega]; exact hp)]
theorem pt_wk_at {v : Int} {w : Nat} (h : w < 25) (hp : pt_w.getD w 0 = v) : pt_wk v w = w := by
  unfold pt_wk
  rw [show 25 - w = (25 - (w + 1)) + 1 by omega, pt_wf, if_pos (by rw [show 24 - (25 - (w + 1)) = w by omega]; exact hp)]
  omega
theorem pt_wk_end {v : Int} : pt_wk v 25 = 25 := rfl
/-- a sign's kind; d is the sign behind it -/
def pt_sk (c d : Int) : Int := if c = 59 then 29 else if c = 40 then 30 else if c = 41 then 31 else if c = 43 then 38 else if c = 45 then 39 else if c = 42 then 40 else if c = 47 then 41 else if c = 61 then 34 else if c = 60 then (if d = 61 then 33 else if d = 62 then 35 else 32) else if c = 62 then (if d = 61 then 36 else 37) else 28
def pt_s2 (c d : Int) : Int := if c = 60 ∧ (d = 61 ∨ d = 62) then 1 else if c = 62 ∧ d = 61 then 1 else 0
/-- kind, value, place and end of the token at a -/
def pt_P (B : Nat → Int) (n a : Nat) : Nat := pt_to pt_W B n a
def pt_C (B : Nat → Int) (n a : Nat) : Int := pt_pk B n (pt_P B n a)
def pt_K (B : Nat → Int) (n a : Nat) : Int := if pt_C B n a = -1 then 27 else if pt_L (pt_C B n a) = true then (if pt_P B n a + 6 < pt_to pt_L B n (pt_P B n a) then 28 else pt_wk (pt_ev B n (pt_P B n a) 0 0) 0) else if pt_D (pt_C B n a) = true then 26 else pt_sk (pt_C B n a) (pt_pk B n (pt_P B n a + 1))
def pt_V (B : Nat → Int) (n a : Nat) : Int := if pt_C B n a = -1 then 0 else if pt_L (pt_C B n a) = true then pt_ev B n (pt_P B n a) 0 0 else if pt_D (pt_C B n a) = true then pt_nv B n (pt_P B n a) 0 else 0
def pt_A (B : Nat → Int) (n a : Nat) : Int := if pt_C B n a = -1 then pt_P B n a else if pt_L (pt_C B n a) = true then pt_to pt_L B n (pt_P B n a) else if pt_D (pt_C B n a) = true then pt_to pt_D B n (pt_P B n a) else pt_P B n a + 1 + pt_s2 (pt_C B n a) (pt_pk B n (pt_P B n a + 1))
/-- the class's tape -/
def pt_cB (M : ti_M) : Nat → Int := fun i => (tY M 2 0 i &&& 255).toInt
def pt_cn (M : ti_M) : Nat := (tI M 2 2).toInt.toNat
def pt_ca (M : ti_M) : Nat := (tI M 2 3).toInt.toNat
theorem pt_cpk {M : ti_M} (h0 : 0 ≤ (tI M 2 3).toInt) (h1 : 0 ≤ (tI M 2 2).toInt) : (s_pk M).toInt = pt_pk (pt_cB M) (pt_cn M) (pt_ca M) := by
  unfold s_pk pt_pk pt_cB pt_cn pt_ca
  by_cases h : (tI M 2 3).toInt < (tI M 2 2).toInt
  · rw [if_pos h, if_pos (by omega)]; rfl
  · rw [if_neg h, if_neg (by omega)]; rfl
theorem pt_pk_in {B : Nat → Int} {n a : Nat} {c : Int} (e : c = pt_pk B n a) (h : c ≠ -1) : a < n ∧ c = B a := by
  unfold pt_pk at e
  by_cases q : a < n
  · rw [if_pos q] at e; exact ⟨q, e⟩
  · rw [if_neg q] at e; exact absurd e h
theorem pt_pk_no {P : Int → Bool} {B : Nat → Int} {n a : Nat} {c : Int} (e : c = pt_pk B n a) (h : P c = false) : ¬ (a < n ∧ P (B a) = true) := by
  rintro ⟨q1, q2⟩
  unfold pt_pk at e
  rw [if_pos q1] at e
  rw [e, q2] at h
  cases h
theorem pt_Lt {c : Int} (h1 : 97 ≤ c) (h2 : c ≤ 122) : pt_L c = true := decide_eq_true ⟨h1, h2⟩
theorem pt_Lf {c : Int} (h : c < 97 ∨ 122 < c) : pt_L c = false := decide_eq_false (by omega)
theorem pt_Dt {c : Int} (h1 : 48 ≤ c) (h2 : c ≤ 57) : pt_D c = true := decide_eq_true ⟨h1, h2⟩
theorem pt_Df {c : Int} (h : c < 48 ∨ 57 < c) : pt_D c = false := decide_eq_false (by omega)
theorem pt_Wt {c : Int} (h : c = 32 ∨ c = 10) : pt_W c = true := decide_eq_true h
theorem pt_Wf {c : Int} (h1 : c ≠ 32) (h2 : c ≠ 10) : pt_W c = false := decide_eq_false (by omega)
theorem i_tn {x : Int32} (h : 0 ≤ x.toInt) : x.toInt = (x.toBitVec.toNat : Int) := by
  have e : x.toInt = x.toBitVec.toInt := rfl
  have q := nn_lt h
  rw [e, BitVec.toInt_eq_toNat_cond, if_pos (by omega)]
theorem i_ofn {z : Int32} {n : Nat} (e : z.toBitVec.toNat = n) (h : n < 2 ^ 31) : z.toInt = (n : Int) := by
  rw [i_tn (lt_nn (by rw [e]; exact h)), e]
theorem i_sh5 {x z : Int32} (e : z = x <<< ((5 : Int32) &&& 31)) (h0 : 0 ≤ x.toInt) (h1 : x.toInt < 33554432) : z.toInt = x.toInt * 32 := by
  have q := i_tn h0
  have hz : z.toBitVec.toNat = x.toBitVec.toNat * 32 := by
    rw [e, Int32.toBitVec_shiftLeft]
    show (x.toBitVec <<< (((5 : Int32) &&& 31).toBitVec.smod 32).toNat).toNat = _
    rw [show (((5 : Int32) &&& 31).toBitVec.smod 32).toNat = 5 by decide, BitVec.toNat_shiftLeft, Nat.shiftLeft_eq]
    exact Nat.mod_eq_of_lt (by omega)
  rw [i_ofn hz (by omega), q]
  omega
theorem i_orx {x y z : Int32} (k : Nat) (e : z = x ||| y) (hx : 0 ≤ x.toInt) (hy : 0 ≤ y.toInt) (q : Nat) (hq : x.toInt = ((q * 2 ^ k : Nat) : Int)) (hyk : y.toInt < ((2 ^ k : Nat) : Int)) : z.toInt = x.toInt + y.toInt := by
  have h : z.toBitVec.toNat = x.toBitVec.toNat ||| y.toBitVec.toNat := by rw [e]; simp
  have hx' := i_tn hx
  have hy' := i_tn hy
  have e1 : x.toBitVec.toNat = q <<< k := by rw [Nat.shiftLeft_eq]; exact Int.ofNat.inj (hx'.symm.trans hq)
  have e2 : y.toBitVec.toNat < 2 ^ k := Int.ofNat_lt.mp (by rw [← hy']; exact hyk)
  have h2 : z.toBitVec.toNat = x.toBitVec.toNat + y.toBitVec.toNat := by rw [h, e1, ← Nat.shiftLeft_add_eq_or_of_lt e2]
  rw [i_tn (i_or e hx hy), h2, hx', hy']
  omega
theorem sh_x : ∀ a : Nat, a < 27 → ∀ b : Nat, b < 6 → ((nI a) <<< ((nI (5 * (5 - b))) &&& 31)).toInt = (a : Int) * pt_p b := by decide +kernel
theorem i_shx {x y z : Int32} (e : z = x <<< (y &&& 31)) (h1 : 0 ≤ x.toInt) (h2 : x.toInt ≤ 26) {b : Int} (hy : y.toInt = 5 * (5 - b)) (h3 : 0 ≤ b) (h4 : b ≤ 5) : z.toInt = x.toInt * pt_p b.toNat := by
  have ex : x = nI x.toInt.toNat := Int32.toInt_inj.mp (by rw [nI_toInt (by omega)]; omega)
  have ey : y = nI (5 * (5 - b.toNat)) := Int32.toInt_inj.mp (by rw [nI_toInt (by omega), hy]; omega)
  have h := sh_x x.toInt.toNat (by omega) b.toNat (by omega)
  rw [← ex, ← ey, ← e] at h
  rw [h, Int.toNat_of_nonneg h1]
def pt_dv (i : Nat) (v : Int) : Prop := 0 ≤ v ∧ v < 1073741824 ∧ (i < 6 → v % (pt_p i * 32) = 0)
theorem pt_dv0 : pt_dv 0 0 := ⟨by decide, by decide, fun _ => by decide⟩
theorem pt_dv6 {i : Nat} {v : Int} (h : pt_dv i v) (hi : 6 ≤ i) : pt_dv (i + 1) v := ⟨h.1, h.2.1, fun q => by omega⟩
theorem pt_or {x y z : Int32} {i : Nat} {d : Int} (hi : i < 6) (hv : pt_dv i x.toInt) (hd : 0 ≤ d ∧ d ≤ 31) (hy : y.toInt = d * pt_p i) (e : z = x ||| y) : z.toInt = x.toInt + d * pt_p i ∧ pt_dv (i + 1) z.toInt := by
  obtain ⟨h0, h1, h2⟩ := hv
  have h2 := h2 hi
  obtain ⟨hd0, hd1⟩ := hd
  rcases (show i = 0 ∨ i = 1 ∨ i = 2 ∨ i = 3 ∨ i = 4 ∨ i = 5 by omega) with rfl | rfl | rfl | rfl | rfl | rfl
  · have p : pt_p 0 = 33554432 := rfl
    have p2 : pt_p 1 = 1048576 := rfl
    rw [p] at hy h2 ⊢
    have r := i_orx 30 e h0 (by omega) (x.toInt / 1073741824).toNat (by omega) (by omega)
    exact ⟨by omega, by omega, by omega, fun _ => by show _ % (pt_p 1 * 32) = 0; rw [p2]; omega⟩
  · have p : pt_p 1 = 1048576 := rfl
    have p2 : pt_p 2 = 32768 := rfl
    rw [p] at hy h2 ⊢
    have r := i_orx 25 e h0 (by omega) (x.toInt / 33554432).toNat (by omega) (by omega)
    exact ⟨by omega, by omega, by omega, fun _ => by show _ % (pt_p 2 * 32) = 0; rw [p2]; omega⟩
  · have p : pt_p 2 = 32768 := rfl
    have p2 : pt_p 3 = 1024 := rfl
    rw [p] at hy h2 ⊢
    have r := i_orx 20 e h0 (by omega) (x.toInt / 1048576).toNat (by omega) (by omega)
    exact ⟨by omega, by omega, by omega, fun _ => by show _ % (pt_p 3 * 32) = 0; rw [p2]; omega⟩
  · have p : pt_p 3 = 1024 := rfl
    have p2 : pt_p 4 = 32 := rfl
    rw [p] at hy h2 ⊢
    have r := i_orx 15 e h0 (by omega) (x.toInt / 32768).toNat (by omega) (by omega)
    exact ⟨by omega, by omega, by omega, fun _ => by show _ % (pt_p 4 * 32) = 0; rw [p2]; omega⟩
  · have p : pt_p 4 = 32 := rfl
    have p2 : pt_p 5 = 1 := rfl
    rw [p] at hy h2 ⊢
    have r := i_orx 10 e h0 (by omega) (x.toInt / 1024).toNat (by omega) (by omega)
    exact ⟨by omega, by omega, by omega, fun _ => by show _ % (pt_p 5 * 32) = 0; rw [p2]; omega⟩
  · have p : pt_p 5 = 1 := rfl
    rw [p] at hy h2 ⊢
    have r := i_orx 5 e h0 (by omega) (x.toInt / 32).toNat (by omega) (by omega)
    exact ⟨by omega, by omega, by omega, fun q => by omega⟩
/-- the letters of the class's w-th word, i of them -/
def pt_ch (j : Nat) : Int := if (tx_cb.getD j 0 &&& 255).toInt = 32 then 0 else (tx_cb.getD j 0 &&& 255).toInt - 96
def pt_pw (w : Nat) : Nat → Int
  | 0 => 0
  | i + 1 => pt_pw w i * 32 + pt_ch (w * 6 + i)
theorem pt_pw6 : ∀ w : Nat, w < 25 → pt_pw w 6 = pt_w.getD w 0 := by decide +kernel
theorem pt_pwb : ∀ w : Nat, w < 25 → ∀ i : Nat, i < 6 → 0 ≤ pt_pw w i ∧ pt_pw w i < 33554432 ∧ 0 ≤ pt_ch (w * 6 + i) ∧ pt_ch (w * 6 + i) ≤ 26 := by decide +kernel
theorem pt_pws {x y z z1 : Int32} {w i : Nat} (hw : w < 25) (hi : i < 6) (ex : x.toInt = pt_pw w i) (e1 : z1 = x <<< ((5 : Int32) &&& 31)) (ey : y.toInt = pt_ch (w * 6 + i)) (e : z = z1 ||| y) : z.toInt = pt_pw w (i + 1) := by
  obtain ⟨a1, a2, a3, a4⟩ := pt_pwb w hw i hi
  have h1 := i_sh5 e1 (by omega) (by omega)
  have h2 := i_orx 5 e (by omega) (by omega) x.toInt.toNat (by omega) (by omega)
  rw [pt_pw, h2, h1, ex, ey]
theorem pt_cB_I {M N : ti_M} {o k : Nat} {v : Int32} (e : N = uI M o k v) : pt_cB N = pt_cB M := by unfold pt_cB; rw [tY_uIE e]
end
section
variable {Tc : gC} {Tm : gM}
theorem pt_ne {x k : Int32} {z : Int} (h : ¬ x = k) (e : k.toInt = z) : x.toInt ≠ z := fun q => h (Int32.toInt_inj.mp (q.trans e.symm))
/-- the tape and the text's length stay -/
def tp (N M : ti_M) : Prop := N.2.1 = M.2.1 ∧ tI N 2 2 = tI M 2 2
theorem tp.refl {M : ti_M} : tp M M := ⟨rfl, rfl⟩
theorem tp.trans {K N M : ti_M} (x : tp K N) (y : tp N M) : tp K M := ⟨x.1.trans y.1, x.2.trans y.2⟩
theorem tp_I {M N : ti_M} {o k : Nat} {v : Int32} (e : N = uI M o k v) (h : ¬ (2 = k ∧ 2 = o)) : tp N M := ⟨ry_I e, tI_nE e h⟩
theorem tp_B {N M : ti_M} (h : tp N M) : pt_cB N = pt_cB M := by unfold pt_cB; rw [tY_fr h.1]
theorem tp_n {N M : ti_M} (h : tp N M) : pt_cn N = pt_cn M := by unfold pt_cn; rw [h.2]
/-- all ints but the tokens' stay -/
def o2 (N M : ti_M) : Prop := ∀ o k : Nat, o ≠ 2 → tI N o k = tI M o k
theorem o2.refl {M : ti_M} : o2 M M := fun _ _ _ => rfl
theorem o2.trans {K N M : ti_M} (x : o2 K N) (y : o2 N M) : o2 K M := fun o k h => (x o k h).trans (y o k h)
theorem o2_I {M N : ti_M} {k : Nat} {v : Int32} (e : N = uI M 2 k v) : o2 N M := fun _ _ h => tI_nE e (no h)
theorem o2_of {M N : ti_M} (e : N.1 = M.1) : o2 N M := fun _ _ _ => tI_fr e
theorem o2_12 {N M : ti_M} (h : o2 N M) : o12 N M := fun o k _ h2 => h o k h2
theorem tp_pk {N M : ti_M} {r : Int32} (h : tp N M) (hI : cI Tc N) (e : r.toInt = (s_pk N).toInt) : r.toInt = pt_pk (pt_cB M) (pt_cn M) (tI N 2 3).toInt.toNat := by
  have h3 : 0 ≤ (tI N 2 3).toInt ∧ (tI N 2 3).toInt ≤ 700 := cI_rd (x := tI N 2 3) (k := 3) hI ob_2.1 rfl
  have h2 : 0 ≤ (tI N 2 2).toInt ∧ (tI N 2 2).toInt ≤ 700 := cI_rd (x := tI N 2 2) (k := 2) hI ob_2.1 rfl
  rw [e, pt_cpk h3.1 h2.1, tp_B h, tp_n h]
  rfl
set_option maxHeartbeats 4000000 in
set_option maxRecDepth 100000 in
theorem x_X7_isLetter (l : Launch) (D : va_G) (A : Nat → Nat → Nat) (cy : Nat → ClassId) (hJ : ti_inj ti_LT A) (M : ti_M) (hI : cI Tc M) (z : Int32) : ti_Ki l yX7_isLetter cX7_isLetter 1 (some .boolean) 0 ti_LT D A cy M [.int z] (fun r M2 => M2 = M ∧ ((r = 1 ∧ 97 ≤ z.toInt ∧ z.toInt ≤ 122) ∨ (r = 0 ∧ (z.toInt < 97 ∨ 122 < z.toInt)))) := by
  refine ti_eI yp_X7_isLetter hJ ti_LT_nd (Nat.le_of_ble_eq_true rfl) ?_
  intro p e s m args below meth c Q H0 C hQ hw ls hl
  have hx := C.1
  have hb := C.2.1
  have hl : lv_has ls 1 [(0, .int z)] := hl
  refine lv_iload_n hx hb dX7_isLetter_0 rfl (lv_at hl 0 rfl) ?_
  refine lv_bipush (v := 97) hx hb dX7_isLetter_1 (by decide) ?_
  refine sb_icmp_lt (tgt := 16) hx hb rfl (by decide : (97 : Int32).toInt = 97) dX7_isLetter_3 (by decide) (fun c_3_0 => ?_) (fun c_3_0 => ?_)
  · refine lv_iconst (v := 0) hx hb dX7_isLetter_16 (by decide) ?_
    exact hQ _ _ _ _ _ _ hw rfl (⟨rfl, Or.inr ⟨rfl, by omega⟩⟩) dX7_isLetter_17
  · refine lv_iload_n hx hb dX7_isLetter_6 rfl (lv_at hl 0 rfl) ?_
    refine lv_bipush (v := 122) hx hb dX7_isLetter_7 (by decide) ?_
    refine sb_icmp_gt (tgt := 16) hx hb rfl (by decide : (122 : Int32).toInt = 122) dX7_isLetter_9 (by decide) (fun c_9_1 => ?_) (fun c_9_1 => ?_)
    · refine lv_iconst (v := 0) hx hb dX7_isLetter_16 (by decide) ?_
      exact hQ _ _ _ _ _ _ hw rfl (⟨rfl, Or.inr ⟨rfl, by omega⟩⟩) dX7_isLetter_17
    · refine lv_iconst (v := 1) hx hb dX7_isLetter_12 (by decide) ?_
      refine lv_goto (tgt := 17) hx hb dX7_isLetter_13 (by decide) ?_
      exact hQ _ _ _ _ _ _ hw rfl (⟨rfl, Or.inl ⟨rfl, by omega, by omega⟩⟩) dX7_isLetter_17
set_option maxHeartbeats 4000000 in
set_option maxRecDepth 100000 in
theorem x_X7_isDigit (l : Launch) (D : va_G) (A : Nat → Nat → Nat) (cy : Nat → ClassId) (hJ : ti_inj ti_LT A) (M : ti_M) (hI : cI Tc M) (z : Int32) : ti_Ki l yX7_isDigit cX7_isDigit 1 (some .boolean) 0 ti_LT D A cy M [.int z] (fun r M2 => M2 = M ∧ ((r = 1 ∧ 48 ≤ z.toInt ∧ z.toInt ≤ 57) ∨ (r = 0 ∧ (z.toInt < 48 ∨ 57 < z.toInt)))) := by
  refine ti_eI yp_X7_isDigit hJ ti_LT_nd (Nat.le_of_ble_eq_true rfl) ?_
  intro p e s m args below meth c Q H0 C hQ hw ls hl
  have hx := C.1
  have hb := C.2.1
  have hl : lv_has ls 1 [(0, .int z)] := hl
  refine lv_iload_n hx hb dX7_isDigit_0 rfl (lv_at hl 0 rfl) ?_
  refine lv_bipush (v := 48) hx hb dX7_isDigit_1 (by decide) ?_
  refine sb_icmp_lt (tgt := 16) hx hb rfl (by decide : (48 : Int32).toInt = 48) dX7_isDigit_3 (by decide) (fun c_3_0 => ?_) (fun c_3_0 => ?_)
  · refine lv_iconst (v := 0) hx hb dX7_isDigit_16 (by decide) ?_
    exact hQ _ _ _ _ _ _ hw rfl (⟨rfl, Or.inr ⟨rfl, by omega⟩⟩) dX7_isDigit_17
  · refine lv_iload_n hx hb dX7_isDigit_6 rfl (lv_at hl 0 rfl) ?_
    refine lv_bipush (v := 57) hx hb dX7_isDigit_7 (by decide) ?_
    refine sb_icmp_gt (tgt := 16) hx hb rfl (by decide : (57 : Int32).toInt = 57) dX7_isDigit_9 (by decide) (fun c_9_1 => ?_) (fun c_9_1 => ?_)
    · refine lv_iconst (v := 0) hx hb dX7_isDigit_16 (by decide) ?_
      exact hQ _ _ _ _ _ _ hw rfl (⟨rfl, Or.inr ⟨rfl, by omega⟩⟩) dX7_isDigit_17
    · refine lv_iconst (v := 1) hx hb dX7_isDigit_12 (by decide) ?_
      refine lv_goto (tgt := 17) hx hb dX7_isDigit_13 (by decide) ?_
      exact hQ _ _ _ _ _ _ hw rfl (⟨rfl, Or.inl ⟨rfl, by omega, by omega⟩⟩) dX7_isDigit_17
set_option maxHeartbeats 4000000 in
set_option maxRecDepth 100000 in
theorem x_X7_belongs (l : Launch) (D : va_G) (A : Nat → Nat → Nat) (cy : Nat → ClassId) (hJ : ti_inj ti_LT A) (M : ti_M) (hI : cI Tc M) (sg : Int32) (h1 : 0 ≤ sg.toInt) : ti_Ki l yX7_belongs cX7_belongs 2 (some .boolean) 1 ti_LT D A cy M [.ref (A 2 0), .int sg] (fun r M2 => (r = 0 ∧ M2 = M ∧ (s_pk M).toInt ≠ sg.toInt) ∨ (r = 1 ∧ (s_pk M).toInt = sg.toInt ∧ ∃ y : Int32, y.toInt = (tI M 2 3).toInt + 1 ∧ cI Tc M2 ∧ M2 = uI M 2 3 y)) := by
  refine ti_eI yp_X7_belongs hJ ti_LT_nd (Nat.le_of_ble_eq_true rfl) ?_
  intro p e s m args below meth c Q H0 C hQ hw ls hl
  have hx := C.1
  have hb := C.2.1
  have hl : lv_has ls 2 [(0, .ref (A 2 0)), (1, .int sg)] := hl
  refine lv_aload_n hx hb dX7_belongs_0 rfl (lv_at hl 0 rfl) ?_
  refine ti_callVi (ci := 7) (av := []) C hw (s_X7_peek l D A cy hJ M hI ) ⟨ml_X7_34, ym_X7_peek, yv_X7_peek, yi_X7_peek, yc_X7_peek⟩ yd_X7_peek ob_2 (by decide) rfl rfl hl.1 (Nat.le_of_ble_eq_true rfl) ⟨by decide, by decide⟩ ⟨Nat.zero_le _, Nat.zero_le _⟩ dX7_belongs_1 (fun r_1 M_2 H locs hp_2 hw => ?_)
  obtain ⟨hm, b0r_1, b1r_1, p0r_1, p1r_1⟩ := hp_2
  have hw := hw.to hm
  have kr_1 := tp_pk tp.refl hI p1r_1
  refine lv_iload_n hx hb dX7_belongs_4 rfl (lv_at hl 1 rfl) ?_
  refine sb_icmp_eq (tgt := 10) hx hb rfl rfl dX7_belongs_5 (by decide) (fun c_5_2 => ?_) (fun c_5_2 => ?_)
  · refine lv_aload_n hx hb dX7_belongs_10 rfl (lv_at hl 0 rfl) ?_
    refine lv_dup hx hb dX7_belongs_11 rfl ?_
    refine ti_get (ci := 7) (k := 3) (N := 7) (T := TX7) C hw iw_7 rfl ob_2 (by decide) (by decide) fl_X7_22 rfl rfl dX7_belongs_12 ?_
    refine lv_topi (fun x_4 ex_4 => ?_)
    have bx_4 : 0 ≤ x_4.toInt ∧ x_4.toInt ≤ 700 := cI_rd hI ob_2.1 ex_4
    have ux_4 : (tI M 2 3).toInt = x_4.toInt := by rw [ex_4]
    refine lv_iconst (v := 1) hx hb dX7_belongs_15 (by decide) ?_
    refine lv_iadd hx hb dX7_belongs_16 ?_
    refine lv_topi (fun x_5 ex_5 => ?_)
    have tx_5 : x_5.toInt = x_4.toInt + 1 := i_add ex_5 rfl (by decide : (1 : Int32).toInt = 1) (by omega) (by omega)
    refine ti_putI (ci := 7) (k := 3) (N := 7) (T := TX7) C hw iw_7 tyX7 tyX7_ok nmX7 rfl ob_2 (by decide) (by decide) fl_X7_22 rfl rfl rfl rfl (fn_7 A _) fs_7_3 dX7_belongs_17 (fun H locs hw => ?_)
    obtain ⟨M_6, hM_6⟩ : ∃ z : ti_M, z = uI M 2 3 x_5 := ⟨_, rfl⟩
    have hw := hw.to hM_6.symm
    have iM_6 : cI Tc M_6 := cI_uI hI hM_6 ob_2.1 (ib_mk (lo := 0) (hi := 700) (by omega) (by omega))
    have vM_6 : (tI M_6 2 3).toInt = (x_5 : Int32).toInt := by rw [tI_uE hM_6]
    refine lv_iconst (v := 1) hx hb dX7_belongs_20 (by decide) ?_
    exact hQ _ _ _ _ _ _ hw rfl (Or.inr ⟨rfl, by omega, x_5, by omega, iM_6, hM_6⟩) dX7_belongs_21
  · refine lv_iconst (v := 0) hx hb dX7_belongs_8 (by decide) ?_
    exact hQ _ _ _ _ _ _ hw rfl (Or.inl ⟨rfl, rfl, by omega⟩) dX7_belongs_9
set_option maxHeartbeats 4000000 in
set_option maxRecDepth 100000 in
theorem x_X7_signKind (l : Launch) (D : va_G) (A : Nat → Nat → Nat) (cy : Nat → ClassId) (hJ : ti_inj ti_LT A) (M : ti_M) (hI : cI Tc M) (sg : Int32) : ti_Ki l yX7_signKind cX7_signKind 2 (some .int) 2 ti_LT D A cy M [.ref (A 2 0), .int sg] (fun r M2 => r.toInt = pt_sk sg.toInt (s_pk M).toInt ∧ 0 ≤ r.toInt ∧ r.toInt ≤ 41 ∧ cI Tc M2 ∧ ((pt_s2 sg.toInt (s_pk M).toInt = 0 ∧ M2 = M) ∨ (pt_s2 sg.toInt (s_pk M).toInt = 1 ∧ ∃ y : Int32, y.toInt = (tI M 2 3).toInt + 1 ∧ M2 = uI M 2 3 y))) := by
  refine ti_eI yp_X7_signKind hJ ti_LT_nd (Nat.le_of_ble_eq_true rfl) ?_
  intro p e s m args below meth c Q H0 C hQ hw ls hl
  have hx := C.1
  have hb := C.2.1
  have hl : lv_has ls 2 [(0, .ref (A 2 0)), (1, .int sg)] := hl
  refine lv_iload_n hx hb dX7_signKind_0 rfl (lv_at hl 1 rfl) ?_
  by_cases s_1_40 : sg = 40
  · have qs_1_40 : sg.toInt = 40 := by rw [s_1_40]; decide
    refine lv_tableIn (tgt := 111) (off := 110) hx hb dX7_signKind_1 (by rw [s_1_40]; decide) (by rw [s_1_40]; decide) (by rw [s_1_40]; decide) (by decide) ?_
    refine lv_bipush (v := 30) hx hb dX7_signKind_111 (by decide) ?_
    exact hQ _ _ _ _ _ _ hw rfl (⟨(by unfold pt_sk; have lv : (30 : Int32).toInt = 30 := (by decide); (repeat' split) <;> omega), by decide, by decide, hI, Or.inl ⟨(by unfold pt_s2; (repeat' split) <;> omega), rfl⟩⟩) dX7_signKind_113
  · have qs_1_40 : sg.toInt ≠ 40 := pt_ne s_1_40 (by decide)
    by_cases s_1_41 : sg = 41
    · have qs_1_41 : sg.toInt = 41 := by rw [s_1_41]; decide
      refine lv_tableIn (tgt := 114) (off := 113) hx hb dX7_signKind_1 (by rw [s_1_41]; decide) (by rw [s_1_41]; decide) (by rw [s_1_41]; decide) (by decide) ?_
      refine lv_bipush (v := 31) hx hb dX7_signKind_114 (by decide) ?_
      exact hQ _ _ _ _ _ _ hw rfl (⟨(by unfold pt_sk; have lv : (31 : Int32).toInt = 31 := (by decide); (repeat' split) <;> omega), by decide, by decide, hI, Or.inl ⟨(by unfold pt_s2; (repeat' split) <;> omega), rfl⟩⟩) dX7_signKind_116
    · have qs_1_41 : sg.toInt ≠ 41 := pt_ne s_1_41 (by decide)
      by_cases s_1_42 : sg = 42
      · have qs_1_42 : sg.toInt = 42 := by rw [s_1_42]; decide
        refine lv_tableIn (tgt := 123) (off := 122) hx hb dX7_signKind_1 (by rw [s_1_42]; decide) (by rw [s_1_42]; decide) (by rw [s_1_42]; decide) (by decide) ?_
        refine lv_bipush (v := 40) hx hb dX7_signKind_123 (by decide) ?_
        exact hQ _ _ _ _ _ _ hw rfl (⟨(by unfold pt_sk; have lv : (40 : Int32).toInt = 40 := (by decide); (repeat' split) <;> omega), by decide, by decide, hI, Or.inl ⟨(by unfold pt_s2; (repeat' split) <;> omega), rfl⟩⟩) dX7_signKind_125
      · have qs_1_42 : sg.toInt ≠ 42 := pt_ne s_1_42 (by decide)
        by_cases s_1_43 : sg = 43
        · have qs_1_43 : sg.toInt = 43 := by rw [s_1_43]; decide
          refine lv_tableIn (tgt := 117) (off := 116) hx hb dX7_signKind_1 (by rw [s_1_43]; decide) (by rw [s_1_43]; decide) (by rw [s_1_43]; decide) (by decide) ?_
          refine lv_bipush (v := 38) hx hb dX7_signKind_117 (by decide) ?_
          exact hQ _ _ _ _ _ _ hw rfl (⟨(by unfold pt_sk; have lv : (38 : Int32).toInt = 38 := (by decide); (repeat' split) <;> omega), by decide, by decide, hI, Or.inl ⟨(by unfold pt_s2; (repeat' split) <;> omega), rfl⟩⟩) dX7_signKind_119
        · have qs_1_43 : sg.toInt ≠ 43 := pt_ne s_1_43 (by decide)
          by_cases s_1_44 : sg = 44
          · have qs_1_44 : sg.toInt = 44 := by rw [s_1_44]; decide
            refine lv_tableIn (tgt := 180) (off := 179) hx hb dX7_signKind_1 (by rw [s_1_44]; decide) (by rw [s_1_44]; decide) (by rw [s_1_44]; decide) (by decide) ?_
            refine lv_bipush (v := 28) hx hb dX7_signKind_180 (by decide) ?_
            exact hQ _ _ _ _ _ _ hw rfl (⟨(by unfold pt_sk; have lv : (28 : Int32).toInt = 28 := (by decide); (repeat' split) <;> omega), by decide, by decide, hI, Or.inl ⟨(by unfold pt_s2; (repeat' split) <;> omega), rfl⟩⟩) dX7_signKind_182
          · have qs_1_44 : sg.toInt ≠ 44 := pt_ne s_1_44 (by decide)
            by_cases s_1_45 : sg = 45
            · have qs_1_45 : sg.toInt = 45 := by rw [s_1_45]; decide
              refine lv_tableIn (tgt := 120) (off := 119) hx hb dX7_signKind_1 (by rw [s_1_45]; decide) (by rw [s_1_45]; decide) (by rw [s_1_45]; decide) (by decide) ?_
              refine lv_bipush (v := 39) hx hb dX7_signKind_120 (by decide) ?_
              exact hQ _ _ _ _ _ _ hw rfl (⟨(by unfold pt_sk; have lv : (39 : Int32).toInt = 39 := (by decide); (repeat' split) <;> omega), by decide, by decide, hI, Or.inl ⟨(by unfold pt_s2; (repeat' split) <;> omega), rfl⟩⟩) dX7_signKind_122
            · have qs_1_45 : sg.toInt ≠ 45 := pt_ne s_1_45 (by decide)
              by_cases s_1_46 : sg = 46
              · have qs_1_46 : sg.toInt = 46 := by rw [s_1_46]; decide
                refine lv_tableIn (tgt := 180) (off := 179) hx hb dX7_signKind_1 (by rw [s_1_46]; decide) (by rw [s_1_46]; decide) (by rw [s_1_46]; decide) (by decide) ?_
                refine lv_bipush (v := 28) hx hb dX7_signKind_180 (by decide) ?_
                exact hQ _ _ _ _ _ _ hw rfl (⟨(by unfold pt_sk; have lv : (28 : Int32).toInt = 28 := (by decide); (repeat' split) <;> omega), by decide, by decide, hI, Or.inl ⟨(by unfold pt_s2; (repeat' split) <;> omega), rfl⟩⟩) dX7_signKind_182
              · have qs_1_46 : sg.toInt ≠ 46 := pt_ne s_1_46 (by decide)
                by_cases s_1_47 : sg = 47
                · have qs_1_47 : sg.toInt = 47 := by rw [s_1_47]; decide
                  refine lv_tableIn (tgt := 126) (off := 125) hx hb dX7_signKind_1 (by rw [s_1_47]; decide) (by rw [s_1_47]; decide) (by rw [s_1_47]; decide) (by decide) ?_
                  refine lv_bipush (v := 41) hx hb dX7_signKind_126 (by decide) ?_
                  exact hQ _ _ _ _ _ _ hw rfl (⟨(by unfold pt_sk; have lv : (41 : Int32).toInt = 41 := (by decide); (repeat' split) <;> omega), by decide, by decide, hI, Or.inl ⟨(by unfold pt_s2; (repeat' split) <;> omega), rfl⟩⟩) dX7_signKind_128
                · have qs_1_47 : sg.toInt ≠ 47 := pt_ne s_1_47 (by decide)
                  by_cases s_1_48 : sg = 48
                  · have qs_1_48 : sg.toInt = 48 := by rw [s_1_48]; decide
                    refine lv_tableIn (tgt := 180) (off := 179) hx hb dX7_signKind_1 (by rw [s_1_48]; decide) (by rw [s_1_48]; decide) (by rw [s_1_48]; decide) (by decide) ?_
                    refine lv_bipush (v := 28) hx hb dX7_signKind_180 (by decide) ?_
                    exact hQ _ _ _ _ _ _ hw rfl (⟨(by unfold pt_sk; have lv : (28 : Int32).toInt = 28 := (by decide); (repeat' split) <;> omega), by decide, by decide, hI, Or.inl ⟨(by unfold pt_s2; (repeat' split) <;> omega), rfl⟩⟩) dX7_signKind_182
                  · have qs_1_48 : sg.toInt ≠ 48 := pt_ne s_1_48 (by decide)
                    by_cases s_1_49 : sg = 49
                    · have qs_1_49 : sg.toInt = 49 := by rw [s_1_49]; decide
                      refine lv_tableIn (tgt := 180) (off := 179) hx hb dX7_signKind_1 (by rw [s_1_49]; decide) (by rw [s_1_49]; decide) (by rw [s_1_49]; decide) (by decide) ?_
                      refine lv_bipush (v := 28) hx hb dX7_signKind_180 (by decide) ?_
                      exact hQ _ _ _ _ _ _ hw rfl (⟨(by unfold pt_sk; have lv : (28 : Int32).toInt = 28 := (by decide); (repeat' split) <;> omega), by decide, by decide, hI, Or.inl ⟨(by unfold pt_s2; (repeat' split) <;> omega), rfl⟩⟩) dX7_signKind_182
                    · have qs_1_49 : sg.toInt ≠ 49 := pt_ne s_1_49 (by decide)
                      by_cases s_1_50 : sg = 50
                      · have qs_1_50 : sg.toInt = 50 := by rw [s_1_50]; decide
                        refine lv_tableIn (tgt := 180) (off := 179) hx hb dX7_signKind_1 (by rw [s_1_50]; decide) (by rw [s_1_50]; decide) (by rw [s_1_50]; decide) (by decide) ?_
                        refine lv_bipush (v := 28) hx hb dX7_signKind_180 (by decide) ?_
                        exact hQ _ _ _ _ _ _ hw rfl (⟨(by unfold pt_sk; have lv : (28 : Int32).toInt = 28 := (by decide); (repeat' split) <;> omega), by decide, by decide, hI, Or.inl ⟨(by unfold pt_s2; (repeat' split) <;> omega), rfl⟩⟩) dX7_signKind_182
                      · have qs_1_50 : sg.toInt ≠ 50 := pt_ne s_1_50 (by decide)
                        by_cases s_1_51 : sg = 51
                        · have qs_1_51 : sg.toInt = 51 := by rw [s_1_51]; decide
                          refine lv_tableIn (tgt := 180) (off := 179) hx hb dX7_signKind_1 (by rw [s_1_51]; decide) (by rw [s_1_51]; decide) (by rw [s_1_51]; decide) (by decide) ?_
                          refine lv_bipush (v := 28) hx hb dX7_signKind_180 (by decide) ?_
                          exact hQ _ _ _ _ _ _ hw rfl (⟨(by unfold pt_sk; have lv : (28 : Int32).toInt = 28 := (by decide); (repeat' split) <;> omega), by decide, by decide, hI, Or.inl ⟨(by unfold pt_s2; (repeat' split) <;> omega), rfl⟩⟩) dX7_signKind_182
                        · have qs_1_51 : sg.toInt ≠ 51 := pt_ne s_1_51 (by decide)
                          by_cases s_1_52 : sg = 52
                          · have qs_1_52 : sg.toInt = 52 := by rw [s_1_52]; decide
                            refine lv_tableIn (tgt := 180) (off := 179) hx hb dX7_signKind_1 (by rw [s_1_52]; decide) (by rw [s_1_52]; decide) (by rw [s_1_52]; decide) (by decide) ?_
                            refine lv_bipush (v := 28) hx hb dX7_signKind_180 (by decide) ?_
                            exact hQ _ _ _ _ _ _ hw rfl (⟨(by unfold pt_sk; have lv : (28 : Int32).toInt = 28 := (by decide); (repeat' split) <;> omega), by decide, by decide, hI, Or.inl ⟨(by unfold pt_s2; (repeat' split) <;> omega), rfl⟩⟩) dX7_signKind_182
                          · have qs_1_52 : sg.toInt ≠ 52 := pt_ne s_1_52 (by decide)
                            by_cases s_1_53 : sg = 53
                            · have qs_1_53 : sg.toInt = 53 := by rw [s_1_53]; decide
                              refine lv_tableIn (tgt := 180) (off := 179) hx hb dX7_signKind_1 (by rw [s_1_53]; decide) (by rw [s_1_53]; decide) (by rw [s_1_53]; decide) (by decide) ?_
                              refine lv_bipush (v := 28) hx hb dX7_signKind_180 (by decide) ?_
                              exact hQ _ _ _ _ _ _ hw rfl (⟨(by unfold pt_sk; have lv : (28 : Int32).toInt = 28 := (by decide); (repeat' split) <;> omega), by decide, by decide, hI, Or.inl ⟨(by unfold pt_s2; (repeat' split) <;> omega), rfl⟩⟩) dX7_signKind_182
                            · have qs_1_53 : sg.toInt ≠ 53 := pt_ne s_1_53 (by decide)
                              by_cases s_1_54 : sg = 54
                              · have qs_1_54 : sg.toInt = 54 := by rw [s_1_54]; decide
                                refine lv_tableIn (tgt := 180) (off := 179) hx hb dX7_signKind_1 (by rw [s_1_54]; decide) (by rw [s_1_54]; decide) (by rw [s_1_54]; decide) (by decide) ?_
                                refine lv_bipush (v := 28) hx hb dX7_signKind_180 (by decide) ?_
                                exact hQ _ _ _ _ _ _ hw rfl (⟨(by unfold pt_sk; have lv : (28 : Int32).toInt = 28 := (by decide); (repeat' split) <;> omega), by decide, by decide, hI, Or.inl ⟨(by unfold pt_s2; (repeat' split) <;> omega), rfl⟩⟩) dX7_signKind_182
                              · have qs_1_54 : sg.toInt ≠ 54 := pt_ne s_1_54 (by decide)
                                by_cases s_1_55 : sg = 55
                                · have qs_1_55 : sg.toInt = 55 := by rw [s_1_55]; decide
                                  refine lv_tableIn (tgt := 180) (off := 179) hx hb dX7_signKind_1 (by rw [s_1_55]; decide) (by rw [s_1_55]; decide) (by rw [s_1_55]; decide) (by decide) ?_
                                  refine lv_bipush (v := 28) hx hb dX7_signKind_180 (by decide) ?_
                                  exact hQ _ _ _ _ _ _ hw rfl (⟨(by unfold pt_sk; have lv : (28 : Int32).toInt = 28 := (by decide); (repeat' split) <;> omega), by decide, by decide, hI, Or.inl ⟨(by unfold pt_s2; (repeat' split) <;> omega), rfl⟩⟩) dX7_signKind_182
                                · have qs_1_55 : sg.toInt ≠ 55 := pt_ne s_1_55 (by decide)
                                  by_cases s_1_56 : sg = 56
                                  · have qs_1_56 : sg.toInt = 56 := by rw [s_1_56]; decide
                                    refine lv_tableIn (tgt := 180) (off := 179) hx hb dX7_signKind_1 (by rw [s_1_56]; decide) (by rw [s_1_56]; decide) (by rw [s_1_56]; decide) (by decide) ?_
                                    refine lv_bipush (v := 28) hx hb dX7_signKind_180 (by decide) ?_
                                    exact hQ _ _ _ _ _ _ hw rfl (⟨(by unfold pt_sk; have lv : (28 : Int32).toInt = 28 := (by decide); (repeat' split) <;> omega), by decide, by decide, hI, Or.inl ⟨(by unfold pt_s2; (repeat' split) <;> omega), rfl⟩⟩) dX7_signKind_182
                                  · have qs_1_56 : sg.toInt ≠ 56 := pt_ne s_1_56 (by decide)
                                    by_cases s_1_57 : sg = 57
                                    · have qs_1_57 : sg.toInt = 57 := by rw [s_1_57]; decide
                                      refine lv_tableIn (tgt := 180) (off := 179) hx hb dX7_signKind_1 (by rw [s_1_57]; decide) (by rw [s_1_57]; decide) (by rw [s_1_57]; decide) (by decide) ?_
                                      refine lv_bipush (v := 28) hx hb dX7_signKind_180 (by decide) ?_
                                      exact hQ _ _ _ _ _ _ hw rfl (⟨(by unfold pt_sk; have lv : (28 : Int32).toInt = 28 := (by decide); (repeat' split) <;> omega), by decide, by decide, hI, Or.inl ⟨(by unfold pt_s2; (repeat' split) <;> omega), rfl⟩⟩) dX7_signKind_182
                                    · have qs_1_57 : sg.toInt ≠ 57 := pt_ne s_1_57 (by decide)
                                      by_cases s_1_58 : sg = 58
                                      · have qs_1_58 : sg.toInt = 58 := by rw [s_1_58]; decide
                                        refine lv_tableIn (tgt := 180) (off := 179) hx hb dX7_signKind_1 (by rw [s_1_58]; decide) (by rw [s_1_58]; decide) (by rw [s_1_58]; decide) (by decide) ?_
                                        refine lv_bipush (v := 28) hx hb dX7_signKind_180 (by decide) ?_
                                        exact hQ _ _ _ _ _ _ hw rfl (⟨(by unfold pt_sk; have lv : (28 : Int32).toInt = 28 := (by decide); (repeat' split) <;> omega), by decide, by decide, hI, Or.inl ⟨(by unfold pt_s2; (repeat' split) <;> omega), rfl⟩⟩) dX7_signKind_182
                                      · have qs_1_58 : sg.toInt ≠ 58 := pt_ne s_1_58 (by decide)
                                        by_cases s_1_59 : sg = 59
                                        · have qs_1_59 : sg.toInt = 59 := by rw [s_1_59]; decide
                                          refine lv_tableIn (tgt := 108) (off := 107) hx hb dX7_signKind_1 (by rw [s_1_59]; decide) (by rw [s_1_59]; decide) (by rw [s_1_59]; decide) (by decide) ?_
                                          refine lv_bipush (v := 29) hx hb dX7_signKind_108 (by decide) ?_
                                          exact hQ _ _ _ _ _ _ hw rfl (⟨(by unfold pt_sk; have lv : (29 : Int32).toInt = 29 := (by decide); (repeat' split) <;> omega), by decide, by decide, hI, Or.inl ⟨(by unfold pt_s2; (repeat' split) <;> omega), rfl⟩⟩) dX7_signKind_110
                                        · have qs_1_59 : sg.toInt ≠ 59 := pt_ne s_1_59 (by decide)
                                          by_cases s_1_60 : sg = 60
                                          · have qs_1_60 : sg.toInt = 60 := by rw [s_1_60]; decide
                                            refine lv_tableIn (tgt := 132) (off := 131) hx hb dX7_signKind_1 (by rw [s_1_60]; decide) (by rw [s_1_60]; decide) (by rw [s_1_60]; decide) (by decide) ?_
                                            refine lv_aload_n hx hb dX7_signKind_132 rfl (lv_at hl 0 rfl) ?_
                                            refine lv_bipush (v := 61) hx hb dX7_signKind_133 (by decide) ?_
                                            refine ti_callVi (ci := 7) (av := [.int 61]) C hw (x_X7_belongs l D A cy hJ M hI 61 (by first | omega | decide)) ⟨ml_X7_76, ym_X7_belongs, yv_X7_belongs, yi_X7_belongs, yc_X7_belongs⟩ yd_X7_belongs ob_2 (by decide) rfl rfl hl.1 (Nat.le_of_ble_eq_true rfl) ⟨by decide, by decide⟩ ⟨Nat.zero_le _, Nat.zero_le _⟩ dX7_signKind_135 (fun r_2 M_3 H locs hp_3 hw => ?_)
                                            have lg_4 : (61 : Int32).toInt = 61 := by decide
                                            rcases hp_3 with ⟨rfl, hmg_4, g_4⟩ | ⟨rfl, g_4, y_5, ty_5, iM_3, hM_3⟩
                                            · have hw := hw.to hmg_4
                                              refine sb_if_eq (tgt := 146) hx hb (by decide : (0 : Int32).toInt = 0) dX7_signKind_138 (by decide) (fun c_138_5 => ?_) (fun h => absurd h (by decide))
                                              refine lv_aload_n hx hb dX7_signKind_146 rfl (lv_at hl 0 rfl) ?_
                                              refine lv_bipush (v := 62) hx hb dX7_signKind_147 (by decide) ?_
                                              refine ti_callVi (ci := 7) (av := [.int 62]) C hw (x_X7_belongs l D A cy hJ M hI 62 (by first | omega | decide)) ⟨ml_X7_76, ym_X7_belongs, yv_X7_belongs, yi_X7_belongs, yc_X7_belongs⟩ yd_X7_belongs ob_2 (by decide) rfl rfl hl.1 (Nat.le_of_ble_eq_true rfl) ⟨by decide, by decide⟩ ⟨Nat.zero_le _, Nat.zero_le _⟩ dX7_signKind_149 (fun r_8 M_9 H locs hp_9 hw => ?_)
                                              have lg_10 : (62 : Int32).toInt = 62 := by decide
                                              rcases hp_9 with ⟨rfl, hmg_10, g_10⟩ | ⟨rfl, g_10, y_11, ty_11, iM_9, hM_9⟩
                                              · have hw := hw.to hmg_10
                                                refine sb_if_eq (tgt := 160) hx hb (by decide : (0 : Int32).toInt = 0) dX7_signKind_152 (by decide) (fun c_152_11 => ?_) (fun h => absurd h (by decide))
                                                refine lv_bipush (v := 32) hx hb dX7_signKind_160 (by decide) ?_
                                                exact hQ _ _ _ _ _ _ hw rfl (⟨(by unfold pt_sk; have lv : (32 : Int32).toInt = 32 := (by decide); (repeat' split) <;> omega), by decide, by decide, hI, Or.inl ⟨(by unfold pt_s2; (repeat' split) <;> omega), rfl⟩⟩) dX7_signKind_162
                                              · refine sb_if_eq (tgt := 160) hx hb (by decide : (1 : Int32).toInt = 1) dX7_signKind_152 (by decide) (fun h => absurd h (by decide)) (fun c_152_12 => ?_)
                                                refine lv_bipush (v := 35) hx hb dX7_signKind_155 (by decide) ?_
                                                refine lv_goto (tgt := 162) hx hb dX7_signKind_157 (by decide) ?_
                                                exact hQ _ _ _ _ _ _ hw rfl (⟨(by unfold pt_sk; have lv : (35 : Int32).toInt = 35 := (by decide); (repeat' split) <;> omega), by decide, by decide, iM_9, Or.inr ⟨(by unfold pt_s2; (repeat' split) <;> omega), y_11, ty_11, hM_9⟩⟩) dX7_signKind_162
                                            · refine sb_if_eq (tgt := 146) hx hb (by decide : (1 : Int32).toInt = 1) dX7_signKind_138 (by decide) (fun h => absurd h (by decide)) (fun c_138_6 => ?_)
                                              refine lv_bipush (v := 33) hx hb dX7_signKind_141 (by decide) ?_
                                              refine lv_goto (tgt := 162) hx hb dX7_signKind_143 (by decide) ?_
                                              exact hQ _ _ _ _ _ _ hw rfl (⟨(by unfold pt_sk; have lv : (33 : Int32).toInt = 33 := (by decide); (repeat' split) <;> omega), by decide, by decide, iM_3, Or.inr ⟨(by unfold pt_s2; (repeat' split) <;> omega), y_5, ty_5, hM_3⟩⟩) dX7_signKind_162
                                          · have qs_1_60 : sg.toInt ≠ 60 := pt_ne s_1_60 (by decide)
                                            by_cases s_1_61 : sg = 61
                                            · have qs_1_61 : sg.toInt = 61 := by rw [s_1_61]; decide
                                              refine lv_tableIn (tgt := 129) (off := 128) hx hb dX7_signKind_1 (by rw [s_1_61]; decide) (by rw [s_1_61]; decide) (by rw [s_1_61]; decide) (by decide) ?_
                                              refine lv_bipush (v := 34) hx hb dX7_signKind_129 (by decide) ?_
                                              exact hQ _ _ _ _ _ _ hw rfl (⟨(by unfold pt_sk; have lv : (34 : Int32).toInt = 34 := (by decide); (repeat' split) <;> omega), by decide, by decide, hI, Or.inl ⟨(by unfold pt_s2; (repeat' split) <;> omega), rfl⟩⟩) dX7_signKind_131
                                            · have qs_1_61 : sg.toInt ≠ 61 := pt_ne s_1_61 (by decide)
                                              by_cases s_1_62 : sg = 62
                                              · have qs_1_62 : sg.toInt = 62 := by rw [s_1_62]; decide
                                                refine lv_tableIn (tgt := 163) (off := 162) hx hb dX7_signKind_1 (by rw [s_1_62]; decide) (by rw [s_1_62]; decide) (by rw [s_1_62]; decide) (by decide) ?_
                                                refine lv_aload_n hx hb dX7_signKind_163 rfl (lv_at hl 0 rfl) ?_
                                                refine lv_bipush (v := 61) hx hb dX7_signKind_164 (by decide) ?_
                                                refine ti_callVi (ci := 7) (av := [.int 61]) C hw (x_X7_belongs l D A cy hJ M hI 61 (by first | omega | decide)) ⟨ml_X7_76, ym_X7_belongs, yv_X7_belongs, yi_X7_belongs, yc_X7_belongs⟩ yd_X7_belongs ob_2 (by decide) rfl rfl hl.1 (Nat.le_of_ble_eq_true rfl) ⟨by decide, by decide⟩ ⟨Nat.zero_le _, Nat.zero_le _⟩ dX7_signKind_166 (fun r_14 M_15 H locs hp_15 hw => ?_)
                                                have lg_16 : (61 : Int32).toInt = 61 := by decide
                                                rcases hp_15 with ⟨rfl, hmg_16, g_16⟩ | ⟨rfl, g_16, y_17, ty_17, iM_15, hM_15⟩
                                                · have hw := hw.to hmg_16
                                                  refine sb_if_eq (tgt := 177) hx hb (by decide : (0 : Int32).toInt = 0) dX7_signKind_169 (by decide) (fun c_169_17 => ?_) (fun h => absurd h (by decide))
                                                  refine lv_bipush (v := 37) hx hb dX7_signKind_177 (by decide) ?_
                                                  exact hQ _ _ _ _ _ _ hw rfl (⟨(by unfold pt_sk; have lv : (37 : Int32).toInt = 37 := (by decide); (repeat' split) <;> omega), by decide, by decide, hI, Or.inl ⟨(by unfold pt_s2; (repeat' split) <;> omega), rfl⟩⟩) dX7_signKind_179
                                                · refine sb_if_eq (tgt := 177) hx hb (by decide : (1 : Int32).toInt = 1) dX7_signKind_169 (by decide) (fun h => absurd h (by decide)) (fun c_169_18 => ?_)
                                                  refine lv_bipush (v := 36) hx hb dX7_signKind_172 (by decide) ?_
                                                  refine lv_goto (tgt := 179) hx hb dX7_signKind_174 (by decide) ?_
                                                  exact hQ _ _ _ _ _ _ hw rfl (⟨(by unfold pt_sk; have lv : (36 : Int32).toInt = 36 := (by decide); (repeat' split) <;> omega), by decide, by decide, iM_15, Or.inr ⟨(by unfold pt_s2; (repeat' split) <;> omega), y_17, ty_17, hM_15⟩⟩) dX7_signKind_179
                                              · have qs_1_62 : sg.toInt ≠ 62 := pt_ne s_1_62 (by decide)
                                                refine lv_tableOut (tgt := 180) hx hb dX7_signKind_1 (ti_out (lo := 40) (hi := 62) sg (fun v h1 h2 => by rcases (show v = 40 ∨ v = 41 ∨ v = 42 ∨ v = 43 ∨ v = 44 ∨ v = 45 ∨ v = 46 ∨ v = 47 ∨ v = 48 ∨ v = 49 ∨ v = 50 ∨ v = 51 ∨ v = 52 ∨ v = 53 ∨ v = 54 ∨ v = 55 ∨ v = 56 ∨ v = 57 ∨ v = 58 ∨ v = 59 ∨ v = 60 ∨ v = 61 ∨ v = 62 by omega) with rfl | rfl | rfl | rfl | rfl | rfl | rfl | rfl | rfl | rfl | rfl | rfl | rfl | rfl | rfl | rfl | rfl | rfl | rfl | rfl | rfl | rfl | rfl <;> first | exact ti_nev 40 s_1_40 (by decide) | exact ti_nev 41 s_1_41 (by decide) | exact ti_nev 42 s_1_42 (by decide) | exact ti_nev 43 s_1_43 (by decide) | exact ti_nev 44 s_1_44 (by decide) | exact ti_nev 45 s_1_45 (by decide) | exact ti_nev 46 s_1_46 (by decide) | exact ti_nev 47 s_1_47 (by decide) | exact ti_nev 48 s_1_48 (by decide) | exact ti_nev 49 s_1_49 (by decide) | exact ti_nev 50 s_1_50 (by decide) | exact ti_nev 51 s_1_51 (by decide) | exact ti_nev 52 s_1_52 (by decide) | exact ti_nev 53 s_1_53 (by decide) | exact ti_nev 54 s_1_54 (by decide) | exact ti_nev 55 s_1_55 (by decide) | exact ti_nev 56 s_1_56 (by decide) | exact ti_nev 57 s_1_57 (by decide) | exact ti_nev 58 s_1_58 (by decide) | exact ti_nev 59 s_1_59 (by decide) | exact ti_nev 60 s_1_60 (by decide) | exact ti_nev 61 s_1_61 (by decide) | exact ti_nev 62 s_1_62 (by decide))) (by decide) ?_
                                                refine lv_bipush (v := 28) hx hb dX7_signKind_180 (by decide) ?_
                                                exact hQ _ _ _ _ _ _ hw rfl (⟨(by unfold pt_sk; have lv : (28 : Int32).toInt = 28 := (by decide); (repeat' split) <;> omega), by decide, by decide, hI, Or.inl ⟨(by unfold pt_s2; (repeat' split) <;> omega), rfl⟩⟩) dX7_signKind_182
set_option maxHeartbeats 4000000 in
set_option maxRecDepth 100000 in
theorem x_X7_readNumber (l : Launch) (D : va_G) (A : Nat → Nat → Nat) (cy : Nat → ClassId) (hJ : ti_inj ti_LT A) (M : ti_M) (hI : cI Tc M) (hv : (tI M 2 6).toInt ≤ 1000000) : ti_Kv l yX7_readNumber cX7_readNumber 1 1 ti_LT D A cy M [.ref (A 2 0)] (fun M2 => cI Tc M2 ∧ M2.2.2.2 = M.2.2.2 ∧ o2 M2 M ∧ tI M2 2 1 = tI M 2 1 ∧ tp M2 M ∧ tI M2 2 5 = tI M 2 5 ∧ (tI M2 2 4).toInt = 26 ∧ (tI M2 2 3).toInt = ((pt_to pt_D (pt_cB M) (pt_cn M) (tI M 2 3).toInt.toNat : Nat) : Int) ∧ (tI M2 2 6).toInt = pt_nv (pt_cB M) (pt_cn M) (tI M 2 3).toInt.toNat (tI M 2 6).toInt) := by
  refine ti_eV yp_X7_readNumber hJ ti_LT_nd (Nat.le_of_ble_eq_true rfl) ?_
  intro p e s m args below meth c Q H0 C hQ hw ls hl
  have hx := C.1
  have hb := C.2.1
  have hl : lv_has ls 1 [(0, .ref (A 2 0))] := hl
  refine lv_aload_n hx hb dX7_readNumber_0 rfl (lv_at hl 0 rfl) ?_
  refine lv_bipush (v := 26) hx hb dX7_readNumber_1 (by decide) ?_
  refine ti_putI (ci := 7) (k := 4) (N := 7) (T := TX7) C hw iw_7 tyX7 tyX7_ok nmX7 rfl ob_2 (by decide) (by decide) fl_X7_44 rfl rfl rfl rfl (fn_7 A _) fs_7_4 dX7_readNumber_3 (fun H locs hw => ?_)
  obtain ⟨M_1, hM_1⟩ : ∃ z : ti_M, z = uI M 2 4 26 := ⟨_, rfl⟩
  have hw := hw.to hM_1.symm
  have iM_1 : cI Tc M_1 := cI_uI hI hM_1 ob_2.1 (ib_mk (lo := 0) (hi := 41) (by decide) (by decide))
  have vM_1 : (tI M_1 2 4).toInt = 26 := by rw [tI_uE hM_1]; decide
  have u_13 : (tI M_1 2 3).toInt = (tI M 2 3).toInt := by rw [(tI_nE hM_1 (nk (by decide)))]
  have u_14 : 0 ≤ (tI M_1 2 3).toInt ∧ (tI M_1 2 3).toInt ≤ 700 := cI_rd (x := tI M_1 2 3) (k := 3) iM_1 ob_2.1 rfl
  have u_15 : (tI M_1 2 4).toInt = (26 : Int32).toInt := by rw [(tI_uE hM_1)]
  have u_16 : (tI M_1 2 6).toInt = (tI M 2 6).toInt := by rw [(tI_nE hM_1 (nk (by decide)))]
  have u_17 : 0 ≤ (tI M_1 2 6).toInt ∧ (tI M_1 2 6).toInt ≤ 2147483647 := cI_rd (x := tI M_1 2 6) (k := 6) iM_1 ob_2.1 rfl
  have hl_6_11 : ∀ (n_12 : Nat) (M_2 : ti_M) (H : Heap) (locs : List Loc) (ls : Array Slot), (700 - (tI M_2 2 3).toInt : Int).toNat < n_12 → (cI Tc M_2) → (M_2.2.2.2 = M.2.2.2) → (o2 M_2 M) → (tI M_2 2 1 = tI M 2 1) → (tp M_2 M) → (tI M_2 2 5 = tI M 2 5) → ((tI M_2 2 6).toInt ≤ 1000000) → ((tI M_2 2 4).toInt = 26) → (pt_to pt_D (pt_cB M) (pt_cn M) (tI M_2 2 3).toInt.toNat = pt_to pt_D (pt_cB M) (pt_cn M) (tI M 2 3).toInt.toNat) → (pt_nv (pt_cB M) (pt_cn M) (tI M_2 2 3).toInt.toNat (tI M_2 2 6).toInt = pt_nv (pt_cB M) (pt_cn M) (tI M 2 3).toInt.toNat (tI M 2 6).toInt) → ti_H ti_LT D A cy H0 M_2 H locs → lv_has ls 1 [(0, .ref (A 2 0))] → W p l e (ti_rm 1) s m args below meth c H locs 0 0 Q (F0 m 6 ls []) := by
    intro n_12
    induction n_12 with
    | zero => intro M_2 H locs ls hf_12; exact absurd hf_12 (Nat.not_lt_zero _)
    | succ n_12 ih_12 =>
      intro M_2 H locs ls hf_12 iM_2 f_3 f_4 f_5 f_6 f_7 j_8 j_9 j_10 j_11 hw hl
      refine lv_aload_n hx hb dX7_readNumber_6 rfl (lv_at hl 0 rfl) ?_
      refine ti_get (ci := 7) (k := 3) (N := 7) (T := TX7) C hw iw_7 rfl ob_2 (by decide) (by decide) fl_X7_22 rfl rfl dX7_readNumber_7 ?_
      refine lv_topi (fun x_18 ex_18 => ?_)
      have bx_18 : 0 ≤ x_18.toInt ∧ x_18.toInt ≤ 700 := cI_rd iM_2 ob_2.1 ex_18
      have ux_18 : (tI M_2 2 3).toInt = x_18.toInt := by rw [ex_18]
      refine lv_aload_n hx hb dX7_readNumber_10 rfl (lv_at hl 0 rfl) ?_
      refine ti_get (ci := 7) (k := 2) (N := 7) (T := TX7) C hw iw_7 rfl ob_2 (by decide) (by decide) fl_X7_19 rfl rfl dX7_readNumber_11 ?_
      refine lv_topi (fun x_19 ex_19 => ?_)
      have bx_19 : 0 ≤ x_19.toInt ∧ x_19.toInt ≤ 700 := cI_rd iM_2 ob_2.1 ex_19
      have ux_19 : (tI M_2 2 2).toInt = x_19.toInt := by rw [ex_19]
      refine sb_icmp_ge (tgt := 64) hx hb rfl rfl dX7_readNumber_14 (by decide) (fun c_14_19 => ?_) (fun c_14_19 => ?_)
      · exact hQ _ _ _ _ _ hw (⟨iM_2, (f_3), f_4, (f_5), f_6, (f_7), by omega, (by rw [← j_10, pt_to_end (P := pt_D) (B := pt_cB M) (n := pt_cn M) (a := (tI M_2 2 3).toInt.toNat) (fun q => by have q1 := q.1; have q2 := tp_n f_6; unfold pt_cn at q1 q2; omega)]; omega), (by rw [← j_11, pt_nv_end (B := pt_cB M) (n := pt_cn M) (a := (tI M_2 2 3).toInt.toNat) (fun q => by have q1 := q.1; have q2 := tp_n f_6; unfold pt_cn at q1 q2; omega)])⟩) dX7_readNumber_64
      · refine lv_aload_n hx hb dX7_readNumber_17 rfl (lv_at hl 0 rfl) ?_
        refine ti_callVi (ci := 7) (av := []) C hw (s_X7_peek l D A cy hJ M_2 iM_2 ) ⟨ml_X7_34, ym_X7_peek, yv_X7_peek, yi_X7_peek, yc_X7_peek⟩ yd_X7_peek ob_2 (by decide) rfl rfl hl.1 (Nat.le_of_ble_eq_true rfl) ⟨by decide, by decide⟩ ⟨Nat.zero_le _, Nat.zero_le _⟩ dX7_readNumber_18 (fun r_21 M_22 H locs hp_22 hw => ?_)
        obtain ⟨hm, b0r_21, b1r_21, p0r_21, p1r_21⟩ := hp_22
        have hw := hw.to hm
        have kr_21 := tp_pk f_6 iM_2 p1r_21
        refine ti_callSi (av := [.int r_21]) C hw (x_X7_isDigit l D A cy hJ M_2 iM_2 r_21) ⟨ml_X7_54, ys_X7_isDigit, yi_X7_isDigit, yc_X7_isDigit⟩ yd_X7_isDigit rfl hl.1 (Nat.le_of_ble_eq_true rfl) ⟨by decide, by decide⟩ ⟨Nat.zero_le _, Nat.zero_le _⟩ dX7_readNumber_21 (fun r_23 M_24 H locs hp_24 hw => ?_)
        obtain ⟨hm, hz⟩ := hp_24
        have hw := hw.to hm
        rcases hz with ⟨rfl, d1_25, d2_25⟩ | ⟨rfl, d1_25⟩
        · refine sb_if_eq (tgt := 64) hx hb (by decide : (1 : Int32).toInt = 1) dX7_readNumber_24 (by decide) (fun h => absurd h (by decide)) (fun c_24_25 => ?_)
          refine lv_aload_n hx hb dX7_readNumber_27 rfl (lv_at hl 0 rfl) ?_
          refine lv_aload_n hx hb dX7_readNumber_28 rfl (lv_at hl 0 rfl) ?_
          refine ti_get (ci := 7) (k := 6) (N := 7) (T := TX7) C hw iw_7 rfl ob_2 (by decide) (by decide) fl_X7_41 rfl rfl dX7_readNumber_29 ?_
          refine lv_topi (fun x_28 ex_28 => ?_)
          have bx_28 : 0 ≤ x_28.toInt ∧ x_28.toInt ≤ 2147483647 := cI_rd iM_2 ob_2.1 ex_28
          have ux_28 : (tI M_2 2 6).toInt = x_28.toInt := by rw [ex_28]
          refine lv_bipush (v := 10) hx hb dX7_readNumber_32 (by decide) ?_
          refine lv_imul hx hb dX7_readNumber_34 ?_
          refine lv_topi (fun x_29 ex_29 => ?_)
          have lox_29x_28 := x_28.le_toInt
          have hix_29x_28 := x_28.toInt_lt
          have tx_29 : x_29.toInt = x_28.toInt * 10 := i_mul ex_29 rfl (by decide : (10 : Int32).toInt = 10) (by omega) (by omega)
          refine lv_aload_n hx hb dX7_readNumber_35 rfl (lv_at hl 0 rfl) ?_
          refine ti_callVi (ci := 7) (av := []) C hw (s_X7_peek l D A cy hJ M_2 iM_2 ) ⟨ml_X7_34, ym_X7_peek, yv_X7_peek, yi_X7_peek, yc_X7_peek⟩ yd_X7_peek ob_2 (by decide) rfl rfl hl.1 (Nat.le_of_ble_eq_true rfl) ⟨by decide, by decide⟩ ⟨Nat.zero_le _, Nat.zero_le _⟩ dX7_readNumber_36 (fun r_30 M_31 H locs hp_31 hw => ?_)
          obtain ⟨hm, b0r_30, b1r_30, p0r_30, p1r_30⟩ := hp_31
          have hw := hw.to hm
          have kr_30 := tp_pk f_6 iM_2 p1r_30
          refine lv_iadd hx hb dX7_readNumber_39 ?_
          refine lv_topi (fun x_32 ex_32 => ?_)
          have lox_32x_29 := x_29.le_toInt
          have hix_32x_29 := x_29.toInt_lt
          have lox_32r_30 := r_30.le_toInt
          have hix_32r_30 := r_30.toInt_lt
          have tx_32 : x_32.toInt = x_29.toInt + r_30.toInt := i_add ex_32 rfl rfl (by omega) (by omega)
          refine lv_bipush (v := 48) hx hb dX7_readNumber_40 (by decide) ?_
          refine lv_isub hx hb dX7_readNumber_42 ?_
          refine lv_topi (fun x_33 ex_33 => ?_)
          have lox_33x_32 := x_32.le_toInt
          have hix_33x_32 := x_32.toInt_lt
          have tx_33 : x_33.toInt = x_32.toInt - 48 := i_sub ex_33 rfl (by decide : (48 : Int32).toInt = 48) (by omega) (by omega)
          refine lv_ldc (v := 1000000) hx hb C.2.2.2.1 (C.2.2.1 _ cn_X7_64) dX7_readNumber_43 ?_
          refine ti_min C ml_X7_25 hl.1 (by decide) (Nat.le_of_ble_eq_true rfl) ⟨Nat.zero_le _, Nat.zero_le _⟩ dX7_readNumber_45 ?_
          refine lv_topi (fun x_34 ex_34 => ?_)
          have bx_34 := i_min ex_34 rfl (by decide : (1000000 : Int32).toInt = 1000000)
          refine ti_putI (ci := 7) (k := 6) (N := 7) (T := TX7) C hw iw_7 tyX7 tyX7_ok nmX7 rfl ob_2 (by decide) (by decide) fl_X7_41 rfl rfl rfl rfl (fn_7 A _) fs_7_6 dX7_readNumber_48 (fun H locs hw => ?_)
          obtain ⟨M_35, hM_35⟩ : ∃ z : ti_M, z = uI M_2 2 6 x_34 := ⟨_, rfl⟩
          have hw := hw.to hM_35.symm
          have iM_35 : cI Tc M_35 := cI_uI iM_2 hM_35 ob_2.1 (ib_mk (lo := 0) (hi := 2147483647) (by omega) (by omega))
          have vM_35 : (tI M_35 2 6).toInt = (x_34 : Int32).toInt := by rw [tI_uE hM_35]
          refine lv_aload_n hx hb dX7_readNumber_51 rfl (lv_at hl 0 rfl) ?_
          refine lv_dup hx hb dX7_readNumber_52 rfl ?_
          refine ti_get (ci := 7) (k := 3) (N := 7) (T := TX7) C hw iw_7 rfl ob_2 (by decide) (by decide) fl_X7_22 rfl rfl dX7_readNumber_53 ?_
          refine ti_top (y := x_18) ((tI_nE hM_35 (nk (by decide))).trans ex_18.symm) ?_
          have u_36 : (tI M_35 2 3).toInt = (x_18 : Int32).toInt := by rw [((tI_nE hM_35 (nk (by decide))).trans ex_18.symm)]
          refine lv_iconst (v := 1) hx hb dX7_readNumber_56 (by decide) ?_
          refine lv_iadd hx hb dX7_readNumber_57 ?_
          refine lv_topi (fun x_37 ex_37 => ?_)
          have tx_37 : x_37.toInt = x_18.toInt + 1 := i_add ex_37 rfl (by decide : (1 : Int32).toInt = 1) (by omega) (by omega)
          refine ti_putI (ci := 7) (k := 3) (N := 7) (T := TX7) C hw iw_7 tyX7 tyX7_ok nmX7 rfl ob_2 (by decide) (by decide) fl_X7_22 rfl rfl rfl rfl (fn_7 A _) fs_7_3 dX7_readNumber_58 (fun H locs hw => ?_)
          obtain ⟨M_38, hM_38⟩ : ∃ z : ti_M, z = uI M_35 2 3 x_37 := ⟨_, rfl⟩
          have hw := hw.to hM_38.symm
          have iM_38 : cI Tc M_38 := cI_uI iM_35 hM_38 ob_2.1 (ib_mk (lo := 0) (hi := 700) (by omega) (by omega))
          have vM_38 : (tI M_38 2 3).toInt = (x_37 : Int32).toInt := by rw [tI_uE hM_38]
          refine lv_goto (tgt := 6) hx hb dX7_readNumber_61 (by decide) ?_
          have u_39 : (tI M_38 2 3).toInt = (x_37 : Int32).toInt := by rw [(tI_uE hM_38)]
          have u_40 : (tI M_38 2 4).toInt = (tI M_2 2 4).toInt := by rw [((tI_nE hM_38 (nk (by decide))).trans (tI_nE hM_35 (nk (by decide))))]
          have u_41 : 0 ≤ (tI M_38 2 4).toInt ∧ (tI M_38 2 4).toInt ≤ 41 := cI_rd (x := tI M_38 2 4) (k := 4) iM_38 ob_2.1 rfl
          have u_42 : (tI M_38 2 6).toInt = (x_34 : Int32).toInt := by rw [((tI_nE hM_38 (nk (by decide))).trans (tI_uE hM_35))]
          exact ih_12 M_38 _ _ _ (by omega) iM_38 ((rf_I hM_38).trans ((rf_I hM_35).trans f_3)) (o2.trans (o2_I hM_38) (o2.trans (o2_I hM_35) f_4)) ((tI_nE hM_38 (nk (by decide))).trans ((tI_nE hM_35 (nk (by decide))).trans f_5)) (tp.trans (tp_I hM_38 (by decide)) (tp.trans (tp_I hM_35 (by decide)) f_6)) ((tI_nE hM_38 (nk (by decide))).trans ((tI_nE hM_35 (nk (by decide))).trans f_7)) (by first | omega | decide) (by first | omega | decide) (by have h := pt_pk_in kr_21 (by omega); have e1 : (tI M_38 2 3).toInt.toNat = (tI M_2 2 3).toInt.toNat + 1 := (by rw [(tI_uE hM_38), (ex_18.symm)]; omega); rw [e1, ← pt_to_go (P := pt_D) (B := pt_cB M) h.1 (by rw [← h.2]; exact pt_Dt (by omega) (by omega))]; exact j_10) (by have h := pt_pk_in kr_21 (by omega); have e1 : (tI M_38 2 3).toInt.toNat = (tI M_2 2 3).toInt.toNat + 1 := (by rw [(tI_uE hM_38), (ex_18.symm)]; omega); rw [e1, ((tI_nE hM_38 (nk (by decide))).trans (tI_uE hM_35)), show x_34.toInt = min ((tI M_2 2 6).toInt * 10 + pt_cB M (tI M_2 2 3).toInt.toNat - 48) 1000000 by (rw [← h.2]; omega), ← pt_nv_go (B := pt_cB M) h.1 (by rw [← h.2]; exact pt_Dt (by omega) (by omega))]; exact j_11) hw (lv_sub hl [0] rfl)
        · refine sb_if_eq (tgt := 64) hx hb (by decide : (0 : Int32).toInt = 0) dX7_readNumber_24 (by decide) (fun c_24_26 => ?_) (fun h => absurd h (by decide))
          exact hQ _ _ _ _ _ hw (⟨iM_2, (f_3), f_4, (f_5), f_6, (f_7), by omega, (by rw [← j_10, pt_to_end (P := pt_D) (B := pt_cB M) (n := pt_cn M) (a := (tI M_2 2 3).toInt.toNat) (pt_pk_no kr_21 (pt_Df (by omega)))]; omega), (by rw [← j_11, pt_nv_end (B := pt_cB M) (n := pt_cn M) (a := (tI M_2 2 3).toInt.toNat) (pt_pk_no kr_21 (pt_Df (by omega)))])⟩) dX7_readNumber_64
  exact hl_6_11 ((700 - (tI M_1 2 3).toInt : Int).toNat + 1) M_1 _ _ _ (Nat.lt_succ_self _) iM_1 (rf_I hM_1) (o2_I hM_1) (tI_nE hM_1 (nk (by decide))) (tp_I hM_1 (by decide)) (tI_nE hM_1 (nk (by decide))) (by first | omega | decide) (by first | omega | decide) (by rw [(tI_nE hM_1 (nk (by decide)))]) (by rw [(tI_nE hM_1 (nk (by decide))), (tI_nE hM_1 (nk (by decide)))]) hw (lv_sub hl [0] rfl)
theorem pt_chc {c x : Int32} {w i : Nat} (e : c = tx_cb.getD x.toNatClampNeg 0 &&& 255) (hx : x.toInt = ((w * 6 + i : Nat) : Int)) : (c.toInt = 32 → 0 = pt_ch (w * 6 + i)) ∧ (¬ c.toInt = 32 → c.toInt - 96 = pt_ch (w * 6 + i)) := by
  rw [i_cl hx] at e
  unfold pt_ch
  rw [← e]
  exact ⟨fun h => by rw [if_pos h], fun h => by rw [if_neg h]⟩
set_option maxHeartbeats 4000000 in
set_option maxRecDepth 100000 in
theorem x_X7_wordKind (l : Launch) (D : va_G) (A : Nat → Nat → Nat) (cy : Nat → ClassId) (hJ : ti_inj ti_LT A) (M : ti_M) (hI : cI Tc M)  : ti_KiE l yX7_wordKind cX7_wordKind 5 (some .int) 4 ti_LT D A cy M [.ref (A 2 0)] (fun r M2 => M2 = M ∧ 0 ≤ r.toInt ∧ r.toInt ≤ 25 ∧ r.toInt = pt_wk (tI M 2 6).toInt 0) := by
  refine ti_eIE yp_X7_wordKind hJ ti_LT_nd (Nat.le_of_ble_eq_true rfl) ?_
  intro p e s m args below meth c Q H0 C hE hQ hw ls hl
  have hx := C.1
  have hb := C.2.1
  have hl : lv_has ls 5 [(0, .ref (A 2 0))] := hl
  obtain ⟨⟨a1, v1, hR1, hs1⟩, ⟨a2, v2, hR2, hs2⟩, hg1⟩ := id hE
  refine lv_iconst (v := 0) hx hb dX7_wordKind_0 (by decide) ?_
  refine lv_istore_n (lv' := [(1, .int 0), (0, .ref (A 2 0))]) hx hb dX7_wordKind_1 rfl hl (by decide) rfl (fun ls hl => ?_)
  have hl_2_4 : ∀ (n_5 : Nat) (x_1 : Int32) (H : Heap) (locs : List Loc) (ls : Array Slot), (25 - x_1.toInt : Int).toNat < n_5 → (0 ≤ x_1.toInt) → (x_1.toInt ≤ 25) → (pt_wk (tI M 2 6).toInt 0 = pt_wk (tI M 2 6).toInt (x_1.toInt).toNat) → ti_H ti_LT D A cy H0 M H locs → lv_has ls 5 [(1, .int x_1), (0, .ref (A 2 0))] → W p l e (ti_rm 4) s m args below meth c H locs 0 0 Q (F0 m 2 ls []) := by
    intro n_5
    induction n_5 with
    | zero => intro x_1 H locs ls hf_5; exact absurd hf_5 (Nat.not_lt_zero _)
    | succ n_5 ih_5 =>
      intro x_1 H locs ls hf_5 b_2 b_3 j_4 hw hl
      refine lv_iload_n hx hb dX7_wordKind_2 rfl (lv_at hl 0 rfl) ?_
      refine lv_bipush (v := 25) hx hb dX7_wordKind_3 (by decide) ?_
      refine sb_icmp_ge (tgt := 76) hx hb rfl (by decide : (25 : Int32).toInt = 25) dX7_wordKind_5 (by decide) (fun c_5_5 => ?_) (fun c_5_5 => ?_)
      · refine lv_bipush (v := 25) hx hb dX7_wordKind_76 (by decide) ?_
        exact hQ _ _ _ _ _ _ hw rfl (⟨rfl, by decide, by decide, (by rw [j_4, show x_1.toInt.toNat = 25 by omega, pt_wk_end]; decide)⟩) dX7_wordKind_78
      · refine lv_iconst (v := 0) hx hb dX7_wordKind_8 (by decide) ?_
        refine lv_istore_n (lv' := [(2, .int 0), (1, .int x_1), (0, .ref (A 2 0))]) hx hb dX7_wordKind_9 rfl hl (by decide) rfl (fun ls hl => ?_)
        refine lv_iconst (v := 0) hx hb dX7_wordKind_10 (by decide) ?_
        refine lv_istore_n (lv' := [(3, .int 0), (2, .int 0), (1, .int x_1), (0, .ref (A 2 0))]) hx hb dX7_wordKind_11 rfl hl (by decide) rfl (fun ls hl => ?_)
        have hl_12_11 : ∀ (n_12 : Nat) (x_7 : Int32) (x_10 : Int32) (H : Heap) (locs : List Loc) (ls : Array Slot), (6 - x_7.toInt : Int).toNat < n_12 → (0 ≤ x_7.toInt) → (x_7.toInt ≤ 6) → (x_10.toInt = pt_pw (x_1.toInt).toNat (x_7.toInt).toNat) → ti_H ti_LT D A cy H0 M H locs → lv_has ls 5 [(3, .int x_7), (2, .int x_10), (1, .int x_1), (0, .ref (A 2 0))] → W p l e (ti_rm 4) s m args below meth c H locs 0 0 Q (F0 m 12 ls []) := by
          intro n_12
          induction n_12 with
          | zero => intro x_7 x_10 H locs ls hf_12; exact absurd hf_12 (Nat.not_lt_zero _)
          | succ n_12 ih_12 =>
            intro x_7 x_10 H locs ls hf_12 b_8 b_9 j_11 hw hl
            refine lv_iload_n hx hb dX7_wordKind_12 rfl (lv_at hl 0 rfl) ?_
            refine lv_bipush (v := 6) hx hb dX7_wordKind_13 (by decide) ?_
            refine sb_icmp_ge (tgt := 60) hx hb rfl (by decide : (6 : Int32).toInt = 6) dX7_wordKind_15 (by decide) (fun c_15_12 => ?_) (fun c_15_12 => ?_)
            · refine lv_iload_n hx hb dX7_wordKind_60 rfl (lv_at hl 1 rfl) ?_
              refine lv_aload_n hx hb dX7_wordKind_61 rfl (lv_at hl 3 rfl) ?_
              refine ti_get (ci := 7) (k := 6) (N := 7) (T := TX7) C hw iw_7 rfl ob_2 (by decide) (by decide) fl_X7_41 rfl rfl dX7_wordKind_62 ?_
              refine lv_topi (fun x_26 ex_26 => ?_)
              have bx_26 : 0 ≤ x_26.toInt ∧ x_26.toInt ≤ 2147483647 := cI_rd hI ob_2.1 ex_26
              have ux_26 : (tI M 2 6).toInt = x_26.toInt := by rw [ex_26]
              refine sb_icmp_ne (tgt := 70) hx hb rfl rfl dX7_wordKind_65 (by decide) (fun c_65_26 => ?_) (fun c_65_26 => ?_)
              · obtain ⟨x_28, ex_28⟩ : ∃ z : Int32, z = x_1 + 1 := ⟨_, rfl⟩
                have tx_28 : x_28.toInt = x_1.toInt + 1 := i_add ex_28 rfl (by decide) (by omega) (by omega)
                refine lv_iinc (v := x_28) (lv' := [(1, .int x_28), (3, .int x_7), (2, .int x_10), (0, .ref (A 2 0))]) hx hb dX7_wordKind_70 hl (k := 2) rfl (by rw [ex_28]; rfl) (by decide) rfl (fun ls hl => ?_)
                refine lv_goto (tgt := 2) hx hb dX7_wordKind_73 (by decide) ?_
                exact ih_5 x_28 _ _ _ (by omega) (by first | omega | decide) (by first | omega | decide) (by have q := j_11; rw [show x_7.toInt.toNat = 6 by omega, pt_pw6 x_1.toInt.toNat (by omega)] at q; rw [show x_28.toInt.toNat = x_1.toInt.toNat + 1 by omega, ← pt_wk_go (v := (tI M 2 6).toInt) (w := x_1.toInt.toNat) (by omega) (by rw [← q]; omega)]; exact j_4) hw (lv_sub hl [0, 3] rfl)
              · refine lv_iload_n hx hb dX7_wordKind_68 rfl (lv_at hl 2 rfl) ?_
                exact hQ _ _ _ _ _ _ hw rfl (⟨rfl, by omega, by omega, (by have q := j_11; rw [show x_7.toInt.toNat = 6 by omega, pt_pw6 x_1.toInt.toNat (by omega)] at q; rw [j_4, pt_wk_at (v := (tI M 2 6).toInt) (w := x_1.toInt.toNat) (by omega) (by rw [← q]; omega)]; omega)⟩) dX7_wordKind_69
            · refine va_ldcS hx hb C.2.2.2.1 hR1 dX7_wordKind_18 ?_
              refine lv_iload_n hx hb dX7_wordKind_20 rfl (lv_at hl 2 rfl) ?_
              refine lv_bipush (v := 6) hx hb dX7_wordKind_21 (by decide) ?_
              refine lv_imul hx hb dX7_wordKind_23 ?_
              refine lv_topi (fun x_14 ex_14 => ?_)
              have tx_14 : x_14.toInt = x_1.toInt * 6 := i_mul ex_14 rfl (by decide : (6 : Int32).toInt = 6) (by omega) (by omega)
              refine lv_iload_n hx hb dX7_wordKind_24 rfl (lv_at hl 0 rfl) ?_
              refine lv_iadd hx hb dX7_wordKind_25 ?_
              refine lv_topi (fun x_15 ex_15 => ?_)
              have tx_15 : x_15.toInt = x_14.toInt + x_7.toInt := i_add ex_15 rfl rfl (by omega) (by omega)
              refine ti_charAt (n := 150) C hs1 hg1 hw ml_X7_70 hl.1 (Nat.le_of_ble_eq_true rfl) ⟨by decide, by decide⟩ ⟨Nat.zero_le _, Nat.zero_le _⟩ (by decide) (by omega) (by omega) dX7_wordKind_26 (fun H locs hw => ?_)
              refine lv_topi (fun x_17 ex_17 => ?_)
              have bx_17 := i_and 8 ex_17 (by decide) (by decide)
              refine lv_istore (lv' := [(4, .int x_17), (3, .int x_7), (2, .int x_10), (1, .int x_1), (0, .ref (A 2 0))]) hx hb dX7_wordKind_29 hl (by decide) rfl (fun ls hl => ?_)
              refine lv_iload_n hx hb dX7_wordKind_31 rfl (lv_at hl 2 rfl) ?_
              refine lv_iconst (v := 5) hx hb dX7_wordKind_32 (by decide) ?_
              refine lv_ishl hx hb dX7_wordKind_33 ?_
              refine lv_topi (fun x_18 ex_18 => ?_)
              refine lv_iload hx hb dX7_wordKind_34 (lv_at hl 0 rfl) ?_
              refine lv_bipush (v := 32) hx hb dX7_wordKind_36 (by decide) ?_
              refine sb_icmp_ne (tgt := 45) hx hb rfl (by decide : (32 : Int32).toInt = 32) dX7_wordKind_38 (by decide) (fun c_38_18 => ?_) (fun c_38_18 => ?_)
              · refine lv_iload hx hb dX7_wordKind_45 (lv_at hl 0 rfl) ?_
                refine lv_bipush (v := 97) hx hb dX7_wordKind_47 (by decide) ?_
                refine lv_isub hx hb dX7_wordKind_49 ?_
                refine lv_topi (fun x_20 ex_20 => ?_)
                have tx_20 : x_20.toInt = x_17.toInt - 97 := i_sub ex_20 rfl (by decide : (97 : Int32).toInt = 97) (by omega) (by omega)
                refine lv_iconst (v := 1) hx hb dX7_wordKind_50 (by decide) ?_
                refine lv_iadd hx hb dX7_wordKind_51 ?_
                refine lv_topi (fun x_21 ex_21 => ?_)
                have tx_21 : x_21.toInt = x_20.toInt + 1 := i_add ex_21 rfl (by decide : (1 : Int32).toInt = 1) (by omega) (by omega)
                refine lv_ior hx hb dX7_wordKind_52 ?_
                refine lv_topi (fun x_24 ex_24 => ?_)
                refine lv_istore_n (lv' := [(2, .int x_24), (4, .int x_17), (3, .int x_7), (1, .int x_1), (0, .ref (A 2 0))]) hx hb dX7_wordKind_53 rfl hl (by decide) rfl (fun ls hl => ?_)
                obtain ⟨x_25, ex_25⟩ : ∃ z : Int32, z = x_7 + 1 := ⟨_, rfl⟩
                have tx_25 : x_25.toInt = x_7.toInt + 1 := i_add ex_25 rfl (by decide) (by omega) (by omega)
                refine lv_iinc (v := x_25) (lv' := [(3, .int x_25), (2, .int x_24), (4, .int x_17), (1, .int x_1), (0, .ref (A 2 0))]) hx hb dX7_wordKind_54 hl (k := 2) rfl (by rw [ex_25]; rfl) (by decide) rfl (fun ls hl => ?_)
                refine lv_goto (tgt := 12) hx hb dX7_wordKind_57 (by decide) ?_
                exact ih_12 x_25 x_24 _ _ _ (by omega) (by first | omega | decide) (by first | omega | decide) (by rw [show x_25.toInt.toNat = x_7.toInt.toNat + 1 by omega]; exact pt_pws (by omega) (by omega) j_11 ex_18 (by rw [← (pt_chc (w := x_1.toInt.toNat) (i := x_7.toInt.toNat) ex_17 (by omega)).2 (by omega)]; omega) ex_24) hw (lv_sub hl [0, 1, 3, 4] rfl)
              · refine lv_iconst (v := 0) hx hb dX7_wordKind_41 (by decide) ?_
                refine lv_goto (tgt := 52) hx hb dX7_wordKind_42 (by decide) ?_
                refine lv_ior hx hb dX7_wordKind_52 ?_
                refine lv_topi (fun x_22 ex_22 => ?_)
                refine lv_istore_n (lv' := [(2, .int x_22), (4, .int x_17), (3, .int x_7), (1, .int x_1), (0, .ref (A 2 0))]) hx hb dX7_wordKind_53 rfl hl (by decide) rfl (fun ls hl => ?_)
                obtain ⟨x_23, ex_23⟩ : ∃ z : Int32, z = x_7 + 1 := ⟨_, rfl⟩
                have tx_23 : x_23.toInt = x_7.toInt + 1 := i_add ex_23 rfl (by decide) (by omega) (by omega)
                refine lv_iinc (v := x_23) (lv' := [(3, .int x_23), (2, .int x_22), (4, .int x_17), (1, .int x_1), (0, .ref (A 2 0))]) hx hb dX7_wordKind_54 hl (k := 2) rfl (by rw [ex_23]; rfl) (by decide) rfl (fun ls hl => ?_)
                refine lv_goto (tgt := 12) hx hb dX7_wordKind_57 (by decide) ?_
                exact ih_12 x_23 x_22 _ _ _ (by omega) (by first | omega | decide) (by first | omega | decide) (by rw [show x_23.toInt.toNat = x_7.toInt.toNat + 1 by omega]; exact pt_pws (by omega) (by omega) j_11 ex_18 (by rw [show (0 : Int32).toInt = 0 by decide]; exact (pt_chc (w := x_1.toInt.toNat) (i := x_7.toInt.toNat) ex_17 (by omega)).1 (by omega)) ex_22) hw (lv_sub hl [0, 1, 3, 4] rfl)
        exact hl_12_11 ((6 - 0 : Int).toNat + 1) 0 0 _ _ _ (Nat.lt_succ_self _) (by have lt0 : (0 : Int32).toInt = 0 := (by decide); first | omega | decide) (by have lt0 : (0 : Int32).toInt = 0 := (by decide); first | omega | decide) (by rw [show (0 : Int32).toInt = 0 by decide]; rfl) hw (lv_sub hl [0, 1, 2, 3] rfl)
  exact hl_2_4 ((25 - 0 : Int).toNat + 1) 0 _ _ _ (Nat.lt_succ_self _) (by have lt0 : (0 : Int32).toInt = 0 := (by decide); first | omega | decide) (by have lt0 : (0 : Int32).toInt = 0 := (by decide); first | omega | decide) rfl hw (lv_sub hl [0, 1] rfl)
set_option maxHeartbeats 4000000 in
set_option maxRecDepth 100000 in
theorem x_X7_readWord (l : Launch) (D : va_G) (A : Nat → Nat → Nat) (cy : Nat → ClassId) (hJ : ti_inj ti_LT A) (M : ti_M) (hI : cI Tc M) (hv : (tI M 2 6).toInt = 0) : ti_KvE l yX7_readWord cX7_readWord 2 5 ti_LT D A cy M [.ref (A 2 0)] (fun M2 => cI Tc M2 ∧ M2.2.2.2 = M.2.2.2 ∧ o2 M2 M ∧ tI M2 2 1 = tI M 2 1 ∧ tp M2 M ∧ tI M2 2 5 = tI M 2 5 ∧ (tI M2 2 4).toInt = (if (tI M 2 3).toInt.toNat + 6 < pt_to pt_L (pt_cB M) (pt_cn M) (tI M 2 3).toInt.toNat then 28 else pt_wk (pt_ev (pt_cB M) (pt_cn M) (tI M 2 3).toInt.toNat 0 0) 0) ∧ (tI M2 2 3).toInt = ((pt_to pt_L (pt_cB M) (pt_cn M) (tI M 2 3).toInt.toNat : Nat) : Int) ∧ (tI M2 2 6).toInt = pt_ev (pt_cB M) (pt_cn M) (tI M 2 3).toInt.toNat 0 0) := by
  refine ti_eVE yp_X7_readWord hJ ti_LT_nd (Nat.le_of_ble_eq_true rfl) ?_
  intro p e s m args below meth c Q H0 C hE hQ hw ls hl
  have hx := C.1
  have hb := C.2.1
  have hl : lv_has ls 2 [(0, .ref (A 2 0))] := hl
  refine lv_iconst (v := 0) hx hb dX7_readWord_0 (by decide) ?_
  refine lv_istore_n (lv' := [(1, .int 0), (0, .ref (A 2 0))]) hx hb dX7_readWord_1 rfl hl (by decide) rfl (fun ls hl => ?_)
  have u_15 : 0 ≤ (tI M 2 3).toInt ∧ (tI M 2 3).toInt ≤ 700 := cI_rd (x := tI M 2 3) (k := 3) hI ob_2.1 rfl
  have hl_2_13 : ∀ (n_14 : Nat) (x_1 : Int32) (M_4 : ti_M) (H : Heap) (locs : List Loc) (ls : Array Slot), (700 - (tI M_4 2 3).toInt : Int).toNat < n_14 → (0 ≤ x_1.toInt) → (x_1.toInt ≤ 700) → (cI Tc M_4) → (M_4.2.2.2 = M.2.2.2) → (o2 M_4 M) → (tI M_4 2 1 = tI M 2 1) → (tp M_4 M) → (tI M_4 2 5 = tI M 2 5) → (x_1.toInt = (tI M_4 2 3).toInt - (tI M 2 3).toInt) → (pt_to pt_L (pt_cB M) (pt_cn M) (tI M_4 2 3).toInt.toNat = pt_to pt_L (pt_cB M) (pt_cn M) (tI M 2 3).toInt.toNat) → (pt_ev (pt_cB M) (pt_cn M) (tI M_4 2 3).toInt.toNat (x_1.toInt).toNat (tI M_4 2 6).toInt = pt_ev (pt_cB M) (pt_cn M) (tI M 2 3).toInt.toNat 0 0) → (pt_dv (x_1.toInt).toNat (tI M_4 2 6).toInt) → ti_H ti_LT D A cy H0 M_4 H locs → lv_has ls 2 [(1, .int x_1), (0, .ref (A 2 0))] → W p l e (ti_rm 5) s m args below meth c H locs 0 0 Q (F0 m 2 ls []) := by
    intro n_14
    induction n_14 with
    | zero => intro x_1 M_4 H locs ls hf_14; exact absurd hf_14 (Nat.not_lt_zero _)
    | succ n_14 ih_14 =>
      intro x_1 M_4 H locs ls hf_14 b_2 b_3 iM_4 f_5 f_6 f_7 f_8 f_9 j_10 j_11 j_12 j_13 hw hl
      refine lv_aload_n hx hb dX7_readWord_2 rfl (lv_at hl 1 rfl) ?_
      refine ti_get (ci := 7) (k := 3) (N := 7) (T := TX7) C hw iw_7 rfl ob_2 (by decide) (by decide) fl_X7_22 rfl rfl dX7_readWord_3 ?_
      refine lv_topi (fun x_16 ex_16 => ?_)
      have bx_16 : 0 ≤ x_16.toInt ∧ x_16.toInt ≤ 700 := cI_rd iM_4 ob_2.1 ex_16
      have ux_16 : (tI M_4 2 3).toInt = x_16.toInt := by rw [ex_16]
      refine lv_aload_n hx hb dX7_readWord_6 rfl (lv_at hl 1 rfl) ?_
      refine ti_get (ci := 7) (k := 2) (N := 7) (T := TX7) C hw iw_7 rfl ob_2 (by decide) (by decide) fl_X7_19 rfl rfl dX7_readWord_7 ?_
      refine lv_topi (fun x_17 ex_17 => ?_)
      have bx_17 : 0 ≤ x_17.toInt ∧ x_17.toInt ≤ 700 := cI_rd iM_4 ob_2.1 ex_17
      have ux_17 : (tI M_4 2 2).toInt = x_17.toInt := by rw [ex_17]
      refine sb_icmp_ge (tgt := 69) hx hb rfl rfl dX7_readWord_10 (by decide) (fun c_10_17 => ?_) (fun c_10_17 => ?_)
      · refine lv_aload_n hx hb dX7_readWord_69 rfl (lv_at hl 1 rfl) ?_
        refine lv_iload_n hx hb dX7_readWord_70 rfl (lv_at hl 0 rfl) ?_
        refine lv_bipush (v := 6) hx hb dX7_readWord_71 (by decide) ?_
        refine sb_icmp_le (tgt := 81) hx hb rfl (by decide : (6 : Int32).toInt = 6) dX7_readWord_73 (by decide) (fun c_73_46 => ?_) (fun c_73_46 => ?_)
        · refine lv_aload_n hx hb dX7_readWord_81 rfl (lv_at hl 1 rfl) ?_
          refine ti_callViE (ci := 7) (av := []) C hE hw (x_X7_wordKind l D A cy hJ M_4 iM_4 ) ⟨ml_X7_65, ym_X7_wordKind, yv_X7_wordKind, yi_X7_wordKind, yc_X7_wordKind⟩ yd_X7_wordKind ob_2 (by decide) rfl rfl hl.1 (Nat.le_of_ble_eq_true rfl) ⟨by decide, by decide⟩ ⟨Nat.zero_le _, Nat.zero_le _⟩ dX7_readWord_82 (fun r_49 M_50 H locs hp_50 hw => ?_)
          obtain ⟨hm, b0r_49, b1r_49, p0r_49⟩ := hp_50
          have hw := hw.to hm
          refine ti_putI (ci := 7) (k := 4) (N := 7) (T := TX7) C hw iw_7 tyX7 tyX7_ok nmX7 rfl ob_2 (by decide) (by decide) fl_X7_44 rfl rfl rfl rfl (fn_7 A _) fs_7_4 dX7_readWord_85 (fun H locs hw => ?_)
          obtain ⟨M_55, hM_55⟩ : ∃ z : ti_M, z = uI M_4 2 4 r_49 := ⟨_, rfl⟩
          have hw := hw.to hM_55.symm
          have iM_55 : cI Tc M_55 := cI_uI iM_4 hM_55 ob_2.1 (ib_mk (lo := 0) (hi := 41) (by omega) (by omega))
          have vM_55 : (tI M_55 2 4).toInt = (r_49 : Int32).toInt := by rw [tI_uE hM_55]
          have E1 : pt_to pt_L (pt_cB M) (pt_cn M) (tI M 2 3).toInt.toNat = (tI M_4 2 3).toInt.toNat := by rw [← j_11, pt_to_end (P := pt_L) (B := pt_cB M) (n := pt_cn M) (a := (tI M_4 2 3).toInt.toNat) (fun q => by have q1 := q.1; have q2 := tp_n f_8; unfold pt_cn at q1 q2; omega)]
          have E2 : pt_ev (pt_cB M) (pt_cn M) (tI M 2 3).toInt.toNat 0 0 = (tI M_4 2 6).toInt := by rw [← j_12, pt_ev_end (B := pt_cB M) (n := pt_cn M) (a := (tI M_4 2 3).toInt.toNat) (fun q => by have q1 := q.1; have q2 := tp_n f_8; unfold pt_cn at q1 q2; omega)]
          exact hQ _ _ _ _ _ hw (⟨iM_55, ((rf_I hM_55).trans f_5), (o2.trans (o2_I hM_55) f_6), ((tI_nE hM_55 (nk (by decide))).trans f_7), (tp.trans (tp_I hM_55 (by decide)) f_8), ((tI_nE hM_55 (nk (by decide))).trans f_9), (by rw [if_neg (by rw [E1]; omega), E2, tI_uE hM_55]; exact p0r_49), (by rw [E1, tI_nE hM_55 (nk (by decide))]; omega), (by rw [E2, tI_nE hM_55 (nk (by decide))])⟩) dX7_readWord_88
        · refine lv_bipush (v := 28) hx hb dX7_readWord_76 (by decide) ?_
          refine lv_goto (tgt := 85) hx hb dX7_readWord_78 (by decide) ?_
          refine ti_putI (ci := 7) (k := 4) (N := 7) (T := TX7) C hw iw_7 tyX7 tyX7_ok nmX7 rfl ob_2 (by decide) (by decide) fl_X7_44 rfl rfl rfl rfl (fn_7 A _) fs_7_4 dX7_readWord_85 (fun H locs hw => ?_)
          obtain ⟨M_53, hM_53⟩ : ∃ z : ti_M, z = uI M_4 2 4 28 := ⟨_, rfl⟩
          have hw := hw.to hM_53.symm
          have iM_53 : cI Tc M_53 := cI_uI iM_4 hM_53 ob_2.1 (ib_mk (lo := 0) (hi := 41) (by decide) (by decide))
          have vM_53 : (tI M_53 2 4).toInt = 28 := by rw [tI_uE hM_53]; decide
          have E1 : pt_to pt_L (pt_cB M) (pt_cn M) (tI M 2 3).toInt.toNat = (tI M_4 2 3).toInt.toNat := by rw [← j_11, pt_to_end (P := pt_L) (B := pt_cB M) (n := pt_cn M) (a := (tI M_4 2 3).toInt.toNat) (fun q => by have q1 := q.1; have q2 := tp_n f_8; unfold pt_cn at q1 q2; omega)]
          have E2 : pt_ev (pt_cB M) (pt_cn M) (tI M 2 3).toInt.toNat 0 0 = (tI M_4 2 6).toInt := by rw [← j_12, pt_ev_end (B := pt_cB M) (n := pt_cn M) (a := (tI M_4 2 3).toInt.toNat) (fun q => by have q1 := q.1; have q2 := tp_n f_8; unfold pt_cn at q1 q2; omega)]
          exact hQ _ _ _ _ _ hw (⟨iM_53, ((rf_I hM_53).trans f_5), (o2.trans (o2_I hM_53) f_6), ((tI_nE hM_53 (nk (by decide))).trans f_7), (tp.trans (tp_I hM_53 (by decide)) f_8), ((tI_nE hM_53 (nk (by decide))).trans f_9), (by rw [if_pos (by rw [E1]; omega), tI_uE hM_53]; decide), (by rw [E1, tI_nE hM_53 (nk (by decide))]; omega), (by rw [E2, tI_nE hM_53 (nk (by decide))])⟩) dX7_readWord_88
      · refine lv_aload_n hx hb dX7_readWord_13 rfl (lv_at hl 1 rfl) ?_
        refine ti_callVi (ci := 7) (av := []) C hw (s_X7_peek l D A cy hJ M_4 iM_4 ) ⟨ml_X7_34, ym_X7_peek, yv_X7_peek, yi_X7_peek, yc_X7_peek⟩ yd_X7_peek ob_2 (by decide) rfl rfl hl.1 (Nat.le_of_ble_eq_true rfl) ⟨by decide, by decide⟩ ⟨Nat.zero_le _, Nat.zero_le _⟩ dX7_readWord_14 (fun r_19 M_20 H locs hp_20 hw => ?_)
        obtain ⟨hm, b0r_19, b1r_19, p0r_19, p1r_19⟩ := hp_20
        have hw := hw.to hm
        have kr_19 := tp_pk f_8 iM_4 p1r_19
        refine ti_callSi (av := [.int r_19]) C hw (x_X7_isLetter l D A cy hJ M_4 iM_4 r_19) ⟨ml_X7_47, ys_X7_isLetter, yi_X7_isLetter, yc_X7_isLetter⟩ yd_X7_isLetter rfl hl.1 (Nat.le_of_ble_eq_true rfl) ⟨by decide, by decide⟩ ⟨Nat.zero_le _, Nat.zero_le _⟩ dX7_readWord_17 (fun r_21 M_22 H locs hp_22 hw => ?_)
        obtain ⟨hm, hz⟩ := hp_22
        have hw := hw.to hm
        rcases hz with ⟨rfl, d1_23, d2_23⟩ | ⟨rfl, d1_23⟩
        · refine sb_if_eq (tgt := 69) hx hb (by decide : (1 : Int32).toInt = 1) dX7_readWord_20 (by decide) (fun h => absurd h (by decide)) (fun c_20_23 => ?_)
          refine lv_iload_n hx hb dX7_readWord_23 rfl (lv_at hl 0 rfl) ?_
          refine lv_bipush (v := 6) hx hb dX7_readWord_24 (by decide) ?_
          refine sb_icmp_ge (tgt := 53) hx hb rfl (by decide : (6 : Int32).toInt = 6) dX7_readWord_26 (by decide) (fun c_26_25 => ?_) (fun c_26_25 => ?_)
          · obtain ⟨x_37, ex_37⟩ : ∃ z : Int32, z = x_1 + 1 := ⟨_, rfl⟩
            have tx_37 : x_37.toInt = x_1.toInt + 1 := i_add ex_37 rfl (by decide) (by omega) (by omega)
            refine lv_iinc (v := x_37) (lv' := [(1, .int x_37), (0, .ref (A 2 0))]) hx hb dX7_readWord_53 hl (k := 0) rfl (by rw [ex_37]; rfl) (by decide) rfl (fun ls hl => ?_)
            refine lv_aload_n hx hb dX7_readWord_56 rfl (lv_at hl 1 rfl) ?_
            refine lv_dup hx hb dX7_readWord_57 rfl ?_
            refine ti_get (ci := 7) (k := 3) (N := 7) (T := TX7) C hw iw_7 rfl ob_2 (by decide) (by decide) fl_X7_22 rfl rfl dX7_readWord_58 ?_
            refine ti_top (y := x_16) (ex_16.symm) ?_
            have u_38 : (tI M_4 2 3).toInt = (x_16 : Int32).toInt := by rw [(ex_16.symm)]
            refine lv_iconst (v := 1) hx hb dX7_readWord_61 (by decide) ?_
            refine lv_iadd hx hb dX7_readWord_62 ?_
            refine lv_topi (fun x_39 ex_39 => ?_)
            have tx_39 : x_39.toInt = x_16.toInt + 1 := i_add ex_39 rfl (by decide : (1 : Int32).toInt = 1) (by omega) (by omega)
            refine ti_putI (ci := 7) (k := 3) (N := 7) (T := TX7) C hw iw_7 tyX7 tyX7_ok nmX7 rfl ob_2 (by decide) (by decide) fl_X7_22 rfl rfl rfl rfl (fn_7 A _) fs_7_3 dX7_readWord_63 (fun H locs hw => ?_)
            obtain ⟨M_40, hM_40⟩ : ∃ z : ti_M, z = uI M_4 2 3 x_39 := ⟨_, rfl⟩
            have hw := hw.to hM_40.symm
            have iM_40 : cI Tc M_40 := cI_uI iM_4 hM_40 ob_2.1 (ib_mk (lo := 0) (hi := 700) (by omega) (by omega))
            have vM_40 : (tI M_40 2 3).toInt = (x_39 : Int32).toInt := by rw [tI_uE hM_40]
            refine lv_goto (tgt := 2) hx hb dX7_readWord_66 (by decide) ?_
            have u_41 : (tI M_40 2 3).toInt = (x_39 : Int32).toInt := by rw [(tI_uE hM_40)]
            exact ih_14 x_37 M_40 _ _ _ (by omega) (by first | omega | decide) (by first | omega | decide) iM_40 ((rf_I hM_40).trans f_5) (o2.trans (o2_I hM_40) f_6) ((tI_nE hM_40 (nk (by decide))).trans f_7) (tp.trans (tp_I hM_40 (by decide)) f_8) ((tI_nE hM_40 (nk (by decide))).trans f_9) (by first | omega | decide) (by have h := pt_pk_in kr_19 (by omega); have e1 : (tI M_40 2 3).toInt.toNat = (tI M_4 2 3).toInt.toNat + 1 := (by rw [(tI_uE hM_40), (ex_16.symm)]; omega); rw [e1, ← pt_to_go (P := pt_L) (B := pt_cB M) h.1 (by rw [← h.2]; exact pt_Lt (by omega) (by omega))]; exact j_11) (by have h := pt_pk_in kr_19 (by omega); have e1 : (tI M_40 2 3).toInt.toNat = (tI M_4 2 3).toInt.toNat + 1 := (by rw [(tI_uE hM_40), (ex_16.symm)]; omega); rw [e1, show x_37.toInt.toNat = x_1.toInt.toNat + 1 by omega, show (tI M_40 2 6).toInt = (if x_1.toInt.toNat < 6 then (tI M_4 2 6).toInt + (pt_cB M (tI M_4 2 3).toInt.toNat - 96) * pt_p x_1.toInt.toNat else (tI M_4 2 6).toInt) by (rw [if_neg (by omega), (tI_nE hM_40 (nk (by decide)))]), ← pt_ev_go (B := pt_cB M) h.1 (by rw [← h.2]; exact pt_Lt (by omega) (by omega))]; exact j_12) (by rw [show x_37.toInt.toNat = x_1.toInt.toNat + 1 by omega, (tI_nE hM_40 (nk (by decide)))]; exact pt_dv6 j_13 (by omega)) hw (lv_sub hl [0, 1] rfl)
          · refine lv_aload_n hx hb dX7_readWord_29 rfl (lv_at hl 1 rfl) ?_
            refine lv_dup hx hb dX7_readWord_30 rfl ?_
            refine ti_get (ci := 7) (k := 6) (N := 7) (T := TX7) C hw iw_7 rfl ob_2 (by decide) (by decide) fl_X7_41 rfl rfl dX7_readWord_31 ?_
            refine lv_topi (fun x_27 ex_27 => ?_)
            have bx_27 : 0 ≤ x_27.toInt ∧ x_27.toInt ≤ 2147483647 := cI_rd iM_4 ob_2.1 ex_27
            have ux_27 : (tI M_4 2 6).toInt = x_27.toInt := by rw [ex_27]
            refine lv_aload_n hx hb dX7_readWord_34 rfl (lv_at hl 1 rfl) ?_
            refine ti_callVi (ci := 7) (av := []) C hw (s_X7_peek l D A cy hJ M_4 iM_4 ) ⟨ml_X7_34, ym_X7_peek, yv_X7_peek, yi_X7_peek, yc_X7_peek⟩ yd_X7_peek ob_2 (by decide) rfl rfl hl.1 (Nat.le_of_ble_eq_true rfl) ⟨by decide, by decide⟩ ⟨Nat.zero_le _, Nat.zero_le _⟩ dX7_readWord_35 (fun r_28 M_29 H locs hp_29 hw => ?_)
            obtain ⟨hm, b0r_28, b1r_28, p0r_28, p1r_28⟩ := hp_29
            have hw := hw.to hm
            have kr_28 := tp_pk f_8 iM_4 p1r_28
            refine lv_bipush (v := 97) hx hb dX7_readWord_38 (by decide) ?_
            refine lv_isub hx hb dX7_readWord_40 ?_
            refine lv_topi (fun x_30 ex_30 => ?_)
            have lox_30r_28 := r_28.le_toInt
            have hix_30r_28 := r_28.toInt_lt
            have tx_30 : x_30.toInt = r_28.toInt - 97 := i_sub ex_30 rfl (by decide : (97 : Int32).toInt = 97) (by omega) (by omega)
            refine lv_iconst (v := 1) hx hb dX7_readWord_41 (by decide) ?_
            refine lv_iadd hx hb dX7_readWord_42 ?_
            refine lv_topi (fun x_31 ex_31 => ?_)
            have lox_31x_30 := x_30.le_toInt
            have hix_31x_30 := x_30.toInt_lt
            have tx_31 : x_31.toInt = x_30.toInt + 1 := i_add ex_31 rfl (by decide : (1 : Int32).toInt = 1) (by omega) (by omega)
            refine lv_iconst (v := 5) hx hb dX7_readWord_43 (by decide) ?_
            refine lv_iconst (v := 5) hx hb dX7_readWord_44 (by decide) ?_
            refine lv_iload_n hx hb dX7_readWord_45 rfl (lv_at hl 0 rfl) ?_
            refine lv_isub hx hb dX7_readWord_46 ?_
            refine lv_topi (fun x_32 ex_32 => ?_)
            have tx_32 : x_32.toInt = 5 - x_1.toInt := i_sub ex_32 (by decide : (5 : Int32).toInt = 5) rfl (by omega) (by omega)
            refine lv_imul hx hb dX7_readWord_47 ?_
            refine lv_topi (fun x_33 ex_33 => ?_)
            have tx_33 : x_33.toInt = 5 * x_32.toInt := i_mul ex_33 (by decide : (5 : Int32).toInt = 5) rfl (by omega) (by omega)
            refine lv_ishl hx hb dX7_readWord_48 ?_
            refine lv_topi (fun x_34 ex_34 => ?_)
            have fx_34 := i_shx ex_34 (by omega) (by omega) (b := x_1.toInt) (by omega) (by omega) (by omega)
            refine lv_ior hx hb dX7_readWord_49 ?_
            refine lv_topi (fun x_35 ex_35 => ?_)
            have ox_35 := pt_or (i := x_1.toInt.toNat) (d := x_31.toInt) (by omega) (by have q := j_13; rw [← ex_27] at q; exact q) ⟨by omega, by omega⟩ fx_34 ex_35
            have bx_35 : 0 ≤ x_35.toInt := ox_35.2.1
            have cx_35 : x_35.toInt < 1073741824 := ox_35.2.2.1
            refine ti_putI (ci := 7) (k := 6) (N := 7) (T := TX7) C hw iw_7 tyX7 tyX7_ok nmX7 rfl ob_2 (by decide) (by decide) fl_X7_41 rfl rfl rfl rfl (fn_7 A _) fs_7_6 dX7_readWord_50 (fun H locs hw => ?_)
            obtain ⟨M_36, hM_36⟩ : ∃ z : ti_M, z = uI M_4 2 6 x_35 := ⟨_, rfl⟩
            have hw := hw.to hM_36.symm
            have iM_36 : cI Tc M_36 := cI_uI iM_4 hM_36 ob_2.1 (ib_mk (lo := 0) (hi := 2147483647) (by omega) (by omega))
            have vM_36 : (tI M_36 2 6).toInt = (x_35 : Int32).toInt := by rw [tI_uE hM_36]
            obtain ⟨x_42, ex_42⟩ : ∃ z : Int32, z = x_1 + 1 := ⟨_, rfl⟩
            have tx_42 : x_42.toInt = x_1.toInt + 1 := i_add ex_42 rfl (by decide) (by omega) (by omega)
            refine lv_iinc (v := x_42) (lv' := [(1, .int x_42), (0, .ref (A 2 0))]) hx hb dX7_readWord_53 hl (k := 0) rfl (by rw [ex_42]; rfl) (by decide) rfl (fun ls hl => ?_)
            refine lv_aload_n hx hb dX7_readWord_56 rfl (lv_at hl 1 rfl) ?_
            refine lv_dup hx hb dX7_readWord_57 rfl ?_
            refine ti_get (ci := 7) (k := 3) (N := 7) (T := TX7) C hw iw_7 rfl ob_2 (by decide) (by decide) fl_X7_22 rfl rfl dX7_readWord_58 ?_
            refine ti_top (y := x_16) ((tI_nE hM_36 (nk (by decide))).trans ex_16.symm) ?_
            have u_43 : (tI M_36 2 3).toInt = (x_16 : Int32).toInt := by rw [((tI_nE hM_36 (nk (by decide))).trans ex_16.symm)]
            refine lv_iconst (v := 1) hx hb dX7_readWord_61 (by decide) ?_
            refine lv_iadd hx hb dX7_readWord_62 ?_
            refine lv_topi (fun x_44 ex_44 => ?_)
            have tx_44 : x_44.toInt = x_16.toInt + 1 := i_add ex_44 rfl (by decide : (1 : Int32).toInt = 1) (by omega) (by omega)
            refine ti_putI (ci := 7) (k := 3) (N := 7) (T := TX7) C hw iw_7 tyX7 tyX7_ok nmX7 rfl ob_2 (by decide) (by decide) fl_X7_22 rfl rfl rfl rfl (fn_7 A _) fs_7_3 dX7_readWord_63 (fun H locs hw => ?_)
            obtain ⟨M_45, hM_45⟩ : ∃ z : ti_M, z = uI M_36 2 3 x_44 := ⟨_, rfl⟩
            have hw := hw.to hM_45.symm
            have iM_45 : cI Tc M_45 := cI_uI iM_36 hM_45 ob_2.1 (ib_mk (lo := 0) (hi := 700) (by omega) (by omega))
            have vM_45 : (tI M_45 2 3).toInt = (x_44 : Int32).toInt := by rw [tI_uE hM_45]
            refine lv_goto (tgt := 2) hx hb dX7_readWord_66 (by decide) ?_
            have u_46 : (tI M_45 2 3).toInt = (x_44 : Int32).toInt := by rw [(tI_uE hM_45)]
            exact ih_14 x_42 M_45 _ _ _ (by omega) (by first | omega | decide) (by first | omega | decide) iM_45 ((rf_I hM_45).trans ((rf_I hM_36).trans f_5)) (o2.trans (o2_I hM_45) (o2.trans (o2_I hM_36) f_6)) ((tI_nE hM_45 (nk (by decide))).trans ((tI_nE hM_36 (nk (by decide))).trans f_7)) (tp.trans (tp_I hM_45 (by decide)) (tp.trans (tp_I hM_36 (by decide)) f_8)) ((tI_nE hM_45 (nk (by decide))).trans ((tI_nE hM_36 (nk (by decide))).trans f_9)) (by first | omega | decide) (by have h := pt_pk_in kr_19 (by omega); have e1 : (tI M_45 2 3).toInt.toNat = (tI M_4 2 3).toInt.toNat + 1 := (by rw [(tI_uE hM_45), (ex_16.symm)]; omega); rw [e1, ← pt_to_go (P := pt_L) (B := pt_cB M) h.1 (by rw [← h.2]; exact pt_Lt (by omega) (by omega))]; exact j_11) (by have h := pt_pk_in kr_19 (by omega); have e1 : (tI M_45 2 3).toInt.toNat = (tI M_4 2 3).toInt.toNat + 1 := (by rw [(tI_uE hM_45), (ex_16.symm)]; omega); rw [e1, show x_42.toInt.toNat = x_1.toInt.toNat + 1 by omega, ((tI_nE hM_45 (nk (by decide))).trans (tI_uE hM_36)), show x_35.toInt = (if x_1.toInt.toNat < 6 then (tI M_4 2 6).toInt + (pt_cB M (tI M_4 2 3).toInt.toNat - 96) * pt_p x_1.toInt.toNat else (tI M_4 2 6).toInt) by (rw [if_pos (by omega), ← h.2, ox_35.1, show x_31.toInt = r_19.toInt - 96 by omega, (ex_27.symm)]), ← pt_ev_go (B := pt_cB M) h.1 (by rw [← h.2]; exact pt_Lt (by omega) (by omega))]; exact j_12) (by rw [show x_42.toInt.toNat = x_1.toInt.toNat + 1 by omega, ((tI_nE hM_45 (nk (by decide))).trans (tI_uE hM_36))]; exact ox_35.2) hw (lv_sub hl [0, 1] rfl)
        · refine sb_if_eq (tgt := 69) hx hb (by decide : (0 : Int32).toInt = 0) dX7_readWord_20 (by decide) (fun c_20_24 => ?_) (fun h => absurd h (by decide))
          refine lv_aload_n hx hb dX7_readWord_69 rfl (lv_at hl 1 rfl) ?_
          refine lv_iload_n hx hb dX7_readWord_70 rfl (lv_at hl 0 rfl) ?_
          refine lv_bipush (v := 6) hx hb dX7_readWord_71 (by decide) ?_
          refine sb_icmp_le (tgt := 81) hx hb rfl (by decide : (6 : Int32).toInt = 6) dX7_readWord_73 (by decide) (fun c_73_47 => ?_) (fun c_73_47 => ?_)
          · refine lv_aload_n hx hb dX7_readWord_81 rfl (lv_at hl 1 rfl) ?_
            refine ti_callViE (ci := 7) (av := []) C hE hw (x_X7_wordKind l D A cy hJ M_4 iM_4 ) ⟨ml_X7_65, ym_X7_wordKind, yv_X7_wordKind, yi_X7_wordKind, yc_X7_wordKind⟩ yd_X7_wordKind ob_2 (by decide) rfl rfl hl.1 (Nat.le_of_ble_eq_true rfl) ⟨by decide, by decide⟩ ⟨Nat.zero_le _, Nat.zero_le _⟩ dX7_readWord_82 (fun r_51 M_52 H locs hp_52 hw => ?_)
            obtain ⟨hm, b0r_51, b1r_51, p0r_51⟩ := hp_52
            have hw := hw.to hm
            refine ti_putI (ci := 7) (k := 4) (N := 7) (T := TX7) C hw iw_7 tyX7 tyX7_ok nmX7 rfl ob_2 (by decide) (by decide) fl_X7_44 rfl rfl rfl rfl (fn_7 A _) fs_7_4 dX7_readWord_85 (fun H locs hw => ?_)
            obtain ⟨M_56, hM_56⟩ : ∃ z : ti_M, z = uI M_4 2 4 r_51 := ⟨_, rfl⟩
            have hw := hw.to hM_56.symm
            have iM_56 : cI Tc M_56 := cI_uI iM_4 hM_56 ob_2.1 (ib_mk (lo := 0) (hi := 41) (by omega) (by omega))
            have vM_56 : (tI M_56 2 4).toInt = (r_51 : Int32).toInt := by rw [tI_uE hM_56]
            have E1 : pt_to pt_L (pt_cB M) (pt_cn M) (tI M 2 3).toInt.toNat = (tI M_4 2 3).toInt.toNat := by rw [← j_11, pt_to_end (P := pt_L) (B := pt_cB M) (n := pt_cn M) (a := (tI M_4 2 3).toInt.toNat) (pt_pk_no kr_19 (pt_Lf (by omega)))]
            have E2 : pt_ev (pt_cB M) (pt_cn M) (tI M 2 3).toInt.toNat 0 0 = (tI M_4 2 6).toInt := by rw [← j_12, pt_ev_end (B := pt_cB M) (n := pt_cn M) (a := (tI M_4 2 3).toInt.toNat) (pt_pk_no kr_19 (pt_Lf (by omega)))]
            exact hQ _ _ _ _ _ hw (⟨iM_56, ((rf_I hM_56).trans f_5), (o2.trans (o2_I hM_56) f_6), ((tI_nE hM_56 (nk (by decide))).trans f_7), (tp.trans (tp_I hM_56 (by decide)) f_8), ((tI_nE hM_56 (nk (by decide))).trans f_9), (by rw [if_neg (by rw [E1]; omega), E2, tI_uE hM_56]; exact p0r_51), (by rw [E1, tI_nE hM_56 (nk (by decide))]; omega), (by rw [E2, tI_nE hM_56 (nk (by decide))])⟩) dX7_readWord_88
          · refine lv_bipush (v := 28) hx hb dX7_readWord_76 (by decide) ?_
            refine lv_goto (tgt := 85) hx hb dX7_readWord_78 (by decide) ?_
            refine ti_putI (ci := 7) (k := 4) (N := 7) (T := TX7) C hw iw_7 tyX7 tyX7_ok nmX7 rfl ob_2 (by decide) (by decide) fl_X7_44 rfl rfl rfl rfl (fn_7 A _) fs_7_4 dX7_readWord_85 (fun H locs hw => ?_)
            obtain ⟨M_54, hM_54⟩ : ∃ z : ti_M, z = uI M_4 2 4 28 := ⟨_, rfl⟩
            have hw := hw.to hM_54.symm
            have iM_54 : cI Tc M_54 := cI_uI iM_4 hM_54 ob_2.1 (ib_mk (lo := 0) (hi := 41) (by decide) (by decide))
            have vM_54 : (tI M_54 2 4).toInt = 28 := by rw [tI_uE hM_54]; decide
            have E1 : pt_to pt_L (pt_cB M) (pt_cn M) (tI M 2 3).toInt.toNat = (tI M_4 2 3).toInt.toNat := by rw [← j_11, pt_to_end (P := pt_L) (B := pt_cB M) (n := pt_cn M) (a := (tI M_4 2 3).toInt.toNat) (pt_pk_no kr_19 (pt_Lf (by omega)))]
            have E2 : pt_ev (pt_cB M) (pt_cn M) (tI M 2 3).toInt.toNat 0 0 = (tI M_4 2 6).toInt := by rw [← j_12, pt_ev_end (B := pt_cB M) (n := pt_cn M) (a := (tI M_4 2 3).toInt.toNat) (pt_pk_no kr_19 (pt_Lf (by omega)))]
            exact hQ _ _ _ _ _ hw (⟨iM_54, ((rf_I hM_54).trans f_5), (o2.trans (o2_I hM_54) f_6), ((tI_nE hM_54 (nk (by decide))).trans f_7), (tp.trans (tp_I hM_54 (by decide)) f_8), ((tI_nE hM_54 (nk (by decide))).trans f_9), (by rw [if_pos (by rw [E1]; omega), tI_uE hM_54]; decide), (by rw [E1, tI_nE hM_54 (nk (by decide))]; omega), (by rw [E2, tI_nE hM_54 (nk (by decide))])⟩) dX7_readWord_88
  exact hl_2_13 ((700 - (tI M 2 3).toInt : Int).toNat + 1) 0 M _ _ _ (Nat.lt_succ_self _) (by have lt0 : (0 : Int32).toInt = 0 := (by decide); first | omega | decide) (by have lt0 : (0 : Int32).toInt = 0 := (by decide); first | omega | decide) hI rfl o2.refl rfl tp.refl rfl (by have lt0 : (0 : Int32).toInt = 0 := (by decide); first | omega | decide) rfl (by rw [hv, show (0 : Int32).toInt = 0 by decide]; rfl) (by rw [hv, show (0 : Int32).toInt = 0 by decide]; exact pt_dv0) hw (lv_sub hl [0, 1] rfl)
set_option maxHeartbeats 4000000 in
set_option maxRecDepth 100000 in
theorem x_X7_advance (l : Launch) (D : va_G) (A : Nat → Nat → Nat) (cy : Nat → ClassId) (hJ : ti_inj ti_LT A) (M : ti_M) (hI : cI Tc M)  : ti_KvE l yX7_advance cX7_advance 2 6 ti_LT D A cy M [.ref (A 2 0)] (fun M2 => cI Tc M2 ∧ M2.2.2.2 = M.2.2.2 ∧ o2 M2 M ∧ tI M2 2 1 = tI M 2 1 ∧ tp M2 M ∧ (tI M2 2 4).toInt = pt_K (pt_cB M) (pt_cn M) (tI M 2 3).toInt.toNat ∧ (tI M2 2 6).toInt = pt_V (pt_cB M) (pt_cn M) (tI M 2 3).toInt.toNat ∧ (tI M2 2 5).toInt = ((pt_P (pt_cB M) (pt_cn M) (tI M 2 3).toInt.toNat : Nat) : Int) ∧ (tI M2 2 3).toInt = pt_A (pt_cB M) (pt_cn M) (tI M 2 3).toInt.toNat) := by
  refine ti_eVE yp_X7_advance hJ ti_LT_nd (Nat.le_of_ble_eq_true rfl) ?_
  intro p e s m args below meth c Q H0 C hE hQ hw ls hl
  have hx := C.1
  have hb := C.2.1
  have hl : lv_has ls 2 [(0, .ref (A 2 0))] := hl
  have u_8 : 0 ≤ (tI M 2 3).toInt ∧ (tI M 2 3).toInt ≤ 700 := cI_rd (x := tI M 2 3) (k := 3) hI ob_2.1 rfl
  have hl_0_6 : ∀ (n_7 : Nat) (M_1 : ti_M) (H : Heap) (locs : List Loc) (ls : Array Slot), (700 - (tI M_1 2 3).toInt : Int).toNat < n_7 → (cI Tc M_1) → (M_1.2.2.2 = M.2.2.2) → (o2 M_1 M) → (tI M_1 2 1 = tI M 2 1) → (tp M_1 M) → (pt_to pt_W (pt_cB M) (pt_cn M) (tI M_1 2 3).toInt.toNat = pt_to pt_W (pt_cB M) (pt_cn M) (tI M 2 3).toInt.toNat) → ti_H ti_LT D A cy H0 M_1 H locs → lv_has ls 2 [(0, .ref (A 2 0))] → W p l e (ti_rm 6) s m args below meth c H locs 0 0 Q (F0 m 0 ls []) := by
    intro n_7
    induction n_7 with
    | zero => intro M_1 H locs ls hf_7; exact absurd hf_7 (Nat.not_lt_zero _)
    | succ n_7 ih_7 =>
      intro M_1 H locs ls hf_7 iM_1 f_2 f_3 f_4 f_5 j_6 hw hl
      refine lv_aload_n hx hb dX7_advance_0 rfl (lv_at hl 0 rfl) ?_
      refine ti_get (ci := 7) (k := 3) (N := 7) (T := TX7) C hw iw_7 rfl ob_2 (by decide) (by decide) fl_X7_22 rfl rfl dX7_advance_1 ?_
      refine lv_topi (fun x_9 ex_9 => ?_)
      have bx_9 : 0 ≤ x_9.toInt ∧ x_9.toInt ≤ 700 := cI_rd iM_1 ob_2.1 ex_9
      have ux_9 : (tI M_1 2 3).toInt = x_9.toInt := by rw [ex_9]
      refine lv_aload_n hx hb dX7_advance_4 rfl (lv_at hl 0 rfl) ?_
      refine ti_get (ci := 7) (k := 2) (N := 7) (T := TX7) C hw iw_7 rfl ob_2 (by decide) (by decide) fl_X7_19 rfl rfl dX7_advance_5 ?_
      refine lv_topi (fun x_10 ex_10 => ?_)
      have bx_10 : 0 ≤ x_10.toInt ∧ x_10.toInt ≤ 700 := cI_rd iM_1 ob_2.1 ex_10
      have ux_10 : (tI M_1 2 2).toInt = x_10.toInt := by rw [ex_10]
      have hj_42_26 : ∀  (H : Heap) (locs : List Loc) (ls : Array Slot), (pt_to pt_W (pt_cB M) (pt_cn M) (tI M_1 2 3).toInt.toNat = (tI M_1 2 3).toInt.toNat) → ti_H ti_LT D A cy H0 M_1 H locs → lv_has ls 2 [(0, .ref (A 2 0))] → W p l e (ti_rm 6) s m args below meth c H locs 0 0 Q (F0 m 42 ls []) := by
        intro  H locs ls j_26 hw hl
        refine lv_aload_n hx hb dX7_advance_42 rfl (lv_at hl 0 rfl) ?_
        refine lv_aload_n hx hb dX7_advance_43 rfl (lv_at hl 0 rfl) ?_
        refine ti_get (ci := 7) (k := 3) (N := 7) (T := TX7) C hw iw_7 rfl ob_2 (by decide) (by decide) fl_X7_22 rfl rfl dX7_advance_44 ?_
        refine ti_top (y := x_9) (ex_9.symm) ?_
        have u_27 : (tI M_1 2 3).toInt = (x_9 : Int32).toInt := by rw [(ex_9.symm)]
        refine ti_putI (ci := 7) (k := 5) (N := 7) (T := TX7) C hw iw_7 tyX7 tyX7_ok nmX7 rfl ob_2 (by decide) (by decide) fl_X7_38 rfl rfl rfl rfl (fn_7 A _) fs_7_5 dX7_advance_47 (fun H locs hw => ?_)
        obtain ⟨M_28, hM_28⟩ : ∃ z : ti_M, z = uI M_1 2 5 x_9 := ⟨_, rfl⟩
        have hw := hw.to hM_28.symm
        have iM_28 : cI Tc M_28 := cI_uI iM_1 hM_28 ob_2.1 trivial
        refine lv_aload_n hx hb dX7_advance_50 rfl (lv_at hl 0 rfl) ?_
        refine lv_iconst (v := 0) hx hb dX7_advance_51 (by decide) ?_
        refine ti_putI (ci := 7) (k := 6) (N := 7) (T := TX7) C hw iw_7 tyX7 tyX7_ok nmX7 rfl ob_2 (by decide) (by decide) fl_X7_41 rfl rfl rfl rfl (fn_7 A _) fs_7_6 dX7_advance_52 (fun H locs hw => ?_)
        obtain ⟨M_29, hM_29⟩ : ∃ z : ti_M, z = uI M_28 2 6 0 := ⟨_, rfl⟩
        have hw := hw.to hM_29.symm
        have iM_29 : cI Tc M_29 := cI_uI iM_28 hM_29 ob_2.1 (ib_mk (lo := 0) (hi := 2147483647) (by decide) (by decide))
        have vM_29 : (tI M_29 2 6).toInt = 0 := by rw [tI_uE hM_29]; decide
        refine lv_aload_n hx hb dX7_advance_55 rfl (lv_at hl 0 rfl) ?_
        refine ti_callVi (ci := 7) (av := []) C hw (s_X7_peek l D A cy hJ M_29 iM_29 ) ⟨ml_X7_34, ym_X7_peek, yv_X7_peek, yi_X7_peek, yc_X7_peek⟩ yd_X7_peek ob_2 (by decide) rfl rfl hl.1 (Nat.le_of_ble_eq_true rfl) ⟨by decide, by decide⟩ ⟨Nat.zero_le _, Nat.zero_le _⟩ dX7_advance_56 (fun r_30 M_31 H locs hp_31 hw => ?_)
        obtain ⟨hm, b0r_30, b1r_30, p0r_30, p1r_30⟩ := hp_31
        have hw := hw.to hm
        have kr_30 := tp_pk (tp.trans (tp_I hM_29 (by decide)) (tp.trans (tp_I hM_28 (by decide)) f_5)) iM_29 p1r_30
        refine lv_istore_n (lv' := [(1, .int r_30), (0, .ref (A 2 0))]) hx hb dX7_advance_59 rfl hl (by decide) rfl (fun ls hl => ?_)
        refine lv_iload_n hx hb dX7_advance_60 rfl (lv_at hl 0 rfl) ?_
        refine lv_iconst (v := (-1)) hx hb dX7_advance_61 (by decide) ?_
        refine sb_icmp_ne (tgt := 74) hx hb rfl (by decide : ((-1) : Int32).toInt = (-1)) dX7_advance_62 (by decide) (fun c_62_31 => ?_) (fun c_62_31 => ?_)
        · refine lv_iload_n hx hb dX7_advance_74 rfl (lv_at hl 0 rfl) ?_
          refine ti_callSi (av := [.int r_30]) C hw (x_X7_isLetter l D A cy hJ M_29 iM_29 r_30) ⟨ml_X7_47, ys_X7_isLetter, yi_X7_isLetter, yc_X7_isLetter⟩ yd_X7_isLetter rfl hl.1 (Nat.le_of_ble_eq_true rfl) ⟨by decide, by decide⟩ ⟨Nat.zero_le _, Nat.zero_le _⟩ dX7_advance_75 (fun r_34 M_35 H locs hp_35 hw => ?_)
          obtain ⟨hm, hz⟩ := hp_35
          have hw := hw.to hm
          rcases hz with ⟨rfl, d1_36, d2_36⟩ | ⟨rfl, d1_36⟩
          · refine sb_if_eq (tgt := 88) hx hb (by decide : (1 : Int32).toInt = 1) dX7_advance_78 (by decide) (fun h => absurd h (by decide)) (fun c_78_36 => ?_)
            refine lv_aload_n hx hb dX7_advance_81 rfl (lv_at hl 1 rfl) ?_
            refine ti_callVvE (ci := 7) (av := []) C hE hw (x_X7_readWord l D A cy hJ M_29 iM_29 (by omega)) ⟨ml_X7_51, ym_X7_readWord, yv_X7_readWord, yi_X7_readWord, yc_X7_readWord⟩ yd_X7_readWord ob_2 (by decide) rfl rfl hl.1 (Nat.le_of_ble_eq_true rfl) ⟨by decide, by decide⟩ ⟨Nat.zero_le _, Nat.zero_le _⟩ dX7_advance_82 (fun M_40 H locs hp_40 hw => ?_)
            obtain ⟨iM_40, q_41, q_42, q_43, q_44, q_45, p0r_39, p1r_39, p2r_39⟩ := hp_40
            refine lv_goto (tgt := 121) hx hb dX7_advance_85 (by decide) ?_
            have eg : tI M_29 2 3 = tI M_1 2 3 := (tI_nE hM_29 (nk (by decide))).trans (tI_nE hM_28 (nk (by decide)))
            have EP : pt_P (pt_cB M) (pt_cn M) (tI M 2 3).toInt.toNat = (tI M_29 2 3).toInt.toNat := by unfold pt_P; rw [← j_6, j_26, eg]
            have EC : pt_C (pt_cB M) (pt_cn M) (tI M 2 3).toInt.toNat = r_30.toInt := by unfold pt_C; rw [EP]; exact kr_30.symm
            have eg2 : (tI M_29 2 3).toInt = (tI M_1 2 3).toInt := by rw [eg]
            have eb := tp_B (tp.trans (tp_I hM_29 (by decide)) (tp.trans (tp_I hM_28 (by decide)) f_5))
            have en := tp_n (tp.trans (tp_I hM_29 (by decide)) (tp.trans (tp_I hM_28 (by decide)) f_5))
            have ea : (tI M_40 2 5).toInt = (tI M_29 2 3).toInt := by rw [q_45, tI_nE hM_29 (nk (by decide)), tI_uE hM_28]; omega
            exact hQ _ _ _ _ _ hw (⟨iM_40, ((q_41).trans ((rf_I hM_29).trans ((rf_I hM_28).trans f_2))), (o2.trans q_42 (o2.trans (o2_I hM_29) (o2.trans (o2_I hM_28) f_3))), ((q_43).trans ((tI_nE hM_29 (nk (by decide))).trans ((tI_nE hM_28 (nk (by decide))).trans f_4))), (tp.trans q_44 (tp.trans (tp_I hM_29 (by decide)) (tp.trans (tp_I hM_28 (by decide)) f_5))), (by have q : pt_K (pt_cB M) (pt_cn M) (tI M 2 3).toInt.toNat = (if (tI M_29 2 3).toInt.toNat + 6 < pt_to pt_L (pt_cB M) (pt_cn M) (tI M_29 2 3).toInt.toNat then 28 else pt_wk (pt_ev (pt_cB M) (pt_cn M) (tI M_29 2 3).toInt.toNat 0 0) 0) := (by unfold pt_K; rw [EC, if_neg (by omega), if_pos (pt_Lt (by omega) (by omega)), EP]); rw [q, p0r_39, eb, en]), (by rw [p2r_39]; unfold pt_V; rw [EC, if_neg (by omega), if_pos (pt_Lt (by omega) (by omega)), EP, eb, en]), (by rw [ea, EP]; omega), (by rw [p1r_39]; unfold pt_A; rw [EC, if_neg (by omega), if_pos (pt_Lt (by omega) (by omega)), EP, eb, en])⟩) dX7_advance_121
          · refine sb_if_eq (tgt := 88) hx hb (by decide : (0 : Int32).toInt = 0) dX7_advance_78 (by decide) (fun c_78_37 => ?_) (fun h => absurd h (by decide))
            refine lv_iload_n hx hb dX7_advance_88 rfl (lv_at hl 0 rfl) ?_
            refine ti_callSi (av := [.int r_30]) C hw (x_X7_isDigit l D A cy hJ M_29 iM_29 r_30) ⟨ml_X7_54, ys_X7_isDigit, yi_X7_isDigit, yc_X7_isDigit⟩ yd_X7_isDigit rfl hl.1 (Nat.le_of_ble_eq_true rfl) ⟨by decide, by decide⟩ ⟨Nat.zero_le _, Nat.zero_le _⟩ dX7_advance_89 (fun r_46 M_47 H locs hp_47 hw => ?_)
            obtain ⟨hm, hz⟩ := hp_47
            have hw := hw.to hm
            rcases hz with ⟨rfl, d1_48, d2_48⟩ | ⟨rfl, d1_48⟩
            · refine sb_if_eq (tgt := 102) hx hb (by decide : (1 : Int32).toInt = 1) dX7_advance_92 (by decide) (fun h => absurd h (by decide)) (fun c_92_48 => ?_)
              refine lv_aload_n hx hb dX7_advance_95 rfl (lv_at hl 1 rfl) ?_
              refine ti_callVv (ci := 7) (av := []) C hw (x_X7_readNumber l D A cy hJ M_29 iM_29 (by omega)) ⟨ml_X7_57, ym_X7_readNumber, yv_X7_readNumber, yi_X7_readNumber, yc_X7_readNumber⟩ yd_X7_readNumber ob_2 (by decide) rfl rfl hl.1 (Nat.le_of_ble_eq_true rfl) ⟨by decide, by decide⟩ ⟨Nat.zero_le _, Nat.zero_le _⟩ dX7_advance_96 (fun M_52 H locs hp_52 hw => ?_)
              obtain ⟨iM_52, q_53, q_54, q_55, q_56, q_57, p0r_51, p1r_51, p2r_51⟩ := hp_52
              refine lv_goto (tgt := 121) hx hb dX7_advance_99 (by decide) ?_
              have eg : tI M_29 2 3 = tI M_1 2 3 := (tI_nE hM_29 (nk (by decide))).trans (tI_nE hM_28 (nk (by decide)))
              have EP : pt_P (pt_cB M) (pt_cn M) (tI M 2 3).toInt.toNat = (tI M_29 2 3).toInt.toNat := by unfold pt_P; rw [← j_6, j_26, eg]
              have EC : pt_C (pt_cB M) (pt_cn M) (tI M 2 3).toInt.toNat = r_30.toInt := by unfold pt_C; rw [EP]; exact kr_30.symm
              have eg2 : (tI M_29 2 3).toInt = (tI M_1 2 3).toInt := by rw [eg]
              have eb := tp_B (tp.trans (tp_I hM_29 (by decide)) (tp.trans (tp_I hM_28 (by decide)) f_5))
              have en := tp_n (tp.trans (tp_I hM_29 (by decide)) (tp.trans (tp_I hM_28 (by decide)) f_5))
              have ea : (tI M_52 2 5).toInt = (tI M_29 2 3).toInt := by rw [q_57, tI_nE hM_29 (nk (by decide)), tI_uE hM_28]; omega
              have v0 : (tI M_29 2 6).toInt = 0 := by rw [tI_uE hM_29]; decide
              exact hQ _ _ _ _ _ hw (⟨iM_52, ((q_53).trans ((rf_I hM_29).trans ((rf_I hM_28).trans f_2))), (o2.trans q_54 (o2.trans (o2_I hM_29) (o2.trans (o2_I hM_28) f_3))), ((q_55).trans ((tI_nE hM_29 (nk (by decide))).trans ((tI_nE hM_28 (nk (by decide))).trans f_4))), (tp.trans q_56 (tp.trans (tp_I hM_29 (by decide)) (tp.trans (tp_I hM_28 (by decide)) f_5))), (by have q : pt_K (pt_cB M) (pt_cn M) (tI M 2 3).toInt.toNat = (26) := (by unfold pt_K; rw [EC, if_neg (by omega), if_neg (by rw [pt_Lf (by omega)]; decide), if_pos (pt_Dt (by omega) (by omega))]); rw [q, p0r_51]), (by rw [p2r_51]; unfold pt_V; rw [EC, if_neg (by omega), if_neg (by rw [pt_Lf (by omega)]; decide), if_pos (pt_Dt (by omega) (by omega)), EP, eb, en, v0]), (by rw [ea, EP]; omega), (by rw [p1r_51]; unfold pt_A; rw [EC, if_neg (by omega), if_neg (by rw [pt_Lf (by omega)]; decide), if_pos (pt_Dt (by omega) (by omega)), EP, eb, en])⟩) dX7_advance_121
            · refine sb_if_eq (tgt := 102) hx hb (by decide : (0 : Int32).toInt = 0) dX7_advance_92 (by decide) (fun c_92_49 => ?_) (fun h => absurd h (by decide))
              refine lv_aload_n hx hb dX7_advance_102 rfl (lv_at hl 1 rfl) ?_
              refine lv_dup hx hb dX7_advance_103 rfl ?_
              refine ti_get (ci := 7) (k := 3) (N := 7) (T := TX7) C hw iw_7 rfl ob_2 (by decide) (by decide) fl_X7_22 rfl rfl dX7_advance_104 ?_
              refine ti_top (y := x_9) ((tI_nE hM_29 (nk (by decide))).trans ((tI_nE hM_28 (nk (by decide))).trans ex_9.symm)) ?_
              have u_58 : (tI M_29 2 3).toInt = (x_9 : Int32).toInt := by rw [((tI_nE hM_29 (nk (by decide))).trans ((tI_nE hM_28 (nk (by decide))).trans ex_9.symm))]
              refine lv_iconst (v := 1) hx hb dX7_advance_107 (by decide) ?_
              refine lv_iadd hx hb dX7_advance_108 ?_
              refine lv_topi (fun x_59 ex_59 => ?_)
              have tx_59 : x_59.toInt = x_9.toInt + 1 := i_add ex_59 rfl (by decide : (1 : Int32).toInt = 1) (by omega) (by omega)
              refine ti_putI (ci := 7) (k := 3) (N := 7) (T := TX7) C hw iw_7 tyX7 tyX7_ok nmX7 rfl ob_2 (by decide) (by decide) fl_X7_22 rfl rfl rfl rfl (fn_7 A _) fs_7_3 dX7_advance_109 (fun H locs hw => ?_)
              obtain ⟨M_60, hM_60⟩ : ∃ z : ti_M, z = uI M_29 2 3 x_59 := ⟨_, rfl⟩
              have hw := hw.to hM_60.symm
              have iM_60 : cI Tc M_60 := cI_uI iM_29 hM_60 ob_2.1 (ib_mk (lo := 0) (hi := 700) (by omega) (by omega))
              have vM_60 : (tI M_60 2 3).toInt = (x_59 : Int32).toInt := by rw [tI_uE hM_60]
              refine lv_aload_n hx hb dX7_advance_112 rfl (lv_at hl 1 rfl) ?_
              refine lv_aload_n hx hb dX7_advance_113 rfl (lv_at hl 1 rfl) ?_
              refine lv_iload_n hx hb dX7_advance_114 rfl (lv_at hl 0 rfl) ?_
              refine ti_callVi (ci := 7) (av := [.int r_30]) C hw (x_X7_signKind l D A cy hJ M_60 iM_60 r_30) ⟨ml_X7_60, ym_X7_signKind, yv_X7_signKind, yi_X7_signKind, yc_X7_signKind⟩ yd_X7_signKind ob_2 (by decide) rfl rfl hl.1 (Nat.le_of_ble_eq_true rfl) ⟨by decide, by decide⟩ ⟨Nat.zero_le _, Nat.zero_le _⟩ dX7_advance_115 (fun r_61 M_62 H locs hp_62 hw => ?_)
              obtain ⟨skr_61, b0r_61, b1r_61, iM_62, hsg_64⟩ := hp_62
              rcases hsg_64 with ⟨g_64, hmg_64⟩ | ⟨g_64, y_63, ty_63, hM_62⟩
              · have hw := hw.to hmg_64
                refine ti_putI (ci := 7) (k := 4) (N := 7) (T := TX7) C hw iw_7 tyX7 tyX7_ok nmX7 rfl ob_2 (by decide) (by decide) fl_X7_44 rfl rfl rfl rfl (fn_7 A _) fs_7_4 dX7_advance_118 (fun H locs hw => ?_)
                obtain ⟨M_65, hM_65⟩ : ∃ z : ti_M, z = uI M_60 2 4 r_61 := ⟨_, rfl⟩
                have hw := hw.to hM_65.symm
                have iM_65 : cI Tc M_65 := cI_uI iM_60 hM_65 ob_2.1 (ib_mk (lo := 0) (hi := 41) (by omega) (by omega))
                have vM_65 : (tI M_65 2 4).toInt = (r_61 : Int32).toInt := by rw [tI_uE hM_65]
                have eg : tI M_29 2 3 = tI M_1 2 3 := (tI_nE hM_29 (nk (by decide))).trans (tI_nE hM_28 (nk (by decide)))
                have EP : pt_P (pt_cB M) (pt_cn M) (tI M 2 3).toInt.toNat = (tI M_29 2 3).toInt.toNat := by unfold pt_P; rw [← j_6, j_26, eg]
                have EC : pt_C (pt_cB M) (pt_cn M) (tI M 2 3).toInt.toNat = r_30.toInt := by unfold pt_C; rw [EP]; exact kr_30.symm
                have eg2 : (tI M_29 2 3).toInt = (tI M_1 2 3).toInt := by rw [eg]
                have eb := tp_B (tp.trans (tp_I hM_29 (by decide)) (tp.trans (tp_I hM_28 (by decide)) f_5))
                have en := tp_n (tp.trans (tp_I hM_29 (by decide)) (tp.trans (tp_I hM_28 (by decide)) f_5))
                have e2 : (tI M_60 2 3).toInt.toNat = (tI M_29 2 3).toInt.toNat + 1 := by rw [(tI_uE hM_60), eg, (ex_9.symm)]; omega
                have ks := tp_pk (r := s_pk M_60) (tp.trans (tp_I hM_60 (by decide)) (tp.trans (tp_I hM_29 (by decide)) (tp.trans (tp_I hM_28 (by decide)) f_5))) iM_60 rfl
                rw [e2] at ks
                have n2 : pt_s2 r_30.toInt (pt_pk (pt_cB M) (pt_cn M) ((tI M_29 2 3).toInt.toNat + 1)) = 0 := by rw [← ks]; exact g_64
                exact hQ _ _ _ _ _ hw (⟨iM_65, ((rf_I hM_65).trans ((rf_I hM_60).trans ((rf_I hM_29).trans ((rf_I hM_28).trans f_2)))), (o2.trans (o2_I hM_65) (o2.trans (o2_I hM_60) (o2.trans (o2_I hM_29) (o2.trans (o2_I hM_28) f_3)))), ((tI_nE hM_65 (nk (by decide))).trans ((tI_nE hM_60 (nk (by decide))).trans ((tI_nE hM_29 (nk (by decide))).trans ((tI_nE hM_28 (nk (by decide))).trans f_4)))), (tp.trans (tp_I hM_65 (by decide)) (tp.trans (tp_I hM_60 (by decide)) (tp.trans (tp_I hM_29 (by decide)) (tp.trans (tp_I hM_28 (by decide)) f_5)))), (by rw [(tI_uE hM_65), skr_61, ks]; unfold pt_K; rw [EC, if_neg (by omega), if_neg (by rw [pt_Lf (by omega)]; decide), if_neg (by rw [pt_Df (by omega)]; decide), EP]), (by rw [((tI_nE hM_65 (nk (by decide))).trans ((tI_nE hM_60 (nk (by decide))).trans (tI_uE hM_29)))]; unfold pt_V; rw [EC, if_neg (by omega), if_neg (by rw [pt_Lf (by omega)]; decide), if_neg (by rw [pt_Df (by omega)]; decide)]; decide), (by rw [EP, ((tI_nE hM_65 (nk (by decide))).trans ((tI_nE hM_60 (nk (by decide))).trans ((tI_nE hM_29 (nk (by decide))).trans (tI_uE hM_28))))]; omega), (by rw [((tI_nE hM_65 (nk (by decide))).trans (tI_uE hM_60))]; unfold pt_A; rw [EC, if_neg (by omega), if_neg (by rw [pt_Lf (by omega)]; decide), if_neg (by rw [pt_Df (by omega)]; decide), EP, n2]; omega)⟩) dX7_advance_121
              · refine ti_putI (ci := 7) (k := 4) (N := 7) (T := TX7) C hw iw_7 tyX7 tyX7_ok nmX7 rfl ob_2 (by decide) (by decide) fl_X7_44 rfl rfl rfl rfl (fn_7 A _) fs_7_4 dX7_advance_118 (fun H locs hw => ?_)
                obtain ⟨M_66, hM_66⟩ : ∃ z : ti_M, z = uI M_62 2 4 r_61 := ⟨_, rfl⟩
                have hw := hw.to hM_66.symm
                have iM_66 : cI Tc M_66 := cI_uI iM_62 hM_66 ob_2.1 (ib_mk (lo := 0) (hi := 41) (by omega) (by omega))
                have vM_66 : (tI M_66 2 4).toInt = (r_61 : Int32).toInt := by rw [tI_uE hM_66]
                have eg : tI M_29 2 3 = tI M_1 2 3 := (tI_nE hM_29 (nk (by decide))).trans (tI_nE hM_28 (nk (by decide)))
                have EP : pt_P (pt_cB M) (pt_cn M) (tI M 2 3).toInt.toNat = (tI M_29 2 3).toInt.toNat := by unfold pt_P; rw [← j_6, j_26, eg]
                have EC : pt_C (pt_cB M) (pt_cn M) (tI M 2 3).toInt.toNat = r_30.toInt := by unfold pt_C; rw [EP]; exact kr_30.symm
                have eg2 : (tI M_29 2 3).toInt = (tI M_1 2 3).toInt := by rw [eg]
                have eb := tp_B (tp.trans (tp_I hM_29 (by decide)) (tp.trans (tp_I hM_28 (by decide)) f_5))
                have en := tp_n (tp.trans (tp_I hM_29 (by decide)) (tp.trans (tp_I hM_28 (by decide)) f_5))
                have e2 : (tI M_60 2 3).toInt.toNat = (tI M_29 2 3).toInt.toNat + 1 := by rw [(tI_uE hM_60), eg, (ex_9.symm)]; omega
                have ks := tp_pk (r := s_pk M_60) (tp.trans (tp_I hM_60 (by decide)) (tp.trans (tp_I hM_29 (by decide)) (tp.trans (tp_I hM_28 (by decide)) f_5))) iM_60 rfl
                rw [e2] at ks
                have n2 : pt_s2 r_30.toInt (pt_pk (pt_cB M) (pt_cn M) ((tI M_29 2 3).toInt.toNat + 1)) = 1 := by rw [← ks]; exact g_64
                exact hQ _ _ _ _ _ hw (⟨iM_66, ((rf_I hM_66).trans ((rf_I hM_62).trans ((rf_I hM_60).trans ((rf_I hM_29).trans ((rf_I hM_28).trans f_2))))), (o2.trans (o2_I hM_66) (o2.trans (o2_I hM_62) (o2.trans (o2_I hM_60) (o2.trans (o2_I hM_29) (o2.trans (o2_I hM_28) f_3))))), ((tI_nE hM_66 (nk (by decide))).trans ((tI_nE hM_62 (nk (by decide))).trans ((tI_nE hM_60 (nk (by decide))).trans ((tI_nE hM_29 (nk (by decide))).trans ((tI_nE hM_28 (nk (by decide))).trans f_4))))), (tp.trans (tp_I hM_66 (by decide)) (tp.trans (tp_I hM_62 (by decide)) (tp.trans (tp_I hM_60 (by decide)) (tp.trans (tp_I hM_29 (by decide)) (tp.trans (tp_I hM_28 (by decide)) f_5))))), (by rw [(tI_uE hM_66), skr_61, ks]; unfold pt_K; rw [EC, if_neg (by omega), if_neg (by rw [pt_Lf (by omega)]; decide), if_neg (by rw [pt_Df (by omega)]; decide), EP]), (by rw [((tI_nE hM_66 (nk (by decide))).trans ((tI_nE hM_62 (nk (by decide))).trans ((tI_nE hM_60 (nk (by decide))).trans (tI_uE hM_29))))]; unfold pt_V; rw [EC, if_neg (by omega), if_neg (by rw [pt_Lf (by omega)]; decide), if_neg (by rw [pt_Df (by omega)]; decide)]; decide), (by rw [EP, ((tI_nE hM_66 (nk (by decide))).trans ((tI_nE hM_62 (nk (by decide))).trans ((tI_nE hM_60 (nk (by decide))).trans ((tI_nE hM_29 (nk (by decide))).trans (tI_uE hM_28)))))]; omega), (by rw [((tI_nE hM_66 (nk (by decide))).trans (tI_uE hM_62))]; unfold pt_A; rw [EC, if_neg (by omega), if_neg (by rw [pt_Lf (by omega)]; decide), if_neg (by rw [pt_Df (by omega)]; decide), EP, n2]; omega)⟩) dX7_advance_121
        · refine lv_aload_n hx hb dX7_advance_65 rfl (lv_at hl 1 rfl) ?_
          refine lv_bipush (v := 27) hx hb dX7_advance_66 (by decide) ?_
          refine ti_putI (ci := 7) (k := 4) (N := 7) (T := TX7) C hw iw_7 tyX7 tyX7_ok nmX7 rfl ob_2 (by decide) (by decide) fl_X7_44 rfl rfl rfl rfl (fn_7 A _) fs_7_4 dX7_advance_68 (fun H locs hw => ?_)
          obtain ⟨M_33, hM_33⟩ : ∃ z : ti_M, z = uI M_29 2 4 27 := ⟨_, rfl⟩
          have hw := hw.to hM_33.symm
          have iM_33 : cI Tc M_33 := cI_uI iM_29 hM_33 ob_2.1 (ib_mk (lo := 0) (hi := 41) (by decide) (by decide))
          have vM_33 : (tI M_33 2 4).toInt = 27 := by rw [tI_uE hM_33]; decide
          refine lv_goto (tgt := 121) hx hb dX7_advance_71 (by decide) ?_
          have eg : tI M_29 2 3 = tI M_1 2 3 := (tI_nE hM_29 (nk (by decide))).trans (tI_nE hM_28 (nk (by decide)))
          have EP : pt_P (pt_cB M) (pt_cn M) (tI M 2 3).toInt.toNat = (tI M_29 2 3).toInt.toNat := by unfold pt_P; rw [← j_6, j_26, eg]
          have EC : pt_C (pt_cB M) (pt_cn M) (tI M 2 3).toInt.toNat = r_30.toInt := by unfold pt_C; rw [EP]; exact kr_30.symm
          have eg2 : (tI M_29 2 3).toInt = (tI M_1 2 3).toInt := by rw [eg]
          have eb := tp_B (tp.trans (tp_I hM_29 (by decide)) (tp.trans (tp_I hM_28 (by decide)) f_5))
          have en := tp_n (tp.trans (tp_I hM_29 (by decide)) (tp.trans (tp_I hM_28 (by decide)) f_5))
          exact hQ _ _ _ _ _ hw (⟨iM_33, ((rf_I hM_33).trans ((rf_I hM_29).trans ((rf_I hM_28).trans f_2))), (o2.trans (o2_I hM_33) (o2.trans (o2_I hM_29) (o2.trans (o2_I hM_28) f_3))), ((tI_nE hM_33 (nk (by decide))).trans ((tI_nE hM_29 (nk (by decide))).trans ((tI_nE hM_28 (nk (by decide))).trans f_4))), (tp.trans (tp_I hM_33 (by decide)) (tp.trans (tp_I hM_29 (by decide)) (tp.trans (tp_I hM_28 (by decide)) f_5))), (by rw [(tI_uE hM_33)]; unfold pt_K; rw [EC, if_pos (by omega)]; decide), (by rw [((tI_nE hM_33 (nk (by decide))).trans (tI_uE hM_29))]; unfold pt_V; rw [EC, if_pos (by omega)]; decide), (by rw [EP, ((tI_nE hM_33 (nk (by decide))).trans ((tI_nE hM_29 (nk (by decide))).trans (tI_uE hM_28)))]; omega), (by rw [((tI_nE hM_33 (nk (by decide))).trans ((tI_nE hM_29 (nk (by decide))).trans ((tI_nE hM_28 (nk (by decide))).trans ex_9.symm)))]; unfold pt_A; rw [EC, if_pos (by omega), EP]; omega)⟩) dX7_advance_121
      refine sb_icmp_ge (tgt := 42) hx hb rfl rfl dX7_advance_8 (by decide) (fun c_8_10 => ?_) (fun c_8_10 => ?_)
      · exact hj_42_26  _ _ _ (pt_to_end (P := pt_W) (B := pt_cB M) (n := pt_cn M) (a := (tI M_1 2 3).toInt.toNat) (fun q => by have q1 := q.1; have q2 := tp_n f_5; unfold pt_cn at q1 q2; omega)) hw (lv_sub hl [0] rfl)
      · refine lv_aload_n hx hb dX7_advance_11 rfl (lv_at hl 0 rfl) ?_
        refine ti_callVi (ci := 7) (av := []) C hw (s_X7_peek l D A cy hJ M_1 iM_1 ) ⟨ml_X7_34, ym_X7_peek, yv_X7_peek, yi_X7_peek, yc_X7_peek⟩ yd_X7_peek ob_2 (by decide) rfl rfl hl.1 (Nat.le_of_ble_eq_true rfl) ⟨by decide, by decide⟩ ⟨Nat.zero_le _, Nat.zero_le _⟩ dX7_advance_12 (fun r_12 M_13 H locs hp_13 hw => ?_)
        obtain ⟨hm, b0r_12, b1r_12, p0r_12, p1r_12⟩ := hp_13
        have hw := hw.to hm
        have kr_12 := tp_pk f_5 iM_1 p1r_12
        refine lv_bipush (v := 32) hx hb dX7_advance_15 (by decide) ?_
        refine sb_icmp_eq (tgt := 29) hx hb rfl (by decide : (32 : Int32).toInt = 32) dX7_advance_17 (by decide) (fun c_17_13 => ?_) (fun c_17_13 => ?_)
        · refine lv_aload_n hx hb dX7_advance_29 rfl (lv_at hl 0 rfl) ?_
          refine lv_dup hx hb dX7_advance_30 rfl ?_
          refine ti_get (ci := 7) (k := 3) (N := 7) (T := TX7) C hw iw_7 rfl ob_2 (by decide) (by decide) fl_X7_22 rfl rfl dX7_advance_31 ?_
          refine ti_top (y := x_9) (ex_9.symm) ?_
          have u_18 : (tI M_1 2 3).toInt = (x_9 : Int32).toInt := by rw [(ex_9.symm)]
          refine lv_iconst (v := 1) hx hb dX7_advance_34 (by decide) ?_
          refine lv_iadd hx hb dX7_advance_35 ?_
          refine lv_topi (fun x_19 ex_19 => ?_)
          have tx_19 : x_19.toInt = x_9.toInt + 1 := i_add ex_19 rfl (by decide : (1 : Int32).toInt = 1) (by omega) (by omega)
          refine ti_putI (ci := 7) (k := 3) (N := 7) (T := TX7) C hw iw_7 tyX7 tyX7_ok nmX7 rfl ob_2 (by decide) (by decide) fl_X7_22 rfl rfl rfl rfl (fn_7 A _) fs_7_3 dX7_advance_36 (fun H locs hw => ?_)
          obtain ⟨M_20, hM_20⟩ : ∃ z : ti_M, z = uI M_1 2 3 x_19 := ⟨_, rfl⟩
          have hw := hw.to hM_20.symm
          have iM_20 : cI Tc M_20 := cI_uI iM_1 hM_20 ob_2.1 (ib_mk (lo := 0) (hi := 700) (by omega) (by omega))
          have vM_20 : (tI M_20 2 3).toInt = (x_19 : Int32).toInt := by rw [tI_uE hM_20]
          refine lv_goto (tgt := 0) hx hb dX7_advance_39 (by decide) ?_
          have u_21 : (tI M_20 2 3).toInt = (x_19 : Int32).toInt := by rw [(tI_uE hM_20)]
          exact ih_7 M_20 _ _ _ (by omega) iM_20 ((rf_I hM_20).trans f_2) (o2.trans (o2_I hM_20) f_3) ((tI_nE hM_20 (nk (by decide))).trans f_4) (tp.trans (tp_I hM_20 (by decide)) f_5) (by have h := pt_pk_in kr_12 (by omega); have e1 : (tI M_20 2 3).toInt.toNat = (tI M_1 2 3).toInt.toNat + 1 := (by rw [(tI_uE hM_20), (ex_9.symm)]; omega); rw [e1, ← pt_to_go (P := pt_W) (B := pt_cB M) h.1 (by rw [← h.2]; exact pt_Wt (by omega))]; exact j_6) hw (lv_sub hl [0] rfl)
        · refine lv_aload_n hx hb dX7_advance_20 rfl (lv_at hl 0 rfl) ?_
          refine ti_callVi (ci := 7) (av := []) C hw (s_X7_peek l D A cy hJ M_1 iM_1 ) ⟨ml_X7_34, ym_X7_peek, yv_X7_peek, yi_X7_peek, yc_X7_peek⟩ yd_X7_peek ob_2 (by decide) rfl rfl hl.1 (Nat.le_of_ble_eq_true rfl) ⟨by decide, by decide⟩ ⟨Nat.zero_le _, Nat.zero_le _⟩ dX7_advance_21 (fun r_15 M_16 H locs hp_16 hw => ?_)
          obtain ⟨hm, b0r_15, b1r_15, p0r_15, p1r_15⟩ := hp_16
          have hw := hw.to hm
          have kr_15 := tp_pk f_5 iM_1 p1r_15
          refine lv_bipush (v := 10) hx hb dX7_advance_24 (by decide) ?_
          refine sb_icmp_ne (tgt := 42) hx hb rfl (by decide : (10 : Int32).toInt = 10) dX7_advance_26 (by decide) (fun c_26_16 => ?_) (fun c_26_16 => ?_)
          · exact hj_42_26  _ _ _ (pt_to_end (P := pt_W) (B := pt_cB M) (n := pt_cn M) (a := (tI M_1 2 3).toInt.toNat) (pt_pk_no kr_15 (pt_Wf (by omega) (by omega)))) hw (lv_sub hl [0] rfl)
          · refine lv_aload_n hx hb dX7_advance_29 rfl (lv_at hl 0 rfl) ?_
            refine lv_dup hx hb dX7_advance_30 rfl ?_
            refine ti_get (ci := 7) (k := 3) (N := 7) (T := TX7) C hw iw_7 rfl ob_2 (by decide) (by decide) fl_X7_22 rfl rfl dX7_advance_31 ?_
            refine ti_top (y := x_9) (ex_9.symm) ?_
            have u_22 : (tI M_1 2 3).toInt = (x_9 : Int32).toInt := by rw [(ex_9.symm)]
            refine lv_iconst (v := 1) hx hb dX7_advance_34 (by decide) ?_
            refine lv_iadd hx hb dX7_advance_35 ?_
            refine lv_topi (fun x_23 ex_23 => ?_)
            have tx_23 : x_23.toInt = x_9.toInt + 1 := i_add ex_23 rfl (by decide : (1 : Int32).toInt = 1) (by omega) (by omega)
            refine ti_putI (ci := 7) (k := 3) (N := 7) (T := TX7) C hw iw_7 tyX7 tyX7_ok nmX7 rfl ob_2 (by decide) (by decide) fl_X7_22 rfl rfl rfl rfl (fn_7 A _) fs_7_3 dX7_advance_36 (fun H locs hw => ?_)
            obtain ⟨M_24, hM_24⟩ : ∃ z : ti_M, z = uI M_1 2 3 x_23 := ⟨_, rfl⟩
            have hw := hw.to hM_24.symm
            have iM_24 : cI Tc M_24 := cI_uI iM_1 hM_24 ob_2.1 (ib_mk (lo := 0) (hi := 700) (by omega) (by omega))
            have vM_24 : (tI M_24 2 3).toInt = (x_23 : Int32).toInt := by rw [tI_uE hM_24]
            refine lv_goto (tgt := 0) hx hb dX7_advance_39 (by decide) ?_
            have u_25 : (tI M_24 2 3).toInt = (x_23 : Int32).toInt := by rw [(tI_uE hM_24)]
            exact ih_7 M_24 _ _ _ (by omega) iM_24 ((rf_I hM_24).trans f_2) (o2.trans (o2_I hM_24) f_3) ((tI_nE hM_24 (nk (by decide))).trans f_4) (tp.trans (tp_I hM_24 (by decide)) f_5) (by have h := pt_pk_in kr_15 (by omega); have e1 : (tI M_24 2 3).toInt.toNat = (tI M_1 2 3).toInt.toNat + 1 := (by rw [(tI_uE hM_24), (ex_9.symm)]; omega); rw [e1, ← pt_to_go (P := pt_W) (B := pt_cB M) h.1 (by rw [← h.2]; exact pt_Wt (by omega))]; exact j_6) hw (lv_sub hl [0] rfl)
  exact hl_0_6 ((700 - (tI M 2 3).toInt : Int).toNat + 1) M _ _ _ (Nat.lt_succ_self _) hI rfl o2.refl rfl tp.refl rfl hw (lv_sub hl [0] rfl)
set_option maxHeartbeats 4000000 in
set_option maxRecDepth 100000 in
theorem x_X7_begin (l : Launch) (D : va_G) (A : Nat → Nat → Nat) (cy : Nat → ClassId) (hJ : ti_inj ti_LT A) (M : ti_M) (hI : cI Tc M) (nn : Int32) (h1 : 0 ≤ nn.toInt) (h2 : nn.toInt ≤ 700) : ti_KvE l yX7_begin cX7_begin 2 7 ti_LT D A cy M [.ref (A 2 0), .int nn] (fun M2 => cI Tc M2 ∧ M2.2.2.2 = M.2.2.2 ∧ o2 M2 M ∧ tI M2 2 1 = tI M 2 1 ∧ M2.2.1 = M.2.1 ∧ (tI M2 2 2).toInt = nn.toInt ∧ (tI M2 2 4).toInt = pt_K (pt_cB M) nn.toInt.toNat 0 ∧ (tI M2 2 6).toInt = pt_V (pt_cB M) nn.toInt.toNat 0 ∧ (tI M2 2 5).toInt = ((pt_P (pt_cB M) nn.toInt.toNat 0 : Nat) : Int) ∧ (tI M2 2 3).toInt = pt_A (pt_cB M) nn.toInt.toNat 0) := by
  refine ti_eVE yp_X7_begin hJ ti_LT_nd (Nat.le_of_ble_eq_true rfl) ?_
  intro p e s m args below meth c Q H0 C hE hQ hw ls hl
  have hx := C.1
  have hb := C.2.1
  have hl : lv_has ls 2 [(0, .ref (A 2 0)), (1, .int nn)] := hl
  refine lv_aload_n hx hb dX7_begin_0 rfl (lv_at hl 0 rfl) ?_
  refine lv_iload_n hx hb dX7_begin_1 rfl (lv_at hl 1 rfl) ?_
  refine lv_sipush (v := 700) hx hb dX7_begin_2 (by decide) ?_
  refine ti_min C ml_X7_25 hl.1 (by decide) (Nat.le_of_ble_eq_true rfl) ⟨Nat.zero_le _, Nat.zero_le _⟩ dX7_begin_5 ?_
  refine lv_topi (fun x_1 ex_1 => ?_)
  have bx_1 := i_min ex_1 rfl (by decide : (700 : Int32).toInt = 700)
  refine ti_putI (ci := 7) (k := 2) (N := 7) (T := TX7) C hw iw_7 tyX7 tyX7_ok nmX7 rfl ob_2 (by decide) (by decide) fl_X7_19 rfl rfl rfl rfl (fn_7 A _) fs_7_2 dX7_begin_8 (fun H locs hw => ?_)
  obtain ⟨M_2, hM_2⟩ : ∃ z : ti_M, z = uI M 2 2 x_1 := ⟨_, rfl⟩
  have hw := hw.to hM_2.symm
  have iM_2 : cI Tc M_2 := cI_uI hI hM_2 ob_2.1 (ib_mk (lo := 0) (hi := 700) (by omega) (by omega))
  have vM_2 : (tI M_2 2 2).toInt = (x_1 : Int32).toInt := by rw [tI_uE hM_2]
  refine lv_aload_n hx hb dX7_begin_11 rfl (lv_at hl 0 rfl) ?_
  refine lv_iconst (v := 0) hx hb dX7_begin_12 (by decide) ?_
  refine ti_putI (ci := 7) (k := 3) (N := 7) (T := TX7) C hw iw_7 tyX7 tyX7_ok nmX7 rfl ob_2 (by decide) (by decide) fl_X7_22 rfl rfl rfl rfl (fn_7 A _) fs_7_3 dX7_begin_13 (fun H locs hw => ?_)
  obtain ⟨M_3, hM_3⟩ : ∃ z : ti_M, z = uI M_2 2 3 0 := ⟨_, rfl⟩
  have hw := hw.to hM_3.symm
  have iM_3 : cI Tc M_3 := cI_uI iM_2 hM_3 ob_2.1 (ib_mk (lo := 0) (hi := 700) (by decide) (by decide))
  have vM_3 : (tI M_3 2 3).toInt = 0 := by rw [tI_uE hM_3]; decide
  refine lv_aload_n hx hb dX7_begin_16 rfl (lv_at hl 0 rfl) ?_
  refine ti_callVvE (ci := 7) (av := []) C hE hw (x_X7_advance l D A cy hJ M_3 iM_3 ) ⟨ml_X7_31, ym_X7_advance, yv_X7_advance, yi_X7_advance, yc_X7_advance⟩ yd_X7_advance ob_2 (by decide) rfl rfl hl.1 (Nat.le_of_ble_eq_true rfl) ⟨by decide, by decide⟩ ⟨Nat.zero_le _, Nat.zero_le _⟩ dX7_begin_17 (fun M_5 H locs hp_5 hw => ?_)
  obtain ⟨iM_5, q_6, q_7, q_8, q_9, p0r_4, p1r_4, p2r_4, p3r_4⟩ := hp_5
  have e0 : (tI M_3 2 3).toInt.toNat = 0 := by rw [tI_uE hM_3]; decide
  have en : pt_cn M_3 = nn.toInt.toNat := by unfold pt_cn; rw [tI_nE hM_3 (nk (by decide)), tI_uE hM_2]; omega
  have eb : pt_cB M_3 = pt_cB M := (pt_cB_I hM_3).trans (pt_cB_I hM_2)
  rw [e0, en, eb] at p0r_4 p1r_4 p2r_4 p3r_4
  exact hQ _ _ _ _ _ hw (⟨iM_5, ((q_6).trans ((rf_I hM_3).trans (rf_I hM_2))), (o2.trans q_7 (o2.trans (o2_I hM_3) (o2_I hM_2))), ((q_8).trans ((tI_nE hM_3 (nk (by decide))).trans (tI_nE hM_2 (nk (by decide))))), q_9.1.trans ((ry_I hM_3).trans (ry_I hM_2)), (by rw [q_9.2, tI_nE hM_3 (nk (by decide)), tI_uE hM_2]; omega), p0r_4, p1r_4, p2r_4, p3r_4⟩) dX7_begin_20
end
section
variable {Tc : gC} {Tm : gM}
def pt_st : List Nat := [0, 4, 10, 16, 21, 28, 32, 39, 44, 48, 52, 58, 64, 68, 73, 78, 83, 86, 90, 94, 98, 102, 109, 114, 120, 125]
def pt_ln : List Nat := [3, 5, 5, 4, 6, 3, 6, 4, 3, 3, 5, 5, 3, 4, 4, 4, 2, 3, 3, 3, 3, 6, 4, 5, 4]
/-- the class's number of the reference's word, and back -/
def pt_iv : List Nat := [0, 1, 2, 3, 4, 5, 6, 7, 8, 15, 9, 10, 11, 12, 13, 14, 23, 22, 24, 16, 17, 18, 19, 20, 21]
def pt_pm : List Nat := [0, 1, 2, 3, 4, 5, 6, 7, 8, 10, 11, 12, 13, 14, 15, 9, 19, 20, 21, 22, 23, 24, 17, 16, 18]
def pt_rc (j : Nat) : Int := (tx_mb.getD j 0 &&& 255).toInt
theorem pt_s1 : ∀ w : Nat, w < 25 → pt_st.getD (w + 1) 0 = pt_st.getD w 0 + pt_ln.getD w 0 + 1 ∧ pt_rc (pt_st.getD w 0 + pt_ln.getD w 0) = 32 ∧ 1 ≤ pt_ln.getD w 0 ∧ pt_ln.getD w 0 ≤ 6 ∧ pt_st.getD w 0 + pt_ln.getD w 0 ≤ 124 := by decide +kernel
theorem pt_s2' : ∀ w : Nat, w < 25 → ∀ j : Nat, j < 6 → j < pt_ln.getD w 0 → ¬ pt_rc (pt_st.getD w 0 + j) = 32 ∧ 97 ≤ pt_rc (pt_st.getD w 0 + j) ∧ pt_rc (pt_st.getD w 0 + j) ≤ 122 := by decide +kernel
theorem pt_s25 : pt_st.getD 25 0 = 125 := by decide
theorem pt_ivb : ∀ w : Nat, w < 25 → pt_iv.getD w 0 < 25 ∧ pt_pm.getD (pt_iv.getD w 0) 0 = w := by decide +kernel
theorem pt_pmb : ∀ k : Nat, k < 25 → pt_pm.getD k 0 < 25 ∧ pt_iv.getD (pt_pm.getD k 0) 0 = k := by decide +kernel
theorem pt_wkq : ∀ k : Nat, k < 25 → pt_wk (pt_w.getD k 0) 0 = (k : Int) := by decide +kernel
/-- the letters of p to a are the w-th word -/
def pt_mt (B : Nat → Int) (p a w : Nat) : Prop := p + pt_ln.getD w 0 = a ∧ ∀ j : Nat, j < pt_ln.getD w 0 → B (p + j) = pt_rc (pt_st.getD w 0 + j)
def pt_dg (B : Nat → Int) (p a j : Nat) : Int := if p + j < a then B (p + j) - 96 else 0
def pt_h (B : Nat → Int) (p a : Nat) : Nat → Int
  | 0 => 0
  | k + 1 => pt_h B p a k * 32 + pt_dg B p a k
/-- a word's own letters -/
def pt_td (w j : Nat) : Int := if j < pt_ln.getD w 0 then pt_rc (pt_st.getD w 0 + j) - 96 else 0
theorem pt_tdw : ∀ w : Nat, w < 25 → pt_w.getD (pt_iv.getD w 0) 0 = ((((pt_td w 0 * 32 + pt_td w 1) * 32 + pt_td w 2) * 32 + pt_td w 3) * 32 + pt_td w 4) * 32 + pt_td w 5 := by decide +kernel
theorem pt_tdb : ∀ w : Nat, w < 25 → ∀ j : Nat, j < 6 → 0 ≤ pt_td w j ∧ pt_td w j ≤ 26 ∧ (j < pt_ln.getD w 0 ↔ 1 ≤ pt_td w j) := by decide +kernel
theorem pt_h6 {B : Nat → Int} {p a : Nat} : pt_h B p a 6 = ((((pt_dg B p a 0 * 32 + pt_dg B p a 1) * 32 + pt_dg B p a 2) * 32 + pt_dg B p a 3) * 32 + pt_dg B p a 4) * 32 + pt_dg B p a 5 := by
  simp only [pt_h]
  omega
/-- what letters stand there -/
def pt_al (B : Nat → Int) (p a : Nat) : Prop := ∀ j : Nat, p + j < a → 97 ≤ B (p + j) ∧ B (p + j) ≤ 122
theorem pt_dgb {B : Nat → Int} {p a : Nat} (h : pt_al B p a) (j : Nat) : 0 ≤ pt_dg B p a j ∧ pt_dg B p a j ≤ 26 ∧ (p + j < a ↔ 1 ≤ pt_dg B p a j) := by
  unfold pt_dg
  by_cases q : p + j < a
  · rw [if_pos q]; have := h j q; omega
  · rw [if_neg q]; omega
theorem pt_hb {B : Nat → Int} {p a : Nat} (h : pt_al B p a) : 0 ≤ pt_h B p a 0 ∧ 0 ≤ pt_h B p a 1 ∧ 0 ≤ pt_h B p a 2 ∧ 0 ≤ pt_h B p a 3 ∧ 0 ≤ pt_h B p a 4 ∧ 0 ≤ pt_h B p a 5 ∧ pt_h B p a 0 < 33554432 ∧ pt_h B p a 1 < 33554432 ∧ pt_h B p a 2 < 33554432 ∧ pt_h B p a 3 < 33554432 ∧ pt_h B p a 4 < 33554432 ∧ pt_h B p a 5 < 33554432 := by
  have h0 := pt_dgb h 0
  have h1 := pt_dgb h 1
  have h2 := pt_dgb h 2
  have h3 := pt_dgb h 3
  have h4 := pt_dgb h 4
  simp only [pt_h]
  omega
theorem pt_dig {d0 d1 d2 d3 d4 d5 t0 t1 t2 t3 t4 t5 : Int} (b0 : 0 ≤ d0 ∧ d0 ≤ 26) (b1 : 0 ≤ d1 ∧ d1 ≤ 26) (b2 : 0 ≤ d2 ∧ d2 ≤ 26) (b3 : 0 ≤ d3 ∧ d3 ≤ 26) (b4 : 0 ≤ d4 ∧ d4 ≤ 26) (b5 : 0 ≤ d5 ∧ d5 ≤ 26) (c0 : 0 ≤ t0 ∧ t0 ≤ 26) (c1 : 0 ≤ t1 ∧ t1 ≤ 26) (c2 : 0 ≤ t2 ∧ t2 ≤ 26) (c3 : 0 ≤ t3 ∧ t3 ≤ 26) (c4 : 0 ≤ t4 ∧ t4 ≤ 26) (c5 : 0 ≤ t5 ∧ t5 ≤ 26)
    (e : ((((d0 * 32 + d1) * 32 + d2) * 32 + d3) * 32 + d4) * 32 + d5 = ((((t0 * 32 + t1) * 32 + t2) * 32 + t3) * 32 + t4) * 32 + t5) : d0 = t0 ∧ d1 = t1 ∧ d2 = t2 ∧ d3 = t3 ∧ d4 = t4 ∧ d5 = t5 := by
  have h5 : d5 = t5 := by omega
  subst h5
  have e : (((d0 * 32 + d1) * 32 + d2) * 32 + d3) * 32 + d4 = (((t0 * 32 + t1) * 32 + t2) * 32 + t3) * 32 + t4 := by omega
  have h4 : d4 = t4 := by omega
  subst h4
  have e : ((d0 * 32 + d1) * 32 + d2) * 32 + d3 = ((t0 * 32 + t1) * 32 + t2) * 32 + t3 := by omega
  have h3 : d3 = t3 := by omega
  subst h3
  have e : (d0 * 32 + d1) * 32 + d2 = (t0 * 32 + t1) * 32 + t2 := by omega
  have h2 : d2 = t2 := by omega
  subst h2
  have h1 : d1 = t1 := by omega
  exact ⟨by omega, h1, rfl, rfl, rfl, rfl⟩
/-- six letters at most: the same letters, the same number -/
theorem pt_mt_h {B : Nat → Int} {p a w : Nat} (hal : pt_al B p a) (h0 : p ≤ a) (h6 : a ≤ p + 6) (hw : w < 25) : pt_mt B p a w ↔ pt_h B p a 6 = pt_w.getD (pt_iv.getD w 0) 0 := by
  have key : (∀ j : Nat, j < 6 → pt_dg B p a j = pt_td w j) ↔ pt_h B p a 6 = pt_w.getD (pt_iv.getD w 0) 0 := by
    rw [pt_h6, pt_tdw w hw]
    constructor
    · intro h
      rw [h 0 (by omega), h 1 (by omega), h 2 (by omega), h 3 (by omega), h 4 (by omega), h 5 (by omega)]
    · intro e j hj
      have g := fun j => pt_dgb hal j
      have t := fun j hj => pt_tdb w hw j hj
      obtain ⟨q0, q1, q2, q3, q4, q5⟩ := pt_dig ⟨(g 0).1, (g 0).2.1⟩ ⟨(g 1).1, (g 1).2.1⟩ ⟨(g 2).1, (g 2).2.1⟩ ⟨(g 3).1, (g 3).2.1⟩ ⟨(g 4).1, (g 4).2.1⟩ ⟨(g 5).1, (g 5).2.1⟩ ⟨(t 0 (by omega)).1, (t 0 (by omega)).2.1⟩ ⟨(t 1 (by omega)).1, (t 1 (by omega)).2.1⟩ ⟨(t 2 (by omega)).1, (t 2 (by omega)).2.1⟩ ⟨(t 3 (by omega)).1, (t 3 (by omega)).2.1⟩ ⟨(t 4 (by omega)).1, (t 4 (by omega)).2.1⟩ ⟨(t 5 (by omega)).1, (t 5 (by omega)).2.1⟩ e
      rcases (show j = 0 ∨ j = 1 ∨ j = 2 ∨ j = 3 ∨ j = 4 ∨ j = 5 by omega) with rfl | rfl | rfl | rfl | rfl | rfl <;> assumption
  rw [← key]
  have hl := (pt_s1 w hw).2.2.2.1
  constructor
  · rintro ⟨h1, h2⟩ j hj
    unfold pt_dg pt_td
    by_cases q : j < pt_ln.getD w 0
    · rw [if_pos (by omega), if_pos q, h2 j q]
    · rw [if_neg (by omega), if_neg q]
  · intro h
    have hi : ∀ j : Nat, j < 6 → (p + j < a ↔ j < pt_ln.getD w 0) := fun j hj => by
      rw [(pt_dgb hal j).2.2, (pt_tdb w hw j hj).2.2, h j hj]
    have hp : p + pt_ln.getD w 0 = a := by
      have i0 := hi 0 (by omega)
      have i1 := hi 1 (by omega)
      have i2 := hi 2 (by omega)
      have i3 := hi 3 (by omega)
      have i4 := hi 4 (by omega)
      have i5 := hi 5 (by omega)
      omega
    refine ⟨hp, fun j hj => ?_⟩
    have e := h j (by omega)
    unfold pt_dg pt_td at e
    rw [if_pos (by omega), if_pos hj] at e
    omega
/-- where P ends, and what stands ahead of it -/
theorem pt_rn_all {P : Int → Bool} {B : Nat → Int} {n : Nat} : ∀ f a j : Nat, a ≤ j → j < pt_rn P B n f a → j < n ∧ P (B j) = true := by
  intro f
  induction f with
  | zero => intro a j h1 h2; rw [pt_rn] at h2; omega
  | succ f ih =>
    intro a j h1 h2
    rw [pt_rn] at h2
    by_cases q : a < n ∧ P (B a) = true
    · rw [if_pos q] at h2
      by_cases e : j = a
      · subst e; exact q
      · exact ih (a + 1) j (by omega) h2
    · rw [if_neg q] at h2; omega
theorem pt_rn_stop {P : Int → Bool} {B : Nat → Int} {n : Nat} : ∀ f a : Nat, n ≤ a + f → ¬ (pt_rn P B n f a < n ∧ P (B (pt_rn P B n f a)) = true) := by
  intro f
  induction f with
  | zero => intro a h; rw [pt_rn]; omega
  | succ f ih =>
    intro a h
    rw [pt_rn]
    by_cases q : a < n ∧ P (B a) = true
    · rw [if_pos q]; exact ih (a + 1) (by omega)
    · rw [if_neg q]; exact q
theorem pt_to_all {P : Int → Bool} {B : Nat → Int} {n a j : Nat} (h1 : a ≤ j) (h2 : j < pt_to P B n a) : j < n ∧ P (B j) = true := pt_rn_all _ _ _ h1 h2
theorem pt_to_stop {P : Int → Bool} {B : Nat → Int} {n a : Nat} : ¬ (pt_to P B n a < n ∧ P (B (pt_to P B n a)) = true) := pt_rn_stop _ _ (by omega)
theorem pt_to_al {B : Nat → Int} {n p : Nat} : pt_al B p (pt_to pt_L B n p) := fun j hj => of_decide_eq_true (pt_to_all (Nat.le_add_right p j) hj).2
/-- the letters' number, told from the front and from behind -/
def pt_s (B : Nat → Int) (p : Nat) : Nat → Int
  | 0 => 0
  | k + 1 => pt_s B p k + (B (p + k) - 96) * pt_p k
theorem pt_ev_s {B : Nat → Int} {n p : Nat} : ∀ k : Nat, k ≤ 6 → p + k ≤ pt_to pt_L B n p → pt_ev B n p 0 0 = pt_ev B n (p + k) k (pt_s B p k) := by
  intro k
  induction k with
  | zero => intro _ _; rfl
  | succ k ih =>
    intro h1 h2
    have q := pt_to_all (P := pt_L) (B := B) (n := n) (a := p) (j := p + k) (by omega) (by omega)
    rw [ih (by omega) (by omega), pt_ev_go q.1 q.2, if_pos (by omega)]
    rfl
theorem pt_ev_h {B : Nat → Int} {n p : Nat} (h : pt_to pt_L B n p ≤ p + 6) : pt_ev B n p 0 0 = pt_h B p (pt_to pt_L B n p) 6 := by
  have hp : p ≤ pt_to pt_L B n p := pt_to_le
  have hs := pt_to_stop (P := pt_L) (B := B) (n := n) (a := p)
  obtain ⟨k, hk⟩ : ∃ k : Nat, pt_to pt_L B n p = p + k := ⟨_, (Nat.add_sub_cancel' hp).symm⟩
  rw [hk] at h hs ⊢
  rw [pt_ev_s (B := B) (n := n) (p := p) k (by omega) (by rw [hk]; exact Nat.le_refl _), pt_ev_end hs, pt_h6]
  unfold pt_dg
  rcases (show k = 0 ∨ k = 1 ∨ k = 2 ∨ k = 3 ∨ k = 4 ∨ k = 5 ∨ k = 6 by omega) with rfl | rfl | rfl | rfl | rfl | rfl | rfl
  all_goals
    simp only [pt_s, pt_p]
    repeat' split
    all_goals omega
/-- of a word of six letters at most: the reference's word is the class's -/
theorem pt_wd {B : Nat → Int} {n p w : Nat} (h6 : pt_to pt_L B n p ≤ p + 6) (hw : w < 25) (hm : pt_mt B p (pt_to pt_L B n p) w) : pt_wk (pt_ev B n p 0 0) 0 = ((pt_iv.getD w 0 : Nat) : Int) := by
  rw [pt_ev_h h6, (pt_mt_h pt_to_al pt_to_le h6 hw).mp hm]
  exact pt_wkq _ (pt_ivb w hw).1
theorem pt_wk25 {v : Int} (h : ∀ k : Nat, k < 25 → ¬ pt_w.getD k 0 = v) : ∀ k : Nat, k ≤ 25 → pt_wk v (25 - k) = 25 := by
  intro k
  induction k with
  | zero => intro _; rfl
  | succ k ih =>
    intro hk
    rw [pt_wk_go (by omega) (h _ (by omega)), show 25 - (k + 1) + 1 = 25 - k by omega]
    exact ih (by omega)
theorem pt_nw {B : Nat → Int} {n p : Nat} (h6 : pt_to pt_L B n p ≤ p + 6) (hm : ∀ w : Nat, w < 25 → ¬ pt_mt B p (pt_to pt_L B n p) w) : pt_wk (pt_ev B n p 0 0) 0 = 25 := by
  refine pt_wk25 (fun k hk e => ?_) 25 (Nat.le_refl _)
  have q := pt_pmb k hk
  refine hm _ q.1 ((pt_mt_h pt_to_al pt_to_le h6 q.1).mpr ?_)
  rw [q.2, e, pt_ev_h h6]
/-- the reference's number -/
def pt_mf (B : Nat → Int) (n : Nat) : Nat → Nat → Int → Int
  | 0, _, v => v
  | f + 1, a, v => if a < n ∧ pt_D (B a) = true then pt_mf B n f (a + 1) (if 99999 < v then v else 10 * v + B a - 48) else v
def pt_mv (B : Nat → Int) (n a : Nat) (v : Int) : Int := pt_mf B n (n - a) a v
theorem pt_mv_go {B : Nat → Int} {n a : Nat} {v : Int} (h : a < n) (hp : pt_D (B a) = true) : pt_mv B n a v = pt_mv B n (a + 1) (if 99999 < v then v else 10 * v + B a - 48) := by
  unfold pt_mv
  rw [show n - a = (n - (a + 1)) + 1 by omega, pt_mf, if_pos ⟨h, hp⟩]
theorem pt_mv_end {B : Nat → Int} {n a : Nat} {v : Int} (h : ¬ (a < n ∧ pt_D (B a) = true)) : pt_mv B n a v = v := by
  unfold pt_mv
  cases n - a with
  | zero => rfl
  | succ f => rw [pt_mf, if_neg h]
theorem pt_mnf {B : Nat → Int} {n : Nat} : ∀ (f a : Nat) (v w : Int), 0 ≤ v → v ≤ 1000000 → (w = v ∨ (99999 < w ∧ 99999 < v)) → (pt_mf B n f a w = pt_nf B n f a v ∨ (99999 < pt_mf B n f a w ∧ 99999 < pt_nf B n f a v)) := by
  intro f
  induction f with
  | zero => intro a v w _ _ h; exact h
  | succ f ih =>
    intro a v w h0 h1 h
    rw [pt_mf, pt_nf]
    by_cases q : a < n ∧ pt_D (B a) = true
    · rw [if_pos q, if_pos q]
      have d := of_decide_eq_true q.2
      refine ih _ _ _ (by omega) (by omega) ?_
      by_cases g : 99999 < w
      · rw [if_pos g]; right; omega
      · rw [if_neg g]; left; omega
    · rw [if_neg q, if_neg q]; exact h
theorem pt_mn {B : Nat → Int} {n a : Nat} : pt_mv B n a 0 = pt_nv B n a 0 ∨ (99999 < pt_mv B n a 0 ∧ 99999 < pt_nv B n a 0) := pt_mnf _ _ _ _ (by decide) (by decide) (Or.inl rfl)
/-- a sign's number in the reference -/
def pt_sg (k : Int) : Int := if k = 29 then 59 else if k = 30 then 40 else if k = 31 then 41 else if k = 32 then 60 else if k = 33 then 256 else if k = 34 then 61 else if k = 35 then 257 else if k = 36 then 258 else if k = 37 then 62 else if k = 38 then 43 else if k = 39 then 45 else if k = 40 then 42 else 47
/-- kind k and value v of the class's token, sort s and value w of the reference's -/
def pt_T (k v s w : Int) : Prop := (0 ≤ k ∧ k ≤ 41) ∧ (k < 25 → s = 0 ∧ w = ((pt_pm.getD k.toNat 0 : Nat) : Int)) ∧ (k = 25 → s = 1 ∧ w = v) ∧ (k = 26 → s = 2 ∧ (w = v ∨ (99999 < w ∧ 99999 < v))) ∧ (k = 27 → s = 4) ∧ (k = 28 → s = 5) ∧ (29 ≤ k → s = 3 ∧ w = pt_sg k)
theorem pt_Tw {w : Nat} {v : Int} (h : w < 25) : pt_T ((pt_iv.getD w 0 : Nat) : Int) v 0 (w : Int) := by
  have q := pt_ivb w h
  refine ⟨by omega, fun _ => ⟨rfl, ?_⟩, fun g => by omega, fun g => by omega, fun g => by omega, fun g => by omega, fun g => by omega⟩
  rw [show (((pt_iv.getD w 0 : Nat) : Int)).toNat = pt_iv.getD w 0 from Int.toNat_natCast _, q.2]
theorem pt_Tc {k v s w : Int} (h : (k = 25 ∧ s = 1 ∧ w = v) ∨ (k = 26 ∧ s = 2 ∧ (w = v ∨ (99999 < w ∧ 99999 < v))) ∨ (k = 27 ∧ s = 4) ∨ (k = 28 ∧ s = 5)) : pt_T k v s w := by
  rcases h with ⟨rfl, h1, h2⟩ | ⟨rfl, h1, h2⟩ | ⟨rfl, h1⟩ | ⟨rfl, h1⟩
  · exact ⟨by omega, fun g => by omega, fun _ => ⟨h1, h2⟩, fun g => by omega, fun g => by omega, fun g => by omega, fun g => by omega⟩
  · exact ⟨by omega, fun g => by omega, fun g => by omega, fun _ => ⟨h1, h2⟩, fun g => by omega, fun g => by omega, fun g => by omega⟩
  · exact ⟨by omega, fun g => by omega, fun g => by omega, fun g => by omega, fun _ => h1, fun g => by omega, fun g => by omega⟩
  · exact ⟨by omega, fun g => by omega, fun g => by omega, fun g => by omega, fun g => by omega, fun _ => h1, fun g => by omega⟩
end

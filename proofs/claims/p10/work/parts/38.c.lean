variable {Tc : gC} {Tm : gM}
theorem nf_0 : ∀ j, j < 6 → defaultValue (tyX0 j) = vp_V [.null, .null, .null, .null, .null, .int 0] j := by
  intro j hj
  match j, hj with
  | 0, _ => rfl
  | 1, _ => rfl
  | 2, _ => rfl
  | 3, _ => rfl
  | 4, _ => rfl
  | 5, _ => rfl
  | j + 6, h => exact absurd h (by omega)
theorem nf_1 : ∀ j, j < 4 → defaultValue (tyX1 j) = vp_V [.null, .null, .null, .int 0] j := by
  intro j hj
  match j, hj with
  | 0, _ => rfl
  | 1, _ => rfl
  | 2, _ => rfl
  | 3, _ => rfl
  | j + 4, h => exact absurd h (by omega)
theorem nf_2 : ∀ j, j < 10 → defaultValue (tyX2 j) = vp_V [.int 0, .int 0, .int 0, .int 0, .int 0, .int 0, .int 0, .int 0, .int 0, .int 0] j := by
  intro j hj
  match j, hj with
  | 0, _ => rfl
  | 1, _ => rfl
  | 2, _ => rfl
  | 3, _ => rfl
  | 4, _ => rfl
  | 5, _ => rfl
  | 6, _ => rfl
  | 7, _ => rfl
  | 8, _ => rfl
  | 9, _ => rfl
  | j + 10, h => exact absurd h (by omega)
theorem nf_3 : ∀ j, j < 17 → defaultValue (tyX3 j) = vp_V [.null, .int 0, .int 0, .int 0, .int 0, .int 0, .null, .null, .null, .null, .null, .null, .null, .null, .null, .null, .null] j := by
  intro j hj
  match j, hj with
  | 0, _ => rfl
  | 1, _ => rfl
  | 2, _ => rfl
  | 3, _ => rfl
  | 4, _ => rfl
  | 5, _ => rfl
  | 6, _ => rfl
  | 7, _ => rfl
  | 8, _ => rfl
  | 9, _ => rfl
  | 10, _ => rfl
  | 11, _ => rfl
  | 12, _ => rfl
  | 13, _ => rfl
  | 14, _ => rfl
  | 15, _ => rfl
  | 16, _ => rfl
  | j + 17, h => exact absurd h (by omega)
theorem nf_4 : ∀ j, j < 6 → defaultValue (tyX4 j) = vp_V [.null, .null, .null, .int 0, .int 0, .int 0] j := by
  intro j hj
  match j, hj with
  | 0, _ => rfl
  | 1, _ => rfl
  | 2, _ => rfl
  | 3, _ => rfl
  | 4, _ => rfl
  | 5, _ => rfl
  | j + 6, h => exact absurd h (by omega)
theorem nf_5 : ∀ j, j < 3 → defaultValue (tyX5 j) = vp_V [.null, .int 0, .int 0] j := by
  intro j hj
  match j, hj with
  | 0, _ => rfl
  | 1, _ => rfl
  | 2, _ => rfl
  | j + 3, h => exact absurd h (by omega)
theorem nf_6 : ∀ j, j < 13 → defaultValue (tyX6 j) = vp_V [.null, .null, .null, .null, .int 0, .int 0, .int 0, .int 0, .null, .null, .int 0, .null, .null] j := by
  intro j hj
  match j, hj with
  | 0, _ => rfl
  | 1, _ => rfl
  | 2, _ => rfl
  | 3, _ => rfl
  | 4, _ => rfl
  | 5, _ => rfl
  | 6, _ => rfl
  | 7, _ => rfl
  | 8, _ => rfl
  | 9, _ => rfl
  | 10, _ => rfl
  | 11, _ => rfl
  | 12, _ => rfl
  | j + 13, h => exact absurd h (by omega)
theorem nf_7 : ∀ j, j < 7 → defaultValue (tyX7 j) = vp_V [.null, .int 0, .int 0, .int 0, .int 0, .int 0, .int 0] j := by
  intro j hj
  match j, hj with
  | 0, _ => rfl
  | 1, _ => rfl
  | 2, _ => rfl
  | 3, _ => rfl
  | 4, _ => rfl
  | 5, _ => rfl
  | 6, _ => rfl
  | j + 7, h => exact absurd h (by omega)
theorem nf_8 : ∀ j, j < 12 → defaultValue (tyX8 j) = vp_V [.null, .null, .null, .int 0, .int 0, .int 0, .int 0, .int 0, .int 0, .int 0, .int 0, .int 0] j := by
  intro j hj
  match j, hj with
  | 0, _ => rfl
  | 1, _ => rfl
  | 2, _ => rfl
  | 3, _ => rfl
  | 4, _ => rfl
  | 5, _ => rfl
  | 6, _ => rfl
  | 7, _ => rfl
  | 8, _ => rfl
  | 9, _ => rfl
  | 10, _ => rfl
  | 11, _ => rfl
  | j + 12, h => exact absurd h (by omega)
theorem nf_9 : ∀ j, j < 10 → defaultValue (tyX9 j) = vp_V [.null, .null, .null, .null, .null, .null, .null, .int 0, .null, .null] j := by
  intro j hj
  match j, hj with
  | 0, _ => rfl
  | 1, _ => rfl
  | 2, _ => rfl
  | 3, _ => rfl
  | 4, _ => rfl
  | 5, _ => rfl
  | 6, _ => rfl
  | 7, _ => rfl
  | 8, _ => rfl
  | 9, _ => rfl
  | j + 10, h => exact absurd h (by omega)
theorem nf_10 : ∀ j, j < 67 → defaultValue (tyX10 j) = vp_V [.int 0, .null, .int 0, .null, .null, .null, .null, .null, .null, .null, .null, .null, .null, .null, .null, .null, .null, .null, .int 0, .int 0, .int 0, .int 0, .int 0, .int 0, .int 0, .int 0, .int 0, .int 0, .int 0, .int 0, .int 0, .null, .null, .int 0, .null, .null, .null, .null, .null, .null, .null, .null, .null, .null, .null, .null, .null, .null, .null, .null, .null, .int 0, .int 0, .int 0, .null, .null, .int 0, .null, .int 0, .int 0, .null, .null, .null, .null, .null, .int 0, .int 0] j := by
  intro j hj
  match j, hj with
  | 0, _ => rfl
  | 1, _ => rfl
  | 2, _ => rfl
  | 3, _ => rfl
  | 4, _ => rfl
  | 5, _ => rfl
  | 6, _ => rfl
  | 7, _ => rfl
  | 8, _ => rfl
  | 9, _ => rfl
  | 10, _ => rfl
  | 11, _ => rfl
  | 12, _ => rfl
  | 13, _ => rfl
  | 14, _ => rfl
  | 15, _ => rfl
  | 16, _ => rfl
  | 17, _ => rfl
  | 18, _ => rfl
  | 19, _ => rfl
  | 20, _ => rfl
  | 21, _ => rfl
  | 22, _ => rfl
  | 23, _ => rfl
  | 24, _ => rfl
  | 25, _ => rfl
  | 26, _ => rfl
  | 27, _ => rfl
  | 28, _ => rfl
  | 29, _ => rfl
  | 30, _ => rfl
  | 31, _ => rfl
  | 32, _ => rfl
  | 33, _ => rfl
  | 34, _ => rfl
  | 35, _ => rfl
  | 36, _ => rfl
  | 37, _ => rfl
  | 38, _ => rfl
  | 39, _ => rfl
  | 40, _ => rfl
  | 41, _ => rfl
  | 42, _ => rfl
  | 43, _ => rfl
  | 44, _ => rfl
  | 45, _ => rfl
  | 46, _ => rfl
  | 47, _ => rfl
  | 48, _ => rfl
  | 49, _ => rfl
  | 50, _ => rfl
  | 51, _ => rfl
  | 52, _ => rfl
  | 53, _ => rfl
  | 54, _ => rfl
  | 55, _ => rfl
  | 56, _ => rfl
  | 57, _ => rfl
  | 58, _ => rfl
  | 59, _ => rfl
  | 60, _ => rfl
  | 61, _ => rfl
  | 62, _ => rfl
  | 63, _ => rfl
  | 64, _ => rfl
  | 65, _ => rfl
  | 66, _ => rfl
  | j + 67, h => exact absurd h (by omega)
set_option maxHeartbeats 8000000 in
set_option maxRecDepth 100000 in
theorem k_X2_init (l : Launch) (D : va_G) (cy : Nat → ClassId) (h0 sz : Nat) : ti_Kc l yX2_init cX2_init 1 1 0 0 D cy h0 sz (.inr (2, [.int 0, .int 0, .int 0, .int 0, .int 0, .int 0, .int 0, .int 0, .int 0, .int 0])) (fun _ : Unit => True) (fun _ => [(h0, .inr (2, [.int 0, .int 0, .int 0, .int 0, .int 0, .int 0, .int 0, .int 0, .int 0, .int 0]))]) := by
  refine ti_eC yp_X2_init (by decide) rfl ?_
  intro p e s m args below meth c Q H0 As C hQ hP hD hS hA ls hl
  have hx := C.1
  have hb := C.2.1
  have hts := C.2.2.1
  have hown := C.2.2.2.1
  have hK := C.2.2.2.2.1
  have hml := C.2.2.2.2.2.1
  have hin := C.2.2.2.2.2.2.1
  have hN := C.2.2.2.2.2.2.2
  refine lv_aload_n hx hb dX2_init_0 rfl (lv_at hl 0 rfl) ?_
  refine W.objInit hx hb hown (hts _ oi_X2_1) (hts _ oi_m) (hts _ oi_c) rfl (by rw [hml]; exact hl.1) rfl dX2_init_1 (Nat.le_of_ble_eq_true rfl) (Nat.le_of_ble_eq_true rfl) ?_
  refine W.eq (g2 := F0 m 4 ls []) rfl ?_
  refine W.widen (k := 0) (n := 0) (Nat.le_of_ble_eq_true rfl) (Nat.le_of_ble_eq_true rfl) ?_
  exact hQ () _ _ _ _ trivial hP hD hS dX2_init_4
def ti_lb (cy : Nat → ClassId) (b : Nat → Nat) : va_W := [(b 0, .inr (1, [.ref (b 1), .ref (b 2), .ref (b 3), .int 0])), (b 1, .inl (cy 1, 64, .inl (fun _ => 0))), (b 2, .inl (cy 2, 64, .inr (.inl (fun _ => 0)))), (b 3, .inl (cy 2, 6, .inr (.inl (fun _ => 0))))]
def ti_qb (cy : Nat → ClassId) (b : Nat → Nat) : va_W := [(b 0, .inr (3, [.null, .int 0, .int 0, .int 0, .int 0, .int 0, .ref (b 7), .ref (b 8), .ref (b 9), .ref (b 10), .ref (b 11), .ref (b 12), .ref (b 13), .ref (b 14), .ref (b 15), .ref (b 16), .ref (b 17)])), (b 7, .inl (cy 1, 8, .inl (fun _ => 0))), (b 8, .inl (cy 1, 3, .inl (fun _ => 0))), (b 9, .inl (cy 1, 8, .inl (fun _ => 0))), (b 10, .inl (cy 1, 8, .inl (fun _ => 0))), (b 11, .inl (cy 1, 8, .inl (fun _ => 0))), (b 12, .inl (cy 1, 8, .inl (fun _ => 0))), (b 13, .inl (cy 1, 8, .inl (fun _ => 0))), (b 14, .inl (cy 1, 8, .inl (fun _ => 0))), (b 15, .inl (cy 1, 8, .inl (fun _ => 0))), (b 16, .inl (cy 1, 8, .inl (fun _ => 0))), (b 17, .inl (cy 1, 8, .inl (fun _ => 0)))]
def ti_kb (cy : Nat → ClassId) (b : Nat → Nat) : va_W := [(b 0, .inr (7, [.ref (b 1), .int 0, .int 0, .int 0, .int 0, .int 0, .int 0])), (b 1, .inl (cy 0, 700, .inl (fun _ => 0)))]
set_option maxHeartbeats 8000000 in
set_option maxRecDepth 100000 in
theorem k_X1_init (l : Launch) (D : va_G) (cy : Nat → ClassId) (h0 sz : Nat) : ti_Kc l yX1_init cX1_init 1 1 3 134 D cy h0 sz (.inr (1, [.null, .null, .null, .int 0])) (fun b : Nat → Nat => b 0 = h0) (fun b => ti_lb cy b) := by
  refine ti_eC yp_X1_init (by decide) rfl ?_
  intro p e s m args below meth c Q H0 As C hQ hP hD hS hA ls hl
  have hx := C.1
  have hb := C.2.1
  have hts := C.2.2.1
  have hown := C.2.2.2.1
  have hK := C.2.2.2.2.1
  have hml := C.2.2.2.2.2.1
  have hin := C.2.2.2.2.2.2.1
  have hN := C.2.2.2.2.2.2.2
  refine lv_aload_n hx hb dX1_init_0 rfl (lv_at hl 0 rfl) ?_
  refine W.objInit hx hb hown (hts _ oi_X1_5) (hts _ oi_m) (hts _ oi_c) rfl (by rw [hml]; exact hl.1) rfl dX1_init_1 (Nat.le_of_ble_eq_true rfl) (Nat.le_of_ble_eq_true rfl) ?_
  refine W.eq (g2 := F0 m 4 ls []) rfl ?_
  refine lv_aload_n hx hb dX1_init_4 rfl (lv_at hl 0 rfl) ?_
  refine lv_bipush (v := 64) hx hb dX1_init_5 (by decide) ?_
  refine ti_nA (atype := .int) (a0 := (64, .inl (fun _ => 0))) 1 C ac_int rfl (fun C h => by cases h) rfl hP hD hS hA (fun _ => rfl) (by decide) (by decide) (Nat.le_of_ble_eq_true rfl) 1 64 (Nat.le_of_ble_eq_true rfl) (Nat.le_of_ble_eq_true rfl) ⟨Nat.le_of_ble_eq_true rfl, Nat.le_of_ble_eq_true rfl⟩ dX1_init_7 (fun q_1 H hP hD hS => ?_)
  have hP : va_P D vwCl ([(h0, .inr (1, [.null, .null, .null, .int 0])), (q_1, .inl (cy 1, 64, .inl (fun _ => 0)))]) H := hP
  have hD : va_D As ([(h0, .inr (1, [.null, .null, .null, .int 0])), (q_1, .inl (cy 1, 64, .inl (fun _ => 0)))]) := hD
  refine va_putF (D := D) (ci := 1) (v := .ref q_1) (ty := (.array .int)) (C := RX1) (T := TX1) (N := 4) hx hb hts iw_1 tyX1 tyX1_ok nmX1 hown hK hP hD hS 0 rfl rfl 0 (by decide) (hts _ fl_X1_11) (fun _ h9 => h9) rfl hin rfl (by decide +kernel) rfl rfl (Nat.le_of_ble_eq_true rfl) dX1_init_9 (fun H locs hP hD hS => ?_)
  have hP : va_P D vwCl ([(h0, .inr (1, [.ref q_1, .null, .null, .int 0])), (q_1, .inl (cy 1, 64, .inl (fun _ => 0)))]) H := hP
  have hD : va_D As ([(h0, .inr (1, [.ref q_1, .null, .null, .int 0])), (q_1, .inl (cy 1, 64, .inl (fun _ => 0)))]) := hD
  refine lv_aload_n hx hb dX1_init_12 rfl (lv_at hl 0 rfl) ?_
  refine lv_bipush (v := 64) hx hb dX1_init_13 (by decide) ?_
  refine ti_nA (atype := .long) (a0 := (64, .inr (.inl (fun _ => 0)))) 2 C ac_long rfl (fun C h => by cases h) rfl hP hD hS hA (fun _ => rfl) (by decide) (by decide) (Nat.le_of_ble_eq_true rfl) 2 128 (Nat.le_of_ble_eq_true rfl) (Nat.le_of_ble_eq_true rfl) ⟨Nat.le_of_ble_eq_true rfl, Nat.le_of_ble_eq_true rfl⟩ dX1_init_15 (fun q_2 H hP hD hS => ?_)
  have hP : va_P D vwCl ([(h0, .inr (1, [.ref q_1, .null, .null, .int 0])), (q_1, .inl (cy 1, 64, .inl (fun _ => 0))), (q_2, .inl (cy 2, 64, .inr (.inl (fun _ => 0))))]) H := hP
  have hD : va_D As ([(h0, .inr (1, [.ref q_1, .null, .null, .int 0])), (q_1, .inl (cy 1, 64, .inl (fun _ => 0))), (q_2, .inl (cy 2, 64, .inr (.inl (fun _ => 0))))]) := hD
  refine va_putF (D := D) (ci := 1) (v := .ref q_2) (ty := (.array .long)) (C := RX1) (T := TX1) (N := 4) hx hb hts iw_1 tyX1 tyX1_ok nmX1 hown hK hP hD hS 0 rfl rfl 1 (by decide) (hts _ fl_X1_17) (fun _ h9 => h9) rfl hin rfl (by decide +kernel) rfl rfl (Nat.le_of_ble_eq_true rfl) dX1_init_17 (fun H locs hP hD hS => ?_)
  have hP : va_P D vwCl ([(h0, .inr (1, [.ref q_1, .ref q_2, .null, .int 0])), (q_1, .inl (cy 1, 64, .inl (fun _ => 0))), (q_2, .inl (cy 2, 64, .inr (.inl (fun _ => 0))))]) H := hP
  have hD : va_D As ([(h0, .inr (1, [.ref q_1, .ref q_2, .null, .int 0])), (q_1, .inl (cy 1, 64, .inl (fun _ => 0))), (q_2, .inl (cy 2, 64, .inr (.inl (fun _ => 0))))]) := hD
  refine lv_aload_n hx hb dX1_init_20 rfl (lv_at hl 0 rfl) ?_
  refine lv_bipush (v := 6) hx hb dX1_init_21 (by decide) ?_
  refine ti_nA (atype := .long) (a0 := (6, .inr (.inl (fun _ => 0)))) 2 C ac_long rfl (fun C h => by cases h) rfl hP hD hS hA (fun _ => rfl) (by decide) (by decide) (Nat.le_of_ble_eq_true rfl) 3 134 (Nat.le_of_ble_eq_true rfl) (Nat.le_of_ble_eq_true rfl) ⟨Nat.le_of_ble_eq_true rfl, Nat.le_of_ble_eq_true rfl⟩ dX1_init_23 (fun q_3 H hP hD hS => ?_)
  have hP : va_P D vwCl ([(h0, .inr (1, [.ref q_1, .ref q_2, .null, .int 0])), (q_1, .inl (cy 1, 64, .inl (fun _ => 0))), (q_2, .inl (cy 2, 64, .inr (.inl (fun _ => 0)))), (q_3, .inl (cy 2, 6, .inr (.inl (fun _ => 0))))]) H := hP
  have hD : va_D As ([(h0, .inr (1, [.ref q_1, .ref q_2, .null, .int 0])), (q_1, .inl (cy 1, 64, .inl (fun _ => 0))), (q_2, .inl (cy 2, 64, .inr (.inl (fun _ => 0)))), (q_3, .inl (cy 2, 6, .inr (.inl (fun _ => 0))))]) := hD
  refine va_putF (D := D) (ci := 1) (v := .ref q_3) (ty := (.array .long)) (C := RX1) (T := TX1) (N := 4) hx hb hts iw_1 tyX1 tyX1_ok nmX1 hown hK hP hD hS 0 rfl rfl 2 (by decide) (hts _ fl_X1_21) (fun _ h9 => h9) rfl hin rfl (by decide +kernel) rfl rfl (Nat.le_of_ble_eq_true rfl) dX1_init_25 (fun H locs hP hD hS => ?_)
  have hP : va_P D vwCl ([(h0, .inr (1, [.ref q_1, .ref q_2, .ref q_3, .int 0])), (q_1, .inl (cy 1, 64, .inl (fun _ => 0))), (q_2, .inl (cy 2, 64, .inr (.inl (fun _ => 0)))), (q_3, .inl (cy 2, 6, .inr (.inl (fun _ => 0))))]) H := hP
  have hD : va_D As ([(h0, .inr (1, [.ref q_1, .ref q_2, .ref q_3, .int 0])), (q_1, .inl (cy 1, 64, .inl (fun _ => 0))), (q_2, .inl (cy 2, 64, .inr (.inl (fun _ => 0)))), (q_3, .inl (cy 2, 6, .inr (.inl (fun _ => 0))))]) := hD
  refine lv_aload_n hx hb dX1_init_28 rfl (lv_at hl 0 rfl) ?_
  refine lv_iconst (v := 0) hx hb dX1_init_29 (by decide) ?_
  refine va_put (D := D) (ci := 1) (v := .int 0) (ty := .int) (C := RX1) (T := TX1) (N := 4) hx hb hts iw_1 tyX1 tyX1_ok nmX1 hown hK hP hD hS 0 rfl rfl 3 (by decide) (hts _ fl_X1_24) (fun _ h9 => h9) rfl (by decide +kernel) rfl rfl (Nat.le_of_ble_eq_true rfl) dX1_init_30 (fun H locs hP hD hS => ?_)
  have hP : va_P D vwCl ([(h0, .inr (1, [.ref q_1, .ref q_2, .ref q_3, .int 0])), (q_1, .inl (cy 1, 64, .inl (fun _ => 0))), (q_2, .inl (cy 2, 64, .inr (.inl (fun _ => 0)))), (q_3, .inl (cy 2, 6, .inr (.inl (fun _ => 0))))]) H := hP
  have hD : va_D As ([(h0, .inr (1, [.ref q_1, .ref q_2, .ref q_3, .int 0])), (q_1, .inl (cy 1, 64, .inl (fun _ => 0))), (q_2, .inl (cy 2, 64, .inr (.inl (fun _ => 0)))), (q_3, .inl (cy 2, 6, .inr (.inl (fun _ => 0))))]) := hD
  refine W.widen (k := 3) (n := 134) (Nat.le_of_ble_eq_true rfl) (Nat.le_of_ble_eq_true rfl) ?_
  exact hQ (fun j : Nat => if j = 0 then h0 else if j = 1 then q_1 else if j = 2 then q_2 else if j = 3 then q_3 else 0) _ _ _ _ rfl hP hD hS dX1_init_33
set_option maxHeartbeats 8000000 in
set_option maxRecDepth 100000 in
theorem k_X3_init (l : Launch) (D : va_G) (cy : Nat → ClassId) (h0 sz : Nat) : ti_Kc l yX3_init cX3_init 1 1 11 83 D cy h0 sz (.inr (3, [.null, .int 0, .int 0, .int 0, .int 0, .int 0, .null, .null, .null, .null, .null, .null, .null, .null, .null, .null, .null])) (fun b : Nat → Nat => b 0 = h0) (fun b => ti_qb cy b) := by
  refine ti_eC yp_X3_init (by decide) rfl ?_
  intro p e s m args below meth c Q H0 As C hQ hP hD hS hA ls hl
  have hx := C.1
  have hb := C.2.1
  have hts := C.2.2.1
  have hown := C.2.2.2.1
  have hK := C.2.2.2.2.1
  have hml := C.2.2.2.2.2.1
  have hin := C.2.2.2.2.2.2.1
  have hN := C.2.2.2.2.2.2.2
  refine lv_aload_n hx hb dX3_init_0 rfl (lv_at hl 0 rfl) ?_
  refine W.objInit hx hb hown (hts _ oi_X3_3) (hts _ oi_m) (hts _ oi_c) rfl (by rw [hml]; exact hl.1) rfl dX3_init_1 (Nat.le_of_ble_eq_true rfl) (Nat.le_of_ble_eq_true rfl) ?_
  refine W.eq (g2 := F0 m 4 ls []) rfl ?_
  refine lv_aload_n hx hb dX3_init_4 rfl (lv_at hl 0 rfl) ?_
  refine lv_bipush (v := 8) hx hb dX3_init_5 (by decide) ?_
  refine ti_nA (atype := .int) (a0 := (8, .inl (fun _ => 0))) 1 C ac_int rfl (fun C h => by cases h) rfl hP hD hS hA (fun _ => rfl) (by decide) (by decide) (Nat.le_of_ble_eq_true rfl) 1 8 (Nat.le_of_ble_eq_true rfl) (Nat.le_of_ble_eq_true rfl) ⟨Nat.le_of_ble_eq_true rfl, Nat.le_of_ble_eq_true rfl⟩ dX3_init_7 (fun q_1 H hP hD hS => ?_)
  have hP : va_P D vwCl ([(h0, .inr (3, [.null, .int 0, .int 0, .int 0, .int 0, .int 0, .null, .null, .null, .null, .null, .null, .null, .null, .null, .null, .null])), (q_1, .inl (cy 1, 8, .inl (fun _ => 0)))]) H := hP
  have hD : va_D As ([(h0, .inr (3, [.null, .int 0, .int 0, .int 0, .int 0, .int 0, .null, .null, .null, .null, .null, .null, .null, .null, .null, .null, .null])), (q_1, .inl (cy 1, 8, .inl (fun _ => 0)))]) := hD
  refine va_putF (D := D) (ci := 3) (v := .ref q_1) (ty := (.array .int)) (C := RX3) (T := TX3) (N := 17) hx hb hts iw_3 tyX3 tyX3_ok nmX3 hown hK hP hD hS 0 rfl rfl 6 (by decide) (hts _ fl_X3_9) (fun _ h9 => h9) rfl hin rfl (by decide +kernel) rfl rfl (Nat.le_of_ble_eq_true rfl) dX3_init_9 (fun H locs hP hD hS => ?_)
  have hP : va_P D vwCl ([(h0, .inr (3, [.null, .int 0, .int 0, .int 0, .int 0, .int 0, .ref q_1, .null, .null, .null, .null, .null, .null, .null, .null, .null, .null])), (q_1, .inl (cy 1, 8, .inl (fun _ => 0)))]) H := hP
  have hD : va_D As ([(h0, .inr (3, [.null, .int 0, .int 0, .int 0, .int 0, .int 0, .ref q_1, .null, .null, .null, .null, .null, .null, .null, .null, .null, .null])), (q_1, .inl (cy 1, 8, .inl (fun _ => 0)))]) := hD
  refine lv_aload_n hx hb dX3_init_12 rfl (lv_at hl 0 rfl) ?_
  refine lv_iconst (v := 3) hx hb dX3_init_13 (by decide) ?_
  refine ti_nA (atype := .int) (a0 := (3, .inl (fun _ => 0))) 1 C ac_int rfl (fun C h => by cases h) rfl hP hD hS hA (fun _ => rfl) (by decide) (by decide) (Nat.le_of_ble_eq_true rfl) 2 11 (Nat.le_of_ble_eq_true rfl) (Nat.le_of_ble_eq_true rfl) ⟨Nat.le_of_ble_eq_true rfl, Nat.le_of_ble_eq_true rfl⟩ dX3_init_14 (fun q_2 H hP hD hS => ?_)
  have hP : va_P D vwCl ([(h0, .inr (3, [.null, .int 0, .int 0, .int 0, .int 0, .int 0, .ref q_1, .null, .null, .null, .null, .null, .null, .null, .null, .null, .null])), (q_1, .inl (cy 1, 8, .inl (fun _ => 0))), (q_2, .inl (cy 1, 3, .inl (fun _ => 0)))]) H := hP
  have hD : va_D As ([(h0, .inr (3, [.null, .int 0, .int 0, .int 0, .int 0, .int 0, .ref q_1, .null, .null, .null, .null, .null, .null, .null, .null, .null, .null])), (q_1, .inl (cy 1, 8, .inl (fun _ => 0))), (q_2, .inl (cy 1, 3, .inl (fun _ => 0)))]) := hD
  refine va_putF (D := D) (ci := 3) (v := .ref q_2) (ty := (.array .int)) (C := RX3) (T := TX3) (N := 17) hx hb hts iw_3 tyX3 tyX3_ok nmX3 hown hK hP hD hS 0 rfl rfl 7 (by decide) (hts _ fl_X3_15) (fun _ h9 => h9) rfl hin rfl (by decide +kernel) rfl rfl (Nat.le_of_ble_eq_true rfl) dX3_init_16 (fun H locs hP hD hS => ?_)
  have hP : va_P D vwCl ([(h0, .inr (3, [.null, .int 0, .int 0, .int 0, .int 0, .int 0, .ref q_1, .ref q_2, .null, .null, .null, .null, .null, .null, .null, .null, .null])), (q_1, .inl (cy 1, 8, .inl (fun _ => 0))), (q_2, .inl (cy 1, 3, .inl (fun _ => 0)))]) H := hP
  have hD : va_D As ([(h0, .inr (3, [.null, .int 0, .int 0, .int 0, .int 0, .int 0, .ref q_1, .ref q_2, .null, .null, .null, .null, .null, .null, .null, .null, .null])), (q_1, .inl (cy 1, 8, .inl (fun _ => 0))), (q_2, .inl (cy 1, 3, .inl (fun _ => 0)))]) := hD
  refine lv_aload_n hx hb dX3_init_19 rfl (lv_at hl 0 rfl) ?_
  refine lv_bipush (v := 8) hx hb dX3_init_20 (by decide) ?_
  refine ti_nA (atype := .int) (a0 := (8, .inl (fun _ => 0))) 1 C ac_int rfl (fun C h => by cases h) rfl hP hD hS hA (fun _ => rfl) (by decide) (by decide) (Nat.le_of_ble_eq_true rfl) 3 19 (Nat.le_of_ble_eq_true rfl) (Nat.le_of_ble_eq_true rfl) ⟨Nat.le_of_ble_eq_true rfl, Nat.le_of_ble_eq_true rfl⟩ dX3_init_22 (fun q_3 H hP hD hS => ?_)
  have hP : va_P D vwCl ([(h0, .inr (3, [.null, .int 0, .int 0, .int 0, .int 0, .int 0, .ref q_1, .ref q_2, .null, .null, .null, .null, .null, .null, .null, .null, .null])), (q_1, .inl (cy 1, 8, .inl (fun _ => 0))), (q_2, .inl (cy 1, 3, .inl (fun _ => 0))), (q_3, .inl (cy 1, 8, .inl (fun _ => 0)))]) H := hP
  have hD : va_D As ([(h0, .inr (3, [.null, .int 0, .int 0, .int 0, .int 0, .int 0, .ref q_1, .ref q_2, .null, .null, .null, .null, .null, .null, .null, .null, .null])), (q_1, .inl (cy 1, 8, .inl (fun _ => 0))), (q_2, .inl (cy 1, 3, .inl (fun _ => 0))), (q_3, .inl (cy 1, 8, .inl (fun _ => 0)))]) := hD
  refine va_putF (D := D) (ci := 3) (v := .ref q_3) (ty := (.array .int)) (C := RX3) (T := TX3) (N := 17) hx hb hts iw_3 tyX3 tyX3_ok nmX3 hown hK hP hD hS 0 rfl rfl 8 (by decide) (hts _ fl_X3_18) (fun _ h9 => h9) rfl hin rfl (by decide +kernel) rfl rfl (Nat.le_of_ble_eq_true rfl) dX3_init_24 (fun H locs hP hD hS => ?_)
  have hP : va_P D vwCl ([(h0, .inr (3, [.null, .int 0, .int 0, .int 0, .int 0, .int 0, .ref q_1, .ref q_2, .ref q_3, .null, .null, .null, .null, .null, .null, .null, .null])), (q_1, .inl (cy 1, 8, .inl (fun _ => 0))), (q_2, .inl (cy 1, 3, .inl (fun _ => 0))), (q_3, .inl (cy 1, 8, .inl (fun _ => 0)))]) H := hP
  have hD : va_D As ([(h0, .inr (3, [.null, .int 0, .int 0, .int 0, .int 0, .int 0, .ref q_1, .ref q_2, .ref q_3, .null, .null, .null, .null, .null, .null, .null, .null])), (q_1, .inl (cy 1, 8, .inl (fun _ => 0))), (q_2, .inl (cy 1, 3, .inl (fun _ => 0))), (q_3, .inl (cy 1, 8, .inl (fun _ => 0)))]) := hD
  refine lv_aload_n hx hb dX3_init_27 rfl (lv_at hl 0 rfl) ?_
  refine lv_bipush (v := 8) hx hb dX3_init_28 (by decide) ?_
  refine ti_nA (atype := .int) (a0 := (8, .inl (fun _ => 0))) 1 C ac_int rfl (fun C h => by cases h) rfl hP hD hS hA (fun _ => rfl) (by decide) (by decide) (Nat.le_of_ble_eq_true rfl) 4 27 (Nat.le_of_ble_eq_true rfl) (Nat.le_of_ble_eq_true rfl) ⟨Nat.le_of_ble_eq_true rfl, Nat.le_of_ble_eq_true rfl⟩ dX3_init_30 (fun q_4 H hP hD hS => ?_)
  have hP : va_P D vwCl ([(h0, .inr (3, [.null, .int 0, .int 0, .int 0, .int 0, .int 0, .ref q_1, .ref q_2, .ref q_3, .null, .null, .null, .null, .null, .null, .null, .null])), (q_1, .inl (cy 1, 8, .inl (fun _ => 0))), (q_2, .inl (cy 1, 3, .inl (fun _ => 0))), (q_3, .inl (cy 1, 8, .inl (fun _ => 0))), (q_4, .inl (cy 1, 8, .inl (fun _ => 0)))]) H := hP
  have hD : va_D As ([(h0, .inr (3, [.null, .int 0, .int 0, .int 0, .int 0, .int 0, .ref q_1, .ref q_2, .ref q_3, .null, .null, .null, .null, .null, .null, .null, .null])), (q_1, .inl (cy 1, 8, .inl (fun _ => 0))), (q_2, .inl (cy 1, 3, .inl (fun _ => 0))), (q_3, .inl (cy 1, 8, .inl (fun _ => 0))), (q_4, .inl (cy 1, 8, .inl (fun _ => 0)))]) := hD
  refine va_putF (D := D) (ci := 3) (v := .ref q_4) (ty := (.array .int)) (C := RX3) (T := TX3) (N := 17) hx hb hts iw_3 tyX3 tyX3_ok nmX3 hown hK hP hD hS 0 rfl rfl 9 (by decide) (hts _ fl_X3_21) (fun _ h9 => h9) rfl hin rfl (by decide +kernel) rfl rfl (Nat.le_of_ble_eq_true rfl) dX3_init_32 (fun H locs hP hD hS => ?_)
  have hP : va_P D vwCl ([(h0, .inr (3, [.null, .int 0, .int 0, .int 0, .int 0, .int 0, .ref q_1, .ref q_2, .ref q_3, .ref q_4, .null, .null, .null, .null, .null, .null, .null])), (q_1, .inl (cy 1, 8, .inl (fun _ => 0))), (q_2, .inl (cy 1, 3, .inl (fun _ => 0))), (q_3, .inl (cy 1, 8, .inl (fun _ => 0))), (q_4, .inl (cy 1, 8, .inl (fun _ => 0)))]) H := hP
  have hD : va_D As ([(h0, .inr (3, [.null, .int 0, .int 0, .int 0, .int 0, .int 0, .ref q_1, .ref q_2, .ref q_3, .ref q_4, .null, .null, .null, .null, .null, .null, .null])), (q_1, .inl (cy 1, 8, .inl (fun _ => 0))), (q_2, .inl (cy 1, 3, .inl (fun _ => 0))), (q_3, .inl (cy 1, 8, .inl (fun _ => 0))), (q_4, .inl (cy 1, 8, .inl (fun _ => 0)))]) := hD
  refine lv_aload_n hx hb dX3_init_35 rfl (lv_at hl 0 rfl) ?_
  refine lv_bipush (v := 8) hx hb dX3_init_36 (by decide) ?_
  refine ti_nA (atype := .int) (a0 := (8, .inl (fun _ => 0))) 1 C ac_int rfl (fun C h => by cases h) rfl hP hD hS hA (fun _ => rfl) (by decide) (by decide) (Nat.le_of_ble_eq_true rfl) 5 35 (Nat.le_of_ble_eq_true rfl) (Nat.le_of_ble_eq_true rfl) ⟨Nat.le_of_ble_eq_true rfl, Nat.le_of_ble_eq_true rfl⟩ dX3_init_38 (fun q_5 H hP hD hS => ?_)
  have hP : va_P D vwCl ([(h0, .inr (3, [.null, .int 0, .int 0, .int 0, .int 0, .int 0, .ref q_1, .ref q_2, .ref q_3, .ref q_4, .null, .null, .null, .null, .null, .null, .null])), (q_1, .inl (cy 1, 8, .inl (fun _ => 0))), (q_2, .inl (cy 1, 3, .inl (fun _ => 0))), (q_3, .inl (cy 1, 8, .inl (fun _ => 0))), (q_4, .inl (cy 1, 8, .inl (fun _ => 0))), (q_5, .inl (cy 1, 8, .inl (fun _ => 0)))]) H := hP
  have hD : va_D As ([(h0, .inr (3, [.null, .int 0, .int 0, .int 0, .int 0, .int 0, .ref q_1, .ref q_2, .ref q_3, .ref q_4, .null, .null, .null, .null, .null, .null, .null])), (q_1, .inl (cy 1, 8, .inl (fun _ => 0))), (q_2, .inl (cy 1, 3, .inl (fun _ => 0))), (q_3, .inl (cy 1, 8, .inl (fun _ => 0))), (q_4, .inl (cy 1, 8, .inl (fun _ => 0))), (q_5, .inl (cy 1, 8, .inl (fun _ => 0)))]) := hD
  refine va_putF (D := D) (ci := 3) (v := .ref q_5) (ty := (.array .int)) (C := RX3) (T := TX3) (N := 17) hx hb hts iw_3 tyX3 tyX3_ok nmX3 hown hK hP hD hS 0 rfl rfl 10 (by decide) (hts _ fl_X3_24) (fun _ h9 => h9) rfl hin rfl (by decide +kernel) rfl rfl (Nat.le_of_ble_eq_true rfl) dX3_init_40 (fun H locs hP hD hS => ?_)
  have hP : va_P D vwCl ([(h0, .inr (3, [.null, .int 0, .int 0, .int 0, .int 0, .int 0, .ref q_1, .ref q_2, .ref q_3, .ref q_4, .ref q_5, .null, .null, .null, .null, .null, .null])), (q_1, .inl (cy 1, 8, .inl (fun _ => 0))), (q_2, .inl (cy 1, 3, .inl (fun _ => 0))), (q_3, .inl (cy 1, 8, .inl (fun _ => 0))), (q_4, .inl (cy 1, 8, .inl (fun _ => 0))), (q_5, .inl (cy 1, 8, .inl (fun _ => 0)))]) H := hP
  have hD : va_D As ([(h0, .inr (3, [.null, .int 0, .int 0, .int 0, .int 0, .int 0, .ref q_1, .ref q_2, .ref q_3, .ref q_4, .ref q_5, .null, .null, .null, .null, .null, .null])), (q_1, .inl (cy 1, 8, .inl (fun _ => 0))), (q_2, .inl (cy 1, 3, .inl (fun _ => 0))), (q_3, .inl (cy 1, 8, .inl (fun _ => 0))), (q_4, .inl (cy 1, 8, .inl (fun _ => 0))), (q_5, .inl (cy 1, 8, .inl (fun _ => 0)))]) := hD
  refine lv_aload_n hx hb dX3_init_43 rfl (lv_at hl 0 rfl) ?_
  refine lv_bipush (v := 8) hx hb dX3_init_44 (by decide) ?_
  refine ti_nA (atype := .int) (a0 := (8, .inl (fun _ => 0))) 1 C ac_int rfl (fun C h => by cases h) rfl hP hD hS hA (fun _ => rfl) (by decide) (by decide) (Nat.le_of_ble_eq_true rfl) 6 43 (Nat.le_of_ble_eq_true rfl) (Nat.le_of_ble_eq_true rfl) ⟨Nat.le_of_ble_eq_true rfl, Nat.le_of_ble_eq_true rfl⟩ dX3_init_46 (fun q_6 H hP hD hS => ?_)
  have hP : va_P D vwCl ([(h0, .inr (3, [.null, .int 0, .int 0, .int 0, .int 0, .int 0, .ref q_1, .ref q_2, .ref q_3, .ref q_4, .ref q_5, .null, .null, .null, .null, .null, .null])), (q_1, .inl (cy 1, 8, .inl (fun _ => 0))), (q_2, .inl (cy 1, 3, .inl (fun _ => 0))), (q_3, .inl (cy 1, 8, .inl (fun _ => 0))), (q_4, .inl (cy 1, 8, .inl (fun _ => 0))), (q_5, .inl (cy 1, 8, .inl (fun _ => 0))), (q_6, .inl (cy 1, 8, .inl (fun _ => 0)))]) H := hP
  have hD : va_D As ([(h0, .inr (3, [.null, .int 0, .int 0, .int 0, .int 0, .int 0, .ref q_1, .ref q_2, .ref q_3, .ref q_4, .ref q_5, .null, .null, .null, .null, .null, .null])), (q_1, .inl (cy 1, 8, .inl (fun _ => 0))), (q_2, .inl (cy 1, 3, .inl (fun _ => 0))), (q_3, .inl (cy 1, 8, .inl (fun _ => 0))), (q_4, .inl (cy 1, 8, .inl (fun _ => 0))), (q_5, .inl (cy 1, 8, .inl (fun _ => 0))), (q_6, .inl (cy 1, 8, .inl (fun _ => 0)))]) := hD
  refine va_putF (D := D) (ci := 3) (v := .ref q_6) (ty := (.array .int)) (C := RX3) (T := TX3) (N := 17) hx hb hts iw_3 tyX3 tyX3_ok nmX3 hown hK hP hD hS 0 rfl rfl 11 (by decide) (hts _ fl_X3_27) (fun _ h9 => h9) rfl hin rfl (by decide +kernel) rfl rfl (Nat.le_of_ble_eq_true rfl) dX3_init_48 (fun H locs hP hD hS => ?_)
  have hP : va_P D vwCl ([(h0, .inr (3, [.null, .int 0, .int 0, .int 0, .int 0, .int 0, .ref q_1, .ref q_2, .ref q_3, .ref q_4, .ref q_5, .ref q_6, .null, .null, .null, .null, .null])), (q_1, .inl (cy 1, 8, .inl (fun _ => 0))), (q_2, .inl (cy 1, 3, .inl (fun _ => 0))), (q_3, .inl (cy 1, 8, .inl (fun _ => 0))), (q_4, .inl (cy 1, 8, .inl (fun _ => 0))), (q_5, .inl (cy 1, 8, .inl (fun _ => 0))), (q_6, .inl (cy 1, 8, .inl (fun _ => 0)))]) H := hP
  have hD : va_D As ([(h0, .inr (3, [.null, .int 0, .int 0, .int 0, .int 0, .int 0, .ref q_1, .ref q_2, .ref q_3, .ref q_4, .ref q_5, .ref q_6, .null, .null, .null, .null, .null])), (q_1, .inl (cy 1, 8, .inl (fun _ => 0))), (q_2, .inl (cy 1, 3, .inl (fun _ => 0))), (q_3, .inl (cy 1, 8, .inl (fun _ => 0))), (q_4, .inl (cy 1, 8, .inl (fun _ => 0))), (q_5, .inl (cy 1, 8, .inl (fun _ => 0))), (q_6, .inl (cy 1, 8, .inl (fun _ => 0)))]) := hD
  refine lv_aload_n hx hb dX3_init_51 rfl (lv_at hl 0 rfl) ?_
  refine lv_bipush (v := 8) hx hb dX3_init_52 (by decide) ?_
  refine ti_nA (atype := .int) (a0 := (8, .inl (fun _ => 0))) 1 C ac_int rfl (fun C h => by cases h) rfl hP hD hS hA (fun _ => rfl) (by decide) (by decide) (Nat.le_of_ble_eq_true rfl) 7 51 (Nat.le_of_ble_eq_true rfl) (Nat.le_of_ble_eq_true rfl) ⟨Nat.le_of_ble_eq_true rfl, Nat.le_of_ble_eq_true rfl⟩ dX3_init_54 (fun q_7 H hP hD hS => ?_)
  have hP : va_P D vwCl ([(h0, .inr (3, [.null, .int 0, .int 0, .int 0, .int 0, .int 0, .ref q_1, .ref q_2, .ref q_3, .ref q_4, .ref q_5, .ref q_6, .null, .null, .null, .null, .null])), (q_1, .inl (cy 1, 8, .inl (fun _ => 0))), (q_2, .inl (cy 1, 3, .inl (fun _ => 0))), (q_3, .inl (cy 1, 8, .inl (fun _ => 0))), (q_4, .inl (cy 1, 8, .inl (fun _ => 0))), (q_5, .inl (cy 1, 8, .inl (fun _ => 0))), (q_6, .inl (cy 1, 8, .inl (fun _ => 0))), (q_7, .inl (cy 1, 8, .inl (fun _ => 0)))]) H := hP
  have hD : va_D As ([(h0, .inr (3, [.null, .int 0, .int 0, .int 0, .int 0, .int 0, .ref q_1, .ref q_2, .ref q_3, .ref q_4, .ref q_5, .ref q_6, .null, .null, .null, .null, .null])), (q_1, .inl (cy 1, 8, .inl (fun _ => 0))), (q_2, .inl (cy 1, 3, .inl (fun _ => 0))), (q_3, .inl (cy 1, 8, .inl (fun _ => 0))), (q_4, .inl (cy 1, 8, .inl (fun _ => 0))), (q_5, .inl (cy 1, 8, .inl (fun _ => 0))), (q_6, .inl (cy 1, 8, .inl (fun _ => 0))), (q_7, .inl (cy 1, 8, .inl (fun _ => 0)))]) := hD
  refine va_putF (D := D) (ci := 3) (v := .ref q_7) (ty := (.array .int)) (C := RX3) (T := TX3) (N := 17) hx hb hts iw_3 tyX3 tyX3_ok nmX3 hown hK hP hD hS 0 rfl rfl 12 (by decide) (hts _ fl_X3_30) (fun _ h9 => h9) rfl hin rfl (by decide +kernel) rfl rfl (Nat.le_of_ble_eq_true rfl) dX3_init_56 (fun H locs hP hD hS => ?_)
  have hP : va_P D vwCl ([(h0, .inr (3, [.null, .int 0, .int 0, .int 0, .int 0, .int 0, .ref q_1, .ref q_2, .ref q_3, .ref q_4, .ref q_5, .ref q_6, .ref q_7, .null, .null, .null, .null])), (q_1, .inl (cy 1, 8, .inl (fun _ => 0))), (q_2, .inl (cy 1, 3, .inl (fun _ => 0))), (q_3, .inl (cy 1, 8, .inl (fun _ => 0))), (q_4, .inl (cy 1, 8, .inl (fun _ => 0))), (q_5, .inl (cy 1, 8, .inl (fun _ => 0))), (q_6, .inl (cy 1, 8, .inl (fun _ => 0))), (q_7, .inl (cy 1, 8, .inl (fun _ => 0)))]) H := hP
  have hD : va_D As ([(h0, .inr (3, [.null, .int 0, .int 0, .int 0, .int 0, .int 0, .ref q_1, .ref q_2, .ref q_3, .ref q_4, .ref q_5, .ref q_6, .ref q_7, .null, .null, .null, .null])), (q_1, .inl (cy 1, 8, .inl (fun _ => 0))), (q_2, .inl (cy 1, 3, .inl (fun _ => 0))), (q_3, .inl (cy 1, 8, .inl (fun _ => 0))), (q_4, .inl (cy 1, 8, .inl (fun _ => 0))), (q_5, .inl (cy 1, 8, .inl (fun _ => 0))), (q_6, .inl (cy 1, 8, .inl (fun _ => 0))), (q_7, .inl (cy 1, 8, .inl (fun _ => 0)))]) := hD
  refine lv_aload_n hx hb dX3_init_59 rfl (lv_at hl 0 rfl) ?_
  refine lv_bipush (v := 8) hx hb dX3_init_60 (by decide) ?_
  refine ti_nA (atype := .int) (a0 := (8, .inl (fun _ => 0))) 1 C ac_int rfl (fun C h => by cases h) rfl hP hD hS hA (fun _ => rfl) (by decide) (by decide) (Nat.le_of_ble_eq_true rfl) 8 59 (Nat.le_of_ble_eq_true rfl) (Nat.le_of_ble_eq_true rfl) ⟨Nat.le_of_ble_eq_true rfl, Nat.le_of_ble_eq_true rfl⟩ dX3_init_62 (fun q_8 H hP hD hS => ?_)
  have hP : va_P D vwCl ([(h0, .inr (3, [.null, .int 0, .int 0, .int 0, .int 0, .int 0, .ref q_1, .ref q_2, .ref q_3, .ref q_4, .ref q_5, .ref q_6, .ref q_7, .null, .null, .null, .null])), (q_1, .inl (cy 1, 8, .inl (fun _ => 0))), (q_2, .inl (cy 1, 3, .inl (fun _ => 0))), (q_3, .inl (cy 1, 8, .inl (fun _ => 0))), (q_4, .inl (cy 1, 8, .inl (fun _ => 0))), (q_5, .inl (cy 1, 8, .inl (fun _ => 0))), (q_6, .inl (cy 1, 8, .inl (fun _ => 0))), (q_7, .inl (cy 1, 8, .inl (fun _ => 0))), (q_8, .inl (cy 1, 8, .inl (fun _ => 0)))]) H := hP
  have hD : va_D As ([(h0, .inr (3, [.null, .int 0, .int 0, .int 0, .int 0, .int 0, .ref q_1, .ref q_2, .ref q_3, .ref q_4, .ref q_5, .ref q_6, .ref q_7, .null, .null, .null, .null])), (q_1, .inl (cy 1, 8, .inl (fun _ => 0))), (q_2, .inl (cy 1, 3, .inl (fun _ => 0))), (q_3, .inl (cy 1, 8, .inl (fun _ => 0))), (q_4, .inl (cy 1, 8, .inl (fun _ => 0))), (q_5, .inl (cy 1, 8, .inl (fun _ => 0))), (q_6, .inl (cy 1, 8, .inl (fun _ => 0))), (q_7, .inl (cy 1, 8, .inl (fun _ => 0))), (q_8, .inl (cy 1, 8, .inl (fun _ => 0)))]) := hD
  refine va_putF (D := D) (ci := 3) (v := .ref q_8) (ty := (.array .int)) (C := RX3) (T := TX3) (N := 17) hx hb hts iw_3 tyX3 tyX3_ok nmX3 hown hK hP hD hS 0 rfl rfl 13 (by decide) (hts _ fl_X3_33) (fun _ h9 => h9) rfl hin rfl (by decide +kernel) rfl rfl (Nat.le_of_ble_eq_true rfl) dX3_init_64 (fun H locs hP hD hS => ?_)
  have hP : va_P D vwCl ([(h0, .inr (3, [.null, .int 0, .int 0, .int 0, .int 0, .int 0, .ref q_1, .ref q_2, .ref q_3, .ref q_4, .ref q_5, .ref q_6, .ref q_7, .ref q_8, .null, .null, .null])), (q_1, .inl (cy 1, 8, .inl (fun _ => 0))), (q_2, .inl (cy 1, 3, .inl (fun _ => 0))), (q_3, .inl (cy 1, 8, .inl (fun _ => 0))), (q_4, .inl (cy 1, 8, .inl (fun _ => 0))), (q_5, .inl (cy 1, 8, .inl (fun _ => 0))), (q_6, .inl (cy 1, 8, .inl (fun _ => 0))), (q_7, .inl (cy 1, 8, .inl (fun _ => 0))), (q_8, .inl (cy 1, 8, .inl (fun _ => 0)))]) H := hP
  have hD : va_D As ([(h0, .inr (3, [.null, .int 0, .int 0, .int 0, .int 0, .int 0, .ref q_1, .ref q_2, .ref q_3, .ref q_4, .ref q_5, .ref q_6, .ref q_7, .ref q_8, .null, .null, .null])), (q_1, .inl (cy 1, 8, .inl (fun _ => 0))), (q_2, .inl (cy 1, 3, .inl (fun _ => 0))), (q_3, .inl (cy 1, 8, .inl (fun _ => 0))), (q_4, .inl (cy 1, 8, .inl (fun _ => 0))), (q_5, .inl (cy 1, 8, .inl (fun _ => 0))), (q_6, .inl (cy 1, 8, .inl (fun _ => 0))), (q_7, .inl (cy 1, 8, .inl (fun _ => 0))), (q_8, .inl (cy 1, 8, .inl (fun _ => 0)))]) := hD
  refine lv_aload_n hx hb dX3_init_67 rfl (lv_at hl 0 rfl) ?_
  refine lv_bipush (v := 8) hx hb dX3_init_68 (by decide) ?_
  refine ti_nA (atype := .int) (a0 := (8, .inl (fun _ => 0))) 1 C ac_int rfl (fun C h => by cases h) rfl hP hD hS hA (fun _ => rfl) (by decide) (by decide) (Nat.le_of_ble_eq_true rfl) 9 67 (Nat.le_of_ble_eq_true rfl) (Nat.le_of_ble_eq_true rfl) ⟨Nat.le_of_ble_eq_true rfl, Nat.le_of_ble_eq_true rfl⟩ dX3_init_70 (fun q_9 H hP hD hS => ?_)
  have hP : va_P D vwCl ([(h0, .inr (3, [.null, .int 0, .int 0, .int 0, .int 0, .int 0, .ref q_1, .ref q_2, .ref q_3, .ref q_4, .ref q_5, .ref q_6, .ref q_7, .ref q_8, .null, .null, .null])), (q_1, .inl (cy 1, 8, .inl (fun _ => 0))), (q_2, .inl (cy 1, 3, .inl (fun _ => 0))), (q_3, .inl (cy 1, 8, .inl (fun _ => 0))), (q_4, .inl (cy 1, 8, .inl (fun _ => 0))), (q_5, .inl (cy 1, 8, .inl (fun _ => 0))), (q_6, .inl (cy 1, 8, .inl (fun _ => 0))), (q_7, .inl (cy 1, 8, .inl (fun _ => 0))), (q_8, .inl (cy 1, 8, .inl (fun _ => 0))), (q_9, .inl (cy 1, 8, .inl (fun _ => 0)))]) H := hP
  have hD : va_D As ([(h0, .inr (3, [.null, .int 0, .int 0, .int 0, .int 0, .int 0, .ref q_1, .ref q_2, .ref q_3, .ref q_4, .ref q_5, .ref q_6, .ref q_7, .ref q_8, .null, .null, .null])), (q_1, .inl (cy 1, 8, .inl (fun _ => 0))), (q_2, .inl (cy 1, 3, .inl (fun _ => 0))), (q_3, .inl (cy 1, 8, .inl (fun _ => 0))), (q_4, .inl (cy 1, 8, .inl (fun _ => 0))), (q_5, .inl (cy 1, 8, .inl (fun _ => 0))), (q_6, .inl (cy 1, 8, .inl (fun _ => 0))), (q_7, .inl (cy 1, 8, .inl (fun _ => 0))), (q_8, .inl (cy 1, 8, .inl (fun _ => 0))), (q_9, .inl (cy 1, 8, .inl (fun _ => 0)))]) := hD
  refine va_putF (D := D) (ci := 3) (v := .ref q_9) (ty := (.array .int)) (C := RX3) (T := TX3) (N := 17) hx hb hts iw_3 tyX3 tyX3_ok nmX3 hown hK hP hD hS 0 rfl rfl 14 (by decide) (hts _ fl_X3_36) (fun _ h9 => h9) rfl hin rfl (by decide +kernel) rfl rfl (Nat.le_of_ble_eq_true rfl) dX3_init_72 (fun H locs hP hD hS => ?_)
  have hP : va_P D vwCl ([(h0, .inr (3, [.null, .int 0, .int 0, .int 0, .int 0, .int 0, .ref q_1, .ref q_2, .ref q_3, .ref q_4, .ref q_5, .ref q_6, .ref q_7, .ref q_8, .ref q_9, .null, .null])), (q_1, .inl (cy 1, 8, .inl (fun _ => 0))), (q_2, .inl (cy 1, 3, .inl (fun _ => 0))), (q_3, .inl (cy 1, 8, .inl (fun _ => 0))), (q_4, .inl (cy 1, 8, .inl (fun _ => 0))), (q_5, .inl (cy 1, 8, .inl (fun _ => 0))), (q_6, .inl (cy 1, 8, .inl (fun _ => 0))), (q_7, .inl (cy 1, 8, .inl (fun _ => 0))), (q_8, .inl (cy 1, 8, .inl (fun _ => 0))), (q_9, .inl (cy 1, 8, .inl (fun _ => 0)))]) H := hP
  have hD : va_D As ([(h0, .inr (3, [.null, .int 0, .int 0, .int 0, .int 0, .int 0, .ref q_1, .ref q_2, .ref q_3, .ref q_4, .ref q_5, .ref q_6, .ref q_7, .ref q_8, .ref q_9, .null, .null])), (q_1, .inl (cy 1, 8, .inl (fun _ => 0))), (q_2, .inl (cy 1, 3, .inl (fun _ => 0))), (q_3, .inl (cy 1, 8, .inl (fun _ => 0))), (q_4, .inl (cy 1, 8, .inl (fun _ => 0))), (q_5, .inl (cy 1, 8, .inl (fun _ => 0))), (q_6, .inl (cy 1, 8, .inl (fun _ => 0))), (q_7, .inl (cy 1, 8, .inl (fun _ => 0))), (q_8, .inl (cy 1, 8, .inl (fun _ => 0))), (q_9, .inl (cy 1, 8, .inl (fun _ => 0)))]) := hD
  refine lv_aload_n hx hb dX3_init_75 rfl (lv_at hl 0 rfl) ?_
  refine lv_bipush (v := 8) hx hb dX3_init_76 (by decide) ?_
  refine ti_nA (atype := .int) (a0 := (8, .inl (fun _ => 0))) 1 C ac_int rfl (fun C h => by cases h) rfl hP hD hS hA (fun _ => rfl) (by decide) (by decide) (Nat.le_of_ble_eq_true rfl) 10 75 (Nat.le_of_ble_eq_true rfl) (Nat.le_of_ble_eq_true rfl) ⟨Nat.le_of_ble_eq_true rfl, Nat.le_of_ble_eq_true rfl⟩ dX3_init_78 (fun q_10 H hP hD hS => ?_)
  have hP : va_P D vwCl ([(h0, .inr (3, [.null, .int 0, .int 0, .int 0, .int 0, .int 0, .ref q_1, .ref q_2, .ref q_3, .ref q_4, .ref q_5, .ref q_6, .ref q_7, .ref q_8, .ref q_9, .null, .null])), (q_1, .inl (cy 1, 8, .inl (fun _ => 0))), (q_2, .inl (cy 1, 3, .inl (fun _ => 0))), (q_3, .inl (cy 1, 8, .inl (fun _ => 0))), (q_4, .inl (cy 1, 8, .inl (fun _ => 0))), (q_5, .inl (cy 1, 8, .inl (fun _ => 0))), (q_6, .inl (cy 1, 8, .inl (fun _ => 0))), (q_7, .inl (cy 1, 8, .inl (fun _ => 0))), (q_8, .inl (cy 1, 8, .inl (fun _ => 0))), (q_9, .inl (cy 1, 8, .inl (fun _ => 0))), (q_10, .inl (cy 1, 8, .inl (fun _ => 0)))]) H := hP
  have hD : va_D As ([(h0, .inr (3, [.null, .int 0, .int 0, .int 0, .int 0, .int 0, .ref q_1, .ref q_2, .ref q_3, .ref q_4, .ref q_5, .ref q_6, .ref q_7, .ref q_8, .ref q_9, .null, .null])), (q_1, .inl (cy 1, 8, .inl (fun _ => 0))), (q_2, .inl (cy 1, 3, .inl (fun _ => 0))), (q_3, .inl (cy 1, 8, .inl (fun _ => 0))), (q_4, .inl (cy 1, 8, .inl (fun _ => 0))), (q_5, .inl (cy 1, 8, .inl (fun _ => 0))), (q_6, .inl (cy 1, 8, .inl (fun _ => 0))), (q_7, .inl (cy 1, 8, .inl (fun _ => 0))), (q_8, .inl (cy 1, 8, .inl (fun _ => 0))), (q_9, .inl (cy 1, 8, .inl (fun _ => 0))), (q_10, .inl (cy 1, 8, .inl (fun _ => 0)))]) := hD
  refine va_putF (D := D) (ci := 3) (v := .ref q_10) (ty := (.array .int)) (C := RX3) (T := TX3) (N := 17) hx hb hts iw_3 tyX3 tyX3_ok nmX3 hown hK hP hD hS 0 rfl rfl 15 (by decide) (hts _ fl_X3_39) (fun _ h9 => h9) rfl hin rfl (by decide +kernel) rfl rfl (Nat.le_of_ble_eq_true rfl) dX3_init_80 (fun H locs hP hD hS => ?_)
  have hP : va_P D vwCl ([(h0, .inr (3, [.null, .int 0, .int 0, .int 0, .int 0, .int 0, .ref q_1, .ref q_2, .ref q_3, .ref q_4, .ref q_5, .ref q_6, .ref q_7, .ref q_8, .ref q_9, .ref q_10, .null])), (q_1, .inl (cy 1, 8, .inl (fun _ => 0))), (q_2, .inl (cy 1, 3, .inl (fun _ => 0))), (q_3, .inl (cy 1, 8, .inl (fun _ => 0))), (q_4, .inl (cy 1, 8, .inl (fun _ => 0))), (q_5, .inl (cy 1, 8, .inl (fun _ => 0))), (q_6, .inl (cy 1, 8, .inl (fun _ => 0))), (q_7, .inl (cy 1, 8, .inl (fun _ => 0))), (q_8, .inl (cy 1, 8, .inl (fun _ => 0))), (q_9, .inl (cy 1, 8, .inl (fun _ => 0))), (q_10, .inl (cy 1, 8, .inl (fun _ => 0)))]) H := hP
  have hD : va_D As ([(h0, .inr (3, [.null, .int 0, .int 0, .int 0, .int 0, .int 0, .ref q_1, .ref q_2, .ref q_3, .ref q_4, .ref q_5, .ref q_6, .ref q_7, .ref q_8, .ref q_9, .ref q_10, .null])), (q_1, .inl (cy 1, 8, .inl (fun _ => 0))), (q_2, .inl (cy 1, 3, .inl (fun _ => 0))), (q_3, .inl (cy 1, 8, .inl (fun _ => 0))), (q_4, .inl (cy 1, 8, .inl (fun _ => 0))), (q_5, .inl (cy 1, 8, .inl (fun _ => 0))), (q_6, .inl (cy 1, 8, .inl (fun _ => 0))), (q_7, .inl (cy 1, 8, .inl (fun _ => 0))), (q_8, .inl (cy 1, 8, .inl (fun _ => 0))), (q_9, .inl (cy 1, 8, .inl (fun _ => 0))), (q_10, .inl (cy 1, 8, .inl (fun _ => 0)))]) := hD
  refine lv_aload_n hx hb dX3_init_83 rfl (lv_at hl 0 rfl) ?_
  refine lv_bipush (v := 8) hx hb dX3_init_84 (by decide) ?_
  refine ti_nA (atype := .int) (a0 := (8, .inl (fun _ => 0))) 1 C ac_int rfl (fun C h => by cases h) rfl hP hD hS hA (fun _ => rfl) (by decide) (by decide) (Nat.le_of_ble_eq_true rfl) 11 83 (Nat.le_of_ble_eq_true rfl) (Nat.le_of_ble_eq_true rfl) ⟨Nat.le_of_ble_eq_true rfl, Nat.le_of_ble_eq_true rfl⟩ dX3_init_86 (fun q_11 H hP hD hS => ?_)
  have hP : va_P D vwCl ([(h0, .inr (3, [.null, .int 0, .int 0, .int 0, .int 0, .int 0, .ref q_1, .ref q_2, .ref q_3, .ref q_4, .ref q_5, .ref q_6, .ref q_7, .ref q_8, .ref q_9, .ref q_10, .null])), (q_1, .inl (cy 1, 8, .inl (fun _ => 0))), (q_2, .inl (cy 1, 3, .inl (fun _ => 0))), (q_3, .inl (cy 1, 8, .inl (fun _ => 0))), (q_4, .inl (cy 1, 8, .inl (fun _ => 0))), (q_5, .inl (cy 1, 8, .inl (fun _ => 0))), (q_6, .inl (cy 1, 8, .inl (fun _ => 0))), (q_7, .inl (cy 1, 8, .inl (fun _ => 0))), (q_8, .inl (cy 1, 8, .inl (fun _ => 0))), (q_9, .inl (cy 1, 8, .inl (fun _ => 0))), (q_10, .inl (cy 1, 8, .inl (fun _ => 0))), (q_11, .inl (cy 1, 8, .inl (fun _ => 0)))]) H := hP
  have hD : va_D As ([(h0, .inr (3, [.null, .int 0, .int 0, .int 0, .int 0, .int 0, .ref q_1, .ref q_2, .ref q_3, .ref q_4, .ref q_5, .ref q_6, .ref q_7, .ref q_8, .ref q_9, .ref q_10, .null])), (q_1, .inl (cy 1, 8, .inl (fun _ => 0))), (q_2, .inl (cy 1, 3, .inl (fun _ => 0))), (q_3, .inl (cy 1, 8, .inl (fun _ => 0))), (q_4, .inl (cy 1, 8, .inl (fun _ => 0))), (q_5, .inl (cy 1, 8, .inl (fun _ => 0))), (q_6, .inl (cy 1, 8, .inl (fun _ => 0))), (q_7, .inl (cy 1, 8, .inl (fun _ => 0))), (q_8, .inl (cy 1, 8, .inl (fun _ => 0))), (q_9, .inl (cy 1, 8, .inl (fun _ => 0))), (q_10, .inl (cy 1, 8, .inl (fun _ => 0))), (q_11, .inl (cy 1, 8, .inl (fun _ => 0)))]) := hD
  refine va_putF (D := D) (ci := 3) (v := .ref q_11) (ty := (.array .int)) (C := RX3) (T := TX3) (N := 17) hx hb hts iw_3 tyX3 tyX3_ok nmX3 hown hK hP hD hS 0 rfl rfl 16 (by decide) (hts _ fl_X3_42) (fun _ h9 => h9) rfl hin rfl (by decide +kernel) rfl rfl (Nat.le_of_ble_eq_true rfl) dX3_init_88 (fun H locs hP hD hS => ?_)
  have hP : va_P D vwCl ([(h0, .inr (3, [.null, .int 0, .int 0, .int 0, .int 0, .int 0, .ref q_1, .ref q_2, .ref q_3, .ref q_4, .ref q_5, .ref q_6, .ref q_7, .ref q_8, .ref q_9, .ref q_10, .ref q_11])), (q_1, .inl (cy 1, 8, .inl (fun _ => 0))), (q_2, .inl (cy 1, 3, .inl (fun _ => 0))), (q_3, .inl (cy 1, 8, .inl (fun _ => 0))), (q_4, .inl (cy 1, 8, .inl (fun _ => 0))), (q_5, .inl (cy 1, 8, .inl (fun _ => 0))), (q_6, .inl (cy 1, 8, .inl (fun _ => 0))), (q_7, .inl (cy 1, 8, .inl (fun _ => 0))), (q_8, .inl (cy 1, 8, .inl (fun _ => 0))), (q_9, .inl (cy 1, 8, .inl (fun _ => 0))), (q_10, .inl (cy 1, 8, .inl (fun _ => 0))), (q_11, .inl (cy 1, 8, .inl (fun _ => 0)))]) H := hP
  have hD : va_D As ([(h0, .inr (3, [.null, .int 0, .int 0, .int 0, .int 0, .int 0, .ref q_1, .ref q_2, .ref q_3, .ref q_4, .ref q_5, .ref q_6, .ref q_7, .ref q_8, .ref q_9, .ref q_10, .ref q_11])), (q_1, .inl (cy 1, 8, .inl (fun _ => 0))), (q_2, .inl (cy 1, 3, .inl (fun _ => 0))), (q_3, .inl (cy 1, 8, .inl (fun _ => 0))), (q_4, .inl (cy 1, 8, .inl (fun _ => 0))), (q_5, .inl (cy 1, 8, .inl (fun _ => 0))), (q_6, .inl (cy 1, 8, .inl (fun _ => 0))), (q_7, .inl (cy 1, 8, .inl (fun _ => 0))), (q_8, .inl (cy 1, 8, .inl (fun _ => 0))), (q_9, .inl (cy 1, 8, .inl (fun _ => 0))), (q_10, .inl (cy 1, 8, .inl (fun _ => 0))), (q_11, .inl (cy 1, 8, .inl (fun _ => 0)))]) := hD
  refine W.widen (k := 11) (n := 83) (Nat.le_of_ble_eq_true rfl) (Nat.le_of_ble_eq_true rfl) ?_
  exact hQ (fun j : Nat => if j = 0 then h0 else if j = 7 then q_1 else if j = 8 then q_2 else if j = 9 then q_3 else if j = 10 then q_4 else if j = 11 then q_5 else if j = 12 then q_6 else if j = 13 then q_7 else if j = 14 then q_8 else if j = 15 then q_9 else if j = 16 then q_10 else if j = 17 then q_11 else 0) _ _ _ _ rfl hP hD hS dX3_init_91
set_option maxHeartbeats 8000000 in
set_option maxRecDepth 100000 in
theorem k_X7_init (l : Launch) (D : va_G) (cy : Nat → ClassId) (h0 sz : Nat) : ti_Kc l yX7_init cX7_init 1 1 1 700 D cy h0 sz (.inr (7, [.null, .int 0, .int 0, .int 0, .int 0, .int 0, .int 0])) (fun b : Nat → Nat => b 0 = h0) (fun b => ti_kb cy b) := by
  refine ti_eC yp_X7_init (by decide) rfl ?_
  intro p e s m args below meth c Q H0 As C hQ hP hD hS hA ls hl
  have hx := C.1
  have hb := C.2.1
  have hts := C.2.2.1
  have hown := C.2.2.2.1
  have hK := C.2.2.2.2.1
  have hml := C.2.2.2.2.2.1
  have hin := C.2.2.2.2.2.2.1
  have hN := C.2.2.2.2.2.2.2
  refine lv_aload_n hx hb dX7_init_0 rfl (lv_at hl 0 rfl) ?_
  refine W.objInit hx hb hown (hts _ oi_X7_3) (hts _ oi_m) (hts _ oi_c) rfl (by rw [hml]; exact hl.1) rfl dX7_init_1 (Nat.le_of_ble_eq_true rfl) (Nat.le_of_ble_eq_true rfl) ?_
  refine W.eq (g2 := F0 m 4 ls []) rfl ?_
  refine lv_aload_n hx hb dX7_init_4 rfl (lv_at hl 0 rfl) ?_
  refine lv_sipush (v := 700) hx hb dX7_init_5 (by decide) ?_
  refine ti_nA (atype := .byte) (a0 := (700, .inl (fun _ => 0))) 0 C ac_byte rfl (fun C h => by cases h) rfl hP hD hS hA (fun _ => rfl) (by decide) (by decide) (Nat.le_of_ble_eq_true rfl) 1 700 (Nat.le_of_ble_eq_true rfl) (Nat.le_of_ble_eq_true rfl) ⟨Nat.le_of_ble_eq_true rfl, Nat.le_of_ble_eq_true rfl⟩ dX7_init_8 (fun q_1 H hP hD hS => ?_)
  have hP : va_P D vwCl ([(h0, .inr (7, [.null, .int 0, .int 0, .int 0, .int 0, .int 0, .int 0])), (q_1, .inl (cy 0, 700, .inl (fun _ => 0)))]) H := hP
  have hD : va_D As ([(h0, .inr (7, [.null, .int 0, .int 0, .int 0, .int 0, .int 0, .int 0])), (q_1, .inl (cy 0, 700, .inl (fun _ => 0)))]) := hD
  refine va_putF (D := D) (ci := 7) (v := .ref q_1) (ty := (.array .byte)) (C := RX7) (T := TX7) (N := 7) hx hb hts iw_7 tyX7 tyX7_ok nmX7 hown hK hP hD hS 0 rfl rfl 0 (by decide) (hts _ fl_X7_9) (fun _ h9 => h9) rfl hin rfl (by decide +kernel) rfl rfl (Nat.le_of_ble_eq_true rfl) dX7_init_10 (fun H locs hP hD hS => ?_)
  have hP : va_P D vwCl ([(h0, .inr (7, [.ref q_1, .int 0, .int 0, .int 0, .int 0, .int 0, .int 0])), (q_1, .inl (cy 0, 700, .inl (fun _ => 0)))]) H := hP
  have hD : va_D As ([(h0, .inr (7, [.ref q_1, .int 0, .int 0, .int 0, .int 0, .int 0, .int 0])), (q_1, .inl (cy 0, 700, .inl (fun _ => 0)))]) := hD
  refine lv_aload_n hx hb dX7_init_13 rfl (lv_at hl 0 rfl) ?_
  refine lv_iconst (v := 0) hx hb dX7_init_14 (by decide) ?_
  refine va_put (D := D) (ci := 7) (v := .int 0) (ty := .int) (C := RX7) (T := TX7) (N := 7) hx hb hts iw_7 tyX7 tyX7_ok nmX7 hown hK hP hD hS 0 rfl rfl 1 (by decide) (hts _ fl_X7_15) (fun _ h9 => h9) rfl (by decide +kernel) rfl rfl (Nat.le_of_ble_eq_true rfl) dX7_init_15 (fun H locs hP hD hS => ?_)
  have hP : va_P D vwCl ([(h0, .inr (7, [.ref q_1, .int 0, .int 0, .int 0, .int 0, .int 0, .int 0])), (q_1, .inl (cy 0, 700, .inl (fun _ => 0)))]) H := hP
  have hD : va_D As ([(h0, .inr (7, [.ref q_1, .int 0, .int 0, .int 0, .int 0, .int 0, .int 0])), (q_1, .inl (cy 0, 700, .inl (fun _ => 0)))]) := hD
  refine lv_aload_n hx hb dX7_init_18 rfl (lv_at hl 0 rfl) ?_
  refine lv_iconst (v := 0) hx hb dX7_init_19 (by decide) ?_
  refine va_put (D := D) (ci := 7) (v := .int 0) (ty := .int) (C := RX7) (T := TX7) (N := 7) hx hb hts iw_7 tyX7 tyX7_ok nmX7 hown hK hP hD hS 0 rfl rfl 2 (by decide) (hts _ fl_X7_19) (fun _ h9 => h9) rfl (by decide +kernel) rfl rfl (Nat.le_of_ble_eq_true rfl) dX7_init_20 (fun H locs hP hD hS => ?_)
  have hP : va_P D vwCl ([(h0, .inr (7, [.ref q_1, .int 0, .int 0, .int 0, .int 0, .int 0, .int 0])), (q_1, .inl (cy 0, 700, .inl (fun _ => 0)))]) H := hP
  have hD : va_D As ([(h0, .inr (7, [.ref q_1, .int 0, .int 0, .int 0, .int 0, .int 0, .int 0])), (q_1, .inl (cy 0, 700, .inl (fun _ => 0)))]) := hD
  refine lv_aload_n hx hb dX7_init_23 rfl (lv_at hl 0 rfl) ?_
  refine lv_iconst (v := 0) hx hb dX7_init_24 (by decide) ?_
  refine va_put (D := D) (ci := 7) (v := .int 0) (ty := .int) (C := RX7) (T := TX7) (N := 7) hx hb hts iw_7 tyX7 tyX7_ok nmX7 hown hK hP hD hS 0 rfl rfl 3 (by decide) (hts _ fl_X7_22) (fun _ h9 => h9) rfl (by decide +kernel) rfl rfl (Nat.le_of_ble_eq_true rfl) dX7_init_25 (fun H locs hP hD hS => ?_)
  have hP : va_P D vwCl ([(h0, .inr (7, [.ref q_1, .int 0, .int 0, .int 0, .int 0, .int 0, .int 0])), (q_1, .inl (cy 0, 700, .inl (fun _ => 0)))]) H := hP
  have hD : va_D As ([(h0, .inr (7, [.ref q_1, .int 0, .int 0, .int 0, .int 0, .int 0, .int 0])), (q_1, .inl (cy 0, 700, .inl (fun _ => 0)))]) := hD
  refine W.widen (k := 1) (n := 700) (Nat.le_of_ble_eq_true rfl) (Nat.le_of_ble_eq_true rfl) ?_
  exact hQ (fun j : Nat => if j = 0 then h0 else if j = 1 then q_1 else 0) _ _ _ _ rfl hP hD hS dX7_init_28
def ti_rb (cy : Nat → ClassId) (u : Nat × (Nat → Nat)) : va_W := (u.1, .inr (4, [.ref (u.2 0), .null, .null, .int 0, .int 0, .int (-1)])) :: ti_kb cy u.2
set_option maxHeartbeats 8000000 in
set_option maxRecDepth 100000 in
theorem k_X4_init (l : Launch) (D : va_G) (cy : Nat → ClassId) (h0 sz : Nat) : ti_Kc l yX4_init cX4_init 1 2 2 707 D cy h0 sz (.inr (4, [.null, .null, .null, .int 0, .int 0, .int 0])) (fun u : Nat × (Nat → Nat) => u.1 = h0) (fun u => ti_rb cy u) := by
  refine ti_eC yp_X4_init (by decide) rfl ?_
  intro p e s m args below meth c Q H0 As C hQ hP hD hS hA ls hl
  have hx := C.1
  have hb := C.2.1
  have hts := C.2.2.1
  have hown := C.2.2.2.1
  have hK := C.2.2.2.2.1
  have hml := C.2.2.2.2.2.1
  have hin := C.2.2.2.2.2.2.1
  have hN := C.2.2.2.2.2.2.2
  refine lv_aload_n hx hb dX4_init_0 rfl (lv_at hl 0 rfl) ?_
  refine W.objInit hx hb hown (hts _ oi_X4_3) (hts _ oi_m) (hts _ oi_c) rfl (by rw [hml]; exact hl.1) rfl dX4_init_1 (Nat.le_of_ble_eq_true rfl) (Nat.le_of_ble_eq_true rfl) ?_
  refine W.eq (g2 := F0 m 4 ls []) rfl ?_
  refine lv_aload_n hx hb dX4_init_4 rfl (lv_at hl 0 rfl) ?_
  refine ti_nO (ci := 7) (fs := [.null, .int 0, .int 0, .int 0, .int 0, .int 0, .int 0]) (T := TX7) (N := 7) tyX7 tyX7_ok C iw_7 ck_X4_9 is_X7 in_X7 rfl hP hD hS hA nf_7 1 7 (Nat.le_of_ble_eq_true rfl) (Nat.le_of_ble_eq_true rfl) ⟨Nat.le_of_ble_eq_true rfl, Nat.le_of_ble_eq_true rfl⟩ dX4_init_5 (fun q_1 H hP hD hS => ?_)
  refine lv_dup hx hb dX4_init_8 rfl ?_
  refine ti_callCN C (k_X7_init l D cy q_1 H.size) (nl_X4_11 hN) rfl ym_X7_init yi_X7_init yc_X7_init yd_X7_init hP hD hS hA hl.1 (Nat.le_of_ble_eq_true rfl) ⟨by decide, by decide⟩ 2 707 (Nat.le_of_ble_eq_true rfl) (Nat.le_of_ble_eq_true rfl) ⟨Nat.le_of_ble_eq_true rfl, Nat.le_of_ble_eq_true rfl⟩ dX4_init_9 (fun u_2 H locs hp_2 hPn hDn hSn => ?_)
  obtain rfl := hp_2
  obtain ⟨X_3, hX_3⟩ : ∃ Z : va_W, Z = [] ++ ti_kb cy u_2 := ⟨_, rfl⟩
  have hP : va_P D vwCl ((h0, .inr (4, [.null, .null, .null, .int 0, .int 0, .int 0])) :: X_3) H := by rw [hX_3]; exact hPn
  have hD : va_D As ((h0, .inr (4, [.null, .null, .null, .int 0, .int 0, .int 0])) :: X_3) := by rw [hX_3]; exact hDn
  have hS := hSn
  refine va_putF (D := D) (ci := 4) (v := .ref (u_2 0)) (ty := (.object "ThirdInLine$Tokens")) (C := RX4) (T := TX4) (N := 6) hx hb hts iw_4 tyX4 tyX4_ok nmX4 hown hK hP hD hS 0 rfl rfl 0 (by decide) (hts _ fl_X4_12) (fun _ h9 => h9) rfl hin rfl (by decide +kernel) rfl rfl (Nat.le_of_ble_eq_true rfl) dX4_init_12 (fun H locs hP hD hS => ?_)
  have hP : va_P D vwCl ((h0, .inr (4, [.ref (u_2 0), .null, .null, .int 0, .int 0, .int 0])) :: X_3) H := hP
  have hD : va_D As ((h0, .inr (4, [.ref (u_2 0), .null, .null, .int 0, .int 0, .int 0])) :: X_3) := hD
  refine lv_aload_n hx hb dX4_init_15 rfl (lv_at hl 0 rfl) ?_
  refine lv_iconst (v := 0) hx hb dX4_init_16 (by decide) ?_
  refine va_put (D := D) (ci := 4) (v := .int 0) (ty := .int) (C := RX4) (T := TX4) (N := 6) hx hb hts iw_4 tyX4 tyX4_ok nmX4 hown hK hP hD hS 0 rfl rfl 3 (by decide) (hts _ fl_X4_18) (fun _ h9 => h9) rfl (by decide +kernel) rfl rfl (Nat.le_of_ble_eq_true rfl) dX4_init_17 (fun H locs hP hD hS => ?_)
  have hP : va_P D vwCl ((h0, .inr (4, [.ref (u_2 0), .null, .null, .int 0, .int 0, .int 0])) :: X_3) H := hP
  have hD : va_D As ((h0, .inr (4, [.ref (u_2 0), .null, .null, .int 0, .int 0, .int 0])) :: X_3) := hD
  refine lv_aload_n hx hb dX4_init_20 rfl (lv_at hl 0 rfl) ?_
  refine lv_iconst (v := 0) hx hb dX4_init_21 (by decide) ?_
  refine va_put (D := D) (ci := 4) (v := .int 0) (ty := .int) (C := RX4) (T := TX4) (N := 6) hx hb hts iw_4 tyX4 tyX4_ok nmX4 hown hK hP hD hS 0 rfl rfl 4 (by decide) (hts _ fl_X4_22) (fun _ h9 => h9) rfl (by decide +kernel) rfl rfl (Nat.le_of_ble_eq_true rfl) dX4_init_22 (fun H locs hP hD hS => ?_)
  have hP : va_P D vwCl ((h0, .inr (4, [.ref (u_2 0), .null, .null, .int 0, .int 0, .int 0])) :: X_3) H := hP
  have hD : va_D As ((h0, .inr (4, [.ref (u_2 0), .null, .null, .int 0, .int 0, .int 0])) :: X_3) := hD
  refine lv_aload_n hx hb dX4_init_25 rfl (lv_at hl 0 rfl) ?_
  refine lv_iconst (v := (-1)) hx hb dX4_init_26 (by decide) ?_
  refine va_put (D := D) (ci := 4) (v := .int (-1)) (ty := .int) (C := RX4) (T := TX4) (N := 6) hx hb hts iw_4 tyX4 tyX4_ok nmX4 hown hK hP hD hS 0 rfl rfl 5 (by decide) (hts _ fl_X4_25) (fun _ h9 => h9) rfl (by decide +kernel) rfl rfl (Nat.le_of_ble_eq_true rfl) dX4_init_27 (fun H locs hP hD hS => ?_)
  have hP : va_P D vwCl ((h0, .inr (4, [.ref (u_2 0), .null, .null, .int 0, .int 0, .int (-1)])) :: X_3) H := hP
  have hD : va_D As ((h0, .inr (4, [.ref (u_2 0), .null, .null, .int 0, .int 0, .int (-1)])) :: X_3) := hD
  refine W.widen (k := 2) (n := 707) (Nat.le_of_ble_eq_true rfl) (Nat.le_of_ble_eq_true rfl) ?_
  simp only [hX_3, List.nil_append, List.append_assoc, List.cons_append] at hP hD
  exact hQ (h0, u_2) _ _ _ _ rfl hP hD hS dX4_init_30
def ti_cb (cy : Nat → ClassId) (u : (Nat → Nat) × (Nat → Nat) × (Nat → Nat)) : va_W := (u.1 0, .inr (0, [.ref (u.2.1 0), .ref (u.2.2 0), .ref (u.1 3), .ref (u.1 4), .ref (u.1 5), .int 0])) :: (ti_qb cy u.2.1 ++ (ti_qb cy u.2.2 ++ [(u.1 3, .inl (cy 1, 16, .inl (fun _ => 0))), (u.1 4, .inl (cy 1, 16, .inl (fun _ => 0))), (u.1 5, .inl (cy 1, 16, .inl (fun _ => 0)))]))
set_option maxHeartbeats 8000000 in
set_option maxRecDepth 100000 in
theorem k_X0_init (l : Launch) (D : va_G) (cy : Nat → ClassId) (h0 sz : Nat) : ti_Kc l yX0_init cX0_init 1 2 27 248 D cy h0 sz (.inr (0, [.null, .null, .null, .null, .null, .int 0])) (fun u : (Nat → Nat) × (Nat → Nat) × (Nat → Nat) => u.1 0 = h0) (fun u => ti_cb cy u) := by
  refine ti_eC yp_X0_init (by decide) rfl ?_
  intro p e s m args below meth c Q H0 As C hQ hP hD hS hA ls hl
  have hx := C.1
  have hb := C.2.1
  have hts := C.2.2.1
  have hown := C.2.2.2.1
  have hK := C.2.2.2.2.1
  have hml := C.2.2.2.2.2.1
  have hin := C.2.2.2.2.2.2.1
  have hN := C.2.2.2.2.2.2.2
  refine lv_aload_n hx hb dX0_init_0 rfl (lv_at hl 0 rfl) ?_
  refine W.objInit hx hb hown (hts _ oi_X0_3) (hts _ oi_m) (hts _ oi_c) rfl (by rw [hml]; exact hl.1) rfl dX0_init_1 (Nat.le_of_ble_eq_true rfl) (Nat.le_of_ble_eq_true rfl) ?_
  refine W.eq (g2 := F0 m 4 ls []) rfl ?_
  refine lv_aload_n hx hb dX0_init_4 rfl (lv_at hl 0 rfl) ?_
  refine ti_nO (ci := 3) (fs := [.null, .int 0, .int 0, .int 0, .int 0, .int 0, .null, .null, .null, .null, .null, .null, .null, .null, .null, .null, .null]) (T := TX3) (N := 17) tyX3 tyX3_ok C iw_3 ck_X0_9 is_X3 in_X3 rfl hP hD hS hA nf_3 1 17 (Nat.le_of_ble_eq_true rfl) (Nat.le_of_ble_eq_true rfl) ⟨Nat.le_of_ble_eq_true rfl, Nat.le_of_ble_eq_true rfl⟩ dX0_init_5 (fun q_1 H hP hD hS => ?_)
  refine lv_dup hx hb dX0_init_8 rfl ?_
  refine ti_callCN C (k_X3_init l D cy q_1 H.size) (nl_X0_11 hN) rfl ym_X3_init yi_X3_init yc_X3_init yd_X3_init hP hD hS hA hl.1 (Nat.le_of_ble_eq_true rfl) ⟨by decide, by decide⟩ 12 100 (Nat.le_of_ble_eq_true rfl) (Nat.le_of_ble_eq_true rfl) ⟨Nat.le_of_ble_eq_true rfl, Nat.le_of_ble_eq_true rfl⟩ dX0_init_9 (fun u_2 H locs hp_2 hPn hDn hSn => ?_)
  obtain rfl := hp_2
  obtain ⟨X_3, hX_3⟩ : ∃ Z : va_W, Z = [] ++ ti_qb cy u_2 := ⟨_, rfl⟩
  have hP : va_P D vwCl ((h0, .inr (0, [.null, .null, .null, .null, .null, .int 0])) :: X_3) H := by rw [hX_3]; exact hPn
  have hD : va_D As ((h0, .inr (0, [.null, .null, .null, .null, .null, .int 0])) :: X_3) := by rw [hX_3]; exact hDn
  have hS := hSn
  refine va_putF (D := D) (ci := 0) (v := .ref (u_2 0)) (ty := (.object "ThirdInLine$Queue")) (C := RX0) (T := TX0) (N := 6) hx hb hts iw_0 tyX0 tyX0_ok nmX0 hown hK hP hD hS 0 rfl rfl 0 (by decide) (hts _ fl_X0_12) (fun _ h9 => h9) rfl hin rfl (by decide +kernel) rfl rfl (Nat.le_of_ble_eq_true rfl) dX0_init_12 (fun H locs hP hD hS => ?_)
  have hP : va_P D vwCl ((h0, .inr (0, [.ref (u_2 0), .null, .null, .null, .null, .int 0])) :: X_3) H := hP
  have hD : va_D As ((h0, .inr (0, [.ref (u_2 0), .null, .null, .null, .null, .int 0])) :: X_3) := hD
  refine lv_aload_n hx hb dX0_init_15 rfl (lv_at hl 0 rfl) ?_
  refine ti_nO (ci := 3) (fs := [.null, .int 0, .int 0, .int 0, .int 0, .int 0, .null, .null, .null, .null, .null, .null, .null, .null, .null, .null, .null]) (T := TX3) (N := 17) tyX3 tyX3_ok C iw_3 ck_X0_9 is_X3 in_X3 rfl hP hD hS hA nf_3 13 117 (Nat.le_of_ble_eq_true rfl) (Nat.le_of_ble_eq_true rfl) ⟨Nat.le_of_ble_eq_true rfl, Nat.le_of_ble_eq_true rfl⟩ dX0_init_16 (fun q_4 H hP hD hS => ?_)
  refine lv_dup hx hb dX0_init_19 rfl ?_
  refine ti_callCN C (k_X3_init l D cy q_4 H.size) (nl_X0_11 hN) rfl ym_X3_init yi_X3_init yc_X3_init yd_X3_init hP hD hS hA hl.1 (Nat.le_of_ble_eq_true rfl) ⟨by decide, by decide⟩ 24 200 (Nat.le_of_ble_eq_true rfl) (Nat.le_of_ble_eq_true rfl) ⟨Nat.le_of_ble_eq_true rfl, Nat.le_of_ble_eq_true rfl⟩ dX0_init_20 (fun u_5 H locs hp_5 hPn hDn hSn => ?_)
  obtain rfl := hp_5
  obtain ⟨X_6, hX_6⟩ : ∃ Z : va_W, Z = X_3 ++ ti_qb cy u_5 := ⟨_, rfl⟩
  have hP : va_P D vwCl ((h0, .inr (0, [.ref (u_2 0), .null, .null, .null, .null, .int 0])) :: X_6) H := by rw [hX_6]; exact hPn
  have hD : va_D As ((h0, .inr (0, [.ref (u_2 0), .null, .null, .null, .null, .int 0])) :: X_6) := by rw [hX_6]; exact hDn
  have hS := hSn
  refine va_putF (D := D) (ci := 0) (v := .ref (u_5 0)) (ty := (.object "ThirdInLine$Queue")) (C := RX0) (T := TX0) (N := 6) hx hb hts iw_0 tyX0 tyX0_ok nmX0 hown hK hP hD hS 0 rfl rfl 1 (by decide) (hts _ fl_X0_18) (fun _ h9 => h9) rfl hin rfl (by decide +kernel) rfl rfl (Nat.le_of_ble_eq_true rfl) dX0_init_23 (fun H locs hP hD hS => ?_)
  have hP : va_P D vwCl ((h0, .inr (0, [.ref (u_2 0), .ref (u_5 0), .null, .null, .null, .int 0])) :: X_6) H := hP
  have hD : va_D As ((h0, .inr (0, [.ref (u_2 0), .ref (u_5 0), .null, .null, .null, .int 0])) :: X_6) := hD
  refine lv_aload_n hx hb dX0_init_26 rfl (lv_at hl 0 rfl) ?_
  refine lv_bipush (v := 16) hx hb dX0_init_27 (by decide) ?_
  refine ti_nA (atype := .int) (a0 := (16, .inl (fun _ => 0))) 1 C ac_int rfl (fun C h => by cases h) rfl hP hD hS hA (fun _ => rfl) (by decide) (by decide) (Nat.le_of_ble_eq_true rfl) 25 216 (Nat.le_of_ble_eq_true rfl) (Nat.le_of_ble_eq_true rfl) ⟨Nat.le_of_ble_eq_true rfl, Nat.le_of_ble_eq_true rfl⟩ dX0_init_29 (fun q_7 H hP hD hS => ?_)
  obtain ⟨X_8, hX_8⟩ : ∃ Z : va_W, Z = X_6 ++ [(q_7, .inl (cy 1, 16, .inl (fun _ => 0)))] := ⟨_, rfl⟩
  have hP : va_P D vwCl ((h0, .inr (0, [.ref (u_2 0), .ref (u_5 0), .null, .null, .null, .int 0])) :: X_8) H := by rw [hX_8]; exact hP
  have hD : va_D As ((h0, .inr (0, [.ref (u_2 0), .ref (u_5 0), .null, .null, .null, .int 0])) :: X_8) := by rw [hX_8]; exact hD
  refine va_putF (D := D) (ci := 0) (v := .ref q_7) (ty := (.array .int)) (C := RX0) (T := TX0) (N := 6) hx hb hts iw_0 tyX0 tyX0_ok nmX0 hown hK hP hD hS 0 rfl rfl 2 (by decide) (hts _ fl_X0_21) (fun _ h9 => h9) rfl hin rfl (by decide +kernel) rfl rfl (Nat.le_of_ble_eq_true rfl) dX0_init_31 (fun H locs hP hD hS => ?_)
  have hP : va_P D vwCl ((h0, .inr (0, [.ref (u_2 0), .ref (u_5 0), .ref q_7, .null, .null, .int 0])) :: X_8) H := hP
  have hD : va_D As ((h0, .inr (0, [.ref (u_2 0), .ref (u_5 0), .ref q_7, .null, .null, .int 0])) :: X_8) := hD
  refine lv_aload_n hx hb dX0_init_34 rfl (lv_at hl 0 rfl) ?_
  refine lv_bipush (v := 16) hx hb dX0_init_35 (by decide) ?_
  refine ti_nA (atype := .int) (a0 := (16, .inl (fun _ => 0))) 1 C ac_int rfl (fun C h => by cases h) rfl hP hD hS hA (fun _ => rfl) (by decide) (by decide) (Nat.le_of_ble_eq_true rfl) 26 232 (Nat.le_of_ble_eq_true rfl) (Nat.le_of_ble_eq_true rfl) ⟨Nat.le_of_ble_eq_true rfl, Nat.le_of_ble_eq_true rfl⟩ dX0_init_37 (fun q_9 H hP hD hS => ?_)
  obtain ⟨X_10, hX_10⟩ : ∃ Z : va_W, Z = X_8 ++ [(q_9, .inl (cy 1, 16, .inl (fun _ => 0)))] := ⟨_, rfl⟩
  have hP : va_P D vwCl ((h0, .inr (0, [.ref (u_2 0), .ref (u_5 0), .ref q_7, .null, .null, .int 0])) :: X_10) H := by rw [hX_10]; exact hP
  have hD : va_D As ((h0, .inr (0, [.ref (u_2 0), .ref (u_5 0), .ref q_7, .null, .null, .int 0])) :: X_10) := by rw [hX_10]; exact hD
  refine va_putF (D := D) (ci := 0) (v := .ref q_9) (ty := (.array .int)) (C := RX0) (T := TX0) (N := 6) hx hb hts iw_0 tyX0 tyX0_ok nmX0 hown hK hP hD hS 0 rfl rfl 3 (by decide) (hts _ fl_X0_25) (fun _ h9 => h9) rfl hin rfl (by decide +kernel) rfl rfl (Nat.le_of_ble_eq_true rfl) dX0_init_39 (fun H locs hP hD hS => ?_)
  have hP : va_P D vwCl ((h0, .inr (0, [.ref (u_2 0), .ref (u_5 0), .ref q_7, .ref q_9, .null, .int 0])) :: X_10) H := hP
  have hD : va_D As ((h0, .inr (0, [.ref (u_2 0), .ref (u_5 0), .ref q_7, .ref q_9, .null, .int 0])) :: X_10) := hD
  refine lv_aload_n hx hb dX0_init_42 rfl (lv_at hl 0 rfl) ?_
  refine lv_bipush (v := 16) hx hb dX0_init_43 (by decide) ?_
  refine ti_nA (atype := .int) (a0 := (16, .inl (fun _ => 0))) 1 C ac_int rfl (fun C h => by cases h) rfl hP hD hS hA (fun _ => rfl) (by decide) (by decide) (Nat.le_of_ble_eq_true rfl) 27 248 (Nat.le_of_ble_eq_true rfl) (Nat.le_of_ble_eq_true rfl) ⟨Nat.le_of_ble_eq_true rfl, Nat.le_of_ble_eq_true rfl⟩ dX0_init_45 (fun q_11 H hP hD hS => ?_)
  obtain ⟨X_12, hX_12⟩ : ∃ Z : va_W, Z = X_10 ++ [(q_11, .inl (cy 1, 16, .inl (fun _ => 0)))] := ⟨_, rfl⟩
  have hP : va_P D vwCl ((h0, .inr (0, [.ref (u_2 0), .ref (u_5 0), .ref q_7, .ref q_9, .null, .int 0])) :: X_12) H := by rw [hX_12]; exact hP
  have hD : va_D As ((h0, .inr (0, [.ref (u_2 0), .ref (u_5 0), .ref q_7, .ref q_9, .null, .int 0])) :: X_12) := by rw [hX_12]; exact hD
  refine va_putF (D := D) (ci := 0) (v := .ref q_11) (ty := (.array .int)) (C := RX0) (T := TX0) (N := 6) hx hb hts iw_0 tyX0 tyX0_ok nmX0 hown hK hP hD hS 0 rfl rfl 4 (by decide) (hts _ fl_X0_28) (fun _ h9 => h9) rfl hin rfl (by decide +kernel) rfl rfl (Nat.le_of_ble_eq_true rfl) dX0_init_47 (fun H locs hP hD hS => ?_)
  have hP : va_P D vwCl ((h0, .inr (0, [.ref (u_2 0), .ref (u_5 0), .ref q_7, .ref q_9, .ref q_11, .int 0])) :: X_12) H := hP
  have hD : va_D As ((h0, .inr (0, [.ref (u_2 0), .ref (u_5 0), .ref q_7, .ref q_9, .ref q_11, .int 0])) :: X_12) := hD
  refine lv_aload_n hx hb dX0_init_50 rfl (lv_at hl 0 rfl) ?_
  refine lv_iconst (v := 0) hx hb dX0_init_51 (by decide) ?_
  refine va_put (D := D) (ci := 0) (v := .int 0) (ty := .int) (C := RX0) (T := TX0) (N := 6) hx hb hts iw_0 tyX0 tyX0_ok nmX0 hown hK hP hD hS 0 rfl rfl 5 (by decide) (hts _ fl_X0_31) (fun _ h9 => h9) rfl (by decide +kernel) rfl rfl (Nat.le_of_ble_eq_true rfl) dX0_init_52 (fun H locs hP hD hS => ?_)
  have hP : va_P D vwCl ((h0, .inr (0, [.ref (u_2 0), .ref (u_5 0), .ref q_7, .ref q_9, .ref q_11, .int 0])) :: X_12) H := hP
  have hD : va_D As ((h0, .inr (0, [.ref (u_2 0), .ref (u_5 0), .ref q_7, .ref q_9, .ref q_11, .int 0])) :: X_12) := hD
  refine W.widen (k := 27) (n := 248) (Nat.le_of_ble_eq_true rfl) (Nat.le_of_ble_eq_true rfl) ?_
  simp only [hX_12, hX_10, hX_8, hX_6, hX_3, List.nil_append, List.append_assoc, List.cons_append] at hP hD
  exact hQ ((fun j : Nat => if j = 0 then h0 else if j = 3 then q_7 else if j = 4 then q_9 else if j = 5 then q_11 else 0), u_2, u_5) _ _ _ _ rfl hP hD hS dX0_init_55
def ti_sb (cy : Nat → ClassId) (u : (Nat → Nat) × (Nat → Nat) × (Nat → Nat)) : va_W := (u.1 0, .inr (6, [.ref (u.1 1), .ref (u.1 2), .ref (u.1 3), .ref (u.1 4), .int 0, .int 0, .int (-1), .int 0, .ref (u.1 9), .ref (u.1 10), .int 0, .ref (u.2.1 0), .ref (u.2.2 0)])) :: ([(u.1 1, .inl (cy 1, 24, .inl (fun _ => 0))), (u.1 2, .inl (cy 1, 24, .inl (fun _ => 0))), (u.1 3, .inl (cy 1, 24, .inl (fun _ => 0))), (u.1 4, .inl (cy 1, 24, .inl (fun _ => 0))), (u.1 9, .inl (cy 1, 480, .inl (fun _ => 0))), (u.1 10, .inl (cy 1, 480, .inl (fun _ => 0)))] ++ (ti_qb cy u.2.1 ++ ti_qb cy u.2.2))
set_option maxHeartbeats 8000000 in
set_option maxRecDepth 100000 in
theorem k_X6_init (l : Launch) (D : va_G) (cy : Nat → ClassId) (h0 sz : Nat) : ti_Kc l yX6_init cX6_init 1 2 30 1256 D cy h0 sz (.inr (6, [.null, .null, .null, .null, .int 0, .int 0, .int 0, .int 0, .null, .null, .int 0, .null, .null])) (fun u : (Nat → Nat) × (Nat → Nat) × (Nat → Nat) => u.1 0 = h0) (fun u => ti_sb cy u) := by
  refine ti_eC yp_X6_init (by decide) rfl ?_
  intro p e s m args below meth c Q H0 As C hQ hP hD hS hA ls hl
  have hx := C.1
  have hb := C.2.1
  have hts := C.2.2.1
  have hown := C.2.2.2.1
  have hK := C.2.2.2.2.1
  have hml := C.2.2.2.2.2.1
  have hin := C.2.2.2.2.2.2.1
  have hN := C.2.2.2.2.2.2.2
  refine lv_aload_n hx hb dX6_init_0 rfl (lv_at hl 0 rfl) ?_
  refine W.objInit hx hb hown (hts _ oi_X6_3) (hts _ oi_m) (hts _ oi_c) rfl (by rw [hml]; exact hl.1) rfl dX6_init_1 (Nat.le_of_ble_eq_true rfl) (Nat.le_of_ble_eq_true rfl) ?_
  refine W.eq (g2 := F0 m 4 ls []) rfl ?_
  refine lv_aload_n hx hb dX6_init_4 rfl (lv_at hl 0 rfl) ?_
  refine lv_bipush (v := 24) hx hb dX6_init_5 (by decide) ?_
  refine ti_nA (atype := .int) (a0 := (24, .inl (fun _ => 0))) 1 C ac_int rfl (fun C h => by cases h) rfl hP hD hS hA (fun _ => rfl) (by decide) (by decide) (Nat.le_of_ble_eq_true rfl) 1 24 (Nat.le_of_ble_eq_true rfl) (Nat.le_of_ble_eq_true rfl) ⟨Nat.le_of_ble_eq_true rfl, Nat.le_of_ble_eq_true rfl⟩ dX6_init_7 (fun q_1 H hP hD hS => ?_)
  obtain ⟨X_2, hX_2⟩ : ∃ Z : va_W, Z = [] ++ [(q_1, .inl (cy 1, 24, .inl (fun _ => 0)))] := ⟨_, rfl⟩
  have hP : va_P D vwCl ((h0, .inr (6, [.null, .null, .null, .null, .int 0, .int 0, .int 0, .int 0, .null, .null, .int 0, .null, .null])) :: X_2) H := by rw [hX_2]; exact hP
  have hD : va_D As ((h0, .inr (6, [.null, .null, .null, .null, .int 0, .int 0, .int 0, .int 0, .null, .null, .int 0, .null, .null])) :: X_2) := by rw [hX_2]; exact hD
  refine va_putF (D := D) (ci := 6) (v := .ref q_1) (ty := (.array .int)) (C := RX6) (T := TX6) (N := 13) hx hb hts iw_6 tyX6 tyX6_ok nmX6 hown hK hP hD hS 0 rfl rfl 0 (by decide) (hts _ fl_X6_9) (fun _ h9 => h9) rfl hin rfl (by decide +kernel) rfl rfl (Nat.le_of_ble_eq_true rfl) dX6_init_9 (fun H locs hP hD hS => ?_)
  have hP : va_P D vwCl ((h0, .inr (6, [.ref q_1, .null, .null, .null, .int 0, .int 0, .int 0, .int 0, .null, .null, .int 0, .null, .null])) :: X_2) H := hP
  have hD : va_D As ((h0, .inr (6, [.ref q_1, .null, .null, .null, .int 0, .int 0, .int 0, .int 0, .null, .null, .int 0, .null, .null])) :: X_2) := hD
  refine lv_aload_n hx hb dX6_init_12 rfl (lv_at hl 0 rfl) ?_
  refine lv_bipush (v := 24) hx hb dX6_init_13 (by decide) ?_
  refine ti_nA (atype := .int) (a0 := (24, .inl (fun _ => 0))) 1 C ac_int rfl (fun C h => by cases h) rfl hP hD hS hA (fun _ => rfl) (by decide) (by decide) (Nat.le_of_ble_eq_true rfl) 2 48 (Nat.le_of_ble_eq_true rfl) (Nat.le_of_ble_eq_true rfl) ⟨Nat.le_of_ble_eq_true rfl, Nat.le_of_ble_eq_true rfl⟩ dX6_init_15 (fun q_3 H hP hD hS => ?_)
  obtain ⟨X_4, hX_4⟩ : ∃ Z : va_W, Z = X_2 ++ [(q_3, .inl (cy 1, 24, .inl (fun _ => 0)))] := ⟨_, rfl⟩
  have hP : va_P D vwCl ((h0, .inr (6, [.ref q_1, .null, .null, .null, .int 0, .int 0, .int 0, .int 0, .null, .null, .int 0, .null, .null])) :: X_4) H := by rw [hX_4]; exact hP
  have hD : va_D As ((h0, .inr (6, [.ref q_1, .null, .null, .null, .int 0, .int 0, .int 0, .int 0, .null, .null, .int 0, .null, .null])) :: X_4) := by rw [hX_4]; exact hD
  refine va_putF (D := D) (ci := 6) (v := .ref q_3) (ty := (.array .int)) (C := RX6) (T := TX6) (N := 13) hx hb hts iw_6 tyX6 tyX6_ok nmX6 hown hK hP hD hS 0 rfl rfl 1 (by decide) (hts _ fl_X6_15) (fun _ h9 => h9) rfl hin rfl (by decide +kernel) rfl rfl (Nat.le_of_ble_eq_true rfl) dX6_init_17 (fun H locs hP hD hS => ?_)
  have hP : va_P D vwCl ((h0, .inr (6, [.ref q_1, .ref q_3, .null, .null, .int 0, .int 0, .int 0, .int 0, .null, .null, .int 0, .null, .null])) :: X_4) H := hP
  have hD : va_D As ((h0, .inr (6, [.ref q_1, .ref q_3, .null, .null, .int 0, .int 0, .int 0, .int 0, .null, .null, .int 0, .null, .null])) :: X_4) := hD
  refine lv_aload_n hx hb dX6_init_20 rfl (lv_at hl 0 rfl) ?_
  refine lv_bipush (v := 24) hx hb dX6_init_21 (by decide) ?_
  refine ti_nA (atype := .int) (a0 := (24, .inl (fun _ => 0))) 1 C ac_int rfl (fun C h => by cases h) rfl hP hD hS hA (fun _ => rfl) (by decide) (by decide) (Nat.le_of_ble_eq_true rfl) 3 72 (Nat.le_of_ble_eq_true rfl) (Nat.le_of_ble_eq_true rfl) ⟨Nat.le_of_ble_eq_true rfl, Nat.le_of_ble_eq_true rfl⟩ dX6_init_23 (fun q_5 H hP hD hS => ?_)
  obtain ⟨X_6, hX_6⟩ : ∃ Z : va_W, Z = X_4 ++ [(q_5, .inl (cy 1, 24, .inl (fun _ => 0)))] := ⟨_, rfl⟩
  have hP : va_P D vwCl ((h0, .inr (6, [.ref q_1, .ref q_3, .null, .null, .int 0, .int 0, .int 0, .int 0, .null, .null, .int 0, .null, .null])) :: X_6) H := by rw [hX_6]; exact hP
  have hD : va_D As ((h0, .inr (6, [.ref q_1, .ref q_3, .null, .null, .int 0, .int 0, .int 0, .int 0, .null, .null, .int 0, .null, .null])) :: X_6) := by rw [hX_6]; exact hD
  refine va_putF (D := D) (ci := 6) (v := .ref q_5) (ty := (.array .int)) (C := RX6) (T := TX6) (N := 13) hx hb hts iw_6 tyX6 tyX6_ok nmX6 hown hK hP hD hS 0 rfl rfl 2 (by decide) (hts _ fl_X6_18) (fun _ h9 => h9) rfl hin rfl (by decide +kernel) rfl rfl (Nat.le_of_ble_eq_true rfl) dX6_init_25 (fun H locs hP hD hS => ?_)
  have hP : va_P D vwCl ((h0, .inr (6, [.ref q_1, .ref q_3, .ref q_5, .null, .int 0, .int 0, .int 0, .int 0, .null, .null, .int 0, .null, .null])) :: X_6) H := hP
  have hD : va_D As ((h0, .inr (6, [.ref q_1, .ref q_3, .ref q_5, .null, .int 0, .int 0, .int 0, .int 0, .null, .null, .int 0, .null, .null])) :: X_6) := hD
  refine lv_aload_n hx hb dX6_init_28 rfl (lv_at hl 0 rfl) ?_
  refine lv_bipush (v := 24) hx hb dX6_init_29 (by decide) ?_
  refine ti_nA (atype := .int) (a0 := (24, .inl (fun _ => 0))) 1 C ac_int rfl (fun C h => by cases h) rfl hP hD hS hA (fun _ => rfl) (by decide) (by decide) (Nat.le_of_ble_eq_true rfl) 4 96 (Nat.le_of_ble_eq_true rfl) (Nat.le_of_ble_eq_true rfl) ⟨Nat.le_of_ble_eq_true rfl, Nat.le_of_ble_eq_true rfl⟩ dX6_init_31 (fun q_7 H hP hD hS => ?_)
  obtain ⟨X_8, hX_8⟩ : ∃ Z : va_W, Z = X_6 ++ [(q_7, .inl (cy 1, 24, .inl (fun _ => 0)))] := ⟨_, rfl⟩
  have hP : va_P D vwCl ((h0, .inr (6, [.ref q_1, .ref q_3, .ref q_5, .null, .int 0, .int 0, .int 0, .int 0, .null, .null, .int 0, .null, .null])) :: X_8) H := by rw [hX_8]; exact hP
  have hD : va_D As ((h0, .inr (6, [.ref q_1, .ref q_3, .ref q_5, .null, .int 0, .int 0, .int 0, .int 0, .null, .null, .int 0, .null, .null])) :: X_8) := by rw [hX_8]; exact hD
  refine va_putF (D := D) (ci := 6) (v := .ref q_7) (ty := (.array .int)) (C := RX6) (T := TX6) (N := 13) hx hb hts iw_6 tyX6 tyX6_ok nmX6 hown hK hP hD hS 0 rfl rfl 3 (by decide) (hts _ fl_X6_21) (fun _ h9 => h9) rfl hin rfl (by decide +kernel) rfl rfl (Nat.le_of_ble_eq_true rfl) dX6_init_33 (fun H locs hP hD hS => ?_)
  have hP : va_P D vwCl ((h0, .inr (6, [.ref q_1, .ref q_3, .ref q_5, .ref q_7, .int 0, .int 0, .int 0, .int 0, .null, .null, .int 0, .null, .null])) :: X_8) H := hP
  have hD : va_D As ((h0, .inr (6, [.ref q_1, .ref q_3, .ref q_5, .ref q_7, .int 0, .int 0, .int 0, .int 0, .null, .null, .int 0, .null, .null])) :: X_8) := hD
  refine lv_aload_n hx hb dX6_init_36 rfl (lv_at hl 0 rfl) ?_
  refine lv_iconst (v := 0) hx hb dX6_init_37 (by decide) ?_
  refine va_put (D := D) (ci := 6) (v := .int 0) (ty := .int) (C := RX6) (T := TX6) (N := 13) hx hb hts iw_6 tyX6 tyX6_ok nmX6 hown hK hP hD hS 0 rfl rfl 4 (by decide) (hts _ fl_X6_24) (fun _ h9 => h9) rfl (by decide +kernel) rfl rfl (Nat.le_of_ble_eq_true rfl) dX6_init_38 (fun H locs hP hD hS => ?_)
  have hP : va_P D vwCl ((h0, .inr (6, [.ref q_1, .ref q_3, .ref q_5, .ref q_7, .int 0, .int 0, .int 0, .int 0, .null, .null, .int 0, .null, .null])) :: X_8) H := hP
  have hD : va_D As ((h0, .inr (6, [.ref q_1, .ref q_3, .ref q_5, .ref q_7, .int 0, .int 0, .int 0, .int 0, .null, .null, .int 0, .null, .null])) :: X_8) := hD
  refine lv_aload_n hx hb dX6_init_41 rfl (lv_at hl 0 rfl) ?_
  refine lv_iconst (v := 0) hx hb dX6_init_42 (by decide) ?_
  refine va_put (D := D) (ci := 6) (v := .int 0) (ty := .int) (C := RX6) (T := TX6) (N := 13) hx hb hts iw_6 tyX6 tyX6_ok nmX6 hown hK hP hD hS 0 rfl rfl 5 (by decide) (hts _ fl_X6_28) (fun _ h9 => h9) rfl (by decide +kernel) rfl rfl (Nat.le_of_ble_eq_true rfl) dX6_init_43 (fun H locs hP hD hS => ?_)
  have hP : va_P D vwCl ((h0, .inr (6, [.ref q_1, .ref q_3, .ref q_5, .ref q_7, .int 0, .int 0, .int 0, .int 0, .null, .null, .int 0, .null, .null])) :: X_8) H := hP
  have hD : va_D As ((h0, .inr (6, [.ref q_1, .ref q_3, .ref q_5, .ref q_7, .int 0, .int 0, .int 0, .int 0, .null, .null, .int 0, .null, .null])) :: X_8) := hD
  refine lv_aload_n hx hb dX6_init_46 rfl (lv_at hl 0 rfl) ?_
  refine lv_iconst (v := (-1)) hx hb dX6_init_47 (by decide) ?_
  refine va_put (D := D) (ci := 6) (v := .int (-1)) (ty := .int) (C := RX6) (T := TX6) (N := 13) hx hb hts iw_6 tyX6 tyX6_ok nmX6 hown hK hP hD hS 0 rfl rfl 6 (by decide) (hts _ fl_X6_31) (fun _ h9 => h9) rfl (by decide +kernel) rfl rfl (Nat.le_of_ble_eq_true rfl) dX6_init_48 (fun H locs hP hD hS => ?_)
  have hP : va_P D vwCl ((h0, .inr (6, [.ref q_1, .ref q_3, .ref q_5, .ref q_7, .int 0, .int 0, .int (-1), .int 0, .null, .null, .int 0, .null, .null])) :: X_8) H := hP
  have hD : va_D As ((h0, .inr (6, [.ref q_1, .ref q_3, .ref q_5, .ref q_7, .int 0, .int 0, .int (-1), .int 0, .null, .null, .int 0, .null, .null])) :: X_8) := hD
  refine lv_aload_n hx hb dX6_init_51 rfl (lv_at hl 0 rfl) ?_
  refine lv_iconst (v := 0) hx hb dX6_init_52 (by decide) ?_
  refine va_put (D := D) (ci := 6) (v := .int 0) (ty := .boolean) (C := RX6) (T := TX6) (N := 13) hx hb hts iw_6 tyX6 tyX6_ok nmX6 hown hK hP hD hS 0 rfl rfl 7 (by decide) (hts _ fl_X6_34) (fun _ h9 => h9) rfl (by decide +kernel) rfl rfl (Nat.le_of_ble_eq_true rfl) dX6_init_53 (fun H locs hP hD hS => ?_)
  have hP : va_P D vwCl ((h0, .inr (6, [.ref q_1, .ref q_3, .ref q_5, .ref q_7, .int 0, .int 0, .int (-1), .int 0, .null, .null, .int 0, .null, .null])) :: X_8) H := hP
  have hD : va_D As ((h0, .inr (6, [.ref q_1, .ref q_3, .ref q_5, .ref q_7, .int 0, .int 0, .int (-1), .int 0, .null, .null, .int 0, .null, .null])) :: X_8) := hD
  refine lv_aload_n hx hb dX6_init_56 rfl (lv_at hl 0 rfl) ?_
  refine lv_sipush (v := 480) hx hb dX6_init_57 (by decide) ?_
  refine ti_nA (atype := .int) (a0 := (480, .inl (fun _ => 0))) 1 C ac_int rfl (fun C h => by cases h) rfl hP hD hS hA (fun _ => rfl) (by decide) (by decide) (Nat.le_of_ble_eq_true rfl) 5 576 (Nat.le_of_ble_eq_true rfl) (Nat.le_of_ble_eq_true rfl) ⟨Nat.le_of_ble_eq_true rfl, Nat.le_of_ble_eq_true rfl⟩ dX6_init_60 (fun q_9 H hP hD hS => ?_)
  obtain ⟨X_10, hX_10⟩ : ∃ Z : va_W, Z = X_8 ++ [(q_9, .inl (cy 1, 480, .inl (fun _ => 0)))] := ⟨_, rfl⟩
  have hP : va_P D vwCl ((h0, .inr (6, [.ref q_1, .ref q_3, .ref q_5, .ref q_7, .int 0, .int 0, .int (-1), .int 0, .null, .null, .int 0, .null, .null])) :: X_10) H := by rw [hX_10]; exact hP
  have hD : va_D As ((h0, .inr (6, [.ref q_1, .ref q_3, .ref q_5, .ref q_7, .int 0, .int 0, .int (-1), .int 0, .null, .null, .int 0, .null, .null])) :: X_10) := by rw [hX_10]; exact hD
  refine va_putF (D := D) (ci := 6) (v := .ref q_9) (ty := (.array .int)) (C := RX6) (T := TX6) (N := 13) hx hb hts iw_6 tyX6 tyX6_ok nmX6 hown hK hP hD hS 0 rfl rfl 8 (by decide) (hts _ fl_X6_38) (fun _ h9 => h9) rfl hin rfl (by decide +kernel) rfl rfl (Nat.le_of_ble_eq_true rfl) dX6_init_62 (fun H locs hP hD hS => ?_)
  have hP : va_P D vwCl ((h0, .inr (6, [.ref q_1, .ref q_3, .ref q_5, .ref q_7, .int 0, .int 0, .int (-1), .int 0, .ref q_9, .null, .int 0, .null, .null])) :: X_10) H := hP
  have hD : va_D As ((h0, .inr (6, [.ref q_1, .ref q_3, .ref q_5, .ref q_7, .int 0, .int 0, .int (-1), .int 0, .ref q_9, .null, .int 0, .null, .null])) :: X_10) := hD
  refine lv_aload_n hx hb dX6_init_65 rfl (lv_at hl 0 rfl) ?_
  refine lv_sipush (v := 480) hx hb dX6_init_66 (by decide) ?_
  refine ti_nA (atype := .int) (a0 := (480, .inl (fun _ => 0))) 1 C ac_int rfl (fun C h => by cases h) rfl hP hD hS hA (fun _ => rfl) (by decide) (by decide) (Nat.le_of_ble_eq_true rfl) 6 1056 (Nat.le_of_ble_eq_true rfl) (Nat.le_of_ble_eq_true rfl) ⟨Nat.le_of_ble_eq_true rfl, Nat.le_of_ble_eq_true rfl⟩ dX6_init_69 (fun q_11 H hP hD hS => ?_)
  obtain ⟨X_12, hX_12⟩ : ∃ Z : va_W, Z = X_10 ++ [(q_11, .inl (cy 1, 480, .inl (fun _ => 0)))] := ⟨_, rfl⟩
  have hP : va_P D vwCl ((h0, .inr (6, [.ref q_1, .ref q_3, .ref q_5, .ref q_7, .int 0, .int 0, .int (-1), .int 0, .ref q_9, .null, .int 0, .null, .null])) :: X_12) H := by rw [hX_12]; exact hP
  have hD : va_D As ((h0, .inr (6, [.ref q_1, .ref q_3, .ref q_5, .ref q_7, .int 0, .int 0, .int (-1), .int 0, .ref q_9, .null, .int 0, .null, .null])) :: X_12) := by rw [hX_12]; exact hD
  refine va_putF (D := D) (ci := 6) (v := .ref q_11) (ty := (.array .int)) (C := RX6) (T := TX6) (N := 13) hx hb hts iw_6 tyX6 tyX6_ok nmX6 hown hK hP hD hS 0 rfl rfl 9 (by decide) (hts _ fl_X6_41) (fun _ h9 => h9) rfl hin rfl (by decide +kernel) rfl rfl (Nat.le_of_ble_eq_true rfl) dX6_init_71 (fun H locs hP hD hS => ?_)
  have hP : va_P D vwCl ((h0, .inr (6, [.ref q_1, .ref q_3, .ref q_5, .ref q_7, .int 0, .int 0, .int (-1), .int 0, .ref q_9, .ref q_11, .int 0, .null, .null])) :: X_12) H := hP
  have hD : va_D As ((h0, .inr (6, [.ref q_1, .ref q_3, .ref q_5, .ref q_7, .int 0, .int 0, .int (-1), .int 0, .ref q_9, .ref q_11, .int 0, .null, .null])) :: X_12) := hD
  refine lv_aload_n hx hb dX6_init_74 rfl (lv_at hl 0 rfl) ?_
  refine lv_iconst (v := 0) hx hb dX6_init_75 (by decide) ?_
  refine va_put (D := D) (ci := 6) (v := .int 0) (ty := .int) (C := RX6) (T := TX6) (N := 13) hx hb hts iw_6 tyX6 tyX6_ok nmX6 hown hK hP hD hS 0 rfl rfl 10 (by decide) (hts _ fl_X6_44) (fun _ h9 => h9) rfl (by decide +kernel) rfl rfl (Nat.le_of_ble_eq_true rfl) dX6_init_76 (fun H locs hP hD hS => ?_)
  have hP : va_P D vwCl ((h0, .inr (6, [.ref q_1, .ref q_3, .ref q_5, .ref q_7, .int 0, .int 0, .int (-1), .int 0, .ref q_9, .ref q_11, .int 0, .null, .null])) :: X_12) H := hP
  have hD : va_D As ((h0, .inr (6, [.ref q_1, .ref q_3, .ref q_5, .ref q_7, .int 0, .int 0, .int (-1), .int 0, .ref q_9, .ref q_11, .int 0, .null, .null])) :: X_12) := hD
  refine lv_aload_n hx hb dX6_init_79 rfl (lv_at hl 0 rfl) ?_
  refine ti_nO (ci := 3) (fs := [.null, .int 0, .int 0, .int 0, .int 0, .int 0, .null, .null, .null, .null, .null, .null, .null, .null, .null, .null, .null]) (T := TX3) (N := 17) tyX3 tyX3_ok C iw_3 ck_X6_47 is_X3 in_X3 rfl hP hD hS hA nf_3 7 1073 (Nat.le_of_ble_eq_true rfl) (Nat.le_of_ble_eq_true rfl) ⟨Nat.le_of_ble_eq_true rfl, Nat.le_of_ble_eq_true rfl⟩ dX6_init_80 (fun q_13 H hP hD hS => ?_)
  refine lv_dup hx hb dX6_init_83 rfl ?_
  refine ti_callCN C (k_X3_init l D cy q_13 H.size) (nl_X6_49 hN) rfl ym_X3_init yi_X3_init yc_X3_init yd_X3_init hP hD hS hA hl.1 (Nat.le_of_ble_eq_true rfl) ⟨by decide, by decide⟩ 18 1156 (Nat.le_of_ble_eq_true rfl) (Nat.le_of_ble_eq_true rfl) ⟨Nat.le_of_ble_eq_true rfl, Nat.le_of_ble_eq_true rfl⟩ dX6_init_84 (fun u_14 H locs hp_14 hPn hDn hSn => ?_)
  obtain rfl := hp_14
  obtain ⟨X_15, hX_15⟩ : ∃ Z : va_W, Z = X_12 ++ ti_qb cy u_14 := ⟨_, rfl⟩
  have hP : va_P D vwCl ((h0, .inr (6, [.ref q_1, .ref q_3, .ref q_5, .ref q_7, .int 0, .int 0, .int (-1), .int 0, .ref q_9, .ref q_11, .int 0, .null, .null])) :: X_15) H := by rw [hX_15]; exact hPn
  have hD : va_D As ((h0, .inr (6, [.ref q_1, .ref q_3, .ref q_5, .ref q_7, .int 0, .int 0, .int (-1), .int 0, .ref q_9, .ref q_11, .int 0, .null, .null])) :: X_15) := by rw [hX_15]; exact hDn
  have hS := hSn
  refine va_putF (D := D) (ci := 6) (v := .ref (u_14 0)) (ty := (.object "ThirdInLine$Queue")) (C := RX6) (T := TX6) (N := 13) hx hb hts iw_6 tyX6 tyX6_ok nmX6 hown hK hP hD hS 0 rfl rfl 11 (by decide) (hts _ fl_X6_50) (fun _ h9 => h9) rfl hin rfl (by decide +kernel) rfl rfl (Nat.le_of_ble_eq_true rfl) dX6_init_87 (fun H locs hP hD hS => ?_)
  have hP : va_P D vwCl ((h0, .inr (6, [.ref q_1, .ref q_3, .ref q_5, .ref q_7, .int 0, .int 0, .int (-1), .int 0, .ref q_9, .ref q_11, .int 0, .ref (u_14 0), .null])) :: X_15) H := hP
  have hD : va_D As ((h0, .inr (6, [.ref q_1, .ref q_3, .ref q_5, .ref q_7, .int 0, .int 0, .int (-1), .int 0, .ref q_9, .ref q_11, .int 0, .ref (u_14 0), .null])) :: X_15) := hD
  refine lv_aload_n hx hb dX6_init_90 rfl (lv_at hl 0 rfl) ?_
  refine ti_nO (ci := 3) (fs := [.null, .int 0, .int 0, .int 0, .int 0, .int 0, .null, .null, .null, .null, .null, .null, .null, .null, .null, .null, .null]) (T := TX3) (N := 17) tyX3 tyX3_ok C iw_3 ck_X6_47 is_X3 in_X3 rfl hP hD hS hA nf_3 19 1173 (Nat.le_of_ble_eq_true rfl) (Nat.le_of_ble_eq_true rfl) ⟨Nat.le_of_ble_eq_true rfl, Nat.le_of_ble_eq_true rfl⟩ dX6_init_91 (fun q_16 H hP hD hS => ?_)
  refine lv_dup hx hb dX6_init_94 rfl ?_
  refine ti_callCN C (k_X3_init l D cy q_16 H.size) (nl_X6_49 hN) rfl ym_X3_init yi_X3_init yc_X3_init yd_X3_init hP hD hS hA hl.1 (Nat.le_of_ble_eq_true rfl) ⟨by decide, by decide⟩ 30 1256 (Nat.le_of_ble_eq_true rfl) (Nat.le_of_ble_eq_true rfl) ⟨Nat.le_of_ble_eq_true rfl, Nat.le_of_ble_eq_true rfl⟩ dX6_init_95 (fun u_17 H locs hp_17 hPn hDn hSn => ?_)
  obtain rfl := hp_17
  obtain ⟨X_18, hX_18⟩ : ∃ Z : va_W, Z = X_15 ++ ti_qb cy u_17 := ⟨_, rfl⟩
  have hP : va_P D vwCl ((h0, .inr (6, [.ref q_1, .ref q_3, .ref q_5, .ref q_7, .int 0, .int 0, .int (-1), .int 0, .ref q_9, .ref q_11, .int 0, .ref (u_14 0), .null])) :: X_18) H := by rw [hX_18]; exact hPn
  have hD : va_D As ((h0, .inr (6, [.ref q_1, .ref q_3, .ref q_5, .ref q_7, .int 0, .int 0, .int (-1), .int 0, .ref q_9, .ref q_11, .int 0, .ref (u_14 0), .null])) :: X_18) := by rw [hX_18]; exact hDn
  have hS := hSn
  refine va_putF (D := D) (ci := 6) (v := .ref (u_17 0)) (ty := (.object "ThirdInLine$Queue")) (C := RX6) (T := TX6) (N := 13) hx hb hts iw_6 tyX6 tyX6_ok nmX6 hown hK hP hD hS 0 rfl rfl 12 (by decide) (hts _ fl_X6_54) (fun _ h9 => h9) rfl hin rfl (by decide +kernel) rfl rfl (Nat.le_of_ble_eq_true rfl) dX6_init_98 (fun H locs hP hD hS => ?_)
  have hP : va_P D vwCl ((h0, .inr (6, [.ref q_1, .ref q_3, .ref q_5, .ref q_7, .int 0, .int 0, .int (-1), .int 0, .ref q_9, .ref q_11, .int 0, .ref (u_14 0), .ref (u_17 0)])) :: X_18) H := hP
  have hD : va_D As ((h0, .inr (6, [.ref q_1, .ref q_3, .ref q_5, .ref q_7, .int 0, .int 0, .int (-1), .int 0, .ref q_9, .ref q_11, .int 0, .ref (u_14 0), .ref (u_17 0)])) :: X_18) := hD
  refine W.widen (k := 30) (n := 1256) (Nat.le_of_ble_eq_true rfl) (Nat.le_of_ble_eq_true rfl) ?_
  simp only [hX_18, hX_15, hX_12, hX_10, hX_8, hX_6, hX_4, hX_2, List.nil_append, List.append_assoc, List.cons_append] at hP hD
  exact hQ ((fun j : Nat => if j = 0 then h0 else if j = 1 then q_1 else if j = 2 then q_3 else if j = 3 then q_5 else if j = 4 then q_7 else if j = 9 then q_9 else if j = 10 then q_11 else 0), u_14, u_17) _ _ _ _ rfl hP hD hS dX6_init_101

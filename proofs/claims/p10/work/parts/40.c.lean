variable {Tc : gC} {Tm : gM}
def ti_rg (cy : Nat → ClassId) (B : Nat → Nat → Nat) : Nat → va_W | 0 => [] | n + 1 => ti_rg cy B n ++ ti_qb cy (B n)
def ti_rwB (B : Nat → Nat → Nat) : Nat → (Nat → Option Nat) | 0 => fun _ => none | n + 1 => va_up (ti_rwB B n) n (some (B n 0))
theorem ti_rg_c (cy : Nat → ClassId) (B B2 : Nat → Nat → Nat) : ∀ n, (∀ j, j < n → B2 j = B j) → ti_rg cy B2 n = ti_rg cy B n ∧ ti_rwB B2 n = ti_rwB B n := by
  intro n
  induction n with
  | zero => intro _; exact ⟨rfl, rfl⟩
  | succ n ih => intro h; have h1 := ih (fun j hj => h j (by omega)); simp only [ti_rg, ti_rwB, h1.1, h1.2, h n (by omega)]; exact ⟨trivial, trivial⟩
/-- the steps and their ring -/
def ti_pb (cy : Nat → ClassId) (u : Nat × Nat × (Nat → Nat → Nat)) : va_W := (u.1, .inr (5, [.ref u.2.1, .int 0, .int 0])) :: (u.2.1, .inl (cy 6, 20, .inr (.inr (.inr (.inr (ti_rwB u.2.2 20)))))) :: ti_rg cy u.2.2 20
set_option maxHeartbeats 8000000 in
set_option maxRecDepth 100000 in
theorem k_X5_init (l : Launch) (D : va_G) (cy : Nat → ClassId) (h0 sz : Nat) : ti_Kc l yX5_init cX5_init 2 2 241 2020 D cy h0 sz (.inr (5, [.null, .int 0, .int 0])) (fun u : Nat × Nat × (Nat → Nat → Nat) => u.1 = h0) (fun u => ti_pb cy u) := by
  refine ti_eC yp_X5_init (by decide) rfl ?_
  intro p e s m args below meth c Q H0 As C hQ hP hD hS hA ls hl
  have hx := C.1
  have hb := C.2.1
  have hts := C.2.2.1
  have hown := C.2.2.2.1
  have hK := C.2.2.2.2.1
  have hml := C.2.2.2.2.2.1
  have hin := C.2.2.2.2.2.2.1
  have hN := C.2.2.2.2.2.2.2
  refine lv_aload_n hx hb dX5_init_0 rfl (lv_at hl 0 rfl) ?_
  refine W.objInit hx hb hown (hts _ oi_X5_3) (hts _ oi_m) (hts _ oi_c) rfl (by rw [hml]; exact hl.1) rfl dX5_init_1 (Nat.le_of_ble_eq_true rfl) (Nat.le_of_ble_eq_true rfl) ?_
  refine W.eq (g2 := F0 m 4 ls []) rfl ?_
  refine lv_aload_n hx hb dX5_init_4 rfl (lv_at hl 0 rfl) ?_
  refine lv_bipush (v := 20) hx hb dX5_init_5 (by decide) ?_
  refine ti_nQ (Cn := RX3) (N' := 20) 6 C ck_X5_9 (ao_RX3 hN) rfl hP hD hS hA (by decide) (by decide) (Nat.le_of_ble_eq_true rfl) 1 20 (Nat.le_of_ble_eq_true rfl) (Nat.le_of_ble_eq_true rfl) ⟨Nat.le_of_ble_eq_true rfl, Nat.le_of_ble_eq_true rfl⟩ dX5_init_7 (fun q_1 H hP hD hS => ?_)
  have hP : va_P D vwCl ([(h0, .inr (5, [.null, .int 0, .int 0])), (q_1, .inl (cy 6, 20, .inr (.inr (.inr (.inr (fun _ => none))))))]) H := hP
  have hD : va_D As ([(h0, .inr (5, [.null, .int 0, .int 0])), (q_1, .inl (cy 6, 20, .inr (.inr (.inr (.inr (fun _ => none))))))]) := hD
  refine va_putF (D := D) (ci := 5) (v := .ref q_1) (ty := (.array (.object "ThirdInLine$Queue"))) (C := RX5) (T := TX5) (N := 3) hx hb hts iw_5 tyX5 tyX5_ok nmX5 hown hK hP hD hS 0 rfl rfl 0 (by decide) (hts _ fl_X5_11) (fun _ h9 => h9) rfl hin rfl (by decide +kernel) rfl rfl (Nat.le_of_ble_eq_true rfl) dX5_init_10 (fun H locs hP hD hS => ?_)
  have hP : va_P D vwCl ([(h0, .inr (5, [.ref q_1, .int 0, .int 0])), (q_1, .inl (cy 6, 20, .inr (.inr (.inr (.inr (fun _ => none))))))]) H := hP
  have hD : va_D As ([(h0, .inr (5, [.ref q_1, .int 0, .int 0])), (q_1, .inl (cy 6, 20, .inr (.inr (.inr (.inr (fun _ => none))))))]) := hD
  refine lv_aload_n hx hb dX5_init_13 rfl (lv_at hl 0 rfl) ?_
  refine lv_iconst (v := 0) hx hb dX5_init_14 (by decide) ?_
  refine va_put (D := D) (ci := 5) (v := .int 0) (ty := .int) (C := RX5) (T := TX5) (N := 3) hx hb hts iw_5 tyX5 tyX5_ok nmX5 hown hK hP hD hS 0 rfl rfl 1 (by decide) (hts _ fl_X5_17) (fun _ h9 => h9) rfl (by decide +kernel) rfl rfl (Nat.le_of_ble_eq_true rfl) dX5_init_15 (fun H locs hP hD hS => ?_)
  have hP : va_P D vwCl ([(h0, .inr (5, [.ref q_1, .int 0, .int 0])), (q_1, .inl (cy 6, 20, .inr (.inr (.inr (.inr (fun _ => none))))))]) H := hP
  have hD : va_D As ([(h0, .inr (5, [.ref q_1, .int 0, .int 0])), (q_1, .inl (cy 6, 20, .inr (.inr (.inr (.inr (fun _ => none))))))]) := hD
  refine lv_aload_n hx hb dX5_init_18 rfl (lv_at hl 0 rfl) ?_
  refine lv_iconst (v := 0) hx hb dX5_init_19 (by decide) ?_
  refine va_put (D := D) (ci := 5) (v := .int 0) (ty := .int) (C := RX5) (T := TX5) (N := 3) hx hb hts iw_5 tyX5 tyX5_ok nmX5 hown hK hP hD hS 0 rfl rfl 2 (by decide) (hts _ fl_X5_21) (fun _ h9 => h9) rfl (by decide +kernel) rfl rfl (Nat.le_of_ble_eq_true rfl) dX5_init_20 (fun H locs hP hD hS => ?_)
  have hP : va_P D vwCl ([(h0, .inr (5, [.ref q_1, .int 0, .int 0])), (q_1, .inl (cy 6, 20, .inr (.inr (.inr (.inr (fun _ => none))))))]) H := hP
  have hD : va_D As ([(h0, .inr (5, [.ref q_1, .int 0, .int 0])), (q_1, .inl (cy 6, 20, .inr (.inr (.inr (.inr (fun _ => none))))))]) := hD
  refine lv_iconst (v := 0) hx hb dX5_init_23 (by decide) ?_
  refine lv_istore_n (lv' := [(1, .int 0), (0, .ref h0)]) hx hb dX5_init_24 rfl hl (by decide) rfl (fun ls hl => ?_)
  suffices hloop : ∀ (n i : Nat) (B : Nat → Nat → Nat) (H : Heap) (locs : List Loc) (ls : Array Slot), 20 < i + n → i ≤ 20 → va_P D vwCl ((h0, .inr (5, [.ref q_1, .int 0, .int 0])) :: (q_1, .inl (cy 6, 20, .inr (.inr (.inr (.inr (ti_rwB B i)))))) :: ti_rg cy B i) H → va_D As ((h0, .inr (5, [.ref q_1, .int 0, .int 0])) :: (q_1, .inl (cy 6, 20, .inr (.inr (.inr (.inr (ti_rwB B i)))))) :: ti_rg cy B i) → va_S As H0 H locs → lv_has ls 2 [(1, .int (nI i)), (0, .ref h0)] → W p l e (ti_rmc 2 241 2020) s m args below meth c H locs (1 + 12 * i) (20 + 100 * i) Q (F0 m 25 ls []) from
    hloop 21 0 (fun _ _ => 0) _ _ _ (by omega) (by omega) hP hD hS hl
  clear hP hD hS hl ls
  intro n
  induction n with
  | zero => intro i B H locs ls h1 h2; omega
  | succ n ih =>
    intro i B H locs ls hf hi hP hD hS hl
    refine lv_iload_n hx hb dX5_init_25 rfl (lv_at hl 0 rfl) ?_
    refine lv_bipush (v := 20) hx hb dX5_init_26 (by decide) ?_
    refine lv_icmp_ge (tgt := 50) hx hb dX5_init_28 (by decide) (fun c_28 => ?_) (fun c_28 => ?_)
    · have he : i = 20 := by
        have := (nI_leI (a := 20) (b := i) (by decide) (by omega)).mp c_28
        omega
      subst he
      exact hQ (h0, q_1, B) _ _ _ _ rfl hP hD hS dX5_init_50
    · have hlt : i < 20 := by
        rcases Nat.lt_or_ge i 20 with q | q
        · exact q
        · exact absurd ((nI_leI (a := 20) (b := i) (by decide) (by omega)).mpr q) c_28
      refine lv_aload_n hx hb dX5_init_31 rfl (lv_at hl 1 rfl) ?_
      refine va_get (D := D) (ci := 5) (v := .ref q_1) (C := RX5) (T := TX5) (N := 3) hx hb hts iw_5 hown hK hP 0 rfl rfl 0 (by decide) (hts _ fl_X5_11) (fun _ h9 => h9) rfl dX5_init_32 ?_
      refine lv_iload_n hx hb dX5_init_35 rfl (lv_at hl 0 rfl) ?_
      refine ti_nO (ci := 3) (fs := [.null, .int 0, .int 0, .int 0, .int 0, .int 0, .null, .null, .null, .null, .null, .null, .null, .null, .null, .null, .null]) (T := TX3) (N := 17) tyX3 tyX3_ok C iw_3 ck_X5_9 is_X3 in_X3 rfl hP hD hS hA nf_3 (2 + 12 * i) (37 + 100 * i) (by omega) (by omega) ⟨by show 2 + 12 * i ≤ 241; omega, by show 37 + 100 * i ≤ 2020; omega⟩ dX5_init_36 (fun q H hP hD hS => ?_)
      refine lv_dup hx hb dX5_init_39 rfl ?_
      refine ti_callCN C (k_X3_init l D cy q H.size) (nl_X5_24 hN) rfl ym_X3_init yi_X3_init yc_X3_init yd_X3_init hP hD hS hA hl.1 (Nat.le_of_ble_eq_true rfl) ⟨by decide, by decide⟩ (13 + 12 * i) (120 + 100 * i) (by omega) (by omega) ⟨by show 13 + 12 * i ≤ 241; omega, by show 120 + 100 * i ≤ 2020; omega⟩ dX5_init_40 (fun u H locs hp hPn hDn hSn => ?_)
      obtain rfl := hp
      refine va_astq (f := ti_rwB B i) hx hb hK hPn hDn hSn 1 6 ((h0, .inr (5, [.ref q_1, .int 0, .int 0])) :: (q_1, .inl (cy 6, 20, .inr (.inr (.inr (.inr (ti_rwB B i)))))) :: ti_rg cy B i : va_W).length 3 rfl rfl (by rw [List.getElem?_append_right (Nat.le_refl _), Nat.sub_self]; rfl) rfl (vp_in_nI hlt (by decide)) dX5_init_43 (fun H locs hP hD hS => ?_)
      rw [nI_clamp (by omega)] at hP hD
      have hc := ti_rg_c cy B (fun j => if j = i then u else B j) i (fun j hj => if_neg (by omega))
      have e1 : ti_rwB (fun j => if j = i then u else B j) (i + 1) = va_up (ti_rwB B i) i (some (u 0)) := by simp only [ti_rwB, hc.2, if_pos rfl]; rfl
      have e2 : ti_rg cy (fun j => if j = i then u else B j) (i + 1) = ti_rg cy B i ++ ti_qb cy u := by simp only [ti_rg, hc.1, if_true]
      refine lv_iinc (v := nI (i + 1)) (lv' := [(1, .int (nI (i + 1))), (0, .ref h0)]) hx hb dX5_init_44 hl (k := 0) rfl (nI_1 i) (by decide) rfl (fun ls hl => ?_)
      refine lv_goto (tgt := 25) hx hb dX5_init_47 (by decide) ?_
      refine W.widen (k := 1 + 12 * (i + 1)) (n := 20 + 100 * (i + 1)) (by omega) (by omega) ?_
      exact ih (i + 1) (fun j => if j = i then u else B j) _ _ _ (by omega) hlt (by rw [e1, e2]; exact hP) (by rw [e1, e2]; exact hD) hS hl

set_option maxHeartbeats 4000000 in
set_option maxRecDepth 100000 in
theorem lq_sw {p : Program} {l : Launch} {e : Env} {s : State} {m : MethodId} {below : List Frame} {meth : Method} {c : Code} {D : va_G} {cy : Nat → ClassId} {A1 A2 : Nat → Nat → Nat} {M1 M2 : ti_M} {b q3 : Nat} {xs : Nat → Int32} {H : Heap} {locs : List Loc} {ls : Array Slot} (hfl : l.flags = flags0) (h4 : lk_S (lq_F s) s s.heap) (Z : lq_Z p s m meth c D cy A1 A2 b xs) (hw : lq_H s D cy A1 A2 M1 M2 H locs) (h1 : ti_F M1) (h2 : ti_FM M2) (hl : lv_has ls 7 [(4, .int 0), (3, .ref q3), (2, .ref (A2 60 0)), (1, .ref (A1 0 0)), (0, .ref b)]) : W p l e room_1 s m #[Value.ref b] below meth c H locs 423 10061 (lw_Z below #[Value.ref b] s) (F0 m 23 ls []) := by
  have C := Z.1
  have hx := C.1
  have hb := C.2.1
  have hbA : ¬ lq_F s b := Nat.not_le.mpr Z.2.2.2.1
  have hS := hw.2.2
  refine lv_iload hx hb dL_law_23 (lv_at hl 0 rfl) ?_
  refine lv_aload_n hx hb dL_law_25 rfl (lv_at hl 4 rfl) ?_
  refine va_slen hx hb Z.2.2.1 Z.2.2.2.1 hbA hS dL_law_26 ?_
  refine lv_bipush (v := 6) hx hb dL_law_27 (by decide) ?_
  refine lv_isub hx hb dL_law_29 ?_
  refine ti_top (y := 0) (by decide) ?_
  refine lv_icmp_gt (tgt := 1556) hx hb dL_law_30 (by decide) (fun c => absurd c (by decide)) (fun _ => ?_)
  refine lv_aload_n hx hb dL_law_33 rfl (lv_at hl 4 rfl) ?_
  refine lv_iload hx hb dL_law_34 (lv_at hl 0 rfl) ?_
  refine va_sld hx hb Z.2.2.1 Z.2.2.2.1 hbA hS lq_i0 dL_law_36 ?_
  refine lv_bipush (v := 63) hx hb dL_law_37 (by decide) ?_
  refine lv_iand hx hb dL_law_39 ?_
  refine lv_topi (fun z ez => ?_)
  by_cases s_0 : z = 0
  · refine lv_tableIn (tgt := 208) (off := 168) hx hb dL_law_40 (by rw [s_0]; decide) (by rw [s_0]; decide) (by rw [s_0]; decide) (by decide) ?_
    exact lq_c0 Z hw h1 h2 hl
  by_cases s_1 : z = 1
  · refine lv_tableIn (tgt := 281) (off := 241) hx hb dL_law_40 (by rw [s_1]; decide) (by rw [s_1]; decide) (by rw [s_1]; decide) (by decide) ?_
    exact lq_c1 Z hw h1 h2 hl
  by_cases s_2 : z = 2
  · refine lv_tableIn (tgt := 306) (off := 266) hx hb dL_law_40 (by rw [s_2]; decide) (by rw [s_2]; decide) (by rw [s_2]; decide) (by decide) ?_
    exact lq_c2 Z hw h1 h2 hl
  by_cases s_3 : z = 3
  · refine lv_tableIn (tgt := 331) (off := 291) hx hb dL_law_40 (by rw [s_3]; decide) (by rw [s_3]; decide) (by rw [s_3]; decide) (by decide) ?_
    exact lq_c3 Z hw h1 h2 hl
  by_cases s_4 : z = 4
  · refine lv_tableIn (tgt := 356) (off := 316) hx hb dL_law_40 (by rw [s_4]; decide) (by rw [s_4]; decide) (by rw [s_4]; decide) (by decide) ?_
    exact lq_c4 hfl h4 Z hw h1 h2 hl
  by_cases s_5 : z = 5
  · refine lv_tableIn (tgt := 424) (off := 384) hx hb dL_law_40 (by rw [s_5]; decide) (by rw [s_5]; decide) (by rw [s_5]; decide) (by decide) ?_
    exact lq_c5 Z hw h1 h2 hl
  by_cases s_6 : z = 6
  · refine lv_tableIn (tgt := 449) (off := 409) hx hb dL_law_40 (by rw [s_6]; decide) (by rw [s_6]; decide) (by rw [s_6]; decide) (by decide) ?_
    exact lq_c6 Z hw h1 h2 hl
  by_cases s_7 : z = 7
  · refine lv_tableIn (tgt := 474) (off := 434) hx hb dL_law_40 (by rw [s_7]; decide) (by rw [s_7]; decide) (by rw [s_7]; decide) (by decide) ?_
    exact lq_c7 Z hw h1 h2 hl
  by_cases s_8 : z = 8
  · refine lv_tableIn (tgt := 512) (off := 472) hx hb dL_law_40 (by rw [s_8]; decide) (by rw [s_8]; decide) (by rw [s_8]; decide) (by decide) ?_
    exact lq_c8 Z hw h1 h2 hl
  by_cases s_9 : z = 9
  · refine lv_tableIn (tgt := 537) (off := 497) hx hb dL_law_40 (by rw [s_9]; decide) (by rw [s_9]; decide) (by rw [s_9]; decide) (by decide) ?_
    exact lq_c9 Z hw h1 h2 hl
  by_cases s_10 : z = 10
  · refine lv_tableIn (tgt := 562) (off := 522) hx hb dL_law_40 (by rw [s_10]; decide) (by rw [s_10]; decide) (by rw [s_10]; decide) (by decide) ?_
    exact lq_c10 Z hw h1 h2 hl
  by_cases s_11 : z = 11
  · refine lv_tableIn (tgt := 587) (off := 547) hx hb dL_law_40 (by rw [s_11]; decide) (by rw [s_11]; decide) (by rw [s_11]; decide) (by decide) ?_
    exact lq_c11 Z hw h1 h2 hl
  by_cases s_12 : z = 12
  · refine lv_tableIn (tgt := 636) (off := 596) hx hb dL_law_40 (by rw [s_12]; decide) (by rw [s_12]; decide) (by rw [s_12]; decide) (by decide) ?_
    exact lq_c12 Z hw h1 h2 hl
  by_cases s_13 : z = 13
  · refine lv_tableIn (tgt := 673) (off := 633) hx hb dL_law_40 (by rw [s_13]; decide) (by rw [s_13]; decide) (by rw [s_13]; decide) (by decide) ?_
    exact lq_c13 Z hw h1 h2 hl
  by_cases s_14 : z = 14
  · refine lv_tableIn (tgt := 698) (off := 658) hx hb dL_law_40 (by rw [s_14]; decide) (by rw [s_14]; decide) (by rw [s_14]; decide) (by decide) ?_
    exact lq_c14 Z hw h1 h2 hl
  by_cases s_15 : z = 15
  · refine lv_tableIn (tgt := 735) (off := 695) hx hb dL_law_40 (by rw [s_15]; decide) (by rw [s_15]; decide) (by rw [s_15]; decide) (by decide) ?_
    exact lq_c15 Z hw h1 h2 hl
  by_cases s_16 : z = 16
  · refine lv_tableIn (tgt := 772) (off := 732) hx hb dL_law_40 (by rw [s_16]; decide) (by rw [s_16]; decide) (by rw [s_16]; decide) (by decide) ?_
    exact lq_c16 Z hw h1 h2 hl
  by_cases s_17 : z = 17
  · refine lv_tableIn (tgt := 809) (off := 769) hx hb dL_law_40 (by rw [s_17]; decide) (by rw [s_17]; decide) (by rw [s_17]; decide) (by decide) ?_
    exact lq_c17 Z hw h1 h2 hl
  by_cases s_18 : z = 18
  · refine lv_tableIn (tgt := 834) (off := 794) hx hb dL_law_40 (by rw [s_18]; decide) (by rw [s_18]; decide) (by rw [s_18]; decide) (by decide) ?_
    exact lq_c18 Z hw h1 h2 hl
  by_cases s_19 : z = 19
  · refine lv_tableIn (tgt := 883) (off := 843) hx hb dL_law_40 (by rw [s_19]; decide) (by rw [s_19]; decide) (by rw [s_19]; decide) (by decide) ?_
    exact lq_c19 Z hw h1 h2 hl
  by_cases s_20 : z = 20
  · refine lv_tableIn (tgt := 932) (off := 892) hx hb dL_law_40 (by rw [s_20]; decide) (by rw [s_20]; decide) (by rw [s_20]; decide) (by decide) ?_
    exact lq_c20 Z hw h1 h2 hl
  by_cases s_21 : z = 21
  · refine lv_tableIn (tgt := 945) (off := 905) hx hb dL_law_40 (by rw [s_21]; decide) (by rw [s_21]; decide) (by rw [s_21]; decide) (by decide) ?_
    exact lq_c21 Z hw h1 h2 hl
  by_cases s_22 : z = 22
  · refine lv_tableIn (tgt := 994) (off := 954) hx hb dL_law_40 (by rw [s_22]; decide) (by rw [s_22]; decide) (by rw [s_22]; decide) (by decide) ?_
    exact lq_c22 Z hw h1 h2 hl
  by_cases s_23 : z = 23
  · refine lv_tableIn (tgt := 1055) (off := 1015) hx hb dL_law_40 (by rw [s_23]; decide) (by rw [s_23]; decide) (by rw [s_23]; decide) (by decide) ?_
    exact lq_c23 Z hw h1 h2 hl
  by_cases s_24 : z = 24
  · refine lv_tableIn (tgt := 1116) (off := 1076) hx hb dL_law_40 (by rw [s_24]; decide) (by rw [s_24]; decide) (by rw [s_24]; decide) (by decide) ?_
    exact lq_c24 Z hw h1 h2 hl
  by_cases s_25 : z = 25
  · refine lv_tableIn (tgt := 1165) (off := 1125) hx hb dL_law_40 (by rw [s_25]; decide) (by rw [s_25]; decide) (by rw [s_25]; decide) (by decide) ?_
    exact lq_c25 Z hw h1 h2 hl
  by_cases s_26 : z = 26
  · refine lv_tableIn (tgt := 1202) (off := 1162) hx hb dL_law_40 (by rw [s_26]; decide) (by rw [s_26]; decide) (by rw [s_26]; decide) (by decide) ?_
    exact lq_c26 Z hw h1 h2 hl
  by_cases s_27 : z = 27
  · refine lv_tableIn (tgt := 1251) (off := 1211) hx hb dL_law_40 (by rw [s_27]; decide) (by rw [s_27]; decide) (by rw [s_27]; decide) (by decide) ?_
    exact lq_c27 Z hw h1 h2 hl
  by_cases s_28 : z = 28
  · refine lv_tableIn (tgt := 1276) (off := 1236) hx hb dL_law_40 (by rw [s_28]; decide) (by rw [s_28]; decide) (by rw [s_28]; decide) (by decide) ?_
    exact lq_c28 Z hw h1 h2 hl
  by_cases s_29 : z = 29
  · refine lv_tableIn (tgt := 1301) (off := 1261) hx hb dL_law_40 (by rw [s_29]; decide) (by rw [s_29]; decide) (by rw [s_29]; decide) (by decide) ?_
    exact lq_c29 Z hw h1 h2 hl
  by_cases s_30 : z = 30
  · refine lv_tableIn (tgt := 1314) (off := 1274) hx hb dL_law_40 (by rw [s_30]; decide) (by rw [s_30]; decide) (by rw [s_30]; decide) (by decide) ?_
    exact lq_c30 Z hw h1 h2 hl
  by_cases s_31 : z = 31
  · refine lv_tableIn (tgt := 1351) (off := 1311) hx hb dL_law_40 (by rw [s_31]; decide) (by rw [s_31]; decide) (by rw [s_31]; decide) (by decide) ?_
    exact lq_c31 Z hw h1 h2 hl
  by_cases s_32 : z = 32
  · refine lv_tableIn (tgt := 1388) (off := 1348) hx hb dL_law_40 (by rw [s_32]; decide) (by rw [s_32]; decide) (by rw [s_32]; decide) (by decide) ?_
    exact lq_c32 Z hw h1 h2 hl
  by_cases s_33 : z = 33
  · refine lv_tableIn (tgt := 1437) (off := 1397) hx hb dL_law_40 (by rw [s_33]; decide) (by rw [s_33]; decide) (by rw [s_33]; decide) (by decide) ?_
    exact lq_c33 Z hw h1 h2 hl
  by_cases s_34 : z = 34
  · refine lv_tableIn (tgt := 1486) (off := 1446) hx hb dL_law_40 (by rw [s_34]; decide) (by rw [s_34]; decide) (by rw [s_34]; decide) (by decide) ?_
    exact lq_c34 Z hw h1 h2 hl
  by_cases s_35 : z = 35
  · refine lv_tableIn (tgt := 1499) (off := 1459) hx hb dL_law_40 (by rw [s_35]; decide) (by rw [s_35]; decide) (by rw [s_35]; decide) (by decide) ?_
    exact lq_c35 Z hw h1 h2 hl
  by_cases s_36 : z = 36
  · refine lv_tableIn (tgt := 1512) (off := 1472) hx hb dL_law_40 (by rw [s_36]; decide) (by rw [s_36]; decide) (by rw [s_36]; decide) (by decide) ?_
    exact lq_c36 Z hw h1 h2 hl
  by_cases s_37 : z = 37
  · refine lv_tableIn (tgt := 1525) (off := 1485) hx hb dL_law_40 (by rw [s_37]; decide) (by rw [s_37]; decide) (by rw [s_37]; decide) (by decide) ?_
    exact lq_c37 Z hw h1 h2 hl
  refine lv_tableOut (tgt := 1550) hx hb dL_law_40 (ti_out (lo := 0) (hi := 37) z (by
      intro v h1 h2
      have h3 : v = 0 ∨ v = 1 ∨ v = 2 ∨ v = 3 ∨ v = 4 ∨ v = 5 ∨ v = 6 ∨ v = 7 ∨ v = 8 ∨ v = 9 ∨ v = 10 ∨ v = 11 ∨ v = 12 ∨ v = 13 ∨ v = 14 ∨ v = 15 ∨ v = 16 ∨ v = 17 ∨ v = 18 ∨ v = 19 ∨ v = 20 ∨ v = 21 ∨ v = 22 ∨ v = 23 ∨ v = 24 ∨ v = 25 ∨ v = 26 ∨ v = 27 ∨ v = 28 ∨ v = 29 ∨ v = 30 ∨ v = 31 ∨ v = 32 ∨ v = 33 ∨ v = 34 ∨ v = 35 ∨ v = 36 ∨ v = 37 := by omega
      rcases h3 with rfl | rfl | rfl | rfl | rfl | rfl | rfl | rfl | rfl | rfl | rfl | rfl | rfl | rfl | rfl | rfl | rfl | rfl | rfl | rfl | rfl | rfl | rfl | rfl | rfl | rfl | rfl | rfl | rfl | rfl | rfl | rfl | rfl | rfl | rfl | rfl | rfl | rfl <;> first | exact ti_nev 0 s_0 (by decide) | exact ti_nev 1 s_1 (by decide) | exact ti_nev 2 s_2 (by decide) | exact ti_nev 3 s_3 (by decide) | exact ti_nev 4 s_4 (by decide) | exact ti_nev 5 s_5 (by decide) | exact ti_nev 6 s_6 (by decide) | exact ti_nev 7 s_7 (by decide) | exact ti_nev 8 s_8 (by decide) | exact ti_nev 9 s_9 (by decide) | exact ti_nev 10 s_10 (by decide) | exact ti_nev 11 s_11 (by decide) | exact ti_nev 12 s_12 (by decide) | exact ti_nev 13 s_13 (by decide) | exact ti_nev 14 s_14 (by decide) | exact ti_nev 15 s_15 (by decide) | exact ti_nev 16 s_16 (by decide) | exact ti_nev 17 s_17 (by decide) | exact ti_nev 18 s_18 (by decide) | exact ti_nev 19 s_19 (by decide) | exact ti_nev 20 s_20 (by decide) | exact ti_nev 21 s_21 (by decide) | exact ti_nev 22 s_22 (by decide) | exact ti_nev 23 s_23 (by decide) | exact ti_nev 24 s_24 (by decide) | exact ti_nev 25 s_25 (by decide) | exact ti_nev 26 s_26 (by decide) | exact ti_nev 27 s_27 (by decide) | exact ti_nev 28 s_28 (by decide) | exact ti_nev 29 s_29 (by decide) | exact ti_nev 30 s_30 (by decide) | exact ti_nev 31 s_31 (by decide) | exact ti_nev 32 s_32 (by decide) | exact ti_nev 33 s_33 (by decide) | exact ti_nev 34 s_34 (by decide) | exact ti_nev 35 s_35 (by decide) | exact ti_nev 36 s_36 (by decide) | exact ti_nev 37 s_37 (by decide))) (by decide) ?_
  exact lq_fin Z hS ⟨Nat.le_of_ble_eq_true rfl, Nat.le_of_ble_eq_true rfl⟩ (lv_sub hl [0, 4] rfl)
theorem lq_arr {s : State} {args : Array Value} {ty : FieldType} (hp : ∀ C, ty ≠ .object C) (h : (Cond.arrayClass ty).before args s = true) : ∃ c : ClassId, ArrOfT s c ty ∧ va_RA s c ty := by
  obtain ⟨c, k, comp, h1, h2, h3⟩ := Cond.arrayClass_spec h
  refine ⟨c, fun n z => ⟨fun k h => (by cases h), k, h2, comp, h3⟩, ?_⟩
  cases ty <;> first | exact absurd rfl (hp _) | exact h1
theorem lq_aro {s : State} {args : Array Value} {C : String} (h : (Cond.arrayOver (.object C)).before args s = true) : ∃ c : ClassId, ArrOfT s c (.object C) ∧ va_RA s c (.object C) := by
  obtain ⟨comp, c, k, h1, h2, h3, h4, h5⟩ := Cond.arrayOver_spec h
  exact ⟨c, fun n z => ⟨fun k h => (by cases h), k, h3, comp, h4⟩, k, comp, h3, h4, h1, h5⟩
theorem lq_K {s : State} {args : Array Value} (hts : ∀ w ∈ lw_g, w.before args s = true) (ho1 : (Cond.arrayOver (.object RX1)).before args s = true) (ho2 : (Cond.arrayOver (.object RX2)).before args s = true) (ho3 : (Cond.arrayOver (.object RX3)).before args s = true) : ∃ (D : va_G) (cy : Nat → ClassId), va_K D vwCl (ti_ty cy) s := by
  obtain ⟨c0, iS0, hKn0⟩ := u_known (C := RX0) (T := TX0) (N := 6) (n := 6) hts iw_0 (hts _ is_X0)
  obtain ⟨c1, iS1, hKn1⟩ := u_known (C := RX1) (T := TX1) (N := 4) (n := 4) hts iw_1 (hts _ is_X1)
  obtain ⟨c2, iS2, hKn2⟩ := u_known (C := RX2) (T := TX2) (N := 10) (n := 10) hts iw_2 (hts _ is_X2)
  obtain ⟨c3, iS3, hKn3⟩ := u_known (C := RX3) (T := TX3) (N := 17) (n := 17) hts iw_3 (hts _ is_X3)
  obtain ⟨c4, iS4, hKn4⟩ := u_known (C := RX4) (T := TX4) (N := 6) (n := 6) hts iw_4 (hts _ is_X4)
  obtain ⟨c5, iS5, hKn5⟩ := u_known (C := RX5) (T := TX5) (N := 3) (n := 3) hts iw_5 (hts _ is_X5)
  obtain ⟨c6, iS6, hKn6⟩ := u_known (C := RX6) (T := TX6) (N := 13) (n := 13) hts iw_6 (hts _ is_X6)
  obtain ⟨c7, iS7, hKn7⟩ := u_known (C := RX7) (T := TX7) (N := 7) (n := 7) hts iw_7 (hts _ is_X7)
  obtain ⟨c8, iS8, hKn8⟩ := u_known (C := RX8) (T := TX8) (N := 12) (n := 12) hts iw_8 (hts _ is_X8)
  obtain ⟨c9, iS9, hKn9⟩ := u_known (C := RX9) (T := TX9) (N := 10) (n := 10) hts iw_9 (hts _ is_X9)
  obtain ⟨c10, iS10, hKn10⟩ := u_known (C := RX10) (T := TX10) (N := 67) (n := 67) hts iw_10 (hts _ is_X10)
  obtain ⟨a0, ha0⟩ := lq_arr (ty := .byte) (fun C h => by cases h) (hts _ ac_byte)
  obtain ⟨a1, ha1⟩ := lq_arr (ty := .int) (fun C h => by cases h) (hts _ ac_int)
  obtain ⟨a2, ha2⟩ := lq_arr (ty := .long) (fun C h => by cases h) (hts _ ac_long)
  obtain ⟨a3, ha3⟩ := lq_arr (ty := .boolean) (fun C h => by cases h) (hts _ ac_boolean)
  obtain ⟨a4, ha4⟩ := lq_aro ho1
  obtain ⟨a5, ha5⟩ := lq_aro ho2
  obtain ⟨a6, ha6⟩ := lq_aro ho3
  refine ⟨(fun k => match k with | 0 => c0 | 1 => c1 | 2 => c2 | 3 => c3 | 4 => c4 | 5 => c5 | 6 => c6 | 7 => c7 | 8 => c8 | 9 => c9 | _ => c10, fun k => match k with | 0 => iS0 | 1 => iS1 | 2 => iS2 | 3 => iS3 | 4 => iS4 | 5 => iS5 | 6 => iS6 | 7 => iS7 | 8 => iS8 | 9 => iS9 | _ => iS10), fun k => match k with | 0 => a0 | 1 => a1 | 2 => a2 | 3 => a3 | 4 => a4 | 5 => a5 | _ => a6, ?_, ?_⟩
  · intro k q hq
    match k, hq with
    | 0, hq => cases hq; exact hKn0
    | 1, hq => cases hq; exact hKn1
    | 2, hq => cases hq; exact hKn2
    | 3, hq => cases hq; exact hKn3
    | 4, hq => cases hq; exact hKn4
    | 5, hq => cases hq; exact hKn5
    | 6, hq => cases hq; exact hKn6
    | 7, hq => cases hq; exact hKn7
    | 8, hq => cases hq; exact hKn8
    | 9, hq => cases hq; exact hKn9
    | 10, hq => cases hq; exact hKn10
    | k + 11, hq => simp [vwCl] at hq
  · intro k q hq
    match k, hq with
    | 0, hq => cases hq; exact ha0
    | 1, hq => cases hq; exact ha1
    | 2, hq => cases hq; exact ha2
    | 3, hq => cases hq; exact ha3
    | 4, hq => cases hq; exact ha4
    | 5, hq => cases hq; exact ha5
    | 6, hq => cases hq; exact ha6
    | k + 7, hq => simp [ti_ty] at hq
set_option maxHeartbeats 4000000 in
set_option maxRecDepth 100000 in
theorem whole_start {p : Program} {e : Env} {s : State} {m : MethodId} {below : List Frame} {meth : Method} {c : Code} (l : Launch) (hflags : l.flags = flags0) {b L : Nat} {xs : Nat → Int32} (hL : L ≤ 6) (C0 : lw_At p s m meth c b L xs) : W p l e room_1 s m #[Value.ref b] below meth c s.heap [] 0 0 (lw_Z below #[Value.ref b] s) (entryFrame m ([Value.ref b] : List Value).toArray 7) := by
  obtain ⟨hx, hb, hr, hml, hown, hts, hX, hbl, hlocks, hgv⟩ := id C0
  have hA : ∀ q : Nat, s.heap.size ≤ q → lq_F s q := fun _ h => h
  have hbA : ¬ lq_F s b := Nat.not_le.mpr hbl
  have ho1 : (Cond.arrayOver (.object RX1)).before #[Value.ref b] s = true := hts _ (List.mem_of_getElem? (i := 224) (by decide +kernel))
  have ho2 : (Cond.arrayOver (.object RX2)).before #[Value.ref b] s = true := hts _ (List.mem_of_getElem? (i := 222) (by decide +kernel))
  have ho3 : (Cond.arrayOver (.object RX3)).before #[Value.ref b] s = true := hts _ (List.mem_of_getElem? (i := 460) (by decide +kernel))
  obtain ⟨D, cy, hK⟩ := lq_K (lw_g_hts hts) ho1 ho2 ho3
  have hN : ti_N s := ⟨va_Nw.of rfl (hts _ (List.mem_of_getElem? (i := 156) (by decide +kernel))), va_Nw.of rfl (hts _ (List.mem_of_getElem? (i := 162) (by decide +kernel))), va_Nw.of rfl (hts _ (List.mem_of_getElem? (i := 226) (by decide +kernel))), va_Nw.of rfl (hts _ (List.mem_of_getElem? (i := 279) (by decide +kernel))), va_Nw.of rfl (hts _ (List.mem_of_getElem? (i := 372) (by decide +kernel))), va_Nw.of rfl (hts _ (List.mem_of_getElem? (i := 461) (by decide +kernel))), va_Nw.of rfl (hts _ (List.mem_of_getElem? (i := 475) (by decide +kernel))), va_Nw.of rfl (hts _ (List.mem_of_getElem? (i := 480) (by decide +kernel))), va_Nw.of rfl (hts _ (List.mem_of_getElem? (i := 527) (by decide +kernel))), va_Nw.of rfl (hts _ (List.mem_of_getElem? (i := 532) (by decide +kernel))), va_AO.of ho1, va_AO.of ho2, va_AO.of ho3⟩
  have C : lq_B p s m c #[Value.ref b] cL_law RL 7 D cy := ⟨hx, hb, lw_g_hts hts, hown, hK, hml, trivial, hN⟩
  have hini : (Cond.initialized Bundle.tN).before #[Value.ref b] s = true := hts _ (List.mem_of_getElem? (i := 140) (by decide +kernel))
  have hflat := flat_of_before _ hgv
  have h4 : lk_S (lq_F s) s s.heap := by
    have hsr : (Cond.stringRef RX9 110 lk_t).before #[Value.ref b] s = true := hts _ (List.mem_of_getElem? (i := 1285) (by decide +kernel))
    obtain ⟨-, -, -, sa, -, -, -, -, -, hev⟩ := Cond.stringRef_spec (hK.1 9 _ rfl).2.1 hsr
    exact ⟨⟨sa, vk_R.of hsr hev⟩, vx_Zqof (hts _ (List.mem_of_getElem? (i := 1272) (by decide +kernel))) hini (hflat _ (by decide +kernel)) (fun a h1 h2 => Nat.not_le.mpr h1 h2), vx_Zqof (hts _ (List.mem_of_getElem? (i := 1274) (by decide +kernel))) hini (hflat _ (by decide +kernel)) (fun a h1 h2 => Nat.not_le.mpr h1 h2), va_Nw.of rfl (hts _ (List.mem_of_getElem? (i := 1249) (by decide +kernel))), va_Nw.of rfl (hts _ (List.mem_of_getElem? (i := 1251) (by decide +kernel))), va_Nw.of rfl (hts _ (List.mem_of_getElem? (i := 1253) (by decide +kernel))), va_Nw.of rfl (hts _ (List.mem_of_getElem? (i := 1247) (by decide +kernel)))⟩
  have hP : va_P D vwCl [] s.heap := fun k q h => by simp at h
  have hD : va_D (lq_F s) [] := ⟨fun i j p q h => by simp at h, fun k q h => by simp at h⟩
  have hS : va_S (lq_F s) s.heap s.heap [] := va_S.rf
  have hl := lv_entry ([.ref b]) (n := 7) (Nat.le_of_ble_eq_true rfl)
  rw [lg_entry_eq]
  generalize (lg_sl ([.ref b]) ++ List.replicate (7 - (lg_sl ([.ref b])).length) Slot.unset).toArray = ls at hl ⊢
  have hl : lv_has ls 7 [(0, .ref b)] := hl
  refine lq_nO (ci := 9) (fs := [.null, .null, .null, .null, .null, .null, .null, .int 0, .null, .null]) (T := TX9) (N := 10) tyX9 tyX9_ok C iw_9 ck_L_8 is_X9 in_X9 rfl hP hD hS hA nf_9 1 10 (Nat.le_of_ble_eq_true rfl) (Nat.le_of_ble_eq_true rfl) ⟨Nat.le_of_ble_eq_true rfl, Nat.le_of_ble_eq_true rfl⟩ dL_law_0 (fun q9 H hP hD hS => ?_)
  refine lv_dup hx hb dL_law_3 rfl ?_
  refine lq_callCI C (k_X9_init l D cy q9 H.size) ml_L_17 rfl ym_X9_init yi_X9_init yc_X9_init yd_X9_init hP hD hS hA hl.1 (Nat.le_of_ble_eq_true rfl) ⟨by decide, by decide⟩ 378 5869 (Nat.le_of_ble_eq_true rfl) (Nat.le_of_ble_eq_true rfl) ⟨Nat.le_of_ble_eq_true rfl, Nat.le_of_ble_eq_true rfl⟩ dL_law_4 (fun u9 Hc9 locs9 hp9 hPc9 hDc9 hSc9 => ?_)
  obtain ⟨A1, M1⟩ := u9
  obtain ⟨rfl, h1⟩ := hp9
  refine lv_astore_n (lv' := [(1, .ref (A1 0 0)), (0, .ref b)]) hx hb dL_law_7 rfl hl (by decide) rfl (fun ls hl => ?_)
  have hP : va_P D vwCl (ti_W ti_LT A1 cy M1) Hc9 := hPc9
  have hD : va_D (lq_F s) (ti_W ti_LT A1 cy M1) := hDc9
  have hS := hSc9
  refine lq_nO (ci := 10) (fs := [.int 0, .null, .int 0, .null, .null, .null, .null, .null, .null, .null, .null, .null, .null, .null, .null, .null, .null, .null, .int 0, .int 0, .int 0, .int 0, .int 0, .int 0, .int 0, .int 0, .int 0, .int 0, .int 0, .int 0, .int 0, .null, .null, .int 0, .null, .null, .null, .null, .null, .null, .null, .null, .null, .null, .null, .null, .null, .null, .null, .null, .null, .int 0, .int 0, .int 0, .null, .null, .int 0, .null, .int 0, .int 0, .null, .null, .null, .null, .null, .int 0, .int 0]) (T := TX10) (N := 67) tyX10 tyX10_ok C iw_10 ck_L_18 is_X10 in_X10 rfl hP hD hS hA nf_10 379 5936 (Nat.le_of_ble_eq_true rfl) (Nat.le_of_ble_eq_true rfl) ⟨Nat.le_of_ble_eq_true rfl, Nat.le_of_ble_eq_true rfl⟩ dL_law_8 (fun q10 H hP hD hS => ?_)
  refine lv_dup hx hb dL_law_11 rfl ?_
  refine lq_callCI C (k_X10_init l D cy q10 H.size) ml_L_20 rfl ym_X10_init yi_X10_init yc_X10_init yd_X10_init hP hD hS hA hl.1 (Nat.le_of_ble_eq_true rfl) ⟨by decide, by decide⟩ 422 10060 (Nat.le_of_ble_eq_true rfl) (Nat.le_of_ble_eq_true rfl) ⟨Nat.le_of_ble_eq_true rfl, Nat.le_of_ble_eq_true rfl⟩ dL_law_12 (fun u10 Hc10 locs10 hp10 hPc10 hDc10 hSc10 => ?_)
  obtain ⟨A2, M2⟩ := u10
  obtain ⟨rfl, h2⟩ := hp10
  refine lv_astore_n (lv' := [(2, .ref (A2 60 0)), (1, .ref (A1 0 0)), (0, .ref b)]) hx hb dL_law_15 rfl hl (by decide) rfl (fun ls hl => ?_)
  have hP : va_P D vwCl (ti_W ti_LT A1 cy M1 ++ ti_W ti_LM A2 cy M2) Hc10 := hPc10
  have hD : va_D (lq_F s) (ti_W ti_LT A1 cy M1 ++ ti_W ti_LM A2 cy M2) := hDc10
  have hS := hSc10
  refine lv_iconst (v := 1) hx hb dL_law_16 (by decide) ?_
  refine lq_nA (atype := .long) (a0 := (1, .inr (.inl (fun _ => 0)))) 2 C ac_long rfl (fun C h => by cases h) rfl hP hD hS hA (fun _ => rfl) (by decide) (by decide) (Nat.le_of_ble_eq_true rfl) 423 10061 (Nat.le_of_ble_eq_true rfl) (Nat.le_of_ble_eq_true rfl) ⟨Nat.le_of_ble_eq_true rfl, Nat.le_of_ble_eq_true rfl⟩ dL_law_17 (fun q3 H hP hD hS => ?_)
  refine lv_astore_n (lv' := [(3, .ref q3), (2, .ref (A2 60 0)), (1, .ref (A1 0 0)), (0, .ref b)]) hx hb dL_law_19 rfl hl (by decide) rfl (fun ls hl => ?_)
  refine lv_iconst (v := 0) hx hb dL_law_20 (by decide) ?_
  refine lv_istore (lv' := [(4, .int 0), (3, .ref q3), (2, .ref (A2 60 0)), (1, .ref (A1 0 0)), (0, .ref b)]) hx hb dL_law_21 hl (by decide) rfl (fun ls hl => ?_)
  obtain ⟨hAA, hw⟩ := lq_mk hP hD hS
  by_cases h6 : L = 6
  · subst h6
    exact lq_sw hflags h4 ⟨C, hAA, hX, hbl, hr, hlocks⟩ hw h1 h2 hl
  · refine lv_iload hx hb dL_law_23 (lv_at hl 0 rfl) ?_
    refine lv_aload_n hx hb dL_law_25 rfl (lv_at hl 4 rfl) ?_
    refine va_slen hx hb hX hbl hbA hS dL_law_26 ?_
    refine lv_bipush (v := 6) hx hb dL_law_27 (by decide) ?_
    refine lv_isub hx hb dL_law_29 ?_
    have h5 : L = 0 ∨ L = 1 ∨ L = 2 ∨ L = 3 ∨ L = 4 ∨ L = 5 := by omega
    refine lv_icmp_gt (tgt := 1556) hx hb dL_law_30 (by decide) (fun _ => lq_ret hx hb hr hlocks hS ⟨Nat.le_of_ble_eq_true rfl, Nat.le_of_ble_eq_true rfl⟩) (fun c => absurd (by rcases h5 with rfl | rfl | rfl | rfl | rfl | rfl <;> decide) c)
set_option maxHeartbeats 4000000 in
theorem lw_walk (l : Launch) (hflags : l.flags = flags0) (b : Addr) (xs : List Int32) : MetFree l x (headSpec (Jvm.Cond.code x code maxLocals ret :: tables_1) room_1) (lw_P b xs) (fun _ _ _ _ _ => True) lw_Q := by
  refine MetFree.of_bodyS (code := code) (maxLocals := maxLocals) (ret := ret) (by decide) ?_ ?_
  · intro args s m h hn
    obtain ⟨meth, c, h1, h2, h3, h4, h5, h6, -, -⟩ := Cond.code_spec hn (atoms_spec (ws := Jvm.Cond.code x code maxLocals ret :: tables_1) h _ List.mem_cons_self)
    exact ⟨meth, c, h1, h2, h3, h4, h5, h6⟩
  · intro p e s m args below meth c s₁ B hml0 hP _
    obtain ⟨rfl, hx, hbd, hgv⟩ := hP
    obtain ⟨scr, harrAt, hlist, hof, hsmall⟩ := hx
    obtain ⟨hcb, hkn, -, -⟩ := State.arrayAt?_spec harrAt
    have hown : s.vm.findClass R_law = some m.cls := findClass_of_methodNamed B.named
    have hts0 : ∀ c ∈ (Jvm.Cond.code x code maxLocals ret :: tables_1), c.before #[Value.ref b] s = true := atoms_spec (ws := Jvm.Cond.code x code maxLocals ret :: tables_1) B.pre
    have hts : ∀ w ∈ lw_tbl, w.before #[Value.ref b] s = true := k2_hts_sels lw_privs (fun w hw => hts0 w (List.mem_cons_of_mem _ hw)) lw_privs_ok
    have hml : c.maxLocals = 7 := B.maxLocals_eq (hts0 _ List.mem_cons_self)
    have X₀ : Stand p l e room_1 s m #[Value.ref b] below meth c s₁ [] 0 0 := Stand.of_body B
    have hh0 : s₁.heap = s.heap := by rw [B.state]; rfl
    have hsz : scr.slots.size = xs.length := by rw [← Array.length_toList, hlist, List.length_map]
    have hval : ∀ j : Nat, j < xs.length → scr.slots[j]? = some (.int (xs.getD j 0)) := fun j hj => by
      rw [← Array.getElem?_toList, hlist]
      simp [hj]
    have hbl : b < s.heap.size := (Array.getElem?_eq_some_iff.mp hcb).1
    have hX : va_X b xs.length (fun j => xs.getD j 0) s s.heap := ⟨scr, hcb, hof, hkn, hsz, hval⟩
    have K : W p l e room_1 s m #[Value.ref b] below meth c s₁.heap [] 0 0 (lw_Z below #[Value.ref b] s) (entryFrame m ([Value.ref b] : List Value).toArray 7) := by
      rw [hh0]
      exact whole_start l hflags hbd ⟨B.exec, B.bytes, B.returns, hml, hown, hts, hX, hbl, B.notSynchronized, hgv⟩
    obtain ⟨t, a1, o, b1, b2, b3⟩ := K s₁ rfl X₀
    exact ⟨t, o, a1, b1, b2, b3⟩
theorem lw_pre_spec {args : Array Value} {s : State} (h : (Jvm.Cond.and given_1 narrow_1).before args s = true) (hr : rest_1_c.before args s = true) : ∃ (b : Addr) (xs : List Int32), lw_P b xs args s := by
  have hs := flat_of_before _ h
  have hq := flat_of_before _ hr
  have hc : (Cond.count 1).before args s = true := hs _ (by decide +kernel)
  have harr : (Cond.arrayOf (.arg 0) .int).before args s = true := hs _ (by decide +kernel)
  have hle : (Cond.le (.length (.arg 0)) (.int 6)).before args s = true := hs _ (by decide +kernel)
  have hlen : (Cond.isInt (.length (.arg 0))).before args s = true := hq _ (by decide +kernel)
  have hall : (Cond.all (.arg 0) (.isInt (.elem (.arg 0) (.index 0)))).before args s = true := hq _ (by decide +kernel)
  obtain ⟨b, xs, hb, hx⟩ := State.ints_of_pre rfl harr hlen hall
  have hsm : xs.length < 2 ^ 31 := hx.choose_spec.2.2.2
  have hev : (Term.length (.arg 0)).eval args s none [] s = some (.int xs.length.toInt32) := hx.length_eval hb
  have hv := Cond.le_ints hev (show (Term.int 6).eval args s none [] s = some (.int 6) from rfl)
  have hd : xs.length.toInt32 ≤ 6 := by
    simpa [Cond.before, Cond.holds, hv] using hle
  have hN : xs.length ≤ 6 := (Int32.ofNat_le_ofNat hsm (by decide)).mp (show Int32.ofNat xs.length ≤ Int32.ofNat 6 from hd)
  exact ⟨b, xs, Cond.one_arg hc (show args[0]? = some (.ref b) from hb), hx, hN, h⟩
theorem lw_comes (l : Launch) (hflags : l.flags = flags0) : Comes l x (Jvm.Cond.code x code maxLocals ret :: tables_1) room_1 (fun tb e args s => Calls_1 tb e args s ∧ rest_1 tb e args s ∧ Pre_1 tb e args s)
    (fun _ _ args s o t => lw_Q args s o t) := by
  intro p e ha hc hk s m args below hf hfit hheap happ hpre
  obtain ⟨b, xs, hP⟩ := lw_pre_spec hpre.2.2 hpre.2.1
  obtain ⟨k, o, h1, h2, h3, hQ⟩ := lw_walk l hflags b xs p e ha hc hk s m args below hf ((Spec.applies_iff_loose hf).mp happ).1 hP trivial
  exact ⟨k, o, h1, h2, h3, hQ⟩
theorem lw_frame {s t : State} {o : Outcome} {args : Array Value} (h : Framed s o t [] 600002 7302231) :
    Framed s o t (fieldLocs frame_1_writes args s ++ arrayLocs frame_1_arrays args s ++ staticLocs frame_1_statics s) 600002 7302231 := h
theorem lw_limb (L : Cond) (hL : ∀ (args : Array Value) (s t : State), L.after args s (.returned (some (.int 1))) t = true) :
    ArmFor flags0 classFile x code maxLocals ret World_1 tables_1 room_1 Calls_1 rest_1 Pre_1
      (fun tb e a s o t => postC L tb e a s o t ∧ Framed s o t (fieldLocs frame_1_writes a s ++ arrayLocs frame_1_arrays a s ++ staticLocs frame_1_statics s) 600002 7302231) := by
  intro l hflags _ _ p e ha hc hk s m args below hf hfit hheap happ hpre
  obtain ⟨k, o, h1, h2, h3, rfl, hF⟩ := lw_comes l hflags p e ha hc hk s m args below hf hfit hheap happ hpre
  exact ⟨k, _, h1, h2, h3, hL args s _, lw_frame hF⟩
theorem i_vc : Claimed_1_1 ∧ Claimed_1_2 := ⟨lw_limb limb_1_1 (fun args s t => by simp [limb_1_1, Cond.after, Cond.holds, Cond.value]), lw_limb limb_1_2 (fun args s t => Cond.after_iff.mpr (by
  first | (rw [show limb_1_2 = Cond.eq .result (.int 1) from rfl, Cond.eq_ints (x := 1) (y := 1) rfl rfl]; simp; done) | (simp [limb_1_2, Cond.value, Term.eval]; done)))⟩

theorem tx_mk {args : Array Value} {s : State} {own tx : String} {k n : Nat} {bytes : List Int32} {A : Nat → Prop} (hsr : (Cond.stringRef own k tx).before args s = true) (hex : (Cond.exactly (.string own k) RJ0).before args s = true) (hco : (Cond.eq (.field (.string own k) RJ0 "coder" "B") (.int 0)).before args s = true) (har : (Cond.arrayOf (.field (.string own k) RJ0 "value" "[B") .byte).before args s = true) (hle : (Cond.eq (.length (.field (.string own k) RJ0 "value" "[B")) (.int (Int32.ofNat n))).before args s = true) (hel : ∀ j : Nat, j < n → (Cond.eq (.elem (.field (.string own k) RJ0 "value" "[B") (.int (Int32.ofNat j))) (.int (bytes.getD j 0))).before args s = true) (hn : n < 2 ^ 31) (hA : ∀ a : Nat, a < s.heap.size → ¬ A a) : ∃ a v : Nat, vk_R own k tx a s ∧ tx_s a v n (fun j => bytes.getD j 0) A s s.heap := by
  obtain ⟨a, c, cA, kA, q1, q2, q3, q4, q5, q6, -⟩ := Cond.exactly_spec (args := args) (first := s) (o := none) (s := s) (idx := []) (t := .string own k) (cls := RJ0) hex
  obtain ⟨v, hv, hT⟩ := va_Tof (f := fun j => .int (bytes.getD j 0)) (A := A) hn har (va_eqt hle) (fun j hj => va_eqt (hel j hj)) hA
  exact ⟨a, v, vk_R.of hsr q1, ⟨cA, q3, q5, by rw [q6]; exact q2, hA a (Array.getElem?_eq_some_iff.mp q3).1⟩, vk_OFof q1 (va_eqt hco) hA, vk_OFof q1 hv hA, hT⟩
theorem tx_ls_RX7 : ((flatC (Jvm.Cond.and given_1 narrow_1)).drop 81).take 150 = (List.range 150).map (fun j => Cond.eq (.elem (.field (.string RX7 68) RJ0 "value" "[B") (.int (Int32.ofNat j))) (.int (tx_cb.getD j 0))) := by decide +kernel
theorem tx_el_RX7 : ∀ j : Nat, j < 150 → Cond.eq (.elem (.field (.string RX7 68) RJ0 "value" "[B") (.int (Int32.ofNat j))) (.int (tx_cb.getD j 0)) ∈ flatC (Jvm.Cond.and given_1 narrow_1) := by
  intro j hj
  have h : Cond.eq (.elem (.field (.string RX7 68) RJ0 "value" "[B") (.int (Int32.ofNat j))) (.int (tx_cb.getD j 0)) ∈ ((flatC (Jvm.Cond.and given_1 narrow_1)).drop 81).take 150 := by rw [tx_ls_RX7]; exact List.mem_map.mpr ⟨j, List.mem_range.mpr hj, rfl⟩
  exact List.mem_of_mem_drop (List.mem_of_mem_take h)
theorem tx_ls_RX10 : ((flatC (Jvm.Cond.and given_1 narrow_1)).drop 269).take 125 = (List.range 125).map (fun j => Cond.eq (.elem (.field (.string RX10 197) RJ0 "value" "[B") (.int (Int32.ofNat j))) (.int (tx_mb.getD j 0))) := by decide +kernel
theorem tx_el_RX10 : ∀ j : Nat, j < 125 → Cond.eq (.elem (.field (.string RX10 197) RJ0 "value" "[B") (.int (Int32.ofNat j))) (.int (tx_mb.getD j 0)) ∈ flatC (Jvm.Cond.and given_1 narrow_1) := by
  intro j hj
  have h : Cond.eq (.elem (.field (.string RX10 197) RJ0 "value" "[B") (.int (Int32.ofNat j))) (.int (tx_mb.getD j 0)) ∈ ((flatC (Jvm.Cond.and given_1 narrow_1)).drop 269).take 125 := by rw [tx_ls_RX10]; exact List.mem_map.mpr ⟨j, List.mem_range.mpr hj, rfl⟩
  exact List.mem_of_mem_drop (List.mem_of_mem_take h)
theorem lq_E {args : Array Value} {s : State} {A : Nat → Prop} (hts : ∀ w ∈ lw_tbl, w.before args s = true) (hflat : ∀ c ∈ flatC (Jvm.Cond.and given_1 narrow_1), c.before args s = true) (hA : ∀ a : Nat, a < s.heap.size → ¬ A a) : tx_E A s s.heap := by
  refine ⟨tx_mk (own := RX7) (k := 68) (tx := tx_c) (n := 150) (bytes := tx_cb) (hts _ (List.mem_of_getElem? (i := 638) (by decide +kernel))) (hflat _ (by decide +kernel)) (hflat _ (by decide +kernel)) (hflat _ (by decide +kernel)) (hflat _ (by decide +kernel)) (fun j hj => hflat _ (tx_el_RX7 j hj)) (by decide) hA, tx_mk (own := RX10) (k := 197) (tx := tx_m) (n := 125) (bytes := tx_mb) (hts _ (List.mem_of_getElem? (i := 1572) (by decide +kernel))) (hflat _ (by decide +kernel)) (hflat _ (by decide +kernel)) (hflat _ (by decide +kernel)) (hflat _ (by decide +kernel)) (fun j hj => hflat _ (tx_el_RX10 j hj)) (by decide) hA, ?_, ?_⟩
  · exact va_Zof (hts _ (List.mem_of_getElem? (i := 648) (by decide +kernel))) (hts _ (List.mem_of_getElem? (i := 136) (by decide +kernel))) (va_eqt (hflat _ (by decide +kernel))) hA
  · exact va_Zqof (hts _ (List.mem_of_getElem? (i := 656) (by decide +kernel))) (hts _ (List.mem_of_getElem? (i := 138) (by decide +kernel))) (hflat _ (by decide +kernel)) hA
theorem lq_arr {s : State} {args : Array Value} {ty : FieldType} (hp : ∀ C, ty ≠ .object C) (h : (Cond.arrayClass ty).before args s = true) : ∃ c : ClassId, ArrOfT s c ty ∧ va_RA s c ty := by
  obtain ⟨c, k, comp, h1, h2, h3⟩ := Cond.arrayClass_spec h
  refine ⟨c, fun n z => ⟨fun k h => (by cases h), k, h2, comp, h3⟩, ?_⟩
  cases ty <;> first | exact absurd rfl (hp _) | exact h1
theorem lq_aro {s : State} {args : Array Value} {C : String} (h : (Cond.arrayOver (.object C)).before args s = true) : ∃ c : ClassId, ArrOfT s c (.object C) ∧ va_RA s c (.object C) := by
  obtain ⟨comp, c, k, h1, h2, h3, h4, h5⟩ := Cond.arrayOver_spec h
  exact ⟨c, fun n z => ⟨fun k h => (by cases h), k, h3, comp, h4⟩, k, comp, h3, h4, h1, h5⟩
theorem lq_K {s : State} {args : Array Value} (hts : ∀ w ∈ lw_g, w.before args s = true) (ho1 : (Cond.arrayOver (.object RX1)).before args s = true) (ho2 : (Cond.arrayOver (.object RX2)).before args s = true) (ho3 : (Cond.arrayOver (.object RX3)).before args s = true) : ∃ (D : va_G) (cy : Nat → ClassId), va_K D vwCl (ti_ty cy) s := by
  obtain ⟨c0, iS0, hKn0⟩ := u_known (C := RX0) (T := TX0) (N := 6) (n := 6) hts iw_0 (hts _ is_X0)
  obtain ⟨c1, iS1, hKn1⟩ := u_known (C := RX1) (T := TX1) (N := 4) (n := 4) hts iw_1 (hts _ is_X1)
  obtain ⟨c2, iS2, hKn2⟩ := u_known (C := RX2) (T := TX2) (N := 10) (n := 10) hts iw_2 (hts _ is_X2)
  obtain ⟨c3, iS3, hKn3⟩ := u_known (C := RX3) (T := TX3) (N := 17) (n := 17) hts iw_3 (hts _ is_X3)
  obtain ⟨c4, iS4, hKn4⟩ := u_known (C := RX4) (T := TX4) (N := 6) (n := 6) hts iw_4 (hts _ is_X4)
  obtain ⟨c5, iS5, hKn5⟩ := u_known (C := RX5) (T := TX5) (N := 3) (n := 3) hts iw_5 (hts _ is_X5)
  obtain ⟨c6, iS6, hKn6⟩ := u_known (C := RX6) (T := TX6) (N := 13) (n := 13) hts iw_6 (hts _ is_X6)
  obtain ⟨c7, iS7, hKn7⟩ := u_known (C := RX7) (T := TX7) (N := 7) (n := 7) hts iw_7 (hts _ is_X7)
  obtain ⟨c8, iS8, hKn8⟩ := u_known (C := RX8) (T := TX8) (N := 12) (n := 12) hts iw_8 (hts _ is_X8)
  obtain ⟨c9, iS9, hKn9⟩ := u_known (C := RX9) (T := TX9) (N := 10) (n := 10) hts iw_9 (hts _ is_X9)
  obtain ⟨c10, iS10, hKn10⟩ := u_known (C := RX10) (T := TX10) (N := 67) (n := 67) hts iw_10 (hts _ is_X10)
  obtain ⟨a0, ha0⟩ := lq_arr (ty := .byte) (fun C h => by cases h) (hts _ ac_byte)
  obtain ⟨a1, ha1⟩ := lq_arr (ty := .int) (fun C h => by cases h) (hts _ ac_int)
  obtain ⟨a2, ha2⟩ := lq_arr (ty := .long) (fun C h => by cases h) (hts _ ac_long)
  obtain ⟨a3, ha3⟩ := lq_arr (ty := .boolean) (fun C h => by cases h) (hts _ ac_boolean)
  obtain ⟨a4, ha4⟩ := lq_aro ho1
  obtain ⟨a5, ha5⟩ := lq_aro ho2
  obtain ⟨a6, ha6⟩ := lq_aro ho3
  refine ⟨(fun k => match k with | 0 => c0 | 1 => c1 | 2 => c2 | 3 => c3 | 4 => c4 | 5 => c5 | 6 => c6 | 7 => c7 | 8 => c8 | 9 => c9 | _ => c10, fun k => match k with | 0 => iS0 | 1 => iS1 | 2 => iS2 | 3 => iS3 | 4 => iS4 | 5 => iS5 | 6 => iS6 | 7 => iS7 | 8 => iS8 | 9 => iS9 | _ => iS10), fun k => match k with | 0 => a0 | 1 => a1 | 2 => a2 | 3 => a3 | 4 => a4 | 5 => a5 | _ => a6, ?_, ?_⟩
  · intro k q hq
    match k, hq with
    | 0, hq => cases hq; exact hKn0
    | 1, hq => cases hq; exact hKn1
    | 2, hq => cases hq; exact hKn2
    | 3, hq => cases hq; exact hKn3
    | 4, hq => cases hq; exact hKn4
    | 5, hq => cases hq; exact hKn5
    | 6, hq => cases hq; exact hKn6
    | 7, hq => cases hq; exact hKn7
    | 8, hq => cases hq; exact hKn8
    | 9, hq => cases hq; exact hKn9
    | 10, hq => cases hq; exact hKn10
    | k + 11, hq => simp [vwCl] at hq
  · intro k q hq
    match k, hq with
    | 0, hq => cases hq; exact ha0
    | 1, hq => cases hq; exact ha1
    | 2, hq => cases hq; exact ha2
    | 3, hq => cases hq; exact ha3
    | 4, hq => cases hq; exact ha4
    | 5, hq => cases hq; exact ha5
    | 6, hq => cases hq; exact ha6
    | k + 7, hq => simp [ti_ty] at hq
set_option maxHeartbeats 4000000 in
set_option maxRecDepth 100000 in
theorem lq_loop {p : Program} {l : Launch} {e : Env} {s : State} {m : MethodId} {below : List Frame} {meth : Method} {c : Code} {D : va_G} {cy : Nat → ClassId} {A1 A2 : Nat → Nat → Nat} {b q3 L : Nat} {xs : Nat → Int32} (hfl : l.flags = flags0) (h4 : lk_S (lq_F s) s s.heap) (Z : lq_Z p s m meth c D cy A1 A2 b L xs) : ∀ (n : Nat) (iv : Int32) (M1 M2 : ti_M) (H : Heap) (locs : List Loc) (ls : Array Slot) (cells slots : Nat), (L : Int) - iv.toInt < n → 0 ≤ iv.toInt → iv.toInt ≤ 3072 → cells + n ≤ 601024 → slots + 6 * n ≤ 7293034 → lq_H s D cy A1 A2 q3 M1 M2 H locs → lq_I M1 M2 → lv_has ls 7 [(4, .int iv), (3, .ref q3), (2, .ref (A2 60 0)), (1, .ref (A1 0 0)), (0, .ref b)] → W p l e room_1 s m #[Value.ref b] below meth c H locs cells slots (lw_Z below #[Value.ref b] s) (F0 m 23 ls []) := by
  intro n
  induction n with
  | zero =>
    intro iv M1 M2 H locs ls cells slots hn h0 h1 hc1 hc2 hw hI hl
    have C := Z.1
    have hx := C.1
    have hb := C.2.1
    have hbA : ¬ lq_F s b := Nat.not_le.mpr Z.2.2.2.1
    have hL := Z.2.2.2.2.2.2.1
    have tz : (Int32.ofNat L - 6).toInt = (L : Int) - 6 := i_sub rfl (nI_toInt (by omega)) (by decide : (6 : Int32).toInt = 6) (by omega) (by omega)
    refine lv_iload hx hb dL_law_23 (lv_at hl 0 rfl) ?_
    refine lv_aload_n hx hb dL_law_25 rfl (lv_at hl 4 rfl) ?_
    refine va_slen hx hb Z.2.2.1 Z.2.2.2.1 hbA hw.2.2.1 dL_law_26 ?_
    refine lv_bipush (v := 6) hx hb dL_law_27 (by decide) ?_
    refine lv_isub hx hb dL_law_29 ?_
    refine sb_icmp_gt (tgt := 1527) hx hb rfl tz dL_law_30 (by decide) (fun c9 => ?_) (fun c9 => by omega)
    exact lq_ret hx hb Z.2.2.2.2.1 Z.2.2.2.2.2.1 hw.2.2.1 ⟨by omega, by omega⟩
  | succ n ih =>
    intro iv M1 M2 H locs ls cells slots hn h0 h1 hc1 hc2 hw hI hl
    have C := Z.1
    have hx := C.1
    have hb := C.2.1
    have hbA : ¬ lq_F s b := Nat.not_le.mpr Z.2.2.2.1
    have hL := Z.2.2.2.2.2.2.1
    have tz : (Int32.ofNat L - 6).toInt = (L : Int) - 6 := i_sub rfl (nI_toInt (by omega)) (by decide : (6 : Int32).toInt = 6) (by omega) (by omega)
    refine lv_iload hx hb dL_law_23 (lv_at hl 0 rfl) ?_
    refine lv_aload_n hx hb dL_law_25 rfl (lv_at hl 4 rfl) ?_
    refine va_slen hx hb Z.2.2.1 Z.2.2.2.1 hbA hw.2.2.1 dL_law_26 ?_
    refine lv_bipush (v := 6) hx hb dL_law_27 (by decide) ?_
    refine lv_isub hx hb dL_law_29 ?_
    refine sb_icmp_gt (tgt := 1527) hx hb rfl tz dL_law_30 (by decide) (fun c9 => ?_) (fun c9 => ?_)
    · exact lq_ret hx hb Z.2.2.2.2.1 Z.2.2.2.2.2.1 hw.2.2.1 ⟨by omega, by omega⟩
    have hi : 0 ≤ iv.toInt ∧ iv.toInt + 6 ≤ L := ⟨h0, by omega⟩
    have hcs4 : cells + 1 ≤ room_1.cells ∧ slots + 6 ≤ room_1.slots := ⟨Nat.le_trans (by omega) hc1, Nat.le_trans (by omega) hc2⟩
    have hcs : cells ≤ room_1.cells ∧ slots ≤ room_1.slots := ⟨Nat.le_trans (by omega) hc1, Nat.le_trans (by omega) hc2⟩
    have ti6 : (iv + 6).toInt = iv.toInt + 6 := i_add rfl rfl (by decide : (6 : Int32).toInt = 6) (by omega) (by omega)
    have kk1 : ∀ (M1 M2 : ti_M) (H : Heap) (locs : List Loc) (ls : Array Slot), lq_H s D cy A1 A2 q3 M1 M2 H locs → lq_I M1 M2 → lv_has ls 7 [(4, .int iv), (3, .ref q3), (2, .ref (A2 60 0)), (1, .ref (A1 0 0)), (0, .ref b)] → W p l e room_1 s m #[Value.ref b] below meth c H locs (cells + 1) (slots + 6) (lw_Z below #[Value.ref b] s) (F0 m 1521 ls []) := by
      intro M1 M2 H locs ls hw hI hl
      refine lv_iinc (v := iv + 6) (lv' := [(4, .int (iv + 6)), (3, .ref q3), (2, .ref (A2 60 0)), (1, .ref (A1 0 0)), (0, .ref b)]) hx hb dL_law_1521 hl (k := 0) rfl rfl (by decide) rfl (fun ls hl => ?_)
      refine lv_goto (tgt := 23) hx hb dL_law_1524 (by decide) ?_
      exact ih (iv + 6) M1 M2 H locs ls (cells + 1) (slots + 6) (by rw [ti6]; omega) (by rw [ti6]; omega) (by rw [ti6]; omega) (by omega) (by omega) hw hI hl
    have kk : ∀ (M1 M2 : ti_M) (H : Heap) (locs : List Loc) (ls : Array Slot), lq_H s D cy A1 A2 q3 M1 M2 H locs → lq_I M1 M2 → lv_has ls 7 [(4, .int iv), (3, .ref q3), (2, .ref (A2 60 0)), (1, .ref (A1 0 0)), (0, .ref b)] → W p l e room_1 s m #[Value.ref b] below meth c H locs cells slots (lw_Z below #[Value.ref b] s) (F0 m 1521 ls []) := fun M1 M2 H locs ls hw hI hl => W.widen (Nat.le_add_right _ _) (Nat.le_add_right _ _) (kk1 M1 M2 H locs ls hw hI hl)
    refine lv_aload_n hx hb dL_law_33 rfl (lv_at hl 4 rfl) ?_
    refine lv_iload hx hb dL_law_34 (lv_at hl 0 rfl) ?_
    refine va_sld hx hb Z.2.2.1 Z.2.2.2.1 hbA hw.2.2.1 (lq_in0 hi) dL_law_36 ?_
    refine lv_bipush (v := 63) hx hb dL_law_37 (by decide) ?_
    refine lv_iand hx hb dL_law_39 ?_
    refine lv_topi (fun z ez => ?_)
    by_cases s_0 : z = 0
    · refine lv_tableIn (tgt := 208) (off := 168) hx hb dL_law_40 (by rw [s_0]; decide) (by rw [s_0]; decide) (by rw [s_0]; decide) (by decide) ?_
      exact lq_c0 Z hcs hw hI hi hl kk
    by_cases s_1 : z = 1
    · refine lv_tableIn (tgt := 281) (off := 241) hx hb dL_law_40 (by rw [s_1]; decide) (by rw [s_1]; decide) (by rw [s_1]; decide) (by decide) ?_
      exact lq_c1 Z hcs hw hI hi hl kk
    by_cases s_2 : z = 2
    · refine lv_tableIn (tgt := 306) (off := 266) hx hb dL_law_40 (by rw [s_2]; decide) (by rw [s_2]; decide) (by rw [s_2]; decide) (by decide) ?_
      exact lq_c2 Z hcs hw hI hi hl kk
    by_cases s_3 : z = 3
    · refine lv_tableIn (tgt := 331) (off := 291) hx hb dL_law_40 (by rw [s_3]; decide) (by rw [s_3]; decide) (by rw [s_3]; decide) (by decide) ?_
      exact lq_c3 Z hcs hw hI hi hl kk
    by_cases s_4 : z = 4
    · refine lv_tableIn (tgt := 356) (off := 316) hx hb dL_law_40 (by rw [s_4]; decide) (by rw [s_4]; decide) (by rw [s_4]; decide) (by decide) ?_
      exact lq_c4 hfl h4 Z hcs4 hw hI hi hl kk1
    by_cases s_5 : z = 5
    · refine lv_tableIn (tgt := 396) (off := 356) hx hb dL_law_40 (by rw [s_5]; decide) (by rw [s_5]; decide) (by rw [s_5]; decide) (by decide) ?_
      exact lq_c5 Z hcs hw hI hi hl kk
    by_cases s_6 : z = 6
    · refine lv_tableIn (tgt := 421) (off := 381) hx hb dL_law_40 (by rw [s_6]; decide) (by rw [s_6]; decide) (by rw [s_6]; decide) (by decide) ?_
      exact lq_c6 Z hcs hw hI hi hl kk
    by_cases s_7 : z = 7
    · refine lv_tableIn (tgt := 446) (off := 406) hx hb dL_law_40 (by rw [s_7]; decide) (by rw [s_7]; decide) (by rw [s_7]; decide) (by decide) ?_
      exact lq_c7 Z hcs hw hI hi hl kk
    by_cases s_8 : z = 8
    · refine lv_tableIn (tgt := 483) (off := 443) hx hb dL_law_40 (by rw [s_8]; decide) (by rw [s_8]; decide) (by rw [s_8]; decide) (by decide) ?_
      exact lq_c8 Z hcs hw hI hi hl kk
    by_cases s_9 : z = 9
    · refine lv_tableIn (tgt := 508) (off := 468) hx hb dL_law_40 (by rw [s_9]; decide) (by rw [s_9]; decide) (by rw [s_9]; decide) (by decide) ?_
      exact lq_c9 Z hcs hw hI hi hl kk
    by_cases s_10 : z = 10
    · refine lv_tableIn (tgt := 533) (off := 493) hx hb dL_law_40 (by rw [s_10]; decide) (by rw [s_10]; decide) (by rw [s_10]; decide) (by decide) ?_
      exact lq_c10 Z hcs hw hI hi hl kk
    by_cases s_11 : z = 11
    · refine lv_tableIn (tgt := 558) (off := 518) hx hb dL_law_40 (by rw [s_11]; decide) (by rw [s_11]; decide) (by rw [s_11]; decide) (by decide) ?_
      exact lq_c11 Z hcs hw hI hi hl kk
    by_cases s_12 : z = 12
    · refine lv_tableIn (tgt := 607) (off := 567) hx hb dL_law_40 (by rw [s_12]; decide) (by rw [s_12]; decide) (by rw [s_12]; decide) (by decide) ?_
      exact lq_c12 Z hcs hw hI hi hl kk
    by_cases s_13 : z = 13
    · refine lv_tableIn (tgt := 644) (off := 604) hx hb dL_law_40 (by rw [s_13]; decide) (by rw [s_13]; decide) (by rw [s_13]; decide) (by decide) ?_
      exact lq_c13 Z hcs hw hI hi hl kk
    by_cases s_14 : z = 14
    · refine lv_tableIn (tgt := 669) (off := 629) hx hb dL_law_40 (by rw [s_14]; decide) (by rw [s_14]; decide) (by rw [s_14]; decide) (by decide) ?_
      exact lq_c14 Z hcs hw hI hi hl kk
    by_cases s_15 : z = 15
    · refine lv_tableIn (tgt := 706) (off := 666) hx hb dL_law_40 (by rw [s_15]; decide) (by rw [s_15]; decide) (by rw [s_15]; decide) (by decide) ?_
      exact lq_c15 Z hcs hw hI hi hl kk
    by_cases s_16 : z = 16
    · refine lv_tableIn (tgt := 743) (off := 703) hx hb dL_law_40 (by rw [s_16]; decide) (by rw [s_16]; decide) (by rw [s_16]; decide) (by decide) ?_
      exact lq_c16 Z hcs hw hI hi hl kk
    by_cases s_17 : z = 17
    · refine lv_tableIn (tgt := 780) (off := 740) hx hb dL_law_40 (by rw [s_17]; decide) (by rw [s_17]; decide) (by rw [s_17]; decide) (by decide) ?_
      exact lq_c17 Z hcs hw hI hi hl kk
    by_cases s_18 : z = 18
    · refine lv_tableIn (tgt := 805) (off := 765) hx hb dL_law_40 (by rw [s_18]; decide) (by rw [s_18]; decide) (by rw [s_18]; decide) (by decide) ?_
      exact lq_c18 Z hcs hw hI hi hl kk
    by_cases s_19 : z = 19
    · refine lv_tableIn (tgt := 854) (off := 814) hx hb dL_law_40 (by rw [s_19]; decide) (by rw [s_19]; decide) (by rw [s_19]; decide) (by decide) ?_
      exact lq_c19 Z hcs hw hI hi hl kk
    by_cases s_20 : z = 20
    · refine lv_tableIn (tgt := 903) (off := 863) hx hb dL_law_40 (by rw [s_20]; decide) (by rw [s_20]; decide) (by rw [s_20]; decide) (by decide) ?_
      exact lq_c20 Z hcs hw hI hi hl kk
    by_cases s_21 : z = 21
    · refine lv_tableIn (tgt := 916) (off := 876) hx hb dL_law_40 (by rw [s_21]; decide) (by rw [s_21]; decide) (by rw [s_21]; decide) (by decide) ?_
      exact lq_c21 Z hcs hw hI hi hl kk
    by_cases s_22 : z = 22
    · refine lv_tableIn (tgt := 965) (off := 925) hx hb dL_law_40 (by rw [s_22]; decide) (by rw [s_22]; decide) (by rw [s_22]; decide) (by decide) ?_
      exact lq_c22 Z hcs hw hI hi hl kk
    by_cases s_23 : z = 23
    · refine lv_tableIn (tgt := 1026) (off := 986) hx hb dL_law_40 (by rw [s_23]; decide) (by rw [s_23]; decide) (by rw [s_23]; decide) (by decide) ?_
      exact lq_c23 Z hcs hw hI hi hl kk
    by_cases s_24 : z = 24
    · refine lv_tableIn (tgt := 1087) (off := 1047) hx hb dL_law_40 (by rw [s_24]; decide) (by rw [s_24]; decide) (by rw [s_24]; decide) (by decide) ?_
      exact lq_c24 Z hcs hw hI hi hl kk
    by_cases s_25 : z = 25
    · refine lv_tableIn (tgt := 1136) (off := 1096) hx hb dL_law_40 (by rw [s_25]; decide) (by rw [s_25]; decide) (by rw [s_25]; decide) (by decide) ?_
      exact lq_c25 Z hcs hw hI hi hl kk
    by_cases s_26 : z = 26
    · refine lv_tableIn (tgt := 1173) (off := 1133) hx hb dL_law_40 (by rw [s_26]; decide) (by rw [s_26]; decide) (by rw [s_26]; decide) (by decide) ?_
      exact lq_c26 Z hcs hw hI hi hl kk
    by_cases s_27 : z = 27
    · refine lv_tableIn (tgt := 1222) (off := 1182) hx hb dL_law_40 (by rw [s_27]; decide) (by rw [s_27]; decide) (by rw [s_27]; decide) (by decide) ?_
      exact lq_c27 Z hcs hw hI hi hl kk
    by_cases s_28 : z = 28
    · refine lv_tableIn (tgt := 1247) (off := 1207) hx hb dL_law_40 (by rw [s_28]; decide) (by rw [s_28]; decide) (by rw [s_28]; decide) (by decide) ?_
      exact lq_c28 Z hcs hw hI hi hl kk
    by_cases s_29 : z = 29
    · refine lv_tableIn (tgt := 1272) (off := 1232) hx hb dL_law_40 (by rw [s_29]; decide) (by rw [s_29]; decide) (by rw [s_29]; decide) (by decide) ?_
      exact lq_c29 Z hcs hw hI hi hl kk
    by_cases s_30 : z = 30
    · refine lv_tableIn (tgt := 1285) (off := 1245) hx hb dL_law_40 (by rw [s_30]; decide) (by rw [s_30]; decide) (by rw [s_30]; decide) (by decide) ?_
      exact lq_c30 Z hcs hw hI hi hl kk
    by_cases s_31 : z = 31
    · refine lv_tableIn (tgt := 1322) (off := 1282) hx hb dL_law_40 (by rw [s_31]; decide) (by rw [s_31]; decide) (by rw [s_31]; decide) (by decide) ?_
      exact lq_c31 Z hcs hw hI hi hl kk
    by_cases s_32 : z = 32
    · refine lv_tableIn (tgt := 1359) (off := 1319) hx hb dL_law_40 (by rw [s_32]; decide) (by rw [s_32]; decide) (by rw [s_32]; decide) (by decide) ?_
      exact lq_c32 Z hcs hw hI hi hl kk
    by_cases s_33 : z = 33
    · refine lv_tableIn (tgt := 1408) (off := 1368) hx hb dL_law_40 (by rw [s_33]; decide) (by rw [s_33]; decide) (by rw [s_33]; decide) (by decide) ?_
      exact lq_c33 Z hcs hw hI hi hl kk
    by_cases s_34 : z = 34
    · refine lv_tableIn (tgt := 1457) (off := 1417) hx hb dL_law_40 (by rw [s_34]; decide) (by rw [s_34]; decide) (by rw [s_34]; decide) (by decide) ?_
      exact lq_c34 Z hcs hw hI hi hl kk
    by_cases s_35 : z = 35
    · refine lv_tableIn (tgt := 1470) (off := 1430) hx hb dL_law_40 (by rw [s_35]; decide) (by rw [s_35]; decide) (by rw [s_35]; decide) (by decide) ?_
      exact lq_c35 Z hcs hw hI hi hl kk
    by_cases s_36 : z = 36
    · refine lv_tableIn (tgt := 1483) (off := 1443) hx hb dL_law_40 (by rw [s_36]; decide) (by rw [s_36]; decide) (by rw [s_36]; decide) (by decide) ?_
      exact lq_c36 Z hcs hw hI hi hl kk
    by_cases s_37 : z = 37
    · refine lv_tableIn (tgt := 1496) (off := 1456) hx hb dL_law_40 (by rw [s_37]; decide) (by rw [s_37]; decide) (by rw [s_37]; decide) (by decide) ?_
      exact lq_c37 Z hcs hw hI hi hl kk
    refine lv_tableOut (tgt := 1521) hx hb dL_law_40 (ti_out (lo := 0) (hi := 37) z (by
        intro v h1 h2
        have h3 : v = 0 ∨ v = 1 ∨ v = 2 ∨ v = 3 ∨ v = 4 ∨ v = 5 ∨ v = 6 ∨ v = 7 ∨ v = 8 ∨ v = 9 ∨ v = 10 ∨ v = 11 ∨ v = 12 ∨ v = 13 ∨ v = 14 ∨ v = 15 ∨ v = 16 ∨ v = 17 ∨ v = 18 ∨ v = 19 ∨ v = 20 ∨ v = 21 ∨ v = 22 ∨ v = 23 ∨ v = 24 ∨ v = 25 ∨ v = 26 ∨ v = 27 ∨ v = 28 ∨ v = 29 ∨ v = 30 ∨ v = 31 ∨ v = 32 ∨ v = 33 ∨ v = 34 ∨ v = 35 ∨ v = 36 ∨ v = 37 := by omega
        rcases h3 with rfl | rfl | rfl | rfl | rfl | rfl | rfl | rfl | rfl | rfl | rfl | rfl | rfl | rfl | rfl | rfl | rfl | rfl | rfl | rfl | rfl | rfl | rfl | rfl | rfl | rfl | rfl | rfl | rfl | rfl | rfl | rfl | rfl | rfl | rfl | rfl | rfl | rfl <;> first | exact ti_nev 0 s_0 (by decide) | exact ti_nev 1 s_1 (by decide) | exact ti_nev 2 s_2 (by decide) | exact ti_nev 3 s_3 (by decide) | exact ti_nev 4 s_4 (by decide) | exact ti_nev 5 s_5 (by decide) | exact ti_nev 6 s_6 (by decide) | exact ti_nev 7 s_7 (by decide) | exact ti_nev 8 s_8 (by decide) | exact ti_nev 9 s_9 (by decide) | exact ti_nev 10 s_10 (by decide) | exact ti_nev 11 s_11 (by decide) | exact ti_nev 12 s_12 (by decide) | exact ti_nev 13 s_13 (by decide) | exact ti_nev 14 s_14 (by decide) | exact ti_nev 15 s_15 (by decide) | exact ti_nev 16 s_16 (by decide) | exact ti_nev 17 s_17 (by decide) | exact ti_nev 18 s_18 (by decide) | exact ti_nev 19 s_19 (by decide) | exact ti_nev 20 s_20 (by decide) | exact ti_nev 21 s_21 (by decide) | exact ti_nev 22 s_22 (by decide) | exact ti_nev 23 s_23 (by decide) | exact ti_nev 24 s_24 (by decide) | exact ti_nev 25 s_25 (by decide) | exact ti_nev 26 s_26 (by decide) | exact ti_nev 27 s_27 (by decide) | exact ti_nev 28 s_28 (by decide) | exact ti_nev 29 s_29 (by decide) | exact ti_nev 30 s_30 (by decide) | exact ti_nev 31 s_31 (by decide) | exact ti_nev 32 s_32 (by decide) | exact ti_nev 33 s_33 (by decide) | exact ti_nev 34 s_34 (by decide) | exact ti_nev 35 s_35 (by decide) | exact ti_nev 36 s_36 (by decide) | exact ti_nev 37 s_37 (by decide))) (by decide) ?_
    exact kk M1 M2 H locs ls hw hI hl
set_option maxHeartbeats 4000000 in
set_option maxRecDepth 100000 in
theorem whole_start {p : Program} {e : Env} {s : State} {m : MethodId} {below : List Frame} {meth : Method} {c : Code} (l : Launch) (hflags : l.flags = flags0) {b L : Nat} {xs : Nat → Int32} (hL : L ≤ 3072) (C0 : lw_At p s m meth c b L xs) : W p l e room_1 s m #[Value.ref b] below meth c s.heap [] 0 0 (lw_Z below #[Value.ref b] s) (entryFrame m ([Value.ref b] : List Value).toArray 7) := by
  obtain ⟨hx, hb, hr, hml, hown, hts, hX, hbl, hlocks, hgv⟩ := id C0
  have hA : ∀ q : Nat, s.heap.size ≤ q → lq_F s q := fun _ h => h
  have hbA : ¬ lq_F s b := Nat.not_le.mpr hbl
  have ho1 : (Cond.arrayOver (.object RX1)).before #[Value.ref b] s = true := hts _ (List.mem_of_getElem? (i := 224) (by decide +kernel))
  have ho2 : (Cond.arrayOver (.object RX2)).before #[Value.ref b] s = true := hts _ (List.mem_of_getElem? (i := 222) (by decide +kernel))
  have ho3 : (Cond.arrayOver (.object RX3)).before #[Value.ref b] s = true := hts _ (List.mem_of_getElem? (i := 460) (by decide +kernel))
  obtain ⟨D, cy, hK⟩ := lq_K (lw_g_hts hts) ho1 ho2 ho3
  have hN : ti_N s := ⟨va_Nw.of rfl (hts _ (List.mem_of_getElem? (i := 156) (by decide +kernel))), va_Nw.of rfl (hts _ (List.mem_of_getElem? (i := 162) (by decide +kernel))), va_Nw.of rfl (hts _ (List.mem_of_getElem? (i := 226) (by decide +kernel))), va_Nw.of rfl (hts _ (List.mem_of_getElem? (i := 279) (by decide +kernel))), va_Nw.of rfl (hts _ (List.mem_of_getElem? (i := 372) (by decide +kernel))), va_Nw.of rfl (hts _ (List.mem_of_getElem? (i := 461) (by decide +kernel))), va_Nw.of rfl (hts _ (List.mem_of_getElem? (i := 475) (by decide +kernel))), va_Nw.of rfl (hts _ (List.mem_of_getElem? (i := 480) (by decide +kernel))), va_Nw.of rfl (hts _ (List.mem_of_getElem? (i := 527) (by decide +kernel))), va_Nw.of rfl (hts _ (List.mem_of_getElem? (i := 532) (by decide +kernel))), va_AO.of ho1, va_AO.of ho2, va_AO.of ho3⟩
  have C : lq_B p s m c #[Value.ref b] cL_law RL 7 D cy := ⟨hx, hb, lw_g_hts hts, hown, hK, hml, trivial, hN⟩
  have hini : (Cond.initialized Bundle.tN).before #[Value.ref b] s = true := hts _ (List.mem_of_getElem? (i := 140) (by decide +kernel))
  have hflat := flat_of_before _ hgv
  have hAn : ∀ a : Nat, a < s.heap.size → ¬ lq_F s a := fun a h1 h2 => Nat.not_le.mpr h1 h2
  have hE : tx_E (lq_F s) s s.heap := lq_E hts hflat hAn
  have h4 : lk_S (lq_F s) s s.heap := by
    have hsr : (Cond.stringRef RX9 110 lk_t).before #[Value.ref b] s = true := hts _ (List.mem_of_getElem? (i := 1285) (by decide +kernel))
    have hs2 : (Cond.stringRef RX9 156 lk_t2).before #[Value.ref b] s = true := hts _ (List.mem_of_getElem? (i := 1321) (by decide +kernel))
    obtain ⟨-, -, -, sa, -, -, -, -, -, hev⟩ := Cond.stringRef_spec (hK.1 9 _ rfl).2.1 hsr
    obtain ⟨-, -, -, sb, -, -, -, -, -, hev2⟩ := Cond.stringRef_spec (hK.1 9 _ rfl).2.1 hs2
    exact ⟨⟨⟨sa, vk_R.of hsr hev⟩, sb, vk_R.of hs2 hev2⟩, vx_Zqof (hts _ (List.mem_of_getElem? (i := 1272) (by decide +kernel))) hini (hflat _ (by decide +kernel)) hAn, vx_Zqof (hts _ (List.mem_of_getElem? (i := 1274) (by decide +kernel))) hini (hflat _ (by decide +kernel)) hAn, va_Nw.of rfl (hts _ (List.mem_of_getElem? (i := 1249) (by decide +kernel))), va_Nw.of rfl (hts _ (List.mem_of_getElem? (i := 1251) (by decide +kernel))), va_Nw.of rfl (hts _ (List.mem_of_getElem? (i := 1253) (by decide +kernel))), va_Nw.of rfl (hts _ (List.mem_of_getElem? (i := 1247) (by decide +kernel))), va_Nw.of rfl (hts _ (List.mem_of_getElem? (i := 1314) (by decide +kernel))), va_Nc.of (hflat _ (by decide +kernel))⟩
  have hP : va_P D vwCl [] s.heap := fun k q h => by simp at h
  have hD : va_D (lq_F s) [] := ⟨fun i j p q h => by simp at h, fun k q h => by simp at h⟩
  have hS : va_S (lq_F s) s.heap s.heap [] := va_S.rf
  have hl := lv_entry ([.ref b]) (n := 7) (Nat.le_of_ble_eq_true rfl)
  rw [lg_entry_eq]
  generalize (lg_sl ([.ref b]) ++ List.replicate (7 - (lg_sl ([.ref b])).length) Slot.unset).toArray = ls at hl ⊢
  have hl : lv_has ls 7 [(0, .ref b)] := hl
  refine lq_nO (ci := 9) (fs := [.null, .null, .null, .null, .null, .null, .null, .int 0, .null, .null]) (T := TX9) (N := 10) tyX9 tyX9_ok C iw_9 ck_L_8 is_X9 in_X9 rfl hP hD hS hA nf_9 1 10 (Nat.le_of_ble_eq_true rfl) (Nat.le_of_ble_eq_true rfl) ⟨Nat.le_of_ble_eq_true rfl, Nat.le_of_ble_eq_true rfl⟩ dL_law_0 (fun q9 H hP hD hS => ?_)
  refine lv_dup hx hb dL_law_3 rfl ?_
  refine lq_callCI C (z_X9_init l D cy q9 H.size) ml_L_17 rfl ym_X9_init yi_X9_init yc_X9_init yd_X9_init hP hD hS hA hl.1 (Nat.le_of_ble_eq_true rfl) ⟨by decide, by decide⟩ 378 5869 (Nat.le_of_ble_eq_true rfl) (Nat.le_of_ble_eq_true rfl) ⟨Nat.le_of_ble_eq_true rfl, Nat.le_of_ble_eq_true rfl⟩ dL_law_4 (fun u9 Hc9 locs9 hp9 hPc9 hDc9 hSc9 => ?_)
  obtain ⟨A1, M1⟩ := u9
  obtain ⟨rfl, h1, h1b, c1, c2, c3, c4, c5, c6, c7, c8, c9, c10, c11, J9, c12⟩ := hp9
  refine lv_astore_n (lv' := [(1, .ref (A1 0 0)), (0, .ref b)]) hx hb dL_law_7 rfl hl (by decide) rfl (fun ls hl => ?_)
  have hP : va_P D vwCl (ti_W ti_LT A1 cy M1) Hc9 := hPc9
  have hD : va_D (lq_F s) (ti_W ti_LT A1 cy M1) := hDc9
  have hS := hSc9
  refine lq_nO (ci := 10) (fs := [.int 0, .null, .int 0, .null, .null, .null, .null, .null, .null, .null, .null, .null, .null, .null, .null, .null, .null, .null, .int 0, .int 0, .int 0, .int 0, .int 0, .int 0, .int 0, .int 0, .int 0, .int 0, .int 0, .int 0, .int 0, .null, .null, .int 0, .null, .null, .null, .null, .null, .null, .null, .null, .null, .null, .null, .null, .null, .null, .null, .null, .null, .int 0, .int 0, .int 0, .null, .null, .int 0, .null, .int 0, .int 0, .null, .null, .null, .null, .null, .int 0, .int 0]) (T := TX10) (N := 67) tyX10 tyX10_ok C iw_10 ck_L_18 is_X10 in_X10 rfl hP hD hS hA nf_10 379 5936 (Nat.le_of_ble_eq_true rfl) (Nat.le_of_ble_eq_true rfl) ⟨Nat.le_of_ble_eq_true rfl, Nat.le_of_ble_eq_true rfl⟩ dL_law_8 (fun q10 H hP hD hS => ?_)
  refine lv_dup hx hb dL_law_11 rfl ?_
  refine lq_callCI C (z_X10_init l D cy q10 H.size J9) ml_L_20 rfl ym_X10_init yi_X10_init yc_X10_init yd_X10_init hP hD hS hA hl.1 (Nat.le_of_ble_eq_true rfl) ⟨by decide, by decide⟩ 422 10060 (Nat.le_of_ble_eq_true rfl) (Nat.le_of_ble_eq_true rfl) ⟨Nat.le_of_ble_eq_true rfl, Nat.le_of_ble_eq_true rfl⟩ dL_law_12 (fun u10 Hc10 locs10 hp10 hPc10 hDc10 hSc10 => ?_)
  obtain ⟨A2, M2⟩ := u10
  obtain ⟨rfl, h2, h2b, h2c, d1, d2, d3, d4, d5, d6⟩ := hp10
  refine lv_astore_n (lv' := [(2, .ref (A2 60 0)), (1, .ref (A1 0 0)), (0, .ref b)]) hx hb dL_law_15 rfl hl (by decide) rfl (fun ls hl => ?_)
  have hP : va_P D vwCl (ti_W ti_LT A1 cy M1 ++ ti_W ti_LM A2 cy M2) Hc10 := hPc10
  have hD : va_D (lq_F s) (ti_W ti_LT A1 cy M1 ++ ti_W ti_LM A2 cy M2) := hDc10
  have hS := hSc10
  refine lv_iconst (v := 1) hx hb dL_law_16 (by decide) ?_
  refine lq_nA (atype := .long) (a0 := (1, .inr (.inl (fun _ => 0)))) 2 C ac_long rfl (fun C h => by cases h) rfl hP hD hS hA (fun _ => rfl) (by decide) (by decide) (Nat.le_of_ble_eq_true rfl) 423 10061 (Nat.le_of_ble_eq_true rfl) (Nat.le_of_ble_eq_true rfl) ⟨Nat.le_of_ble_eq_true rfl, Nat.le_of_ble_eq_true rfl⟩ dL_law_17 (fun q3 H hP hD hS => ?_)
  refine lv_astore_n (lv' := [(3, .ref q3), (2, .ref (A2 60 0)), (1, .ref (A1 0 0)), (0, .ref b)]) hx hb dL_law_19 rfl hl (by decide) rfl (fun ls hl => ?_)
  refine lv_iconst (v := 0) hx hb dL_law_20 (by decide) ?_
  refine lv_istore (lv' := [(4, .int 0), (3, .ref q3), (2, .ref (A2 60 0)), (1, .ref (A1 0 0)), (0, .ref b)]) hx hb dL_law_21 hl (by decide) rfl (fun ls hl => ?_)
  obtain ⟨hAA, hw⟩ := lq_mk hP hD hS
  have z0 : (0 : Int32).toInt = 0 := by decide
  exact lq_loop hflags h4 ⟨C, hAA, hX, hbl, hr, hlocks, hL, hE⟩ (L + 1) 0 M1 M2 H _ ls 423 10061 (by rw [z0]; omega) (by rw [z0]; omega) (by rw [z0]; omega) (by omega) (by omega) hw ⟨_, _, h1, h2, h1b.trans h2b.symm, (fun i hi => by rw [h1b] at hi; have z1 : (0 : Int32).toInt = 0 := (by decide); omega), (by rw [c1]), (by rw [c2]), (congrArg Int32.toInt c6), (congrArg Int32.toInt c7), (td_0 c3 c4 c5 h2c).elim (fun rg h => ⟨rg, h.1, h.2, lE_new (Or.inl rfl) c11 c3 c8 c12 c9 c10 tW_0 d1 d2 d3 d4 d5 d6⟩)⟩ hl

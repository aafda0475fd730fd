variable {Tc : Nat → Int32} {Tm : (Nat → Int32) × Int32 × Int32}
set_option maxHeartbeats 4000000 in
set_option maxRecDepth 100000 in
theorem x_X9_fault (l : Launch) (D : va_G) (A : Nat → Nat → Nat) (cy : Nat → ClassId) (hJ : ti_inj ti_LT A) (M : ti_M) (hI : cI Tc M) (hF : cF Tc M) (za : Int32) : ti_Ki l yX9_fault cX9_fault 2 (some .int) 0 ti_LT D A cy M [.ref (A 0 0), .int za] (fun r M2 => (cF Tc M2 ∧ tI M2 2 1 = tI M 2 1 ∧ tl M2 M) ∧ r.toInt = (if za.toInt = 0 then (tI M 1 4).toInt else if za.toInt = 1 then (tI M 1 5).toInt else -1)) := by
  refine ti_eI yp_X9_fault hJ ti_LT_nd (Nat.le_of_ble_eq_true rfl) ?_
  intro p e s m args below meth c Q H0 C hQ hw ls hl
  have hx := C.1
  have hb := C.2.1
  have hl : lv_has ls 2 [(0, .ref (A 0 0)), (1, .int za)] := hl
  obtain ⟨-, ⟨t1, ht1, hT1⟩, ⟨t2, ht2, hT2⟩, ⟨t, ht, hT⟩, hS, hM⟩ := id hF
  refine lv_iload_n hx hb dX9_fault_0 rfl (lv_at hl 1 rfl) ?_
  by_cases s_1_0 : za = 0
  · refine lv_lookup (tgt := 28) hx hb dX9_fault_1 (by decide) (off := 27) (by rw [s_1_0]; decide) (by decide) ?_
    refine lv_aload_n hx hb dX9_fault_28 rfl (lv_at hl 0 rfl) ?_
    refine ti_get (ci := 9) (k := 0) (N := 10) (T := TX9) (v := .ref (A 1 0)) C hw iw_9 rfl ob_0 (by decide) (by decide) fl_X9_12 rfl rfl dX9_fault_29 ?_
    refine ti_get (ci := 4) (k := 4) (N := 6) (T := TX4) C hw iw_4 rfl ob_1 (by decide) (by decide) fl_X9_94 rfl rfl dX9_fault_32 ?_
    refine lv_topi (fun x_2 ex_2 => ?_)
    exact hQ _ _ _ _ _ _ hw rfl (⟨⟨hF, rfl, tl.refl⟩, (by rw [if_pos (by rw [s_1_0]; decide), (ex_2.symm)])⟩) dX9_fault_35
  · by_cases s_1_1 : za = 1
    · refine lv_lookup (tgt := 36) hx hb dX9_fault_1 (by decide) (off := 35) (by rw [s_1_1]; decide) (by decide) ?_
      refine lv_aload_n hx hb dX9_fault_36 rfl (lv_at hl 0 rfl) ?_
      refine ti_get (ci := 9) (k := 0) (N := 10) (T := TX9) (v := .ref (A 1 0)) C hw iw_9 rfl ob_0 (by decide) (by decide) fl_X9_12 rfl rfl dX9_fault_37 ?_
      refine ti_get (ci := 4) (k := 5) (N := 6) (T := TX4) C hw iw_4 rfl ob_1 (by decide) (by decide) fl_X9_97 rfl rfl dX9_fault_40 ?_
      refine lv_topi (fun x_3 ex_3 => ?_)
      exact hQ _ _ _ _ _ _ hw rfl (⟨⟨hF, rfl, tl.refl⟩, (by rw [if_neg (ti_nev 0 s_1_0 (by decide)), if_pos (by rw [s_1_1]; decide), (ex_3.symm)])⟩) dX9_fault_43
    · refine lv_lookup (tgt := 44) hx hb dX9_fault_1 (by decide) (off := 43) (ti_lk _ za.toInt _ (by intro q hq; simp only [List.mem_cons, List.not_mem_nil, or_false] at hq; rcases hq with rfl | rfl <;> first | exact ti_nev 0 s_1_0 (by decide) | exact ti_nev 1 s_1_1 (by decide))) (by decide) ?_
      refine lv_iconst (v := (-1)) hx hb dX9_fault_44 (by decide) ?_
      exact hQ _ _ _ _ _ _ hw rfl (⟨⟨hF, rfl, tl.refl⟩, (by rw [if_neg (ti_nev 0 s_1_0 (by decide)), if_neg (ti_nev 1 s_1_1 (by decide))]; decide)⟩) dX9_fault_45

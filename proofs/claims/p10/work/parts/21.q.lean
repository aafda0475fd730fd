variable {Tc : gC} {Tm : gM}
theorem dp_sp {s v : Nat → Int32} {a n d d2 : Nat} (h : dp s v a n = some d) (h2 : dp s v a (n + 1) = some d2) : ((s (a + n)).toInt = 2 ∧ (v (a + n)).toInt = 260 ∧ 1 ≤ d ∧ d2 = d) ∨ ((s (a + n)).toInt = 2 ∧ (v (a + n)).toInt ≠ 260 ∧ 2 ≤ d ∧ d2 = d - 1) ∨ ((s (a + n)).toInt ≠ 2 ∧ ((s (a + n)).toInt = 0 ∨ (0 ≤ (v (a + n)).toInt ∧ (v (a + n)).toInt ≤ 5)) ∧ d2 = d + 1) := by
  simp only [dp, h, Option.bind_some] at h2
  split at h2
  · split at h2
    · split at h2
      · cases h2; exact Or.inl ⟨by assumption, by assumption, by assumption, rfl⟩
      · cases h2
    · split at h2
      · cases h2; exact Or.inr (Or.inl ⟨by assumption, by assumption, by assumption, rfl⟩)
      · cases h2
  · split at h2
    · cases h2; exact Or.inr (Or.inr ⟨by assumption, by assumption, rfl⟩)
    · cases h2
theorem dp_pre {s v : Nat → Int32} {a : Nat} : ∀ (j n D : Nat), dp s v a (n + j) = some D → ∃ d, dp s v a n = some d := by
  intro j
  induction j with
  | zero => intro n D h; exact ⟨D, h⟩
  | succ j ih =>
    intro n D h
    have h : dp s v a ((n + j) + 1) = some D := h
    simp only [dp] at h
    obtain ⟨d0, h0, -⟩ := Option.bind_eq_some_iff.mp h
    exact ih n d0 h0
/-- so deep is the pile ahead of the knot k -/
def gd (M : ti_M) (a : Int32) (k : Int) (d : Nat) : Prop := dp (tY M 60 16) (tY M 60 17) (tY M 60 14 a.toNatClampNeg).toInt.toNat (k.toNat - (tY M 60 14 a.toNatClampNeg).toInt.toNat) = some d
theorem gd_0 {M : ti_M} {a x : Int32} (e : tY M 60 14 a.toNatClampNeg = x) : gd M a x.toInt 0 := by unfold gd; rw [e, Nat.sub_self]; rfl
theorem mL_go {M : ti_M} (hI : mI Tm M) (hL : mL M) {a k : Int32} (h1 : 0 ≤ a.toInt) (h2 : a.toInt ≤ 2) {d : Nat} (hk1 : (tY M 60 14 a.toNatClampNeg).toInt ≤ k.toInt) (hk2 : k.toInt < (tY M 60 15 a.toNatClampNeg).toInt) (h : gd M a k.toInt d) :
    ∃ d2, gd M a (k.toInt + 1) d2 ∧ (((tY M 60 16 k.toNatClampNeg).toInt = 2 ∧ (tY M 60 17 k.toNatClampNeg).toInt = 260 ∧ 1 ≤ d ∧ d2 = d) ∨ ((tY M 60 16 k.toNatClampNeg).toInt = 2 ∧ (tY M 60 17 k.toNatClampNeg).toInt ≠ 260 ∧ 2 ≤ d ∧ d2 = d - 1) ∨ ((tY M 60 16 k.toNatClampNeg).toInt ≠ 2 ∧ ((tY M 60 16 k.toNatClampNeg).toInt = 0 ∨ (0 ≤ (tY M 60 17 k.toNatClampNeg).toInt ∧ (tY M 60 17 k.toNatClampNeg).toInt ≤ 5)) ∧ d2 = d + 1)) := by
  have b1 : 0 ≤ (tY M 60 14 a.toNatClampNeg).toInt ∧ (tY M 60 14 a.toNatClampNeg).toInt ≤ 64 := hI.2.1 14 _
  unfold gd at h ⊢
  have ha : a.toNatClampNeg < 3 := i_nt rfl h1 (by omega)
  generalize hA : tY M 60 14 a.toNatClampNeg = A at *
  obtain ⟨D, hD⟩ := hL _ ha A.toInt.toNat ((tY M 60 15 a.toNatClampNeg).toInt.toNat - A.toInt.toNat) (by rw [hA]; omega) (by omega)
  obtain ⟨n, hn⟩ : ∃ n : Nat, k.toInt.toNat = A.toInt.toNat + n := ⟨k.toInt.toNat - A.toInt.toNat, by omega⟩
  have hk : k.toNatClampNeg = A.toInt.toNat + n := hn
  rw [show k.toInt.toNat - A.toInt.toNat = n by omega] at h
  rw [show (k.toInt + 1).toNat - A.toInt.toNat = n + 1 by omega, hk]
  obtain ⟨d2, h3⟩ := dp_pre ((tY M 60 15 a.toNatClampNeg).toInt.toNat - A.toInt.toNat - (n + 1)) (n + 1) D (by rw [show n + 1 + ((tY M 60 15 a.toNatClampNeg).toInt.toNat - A.toInt.toNat - (n + 1)) = (tY M 60 15 a.toNatClampNeg).toInt.toNat - A.toInt.toNat by omega]; exact hD)
  exact ⟨d2, h3, dp_sp h h3⟩
theorem gd_le {M : ti_M} {a : Int32} {k : Int} {d : Nat} (h : gd M a k d) : d ≤ k.toNat := Nat.le_trans (dp_le _ _ h) (Nat.sub_le _ _)
section
variable {p : Program} {l : Launch} {e : Env} {R : Room} {s : State} {m : MethodId} {args : Array Value} {below : List Frame} {meth : Method} {c : Code} {H : Heap} {locs : List Loc} {cells slots : Nat} {Q : State → Prop} {pc : Nat} {ls : Array Slot} {rest : List Value} {cc : ByteArray} {own : String} {nL : Nat} {D : va_G} {cy : Nat → ClassId} {Ls : List (Nat × Nat)} {A : Nat → Nat → Nat}
theorem ti_absl {idx : Nat} (C : ti_C p s m c args cc own nL D cy Ls A) (hm : Cond.methodLink own idx yJ9_abs_067f4 ∈ lw_g) (hsz : ls.size = nL) (hfr : 1 ≤ R.frames) (hlo : (rest.map fun v => v.category).sum + 13 ≤ R.locals) (hcs : cells ≤ R.cells ∧ slots ≤ R.slots) {x : Int64} (hdg : decode cc pc = .ok (.invokestatic idx, 3)) (kk : W p l e R s m args below meth c H locs cells slots Q (F0 m (pc + 3) ls (.long (if 0 < x then x else -x) :: rest))) : W p l e R s m args below meth c H locs cells slots Q (F0 m pc ls (.long x :: rest)) :=
  va_mabs_long C.1 C.2.1 (by rw [C.2.2.2.2.2.1, hsz]) C.2.2.2.1 (C.2.2.1 _ hm) (C.2.2.1 _ ys_J9_abs_067f4) (C.2.2.1 _ yi_J9_abs_067f4) (C.2.2.1 _ yc_J9_abs_067f4) hfr hlo hcs.1 hcs.2 hdg kk
end
theorem ab0 {z x : Int64} (e : z = if 0 < x then x else -x) (h : ¬ x = 0) : ¬ z = 0 := by
  rw [e]
  split
  · exact h
  · exact ln0 rfl h
set_option maxHeartbeats 4000000 in
set_option maxRecDepth 100000 in
theorem s_X10_works (l : Launch) (D : va_G) (A : Nat → Nat → Nat) (cy : Nat → ClassId) (hJ : ti_inj ti_LM A) (M : ti_M) (hI : mI Tm M) (sg d : Int32) (hd : tI M 60 33 = d) (d1 : 1 ≤ d.toInt) (d2 : d.toInt ≤ 64) (hs : sg.toInt = 260 ∨ 2 ≤ d.toInt) : ti_Ki l yX10_works cX10_works 8 (some .boolean) 1 ti_LM D A cy M [.ref (A 60 0), .int sg] (fun r M2 => mI Tm M2 ∧ qw M2 M ∧ M2.2.1 = M.2.1 ∧ 0 ≤ r.toInt ∧ r.toInt ≤ 1 ∧ ((sg.toInt = 260 ∧ (tI M2 60 33).toInt = d.toInt) ∨ (sg.toInt ≠ 260 ∧ (tI M2 60 33).toInt = d.toInt - 1))) := by
  refine ti_eI yp_X10_works hJ ti_LM_nd (Nat.le_of_ble_eq_true rfl) ?_
  intro p e s m args below meth c Q H0 C hQ hw ls hl
  have hx := C.1
  have hb := C.2.1
  have hl : lv_has ls 8 [(0, .ref (A 60 0)), (1, .int sg)] := hl
  refine lv_aload_n hx hb dX10_works_0 rfl (lv_at hl 0 rfl) ?_
  refine ti_get (ci := 10) (k := 32) (N := 67) (T := TX10) (v := .ref (A 60 33)) C hw iw_10 rfl ob_60 (by decide) (by decide) fl_X10_66 rfl rfl dX10_works_1 ?_
  refine lv_aload_n hx hb dX10_works_4 rfl (lv_at hl 0 rfl) ?_
  refine ti_get (ci := 10) (k := 33) (N := 67) (T := TX10) C hw iw_10 rfl ob_60 (by decide) (by decide) fl_X10_320 rfl rfl dX10_works_5 ?_
  refine ti_top (y := d) (hd) ?_
  have u_1 : (tI M 60 33).toInt = (d : Int32).toInt := by rw [(hd)]
  refine lv_iconst (v := 1) hx hb dX10_works_8 (by decide) ?_
  refine lv_isub hx hb dX10_works_9 ?_
  refine lv_topi (fun x_2 ex_2 => ?_)
  have tx_2 : x_2.toInt = d.toInt - 1 := i_sub ex_2 rfl (by decide : (1 : Int32).toInt = 1) (by omega) (by omega)
  refine ti_lald (ci := 10) (k := 32) (n := 64) C hw ob_60 (by decide) (fun _ _ => rfl) (vp_in_iff.mpr (by omega)) dX10_works_10 ?_
  refine lv_topl (fun x_3 ex_3 => ?_)
  refine lv_lstore_n (lv' := [(2, .long x_3), (0, .ref (A 60 0)), (1, .int sg)]) hx hb dX10_works_11 rfl hl (by decide) rfl (fun ls hl => ?_)
  refine lv_iload_n hx hb dX10_works_12 rfl (lv_at hl 2 rfl) ?_
  refine lv_sipush (v := 260) hx hb dX10_works_13 (by decide) ?_
  refine sb_icmp_ne (tgt := 46) hx hb rfl (by decide : (260 : Int32).toInt = 260) dX10_works_16 (by decide) (fun c_16_3 => ?_) (fun c_16_3 => ?_)
  · refine lv_aload_n hx hb dX10_works_46 rfl (lv_at hl 1 rfl) ?_
    refine ti_get (ci := 10) (k := 32) (N := 67) (T := TX10) (v := .ref (A 60 33)) C hw iw_10 rfl ob_60 (by decide) (by decide) fl_X10_66 rfl rfl dX10_works_47 ?_
    refine lv_aload_n hx hb dX10_works_50 rfl (lv_at hl 1 rfl) ?_
    refine ti_get (ci := 10) (k := 33) (N := 67) (T := TX10) C hw iw_10 rfl ob_60 (by decide) (by decide) fl_X10_320 rfl rfl dX10_works_51 ?_
    refine ti_top (y := d) (hd) ?_
    have u_15 : (tI M 60 33).toInt = (d : Int32).toInt := by rw [(hd)]
    refine lv_iconst (v := 2) hx hb dX10_works_54 (by decide) ?_
    refine lv_isub hx hb dX10_works_55 ?_
    refine lv_topi (fun x_16 ex_16 => ?_)
    have tx_16 : x_16.toInt = d.toInt - 2 := i_sub ex_16 rfl (by decide : (2 : Int32).toInt = 2) (by omega) (by omega)
    refine ti_lald (ci := 10) (k := 32) (n := 64) C hw ob_60 (by decide) (fun _ _ => rfl) (vp_in_iff.mpr (by omega)) dX10_works_56 ?_
    refine lv_topl (fun x_17 ex_17 => ?_)
    refine lv_lstore (lv' := [(4, .long x_17), (2, .long x_3), (0, .ref (A 60 0)), (1, .int sg)]) hx hb dX10_works_57 hl (by decide) rfl (fun ls hl => ?_)
    refine lv_aload_n hx hb dX10_works_59 rfl (lv_at hl 2 rfl) ?_
    refine lv_dup hx hb dX10_works_60 rfl ?_
    refine ti_get (ci := 10) (k := 33) (N := 67) (T := TX10) C hw iw_10 rfl ob_60 (by decide) (by decide) fl_X10_320 rfl rfl dX10_works_61 ?_
    refine ti_top (y := d) (hd) ?_
    have u_18 : (tI M 60 33).toInt = (d : Int32).toInt := by rw [(hd)]
    refine lv_iconst (v := 1) hx hb dX10_works_64 (by decide) ?_
    refine lv_isub hx hb dX10_works_65 ?_
    refine lv_topi (fun x_19 ex_19 => ?_)
    have tx_19 : x_19.toInt = d.toInt - 1 := i_sub ex_19 rfl (by decide : (1 : Int32).toInt = 1) (by omega) (by omega)
    refine ti_putI (ci := 10) (k := 33) (N := 67) (T := TX10) C hw iw_10 tyX10 tyX10_ok nmX10 rfl ob_60 (by decide) (by decide) fl_X10_320 rfl rfl rfl rfl (fn_10 A _) fs_10_33 dX10_works_66 (fun H locs hw => ?_)
    obtain ⟨M_20, hM_20⟩ : ∃ z : ti_M, z = uI M 60 33 x_19 := ⟨_, rfl⟩
    have hw := hw.to hM_20.symm
    have iM_20 : mI Tm M_20 := mI_uI hI hM_20 (by decide) (by decide) (ib_mk (lo := 0) (hi := 64) (by omega) (by omega))
    have vM_20 : (tI M_20 60 33).toInt = (x_19 : Int32).toInt := by rw [tI_uE hM_20]
    refine lv_iload_n hx hb dX10_works_69 rfl (lv_at hl 3 rfl) ?_
    have hj_407_95 : ∀ (x_95 : Int64) (H : Heap) (locs : List Loc) (ls : Array Slot), ti_H ti_LM D A cy H0 M_20 H locs → lv_has ls 8 [(6, .long x_95), (4, .long x_17), (2, .long x_3), (0, .ref (A 60 0)), (1, .int sg)] → W p l e (ti_rm 1) s m args below meth c H locs 0 0 Q (F0 m 407 ls []) := by
      intro x_95 H locs ls  hw hl
      refine lv_aload_n hx hb dX10_works_407 rfl (lv_at hl 3 rfl) ?_
      refine ti_get (ci := 10) (k := 32) (N := 67) (T := TX10) (v := .ref (A 60 33)) C hw iw_10 rfl ob_60 (by decide) (by decide) fl_X10_66 rfl rfl dX10_works_408 ?_
      refine lv_aload_n hx hb dX10_works_411 rfl (lv_at hl 3 rfl) ?_
      refine ti_get (ci := 10) (k := 33) (N := 67) (T := TX10) C hw iw_10 rfl ob_60 (by decide) (by decide) fl_X10_320 rfl rfl dX10_works_412 ?_
      refine ti_top (y := x_19) (tI_uE hM_20) ?_
      have u_96 : (tI M_20 60 33).toInt = (x_19 : Int32).toInt := by rw [(tI_uE hM_20)]
      refine lv_iconst (v := 1) hx hb dX10_works_415 (by decide) ?_
      refine lv_isub hx hb dX10_works_416 ?_
      refine lv_topi (fun x_97 ex_97 => ?_)
      have tx_97 : x_97.toInt = x_19.toInt - 1 := i_sub ex_97 rfl (by decide : (1 : Int32).toInt = 1) (by omega) (by omega)
      refine lv_lload hx hb dX10_works_417 (lv_at hl 0 rfl) ?_
      refine ti_last (ci := 10) (k := 32) (n := 64) C hw ob_60 (by decide) (fun _ _ => rfl) (vp_in_iff.mpr (by omega)) dX10_works_419 (fun H locs hw => ?_)
      obtain ⟨M_98, hM_98⟩ : ∃ z : ti_M, z = uZ M_20 60 32 (vp_updL (tZ M_20 60 32) (x_97 : Int32).toNatClampNeg x_95) := ⟨_, rfl⟩
      have hw := hw.to hM_98.symm
      have iM_98 : mI Tm M_98 := mI_uZ iM_20 hM_98
      refine lv_lload hx hb dX10_works_420 (lv_at hl 0 rfl) ?_
      refine lv_ldc2 (v := 1000000000000) hx hb C.2.2.2.1 (C.2.2.1 _ cn_X10_333) dX10_works_422 ?_
      refine W.lcmp hx hb dX10_works_425 ?_
      refine lv_topi (fun x_99 ex_99 => ?_)
      have hj_442_102 : ∀  (H : Heap) (locs : List Loc) (ls : Array Slot), ti_H ti_LM D A cy H0 M_98 H locs → lv_has ls 8 [(6, .long x_95), (4, .long x_17), (2, .long x_3), (0, .ref (A 60 0)), (1, .int sg)] → W p l e (ti_rm 1) s m args below meth c H locs 0 0 Q (F0 m 442 ls []) := by
        intro  H locs ls  hw hl
        refine lv_iconst (v := 0) hx hb dX10_works_442 (by decide) ?_
        exact hQ _ _ _ _ _ _ hw rfl (⟨iM_98, (qw.trans (qw_Z hM_98) (qw_I hM_20 (by decide))), ((ry_Z hM_98).trans (ry_I hM_20)), (by first | omega | decide), (by first | omega | decide), by rw [((tI_uZE hM_98).trans (tI_uE hM_20))]; omega⟩) dX10_works_443
      refine sb_if_gt (tgt := 442) hx hb rfl dX10_works_426 (by decide) (fun c_426_99 => ?_) (fun c_426_99 => ?_)
      · exact hj_442_102  _ _ _  hw (lv_sub hl [0, 1, 2, 3, 4] rfl)
      · refine lv_lload hx hb dX10_works_429 (lv_at hl 0 rfl) ?_
        refine lv_ldc2 (v := (-1000000000000)) hx hb C.2.2.2.1 (C.2.2.1 _ cn_X10_335) dX10_works_431 ?_
        refine W.lcmp hx hb dX10_works_434 ?_
        refine lv_topi (fun x_101 ex_101 => ?_)
        refine sb_if_lt (tgt := 442) hx hb rfl dX10_works_435 (by decide) (fun c_435_101 => ?_) (fun c_435_101 => ?_)
        · exact hj_442_102  _ _ _  hw (lv_sub hl [0, 1, 2, 3, 4] rfl)
        · refine lv_iconst (v := 1) hx hb dX10_works_438 (by decide) ?_
          refine lv_goto (tgt := 443) hx hb dX10_works_439 (by decide) ?_
          exact hQ _ _ _ _ _ _ hw rfl (⟨iM_98, (qw.trans (qw_Z hM_98) (qw_I hM_20 (by decide))), ((ry_Z hM_98).trans (ry_I hM_20)), (by first | omega | decide), (by first | omega | decide), by rw [((tI_uZE hM_98).trans (tI_uE hM_20))]; omega⟩) dX10_works_443
    by_cases s_21_42 : sg = 42
    · refine lv_lookup (tgt := 186) hx hb dX10_works_70 (by decide) (off := 116) (by rw [s_21_42]; decide) (by decide) ?_
      refine lv_lload hx hb dX10_works_186 (lv_at hl 0 rfl) ?_
      refine lv_lconst (v := 0) hx hb dX10_works_188 (by decide) ?_
      refine W.lcmp hx hb dX10_works_189 ?_
      refine lv_topi (fun x_24 ex_24 => ?_)
      have hj_212_30 : ∀  (H : Heap) (locs : List Loc) (ls : Array Slot), ti_H ti_LM D A cy H0 M_20 H locs → lv_has ls 8 [(4, .long x_17), (2, .long x_3), (0, .ref (A 60 0)), (1, .int sg)] → W p l e (ti_rm 1) s m args below meth c H locs 0 0 Q (F0 m 212 ls []) := by
        intro  H locs ls  hw hl
        refine lv_lload hx hb dX10_works_212 (lv_at hl 0 rfl) ?_
        refine lv_lload_n hx hb dX10_works_214 rfl (lv_at hl 1 rfl) ?_
        refine lv_lmul hx hb dX10_works_215 ?_
        refine lv_topl (fun x_31 ex_31 => ?_)
        refine lv_lstore (lv' := [(6, .long x_31), (4, .long x_17), (2, .long x_3), (0, .ref (A 60 0)), (1, .int sg)]) hx hb dX10_works_216 hl (by decide) rfl (fun ls hl => ?_)
        refine lv_goto (tgt := 407) hx hb dX10_works_218 (by decide) ?_
        exact hj_407_95 x_31 _ _ _  hw (lv_sub hl [0, 1, 2, 3, 4] rfl)
      refine sb_if_eq (tgt := 212) hx hb rfl dX10_works_190 (by decide) (fun c_190_24 => ?_) (fun c_190_24 => ?_)
      · exact hj_212_30  _ _ _  hw (lv_sub hl [0, 1, 2, 3] rfl)
      · refine lv_lload_n hx hb dX10_works_193 rfl (lv_at hl 1 rfl) ?_
        refine ti_absl C ml_X10_327 hl.1 (by decide) (Nat.le_of_ble_eq_true rfl) ⟨Nat.zero_le _, Nat.zero_le _⟩ dX10_works_194 ?_
        refine lv_topl (fun x_26 ex_26 => ?_)
        refine lv_ldc2 (v := 1000000000000) hx hb C.2.2.2.1 (C.2.2.1 _ cn_X10_333) dX10_works_197 ?_
        refine lv_lload hx hb dX10_works_200 (lv_at hl 0 rfl) ?_
        refine ti_absl C ml_X10_327 hl.1 (by decide) (Nat.le_of_ble_eq_true rfl) ⟨Nat.zero_le _, Nat.zero_le _⟩ dX10_works_202 ?_
        refine lv_topl (fun x_27 ex_27 => ?_)
        refine lv_ldiv hx hb dX10_works_205 (ab0 ex_27 (lc0 ex_24 c_190_24)) ?_
        refine lv_topl (fun x_28 ex_28 => ?_)
        refine W.lcmp hx hb dX10_works_206 ?_
        refine lv_topi (fun x_29 ex_29 => ?_)
        refine sb_if_le (tgt := 212) hx hb rfl dX10_works_207 (by decide) (fun c_207_29 => ?_) (fun c_207_29 => ?_)
        · exact hj_212_30  _ _ _  hw (lv_sub hl [0, 1, 2, 3] rfl)
        · refine lv_iconst (v := 0) hx hb dX10_works_210 (by decide) ?_
          exact hQ _ _ _ _ _ _ hw rfl (⟨iM_20, (qw_I hM_20 (by decide)), (ry_I hM_20), (by first | omega | decide), (by first | omega | decide), by rw [(tI_uE hM_20)]; omega⟩) dX10_works_211
    · by_cases s_21_43 : sg = 43
      · refine lv_lookup (tgt := 168) hx hb dX10_works_70 (by decide) (off := 98) (by rw [s_21_43]; decide) (by decide) ?_
        refine lv_lload hx hb dX10_works_168 (lv_at hl 0 rfl) ?_
        refine lv_lload_n hx hb dX10_works_170 rfl (lv_at hl 1 rfl) ?_
        refine lv_ladd hx hb dX10_works_171 ?_
        refine lv_topl (fun x_22 ex_22 => ?_)
        refine lv_lstore (lv' := [(6, .long x_22), (4, .long x_17), (2, .long x_3), (0, .ref (A 60 0)), (1, .int sg)]) hx hb dX10_works_172 hl (by decide) rfl (fun ls hl => ?_)
        refine lv_goto (tgt := 407) hx hb dX10_works_174 (by decide) ?_
        exact hj_407_95 x_22 _ _ _  hw (lv_sub hl [0, 1, 2, 3, 4] rfl)
      · by_cases s_21_45 : sg = 45
        · refine lv_lookup (tgt := 177) hx hb dX10_works_70 (by decide) (off := 107) (by rw [s_21_45]; decide) (by decide) ?_
          refine lv_lload hx hb dX10_works_177 (lv_at hl 0 rfl) ?_
          refine lv_lload_n hx hb dX10_works_179 rfl (lv_at hl 1 rfl) ?_
          refine lv_lsub hx hb dX10_works_180 ?_
          refine lv_topl (fun x_23 ex_23 => ?_)
          refine lv_lstore (lv' := [(6, .long x_23), (4, .long x_17), (2, .long x_3), (0, .ref (A 60 0)), (1, .int sg)]) hx hb dX10_works_181 hl (by decide) rfl (fun ls hl => ?_)
          refine lv_goto (tgt := 407) hx hb dX10_works_183 (by decide) ?_
          exact hj_407_95 x_23 _ _ _  hw (lv_sub hl [0, 1, 2, 3, 4] rfl)
        · by_cases s_21_47 : sg = 47
          · refine lv_lookup (tgt := 221) hx hb dX10_works_70 (by decide) (off := 151) (by rw [s_21_47]; decide) (by decide) ?_
            refine lv_lload_n hx hb dX10_works_221 rfl (lv_at hl 1 rfl) ?_
            refine lv_lconst (v := 0) hx hb dX10_works_222 (by decide) ?_
            refine W.lcmp hx hb dX10_works_223 ?_
            refine lv_topi (fun x_32 ex_32 => ?_)
            refine sb_if_ne (tgt := 229) hx hb rfl dX10_works_224 (by decide) (fun c_224_32 => ?_) (fun c_224_32 => ?_)
            · refine lv_lload hx hb dX10_works_229 (lv_at hl 0 rfl) ?_
              refine lv_lload_n hx hb dX10_works_231 rfl (lv_at hl 1 rfl) ?_
              refine lv_ldiv hx hb dX10_works_232 (lc0 ex_32 c_224_32) ?_
              refine lv_topl (fun x_34 ex_34 => ?_)
              refine lv_lstore (lv' := [(6, .long x_34), (4, .long x_17), (2, .long x_3), (0, .ref (A 60 0)), (1, .int sg)]) hx hb dX10_works_233 hl (by decide) rfl (fun ls hl => ?_)
              refine lv_goto (tgt := 407) hx hb dX10_works_235 (by decide) ?_
              exact hj_407_95 x_34 _ _ _  hw (lv_sub hl [0, 1, 2, 3, 4] rfl)
            · refine lv_iconst (v := 0) hx hb dX10_works_227 (by decide) ?_
              exact hQ _ _ _ _ _ _ hw rfl (⟨iM_20, (qw_I hM_20 (by decide)), (ry_I hM_20), (by first | omega | decide), (by first | omega | decide), by rw [(tI_uE hM_20)]; omega⟩) dX10_works_228
          · by_cases s_21_60 : sg = 60
            · refine lv_lookup (tgt := 238) hx hb dX10_works_70 (by decide) (off := 168) (by rw [s_21_60]; decide) (by decide) ?_
              refine lv_lload hx hb dX10_works_238 (lv_at hl 0 rfl) ?_
              refine lv_lload_n hx hb dX10_works_240 rfl (lv_at hl 1 rfl) ?_
              refine W.lcmp hx hb dX10_works_241 ?_
              refine lv_topi (fun x_35 ex_35 => ?_)
              have hj_250_39 : ∀ (x_37 : Int32) (H : Heap) (locs : List Loc) (ls : Array Slot), (0 ≤ x_37.toInt) → (x_37.toInt ≤ 1) → ti_H ti_LM D A cy H0 M_20 H locs → lv_has ls 8 [(4, .long x_17), (2, .long x_3), (0, .ref (A 60 0)), (1, .int sg)] → W p l e (ti_rm 1) s m args below meth c H locs 0 0 Q (F0 m 250 ls [.int x_37]) := by
                intro x_37 H locs ls b_38 b_39 hw hl
                refine ti_callSl (av := [.int x_37]) C hw (s_X10_is l D A cy hJ M_20 iM_20 x_37) ⟨ml_X10_323, ys_X10_is, yi_X10_is, yc_X10_is⟩ yd_X10_is rfl hl.1 (Nat.le_of_ble_eq_true rfl) ⟨by decide, by decide⟩ ⟨Nat.zero_le _, Nat.zero_le _⟩ dX10_works_250 (fun r_40 M_41 H locs hp_41 hw => ?_)
                have hm := hp_41
                have hw := hw.to hm
                refine lv_lstore (lv' := [(6, .long r_40), (4, .long x_17), (2, .long x_3), (0, .ref (A 60 0)), (1, .int sg)]) hx hb dX10_works_253 hl (by decide) rfl (fun ls hl => ?_)
                refine lv_goto (tgt := 407) hx hb dX10_works_255 (by decide) ?_
                exact hj_407_95 r_40 _ _ _  hw (lv_sub hl [0, 1, 2, 3, 4] rfl)
              refine sb_if_ge (tgt := 249) hx hb rfl dX10_works_242 (by decide) (fun c_242_35 => ?_) (fun c_242_35 => ?_)
              · refine lv_iconst (v := 0) hx hb dX10_works_249 (by decide) ?_
                exact hj_250_39 0 _ _ _ (by have lt0 : (0 : Int32).toInt = 0 := (by decide); first | omega | decide) (by have lt0 : (0 : Int32).toInt = 0 := (by decide); first | omega | decide) hw (lv_sub hl [0, 1, 2, 3] rfl)
              · refine lv_iconst (v := 1) hx hb dX10_works_245 (by decide) ?_
                refine lv_goto (tgt := 250) hx hb dX10_works_246 (by decide) ?_
                exact hj_250_39 1 _ _ _ (by have lt0 : (1 : Int32).toInt = 1 := (by decide); first | omega | decide) (by have lt0 : (1 : Int32).toInt = 1 := (by decide); first | omega | decide) hw (lv_sub hl [0, 1, 2, 3] rfl)
            · by_cases s_21_61 : sg = 61
              · refine lv_lookup (tgt := 278) hx hb dX10_works_70 (by decide) (off := 208) (by rw [s_21_61]; decide) (by decide) ?_
                refine lv_lload hx hb dX10_works_278 (lv_at hl 0 rfl) ?_
                refine lv_lload_n hx hb dX10_works_280 rfl (lv_at hl 1 rfl) ?_
                refine W.lcmp hx hb dX10_works_281 ?_
                refine lv_topi (fun x_49 ex_49 => ?_)
                have hj_290_53 : ∀ (x_51 : Int32) (H : Heap) (locs : List Loc) (ls : Array Slot), (0 ≤ x_51.toInt) → (x_51.toInt ≤ 1) → ti_H ti_LM D A cy H0 M_20 H locs → lv_has ls 8 [(4, .long x_17), (2, .long x_3), (0, .ref (A 60 0)), (1, .int sg)] → W p l e (ti_rm 1) s m args below meth c H locs 0 0 Q (F0 m 290 ls [.int x_51]) := by
                  intro x_51 H locs ls b_52 b_53 hw hl
                  refine ti_callSl (av := [.int x_51]) C hw (s_X10_is l D A cy hJ M_20 iM_20 x_51) ⟨ml_X10_323, ys_X10_is, yi_X10_is, yc_X10_is⟩ yd_X10_is rfl hl.1 (Nat.le_of_ble_eq_true rfl) ⟨by decide, by decide⟩ ⟨Nat.zero_le _, Nat.zero_le _⟩ dX10_works_290 (fun r_54 M_55 H locs hp_55 hw => ?_)
                  have hm := hp_55
                  have hw := hw.to hm
                  refine lv_lstore (lv' := [(6, .long r_54), (4, .long x_17), (2, .long x_3), (0, .ref (A 60 0)), (1, .int sg)]) hx hb dX10_works_293 hl (by decide) rfl (fun ls hl => ?_)
                  refine lv_goto (tgt := 407) hx hb dX10_works_295 (by decide) ?_
                  exact hj_407_95 r_54 _ _ _  hw (lv_sub hl [0, 1, 2, 3, 4] rfl)
                refine sb_if_ne (tgt := 289) hx hb rfl dX10_works_282 (by decide) (fun c_282_49 => ?_) (fun c_282_49 => ?_)
                · refine lv_iconst (v := 0) hx hb dX10_works_289 (by decide) ?_
                  exact hj_290_53 0 _ _ _ (by have lt0 : (0 : Int32).toInt = 0 := (by decide); first | omega | decide) (by have lt0 : (0 : Int32).toInt = 0 := (by decide); first | omega | decide) hw (lv_sub hl [0, 1, 2, 3] rfl)
                · refine lv_iconst (v := 1) hx hb dX10_works_285 (by decide) ?_
                  refine lv_goto (tgt := 290) hx hb dX10_works_286 (by decide) ?_
                  exact hj_290_53 1 _ _ _ (by have lt0 : (1 : Int32).toInt = 1 := (by decide); first | omega | decide) (by have lt0 : (1 : Int32).toInt = 1 := (by decide); first | omega | decide) hw (lv_sub hl [0, 1, 2, 3] rfl)
              · by_cases s_21_62 : sg = 62
                · refine lv_lookup (tgt := 258) hx hb dX10_works_70 (by decide) (off := 188) (by rw [s_21_62]; decide) (by decide) ?_
                  refine lv_lload hx hb dX10_works_258 (lv_at hl 0 rfl) ?_
                  refine lv_lload_n hx hb dX10_works_260 rfl (lv_at hl 1 rfl) ?_
                  refine W.lcmp hx hb dX10_works_261 ?_
                  refine lv_topi (fun x_42 ex_42 => ?_)
                  have hj_270_46 : ∀ (x_44 : Int32) (H : Heap) (locs : List Loc) (ls : Array Slot), (0 ≤ x_44.toInt) → (x_44.toInt ≤ 1) → ti_H ti_LM D A cy H0 M_20 H locs → lv_has ls 8 [(4, .long x_17), (2, .long x_3), (0, .ref (A 60 0)), (1, .int sg)] → W p l e (ti_rm 1) s m args below meth c H locs 0 0 Q (F0 m 270 ls [.int x_44]) := by
                    intro x_44 H locs ls b_45 b_46 hw hl
                    refine ti_callSl (av := [.int x_44]) C hw (s_X10_is l D A cy hJ M_20 iM_20 x_44) ⟨ml_X10_323, ys_X10_is, yi_X10_is, yc_X10_is⟩ yd_X10_is rfl hl.1 (Nat.le_of_ble_eq_true rfl) ⟨by decide, by decide⟩ ⟨Nat.zero_le _, Nat.zero_le _⟩ dX10_works_270 (fun r_47 M_48 H locs hp_48 hw => ?_)
                    have hm := hp_48
                    have hw := hw.to hm
                    refine lv_lstore (lv' := [(6, .long r_47), (4, .long x_17), (2, .long x_3), (0, .ref (A 60 0)), (1, .int sg)]) hx hb dX10_works_273 hl (by decide) rfl (fun ls hl => ?_)
                    refine lv_goto (tgt := 407) hx hb dX10_works_275 (by decide) ?_
                    exact hj_407_95 r_47 _ _ _  hw (lv_sub hl [0, 1, 2, 3, 4] rfl)
                  refine sb_if_le (tgt := 269) hx hb rfl dX10_works_262 (by decide) (fun c_262_42 => ?_) (fun c_262_42 => ?_)
                  · refine lv_iconst (v := 0) hx hb dX10_works_269 (by decide) ?_
                    exact hj_270_46 0 _ _ _ (by have lt0 : (0 : Int32).toInt = 0 := (by decide); first | omega | decide) (by have lt0 : (0 : Int32).toInt = 0 := (by decide); first | omega | decide) hw (lv_sub hl [0, 1, 2, 3] rfl)
                  · refine lv_iconst (v := 1) hx hb dX10_works_265 (by decide) ?_
                    refine lv_goto (tgt := 270) hx hb dX10_works_266 (by decide) ?_
                    exact hj_270_46 1 _ _ _ (by have lt0 : (1 : Int32).toInt = 1 := (by decide); first | omega | decide) (by have lt0 : (1 : Int32).toInt = 1 := (by decide); first | omega | decide) hw (lv_sub hl [0, 1, 2, 3] rfl)
                · by_cases s_21_256 : sg = 256
                  · refine lv_lookup (tgt := 298) hx hb dX10_works_70 (by decide) (off := 228) (by rw [s_21_256]; decide) (by decide) ?_
                    refine lv_lload hx hb dX10_works_298 (lv_at hl 0 rfl) ?_
                    refine lv_lload_n hx hb dX10_works_300 rfl (lv_at hl 1 rfl) ?_
                    refine W.lcmp hx hb dX10_works_301 ?_
                    refine lv_topi (fun x_56 ex_56 => ?_)
                    have hj_310_60 : ∀ (x_58 : Int32) (H : Heap) (locs : List Loc) (ls : Array Slot), (0 ≤ x_58.toInt) → (x_58.toInt ≤ 1) → ti_H ti_LM D A cy H0 M_20 H locs → lv_has ls 8 [(4, .long x_17), (2, .long x_3), (0, .ref (A 60 0)), (1, .int sg)] → W p l e (ti_rm 1) s m args below meth c H locs 0 0 Q (F0 m 310 ls [.int x_58]) := by
                      intro x_58 H locs ls b_59 b_60 hw hl
                      refine ti_callSl (av := [.int x_58]) C hw (s_X10_is l D A cy hJ M_20 iM_20 x_58) ⟨ml_X10_323, ys_X10_is, yi_X10_is, yc_X10_is⟩ yd_X10_is rfl hl.1 (Nat.le_of_ble_eq_true rfl) ⟨by decide, by decide⟩ ⟨Nat.zero_le _, Nat.zero_le _⟩ dX10_works_310 (fun r_61 M_62 H locs hp_62 hw => ?_)
                      have hm := hp_62
                      have hw := hw.to hm
                      refine lv_lstore (lv' := [(6, .long r_61), (4, .long x_17), (2, .long x_3), (0, .ref (A 60 0)), (1, .int sg)]) hx hb dX10_works_313 hl (by decide) rfl (fun ls hl => ?_)
                      refine lv_goto (tgt := 407) hx hb dX10_works_315 (by decide) ?_
                      exact hj_407_95 r_61 _ _ _  hw (lv_sub hl [0, 1, 2, 3, 4] rfl)
                    refine sb_if_gt (tgt := 309) hx hb rfl dX10_works_302 (by decide) (fun c_302_56 => ?_) (fun c_302_56 => ?_)
                    · refine lv_iconst (v := 0) hx hb dX10_works_309 (by decide) ?_
                      exact hj_310_60 0 _ _ _ (by have lt0 : (0 : Int32).toInt = 0 := (by decide); first | omega | decide) (by have lt0 : (0 : Int32).toInt = 0 := (by decide); first | omega | decide) hw (lv_sub hl [0, 1, 2, 3] rfl)
                    · refine lv_iconst (v := 1) hx hb dX10_works_305 (by decide) ?_
                      refine lv_goto (tgt := 310) hx hb dX10_works_306 (by decide) ?_
                      exact hj_310_60 1 _ _ _ (by have lt0 : (1 : Int32).toInt = 1 := (by decide); first | omega | decide) (by have lt0 : (1 : Int32).toInt = 1 := (by decide); first | omega | decide) hw (lv_sub hl [0, 1, 2, 3] rfl)
                  · by_cases s_21_257 : sg = 257
                    · refine lv_lookup (tgt := 338) hx hb dX10_works_70 (by decide) (off := 268) (by rw [s_21_257]; decide) (by decide) ?_
                      refine lv_lload hx hb dX10_works_338 (lv_at hl 0 rfl) ?_
                      refine lv_lload_n hx hb dX10_works_340 rfl (lv_at hl 1 rfl) ?_
                      refine W.lcmp hx hb dX10_works_341 ?_
                      refine lv_topi (fun x_70 ex_70 => ?_)
                      have hj_350_74 : ∀ (x_72 : Int32) (H : Heap) (locs : List Loc) (ls : Array Slot), (0 ≤ x_72.toInt) → (x_72.toInt ≤ 1) → ti_H ti_LM D A cy H0 M_20 H locs → lv_has ls 8 [(4, .long x_17), (2, .long x_3), (0, .ref (A 60 0)), (1, .int sg)] → W p l e (ti_rm 1) s m args below meth c H locs 0 0 Q (F0 m 350 ls [.int x_72]) := by
                        intro x_72 H locs ls b_73 b_74 hw hl
                        refine ti_callSl (av := [.int x_72]) C hw (s_X10_is l D A cy hJ M_20 iM_20 x_72) ⟨ml_X10_323, ys_X10_is, yi_X10_is, yc_X10_is⟩ yd_X10_is rfl hl.1 (Nat.le_of_ble_eq_true rfl) ⟨by decide, by decide⟩ ⟨Nat.zero_le _, Nat.zero_le _⟩ dX10_works_350 (fun r_75 M_76 H locs hp_76 hw => ?_)
                        have hm := hp_76
                        have hw := hw.to hm
                        refine lv_lstore (lv' := [(6, .long r_75), (4, .long x_17), (2, .long x_3), (0, .ref (A 60 0)), (1, .int sg)]) hx hb dX10_works_353 hl (by decide) rfl (fun ls hl => ?_)
                        refine lv_goto (tgt := 407) hx hb dX10_works_355 (by decide) ?_
                        exact hj_407_95 r_75 _ _ _  hw (lv_sub hl [0, 1, 2, 3, 4] rfl)
                      refine sb_if_eq (tgt := 349) hx hb rfl dX10_works_342 (by decide) (fun c_342_70 => ?_) (fun c_342_70 => ?_)
                      · refine lv_iconst (v := 0) hx hb dX10_works_349 (by decide) ?_
                        exact hj_350_74 0 _ _ _ (by have lt0 : (0 : Int32).toInt = 0 := (by decide); first | omega | decide) (by have lt0 : (0 : Int32).toInt = 0 := (by decide); first | omega | decide) hw (lv_sub hl [0, 1, 2, 3] rfl)
                      · refine lv_iconst (v := 1) hx hb dX10_works_345 (by decide) ?_
                        refine lv_goto (tgt := 350) hx hb dX10_works_346 (by decide) ?_
                        exact hj_350_74 1 _ _ _ (by have lt0 : (1 : Int32).toInt = 1 := (by decide); first | omega | decide) (by have lt0 : (1 : Int32).toInt = 1 := (by decide); first | omega | decide) hw (lv_sub hl [0, 1, 2, 3] rfl)
                    · by_cases s_21_258 : sg = 258
                      · refine lv_lookup (tgt := 318) hx hb dX10_works_70 (by decide) (off := 248) (by rw [s_21_258]; decide) (by decide) ?_
                        refine lv_lload hx hb dX10_works_318 (lv_at hl 0 rfl) ?_
                        refine lv_lload_n hx hb dX10_works_320 rfl (lv_at hl 1 rfl) ?_
                        refine W.lcmp hx hb dX10_works_321 ?_
                        refine lv_topi (fun x_63 ex_63 => ?_)
                        have hj_330_67 : ∀ (x_65 : Int32) (H : Heap) (locs : List Loc) (ls : Array Slot), (0 ≤ x_65.toInt) → (x_65.toInt ≤ 1) → ti_H ti_LM D A cy H0 M_20 H locs → lv_has ls 8 [(4, .long x_17), (2, .long x_3), (0, .ref (A 60 0)), (1, .int sg)] → W p l e (ti_rm 1) s m args below meth c H locs 0 0 Q (F0 m 330 ls [.int x_65]) := by
                          intro x_65 H locs ls b_66 b_67 hw hl
                          refine ti_callSl (av := [.int x_65]) C hw (s_X10_is l D A cy hJ M_20 iM_20 x_65) ⟨ml_X10_323, ys_X10_is, yi_X10_is, yc_X10_is⟩ yd_X10_is rfl hl.1 (Nat.le_of_ble_eq_true rfl) ⟨by decide, by decide⟩ ⟨Nat.zero_le _, Nat.zero_le _⟩ dX10_works_330 (fun r_68 M_69 H locs hp_69 hw => ?_)
                          have hm := hp_69
                          have hw := hw.to hm
                          refine lv_lstore (lv' := [(6, .long r_68), (4, .long x_17), (2, .long x_3), (0, .ref (A 60 0)), (1, .int sg)]) hx hb dX10_works_333 hl (by decide) rfl (fun ls hl => ?_)
                          refine lv_goto (tgt := 407) hx hb dX10_works_335 (by decide) ?_
                          exact hj_407_95 r_68 _ _ _  hw (lv_sub hl [0, 1, 2, 3, 4] rfl)
                        refine sb_if_lt (tgt := 329) hx hb rfl dX10_works_322 (by decide) (fun c_322_63 => ?_) (fun c_322_63 => ?_)
                        · refine lv_iconst (v := 0) hx hb dX10_works_329 (by decide) ?_
                          exact hj_330_67 0 _ _ _ (by have lt0 : (0 : Int32).toInt = 0 := (by decide); first | omega | decide) (by have lt0 : (0 : Int32).toInt = 0 := (by decide); first | omega | decide) hw (lv_sub hl [0, 1, 2, 3] rfl)
                        · refine lv_iconst (v := 1) hx hb dX10_works_325 (by decide) ?_
                          refine lv_goto (tgt := 330) hx hb dX10_works_326 (by decide) ?_
                          exact hj_330_67 1 _ _ _ (by have lt0 : (1 : Int32).toInt = 1 := (by decide); first | omega | decide) (by have lt0 : (1 : Int32).toInt = 1 := (by decide); first | omega | decide) hw (lv_sub hl [0, 1, 2, 3] rfl)
                      · by_cases s_21_261 : sg = 261
                        · refine lv_lookup (tgt := 358) hx hb dX10_works_70 (by decide) (off := 288) (by rw [s_21_261]; decide) (by decide) ?_
                          refine lv_lload hx hb dX10_works_358 (lv_at hl 0 rfl) ?_
                          refine lv_lconst (v := 0) hx hb dX10_works_360 (by decide) ?_
                          refine W.lcmp hx hb dX10_works_361 ?_
                          refine lv_topi (fun x_77 ex_77 => ?_)
                          have hj_376_83 : ∀ (x_81 : Int32) (H : Heap) (locs : List Loc) (ls : Array Slot), (0 ≤ x_81.toInt) → (x_81.toInt ≤ 1) → ti_H ti_LM D A cy H0 M_20 H locs → lv_has ls 8 [(4, .long x_17), (2, .long x_3), (0, .ref (A 60 0)), (1, .int sg)] → W p l e (ti_rm 1) s m args below meth c H locs 0 0 Q (F0 m 376 ls [.int x_81]) := by
                            intro x_81 H locs ls b_82 b_83 hw hl
                            refine ti_callSl (av := [.int x_81]) C hw (s_X10_is l D A cy hJ M_20 iM_20 x_81) ⟨ml_X10_323, ys_X10_is, yi_X10_is, yc_X10_is⟩ yd_X10_is rfl hl.1 (Nat.le_of_ble_eq_true rfl) ⟨by decide, by decide⟩ ⟨Nat.zero_le _, Nat.zero_le _⟩ dX10_works_376 (fun r_84 M_85 H locs hp_85 hw => ?_)
                            have hm := hp_85
                            have hw := hw.to hm
                            refine lv_lstore (lv' := [(6, .long r_84), (4, .long x_17), (2, .long x_3), (0, .ref (A 60 0)), (1, .int sg)]) hx hb dX10_works_379 hl (by decide) rfl (fun ls hl => ?_)
                            refine lv_goto (tgt := 407) hx hb dX10_works_381 (by decide) ?_
                            exact hj_407_95 r_84 _ _ _  hw (lv_sub hl [0, 1, 2, 3, 4] rfl)
                          have hj_375_80 : ∀  (H : Heap) (locs : List Loc) (ls : Array Slot), ti_H ti_LM D A cy H0 M_20 H locs → lv_has ls 8 [(4, .long x_17), (2, .long x_3), (0, .ref (A 60 0)), (1, .int sg)] → W p l e (ti_rm 1) s m args below meth c H locs 0 0 Q (F0 m 375 ls []) := by
                            intro  H locs ls  hw hl
                            refine lv_iconst (v := 0) hx hb dX10_works_375 (by decide) ?_
                            exact hj_376_83 0 _ _ _ (by have lt0 : (0 : Int32).toInt = 0 := (by decide); first | omega | decide) (by have lt0 : (0 : Int32).toInt = 0 := (by decide); first | omega | decide) hw (lv_sub hl [0, 1, 2, 3] rfl)
                          refine sb_if_eq (tgt := 375) hx hb rfl dX10_works_362 (by decide) (fun c_362_77 => ?_) (fun c_362_77 => ?_)
                          · exact hj_375_80  _ _ _  hw (lv_sub hl [0, 1, 2, 3] rfl)
                          · refine lv_lload_n hx hb dX10_works_365 rfl (lv_at hl 1 rfl) ?_
                            refine lv_lconst (v := 0) hx hb dX10_works_366 (by decide) ?_
                            refine W.lcmp hx hb dX10_works_367 ?_
                            refine lv_topi (fun x_79 ex_79 => ?_)
                            refine sb_if_eq (tgt := 375) hx hb rfl dX10_works_368 (by decide) (fun c_368_79 => ?_) (fun c_368_79 => ?_)
                            · exact hj_375_80  _ _ _  hw (lv_sub hl [0, 1, 2, 3] rfl)
                            · refine lv_iconst (v := 1) hx hb dX10_works_371 (by decide) ?_
                              refine lv_goto (tgt := 376) hx hb dX10_works_372 (by decide) ?_
                              exact hj_376_83 1 _ _ _ (by have lt0 : (1 : Int32).toInt = 1 := (by decide); first | omega | decide) (by have lt0 : (1 : Int32).toInt = 1 := (by decide); first | omega | decide) hw (lv_sub hl [0, 1, 2, 3] rfl)
                        · refine lv_lookup (tgt := 384) hx hb dX10_works_70 (by decide) (off := 314) (ti_lk _ sg.toInt _ (by intro q hq; simp only [List.mem_cons, List.not_mem_nil, or_false] at hq; rcases hq with rfl | rfl | rfl | rfl | rfl | rfl | rfl | rfl | rfl | rfl | rfl <;> first | exact ti_nev 42 s_21_42 (by decide) | exact ti_nev 43 s_21_43 (by decide) | exact ti_nev 45 s_21_45 (by decide) | exact ti_nev 47 s_21_47 (by decide) | exact ti_nev 60 s_21_60 (by decide) | exact ti_nev 61 s_21_61 (by decide) | exact ti_nev 62 s_21_62 (by decide) | exact ti_nev 256 s_21_256 (by decide) | exact ti_nev 257 s_21_257 (by decide) | exact ti_nev 258 s_21_258 (by decide) | exact ti_nev 261 s_21_261 (by decide))) (by decide) ?_
                          refine lv_lload hx hb dX10_works_384 (lv_at hl 0 rfl) ?_
                          refine lv_lconst (v := 0) hx hb dX10_works_386 (by decide) ?_
                          refine W.lcmp hx hb dX10_works_387 ?_
                          refine lv_topi (fun x_86 ex_86 => ?_)
                          have hj_402_92 : ∀ (x_90 : Int32) (H : Heap) (locs : List Loc) (ls : Array Slot), (0 ≤ x_90.toInt) → (x_90.toInt ≤ 1) → ti_H ti_LM D A cy H0 M_20 H locs → lv_has ls 8 [(4, .long x_17), (2, .long x_3), (0, .ref (A 60 0)), (1, .int sg)] → W p l e (ti_rm 1) s m args below meth c H locs 0 0 Q (F0 m 402 ls [.int x_90]) := by
                            intro x_90 H locs ls b_91 b_92 hw hl
                            refine ti_callSl (av := [.int x_90]) C hw (s_X10_is l D A cy hJ M_20 iM_20 x_90) ⟨ml_X10_323, ys_X10_is, yi_X10_is, yc_X10_is⟩ yd_X10_is rfl hl.1 (Nat.le_of_ble_eq_true rfl) ⟨by decide, by decide⟩ ⟨Nat.zero_le _, Nat.zero_le _⟩ dX10_works_402 (fun r_93 M_94 H locs hp_94 hw => ?_)
                            have hm := hp_94
                            have hw := hw.to hm
                            refine lv_lstore (lv' := [(6, .long r_93), (4, .long x_17), (2, .long x_3), (0, .ref (A 60 0)), (1, .int sg)]) hx hb dX10_works_405 hl (by decide) rfl (fun ls hl => ?_)
                            exact hj_407_95 r_93 _ _ _  hw (lv_sub hl [0, 1, 2, 3, 4] rfl)
                          have hj_397_89 : ∀  (H : Heap) (locs : List Loc) (ls : Array Slot), ti_H ti_LM D A cy H0 M_20 H locs → lv_has ls 8 [(4, .long x_17), (2, .long x_3), (0, .ref (A 60 0)), (1, .int sg)] → W p l e (ti_rm 1) s m args below meth c H locs 0 0 Q (F0 m 397 ls []) := by
                            intro  H locs ls  hw hl
                            refine lv_iconst (v := 1) hx hb dX10_works_397 (by decide) ?_
                            refine lv_goto (tgt := 402) hx hb dX10_works_398 (by decide) ?_
                            exact hj_402_92 1 _ _ _ (by have lt0 : (1 : Int32).toInt = 1 := (by decide); first | omega | decide) (by have lt0 : (1 : Int32).toInt = 1 := (by decide); first | omega | decide) hw (lv_sub hl [0, 1, 2, 3] rfl)
                          refine sb_if_ne (tgt := 397) hx hb rfl dX10_works_388 (by decide) (fun c_388_86 => ?_) (fun c_388_86 => ?_)
                          · exact hj_397_89  _ _ _  hw (lv_sub hl [0, 1, 2, 3] rfl)
                          · refine lv_lload_n hx hb dX10_works_391 rfl (lv_at hl 1 rfl) ?_
                            refine lv_lconst (v := 0) hx hb dX10_works_392 (by decide) ?_
                            refine W.lcmp hx hb dX10_works_393 ?_
                            refine lv_topi (fun x_88 ex_88 => ?_)
                            refine sb_if_eq (tgt := 401) hx hb rfl dX10_works_394 (by decide) (fun c_394_88 => ?_) (fun c_394_88 => ?_)
                            · refine lv_iconst (v := 0) hx hb dX10_works_401 (by decide) ?_
                              exact hj_402_92 0 _ _ _ (by have lt0 : (0 : Int32).toInt = 0 := (by decide); first | omega | decide) (by have lt0 : (0 : Int32).toInt = 0 := (by decide); first | omega | decide) hw (lv_sub hl [0, 1, 2, 3] rfl)
                            · exact hj_397_89  _ _ _  hw (lv_sub hl [0, 1, 2, 3] rfl)
  · refine lv_aload_n hx hb dX10_works_19 rfl (lv_at hl 1 rfl) ?_
    refine ti_get (ci := 10) (k := 32) (N := 67) (T := TX10) (v := .ref (A 60 33)) C hw iw_10 rfl ob_60 (by decide) (by decide) fl_X10_66 rfl rfl dX10_works_20 ?_
    refine lv_aload_n hx hb dX10_works_23 rfl (lv_at hl 1 rfl) ?_
    refine ti_get (ci := 10) (k := 33) (N := 67) (T := TX10) C hw iw_10 rfl ob_60 (by decide) (by decide) fl_X10_320 rfl rfl dX10_works_24 ?_
    refine ti_top (y := d) (hd) ?_
    have u_5 : (tI M 60 33).toInt = (d : Int32).toInt := by rw [(hd)]
    refine lv_iconst (v := 1) hx hb dX10_works_27 (by decide) ?_
    refine lv_isub hx hb dX10_works_28 ?_
    refine lv_topi (fun x_6 ex_6 => ?_)
    have tx_6 : x_6.toInt = d.toInt - 1 := i_sub ex_6 rfl (by decide : (1 : Int32).toInt = 1) (by omega) (by omega)
    refine lv_lload_n hx hb dX10_works_29 rfl (lv_at hl 0 rfl) ?_
    refine lv_lconst (v := 0) hx hb dX10_works_30 (by decide) ?_
    refine W.lcmp hx hb dX10_works_31 ?_
    refine lv_topi (fun x_7 ex_7 => ?_)
    have hj_40_11 : ∀ (x_9 : Int32) (H : Heap) (locs : List Loc) (ls : Array Slot), (0 ≤ x_9.toInt) → (x_9.toInt ≤ 1) → ti_H ti_LM D A cy H0 M H locs → lv_has ls 8 [(2, .long x_3), (0, .ref (A 60 0)), (1, .int sg)] → W p l e (ti_rm 1) s m args below meth c H locs 0 0 Q (F0 m 40 ls [.int x_9, .int x_6, .ref (A 60 33)]) := by
      intro x_9 H locs ls b_10 b_11 hw hl
      refine ti_callSl (av := [.int x_9]) C hw (s_X10_is l D A cy hJ M hI x_9) ⟨ml_X10_323, ys_X10_is, yi_X10_is, yc_X10_is⟩ yd_X10_is rfl hl.1 (Nat.le_of_ble_eq_true rfl) ⟨by decide, by decide⟩ ⟨Nat.zero_le _, Nat.zero_le _⟩ dX10_works_40 (fun r_12 M_13 H locs hp_13 hw => ?_)
      have hm := hp_13
      have hw := hw.to hm
      refine ti_last (ci := 10) (k := 32) (n := 64) C hw ob_60 (by decide) (fun _ _ => rfl) (vp_in_iff.mpr (by omega)) dX10_works_43 (fun H locs hw => ?_)
      obtain ⟨M_14, hM_14⟩ : ∃ z : ti_M, z = uZ M 60 32 (vp_updL (tZ M 60 32) (x_6 : Int32).toNatClampNeg r_12) := ⟨_, rfl⟩
      have hw := hw.to hM_14.symm
      have iM_14 : mI Tm M_14 := mI_uZ hI hM_14
      refine lv_iconst (v := 1) hx hb dX10_works_44 (by decide) ?_
      exact hQ _ _ _ _ _ _ hw rfl (⟨iM_14, (qw_Z hM_14), (ry_Z hM_14), (by first | omega | decide), (by first | omega | decide), by rw [((tI_uZE hM_14).trans hd)]; omega⟩) dX10_works_45
    refine sb_if_ne (tgt := 39) hx hb rfl dX10_works_32 (by decide) (fun c_32_7 => ?_) (fun c_32_7 => ?_)
    · refine lv_iconst (v := 0) hx hb dX10_works_39 (by decide) ?_
      exact hj_40_11 0 _ _ _ (by have lt0 : (0 : Int32).toInt = 0 := (by decide); first | omega | decide) (by have lt0 : (0 : Int32).toInt = 0 := (by decide); first | omega | decide) hw (lv_sub hl [0, 1, 2] rfl)
    · refine lv_iconst (v := 1) hx hb dX10_works_35 (by decide) ?_
      refine lv_goto (tgt := 40) hx hb dX10_works_36 (by decide) ?_
      exact hj_40_11 1 _ _ _ (by have lt0 : (1 : Int32).toInt = 1 := (by decide); first | omega | decide) (by have lt0 : (1 : Int32).toInt = 1 := (by decide); first | omega | decide) hw (lv_sub hl [0, 1, 2] rfl)
set_option maxHeartbeats 4000000 in
set_option maxRecDepth 100000 in
theorem s_X10_goes (l : Launch) (D : va_G) (A : Nat → Nat → Nat) (cy : Nat → ClassId) (hJ : ti_inj ti_LM A) (M : ti_M) (hI : mI Tm M) (hL : mL M) (a : Int32) (h1 : 0 ≤ a.toInt) (h2 : a.toInt ≤ 2) : ti_Ki l yX10_goes cX10_goes 3 (some .boolean) 2 ti_LM D A cy M [.ref (A 60 0), .int a] (fun r M2 => mI Tm M2 ∧ qw M2 M ∧ M2.2.1 = M.2.1 ∧ 0 ≤ r.toInt ∧ r.toInt ≤ 1) := by
  refine ti_eI yp_X10_goes hJ ti_LM_nd (Nat.le_of_ble_eq_true rfl) ?_
  intro p e s m args below meth c Q H0 C hQ hw ls hl
  have hx := C.1
  have hb := C.2.1
  have hl : lv_has ls 3 [(0, .ref (A 60 0)), (1, .int a)] := hl
  refine lv_aload_n hx hb dX10_goes_0 rfl (lv_at hl 0 rfl) ?_
  refine lv_iconst (v := 0) hx hb dX10_goes_1 (by decide) ?_
  refine ti_putI (ci := 10) (k := 33) (N := 67) (T := TX10) C hw iw_10 tyX10 tyX10_ok nmX10 rfl ob_60 (by decide) (by decide) fl_X10_320 rfl rfl rfl rfl (fn_10 A _) fs_10_33 dX10_goes_2 (fun H locs hw => ?_)
  obtain ⟨M_1, hM_1⟩ : ∃ z : ti_M, z = uI M 60 33 0 := ⟨_, rfl⟩
  have hw := hw.to hM_1.symm
  have iM_1 : mI Tm M_1 := mI_uI hI hM_1 (by decide) (by decide) (ib_mk (lo := 0) (hi := 64) (by decide) (by decide))
  have vM_1 : (tI M_1 60 33).toInt = 0 := by rw [tI_uE hM_1]; decide
  refine lv_aload_n hx hb dX10_goes_5 rfl (lv_at hl 0 rfl) ?_
  refine ti_get (ci := 10) (k := 14) (N := 67) (T := TX10) (v := .ref (A 60 15)) C hw iw_10 rfl ob_60 (by decide) (by decide) fl_X10_46 rfl rfl dX10_goes_6 ?_
  refine lv_iload_n hx hb dX10_goes_9 rfl (lv_at hl 1 rfl) ?_
  refine ti_iald (ci := 10) (k := 14) (n := 6) C hw ob_60 (by decide) (fun _ _ => rfl) (vp_in_iff.mpr (by omega)) dX10_goes_10 ?_
  refine lv_topi (fun x_2 ex_2 => ?_)
  have yx_2 : tY M_1 60 14 a.toNatClampNeg = x_2 := (ex_2.symm)
  have bx_2 : 0 ≤ x_2.toInt ∧ x_2.toInt ≤ 64 := mI_ry (k := 14) (i := a.toNatClampNeg) iM_1 yx_2.symm
  have wx_2 : tY M 60 14 a.toNatClampNeg = x_2 := ((cg (tY_uIE hM_1) a.toNatClampNeg)).symm.trans yx_2
  refine lv_istore_n (lv' := [(2, .int x_2), (0, .ref (A 60 0)), (1, .int a)]) hx hb dX10_goes_11 rfl hl (by decide) rfl (fun ls hl => ?_)
  have u_13 : (tI M_1 60 33).toInt = (0 : Int32).toInt := by rw [(tI_uE hM_1)]
  have hl_12_11 : ∀ (n_12 : Nat) (x_3 : Int32) (M_6 : ti_M) (H : Heap) (locs : List Loc) (ls : Array Slot), (64 - x_3.toInt : Int).toNat < n_12 → (0 ≤ x_3.toInt) → (x_3.toInt ≤ 64) → (mI Tm M_6) → (qw M_6 M) → (M_6.2.1 = M.2.1) → (0 ≤ (tI M_6 60 33).toInt) → ((tY M 60 14 a.toNatClampNeg).toInt ≤ x_3.toInt) → (gd M a x_3.toInt (tI M_6 60 33).toInt.toNat) → ti_H ti_LM D A cy H0 M_6 H locs → lv_has ls 3 [(2, .int x_3), (0, .ref (A 60 0)), (1, .int a)] → W p l e (ti_rm 2) s m args below meth c H locs 0 0 Q (F0 m 12 ls []) := by
    intro n_12
    induction n_12 with
    | zero => intro x_3 M_6 H locs ls hf_12; exact absurd hf_12 (Nat.not_lt_zero _)
    | succ n_12 ih_12 =>
      intro x_3 M_6 H locs ls hf_12 b_4 b_5 iM_6 f_7 f_8 j_9 j_10 j_11 hw hl
      refine lv_iload_n hx hb dX10_goes_12 rfl (lv_at hl 0 rfl) ?_
      refine lv_aload_n hx hb dX10_goes_13 rfl (lv_at hl 1 rfl) ?_
      refine ti_get (ci := 10) (k := 15) (N := 67) (T := TX10) (v := .ref (A 60 16)) C hw iw_10 rfl ob_60 (by decide) (by decide) fl_X10_49 rfl rfl dX10_goes_14 ?_
      refine lv_iload_n hx hb dX10_goes_17 rfl (lv_at hl 2 rfl) ?_
      refine ti_iald (ci := 10) (k := 15) (n := 6) C hw ob_60 (by decide) (fun _ _ => rfl) (vp_in_iff.mpr (by omega)) dX10_goes_18 ?_
      refine lv_topi (fun x_14 ex_14 => ?_)
      have yx_14 : tY M_6 60 15 a.toNatClampNeg = x_14 := (ex_14.symm)
      have bx_14 : 0 ≤ x_14.toInt ∧ x_14.toInt ≤ 64 := mI_ry (k := 15) (i := a.toNatClampNeg) iM_6 yx_14.symm
      have wx_14 : tY M 60 15 a.toNatClampNeg = x_14 := ((cg (tY_fr f_8) a.toNatClampNeg)).symm.trans yx_14
      refine sb_icmp_ge (tgt := 102) hx hb rfl rfl dX10_goes_19 (by decide) (fun c_19_14 => ?_) (fun c_19_14 => ?_)
      · refine lv_iconst (v := 1) hx hb dX10_goes_102 (by decide) ?_
        exact hQ _ _ _ _ _ _ hw rfl (⟨iM_6, f_7, (f_8), (by first | omega | decide), (by first | omega | decide)⟩) dX10_goes_103
      · obtain ⟨s9, es9⟩ : ∃ z, z = tY M 60 16 x_3.toNatClampNeg := ⟨_, rfl⟩
        obtain ⟨v9, ev9⟩ : ∃ z, z = tY M 60 17 x_3.toNatClampNeg := ⟨_, rfl⟩
        have b15 := cg (tY_fr f_8 (o := 60) (k := 15)) a.toNatClampNeg
        have hk2 : x_3.toInt < (tY M 60 15 a.toNatClampNeg).toInt := by rw [← b15, ((cg (tY_fr f_8) a.toNatClampNeg).trans wx_14)]; omega
        obtain ⟨d9, g9, hc9⟩ := mL_go hI hL h1 h2 (by omega) hk2 j_11
        rw [← es9, ← ev9] at hc9
        have l9 := gd_le j_11
        obtain ⟨w9, ew9⟩ : ∃ z, z = tI M_6 60 33 := ⟨_, rfl⟩
        have bw9 : 0 ≤ w9.toInt ∧ w9.toInt ≤ 64 := mI_rd iM_6 ew9
        have uw9 : (tI M_6 60 33).toInt = w9.toInt := by rw [ew9]
        refine lv_aload_n hx hb dX10_goes_22 rfl (lv_at hl 1 rfl) ?_
        refine ti_get (ci := 10) (k := 16) (N := 67) (T := TX10) (v := .ref (A 60 17)) C hw iw_10 rfl ob_60 (by decide) (by decide) fl_X10_52 rfl rfl dX10_goes_23 ?_
        refine lv_iload_n hx hb dX10_goes_26 rfl (lv_at hl 0 rfl) ?_
        refine ti_iald (ci := 10) (k := 16) (n := 128) C hw ob_60 (by decide) (fun _ _ => rfl) (vp_in_iff.mpr (by omega)) dX10_goes_27 ?_
        refine ti_top (y := s9) (((cg (tY_fr f_8) x_3.toNatClampNeg).trans es9.symm)) ?_
        refine lv_iconst (v := 2) hx hb dX10_goes_28 (by decide) ?_
        refine sb_icmp_ne (tgt := 47) hx hb rfl (by decide : (2 : Int32).toInt = 2) dX10_goes_29 (by decide) (fun c_29_16 => ?_) (fun c_29_16 => ?_)
        · refine lv_aload_n hx hb dX10_goes_47 rfl (lv_at hl 1 rfl) ?_
          refine ti_get (ci := 10) (k := 32) (N := 67) (T := TX10) (v := .ref (A 60 33)) C hw iw_10 rfl ob_60 (by decide) (by decide) fl_X10_66 rfl rfl dX10_goes_48 ?_
          refine lv_aload_n hx hb dX10_goes_51 rfl (lv_at hl 1 rfl) ?_
          refine ti_get (ci := 10) (k := 33) (N := 67) (T := TX10) C hw iw_10 rfl ob_60 (by decide) (by decide) fl_X10_320 rfl rfl dX10_goes_52 ?_
          refine ti_top (y := w9) (ew9.symm) ?_
          have u_23 : (tI M_6 60 33).toInt = (w9 : Int32).toInt := by rw [(ew9.symm)]
          refine lv_aload_n hx hb dX10_goes_55 rfl (lv_at hl 1 rfl) ?_
          refine ti_get (ci := 10) (k := 16) (N := 67) (T := TX10) (v := .ref (A 60 17)) C hw iw_10 rfl ob_60 (by decide) (by decide) fl_X10_52 rfl rfl dX10_goes_56 ?_
          refine lv_iload_n hx hb dX10_goes_59 rfl (lv_at hl 0 rfl) ?_
          refine ti_iald (ci := 10) (k := 16) (n := 128) C hw ob_60 (by decide) (fun _ _ => rfl) (vp_in_iff.mpr (by omega)) dX10_goes_60 ?_
          refine ti_top (y := s9) (((cg (tY_fr f_8) x_3.toNatClampNeg).trans es9.symm)) ?_
          refine sb_if_ne (tgt := 74) hx hb rfl dX10_goes_61 (by decide) (fun c_61_23 => ?_) (fun c_61_23 => ?_)
          · refine lv_aload_n hx hb dX10_goes_74 rfl (lv_at hl 1 rfl) ?_
            refine ti_get (ci := 10) (k := 31) (N := 67) (T := TX10) (v := .ref (A 60 32)) C hw iw_10 rfl ob_60 (by decide) (by decide) fl_X10_62 rfl rfl dX10_goes_75 ?_
            refine lv_aload_n hx hb dX10_goes_78 rfl (lv_at hl 1 rfl) ?_
            refine ti_get (ci := 10) (k := 17) (N := 67) (T := TX10) (v := .ref (A 60 18)) C hw iw_10 rfl ob_60 (by decide) (by decide) fl_X10_55 rfl rfl dX10_goes_79 ?_
            refine lv_iload_n hx hb dX10_goes_82 rfl (lv_at hl 0 rfl) ?_
            refine ti_iald (ci := 10) (k := 17) (n := 128) C hw ob_60 (by decide) (fun _ _ => rfl) (vp_in_iff.mpr (by omega)) dX10_goes_83 ?_
            refine ti_top (y := v9) (((cg (tY_fr f_8) x_3.toNatClampNeg).trans ev9.symm)) ?_
            refine ti_lald (ci := 10) (k := 31) (n := 6) C hw ob_60 (by decide) (fun _ _ => rfl) (vp_in_iff.mpr (by omega)) dX10_goes_84 ?_
            refine lv_topl (fun x_26 ex_26 => ?_)
            refine ti_last (ci := 10) (k := 32) (n := 64) C hw ob_60 (by decide) (fun _ _ => rfl) (vp_in_iff.mpr (by omega)) dX10_goes_85 (fun H locs hw => ?_)
            obtain ⟨M_31, hM_31⟩ : ∃ z : ti_M, z = uZ M_6 60 32 (vp_updL (tZ M_6 60 32) (w9 : Int32).toNatClampNeg x_26) := ⟨_, rfl⟩
            have hw := hw.to hM_31.symm
            have iM_31 : mI Tm M_31 := mI_uZ iM_6 hM_31
            refine lv_aload_n hx hb dX10_goes_86 rfl (lv_at hl 1 rfl) ?_
            refine lv_dup hx hb dX10_goes_87 rfl ?_
            refine ti_get (ci := 10) (k := 33) (N := 67) (T := TX10) C hw iw_10 rfl ob_60 (by decide) (by decide) fl_X10_320 rfl rfl dX10_goes_88 ?_
            refine ti_top (y := w9) ((tI_uZE hM_31).trans ew9.symm) ?_
            have u_32 : (tI M_31 60 33).toInt = (w9 : Int32).toInt := by rw [((tI_uZE hM_31).trans ew9.symm)]
            refine lv_iconst (v := 1) hx hb dX10_goes_91 (by decide) ?_
            refine lv_iadd hx hb dX10_goes_92 ?_
            refine lv_topi (fun x_33 ex_33 => ?_)
            have tx_33 : x_33.toInt = w9.toInt + 1 := i_add ex_33 rfl (by decide : (1 : Int32).toInt = 1) (by omega) (by omega)
            refine ti_putI (ci := 10) (k := 33) (N := 67) (T := TX10) C hw iw_10 tyX10 tyX10_ok nmX10 rfl ob_60 (by decide) (by decide) fl_X10_320 rfl rfl rfl rfl (fn_10 A _) fs_10_33 dX10_goes_93 (fun H locs hw => ?_)
            obtain ⟨M_34, hM_34⟩ : ∃ z : ti_M, z = uI M_31 60 33 x_33 := ⟨_, rfl⟩
            have hw := hw.to hM_34.symm
            have iM_34 : mI Tm M_34 := mI_uI iM_31 hM_34 (by decide) (by decide) (ib_mk (lo := 0) (hi := 64) (by omega) (by omega))
            have vM_34 : (tI M_34 60 33).toInt = (x_33 : Int32).toInt := by rw [tI_uE hM_34]
            obtain ⟨x_39, ex_39⟩ : ∃ z : Int32, z = x_3 + 1 := ⟨_, rfl⟩
            have tx_39 : x_39.toInt = x_3.toInt + 1 := i_add ex_39 rfl (by decide) (by omega) (by omega)
            refine lv_iinc (v := x_39) (lv' := [(2, .int x_39), (0, .ref (A 60 0)), (1, .int a)]) hx hb dX10_goes_96 hl (k := 0) rfl (by rw [ex_39]; rfl) (by decide) rfl (fun ls hl => ?_)
            refine lv_goto (tgt := 12) hx hb dX10_goes_99 (by decide) ?_
            have u_40 : (tI M_34 60 33).toInt = (x_33 : Int32).toInt := by rw [(tI_uE hM_34)]
            exact ih_12 x_39 M_34 _ _ _ (by omega) (by first | omega | decide) (by first | omega | decide) iM_34 (qw.trans (qw_I hM_34 (by decide)) (qw.trans (qw_Z hM_31) f_7)) ((ry_I hM_34).trans ((ry_Z hM_31).trans f_8)) (by first | omega | decide) (by omega) (by rw [show (tI M_34 60 33).toInt.toNat = d9 by omega, show x_39.toInt = x_3.toInt + 1 by omega]; exact g9) hw (lv_sub hl [0, 1, 2] rfl)
          · refine lv_aload_n hx hb dX10_goes_64 rfl (lv_at hl 1 rfl) ?_
            refine ti_get (ci := 10) (k := 17) (N := 67) (T := TX10) (v := .ref (A 60 18)) C hw iw_10 rfl ob_60 (by decide) (by decide) fl_X10_55 rfl rfl dX10_goes_65 ?_
            refine lv_iload_n hx hb dX10_goes_68 rfl (lv_at hl 0 rfl) ?_
            refine ti_iald (ci := 10) (k := 17) (n := 128) C hw ob_60 (by decide) (fun _ _ => rfl) (vp_in_iff.mpr (by omega)) dX10_goes_69 ?_
            refine ti_top (y := v9) (((cg (tY_fr f_8) x_3.toNatClampNeg).trans ev9.symm)) ?_
            obtain ⟨x_25, ex_25⟩ : ∃ z : Int64, z = v9.toInt64 := ⟨_, rfl⟩
            refine lv_i2l (v := x_25) hx hb dX10_goes_70 ex_25.symm ?_
            refine lv_goto (tgt := 85) hx hb dX10_goes_71 (by decide) ?_
            refine ti_last (ci := 10) (k := 32) (n := 64) C hw ob_60 (by decide) (fun _ _ => rfl) (vp_in_iff.mpr (by omega)) dX10_goes_85 (fun H locs hw => ?_)
            obtain ⟨M_27, hM_27⟩ : ∃ z : ti_M, z = uZ M_6 60 32 (vp_updL (tZ M_6 60 32) (w9 : Int32).toNatClampNeg x_25) := ⟨_, rfl⟩
            have hw := hw.to hM_27.symm
            have iM_27 : mI Tm M_27 := mI_uZ iM_6 hM_27
            refine lv_aload_n hx hb dX10_goes_86 rfl (lv_at hl 1 rfl) ?_
            refine lv_dup hx hb dX10_goes_87 rfl ?_
            refine ti_get (ci := 10) (k := 33) (N := 67) (T := TX10) C hw iw_10 rfl ob_60 (by decide) (by decide) fl_X10_320 rfl rfl dX10_goes_88 ?_
            refine ti_top (y := w9) ((tI_uZE hM_27).trans ew9.symm) ?_
            have u_28 : (tI M_27 60 33).toInt = (w9 : Int32).toInt := by rw [((tI_uZE hM_27).trans ew9.symm)]
            refine lv_iconst (v := 1) hx hb dX10_goes_91 (by decide) ?_
            refine lv_iadd hx hb dX10_goes_92 ?_
            refine lv_topi (fun x_29 ex_29 => ?_)
            have tx_29 : x_29.toInt = w9.toInt + 1 := i_add ex_29 rfl (by decide : (1 : Int32).toInt = 1) (by omega) (by omega)
            refine ti_putI (ci := 10) (k := 33) (N := 67) (T := TX10) C hw iw_10 tyX10 tyX10_ok nmX10 rfl ob_60 (by decide) (by decide) fl_X10_320 rfl rfl rfl rfl (fn_10 A _) fs_10_33 dX10_goes_93 (fun H locs hw => ?_)
            obtain ⟨M_30, hM_30⟩ : ∃ z : ti_M, z = uI M_27 60 33 x_29 := ⟨_, rfl⟩
            have hw := hw.to hM_30.symm
            have iM_30 : mI Tm M_30 := mI_uI iM_27 hM_30 (by decide) (by decide) (ib_mk (lo := 0) (hi := 64) (by omega) (by omega))
            have vM_30 : (tI M_30 60 33).toInt = (x_29 : Int32).toInt := by rw [tI_uE hM_30]
            obtain ⟨x_37, ex_37⟩ : ∃ z : Int32, z = x_3 + 1 := ⟨_, rfl⟩
            have tx_37 : x_37.toInt = x_3.toInt + 1 := i_add ex_37 rfl (by decide) (by omega) (by omega)
            refine lv_iinc (v := x_37) (lv' := [(2, .int x_37), (0, .ref (A 60 0)), (1, .int a)]) hx hb dX10_goes_96 hl (k := 0) rfl (by rw [ex_37]; rfl) (by decide) rfl (fun ls hl => ?_)
            refine lv_goto (tgt := 12) hx hb dX10_goes_99 (by decide) ?_
            have u_38 : (tI M_30 60 33).toInt = (x_29 : Int32).toInt := by rw [(tI_uE hM_30)]
            exact ih_12 x_37 M_30 _ _ _ (by omega) (by first | omega | decide) (by first | omega | decide) iM_30 (qw.trans (qw_I hM_30 (by decide)) (qw.trans (qw_Z hM_27) f_7)) ((ry_I hM_30).trans ((ry_Z hM_27).trans f_8)) (by first | omega | decide) (by omega) (by rw [show (tI M_30 60 33).toInt.toNat = d9 by omega, show x_37.toInt = x_3.toInt + 1 by omega]; exact g9) hw (lv_sub hl [0, 1, 2] rfl)
        · refine lv_aload_n hx hb dX10_goes_32 rfl (lv_at hl 1 rfl) ?_
          refine lv_aload_n hx hb dX10_goes_33 rfl (lv_at hl 1 rfl) ?_
          refine ti_get (ci := 10) (k := 17) (N := 67) (T := TX10) (v := .ref (A 60 18)) C hw iw_10 rfl ob_60 (by decide) (by decide) fl_X10_55 rfl rfl dX10_goes_34 ?_
          refine lv_iload_n hx hb dX10_goes_37 rfl (lv_at hl 0 rfl) ?_
          refine ti_iald (ci := 10) (k := 17) (n := 128) C hw ob_60 (by decide) (fun _ _ => rfl) (vp_in_iff.mpr (by omega)) dX10_goes_38 ?_
          refine ti_top (y := v9) (((cg (tY_fr f_8) x_3.toNatClampNeg).trans ev9.symm)) ?_
          refine ti_callVi (ci := 10) (av := [.int v9]) C hw (s_X10_works l D A cy hJ M_6 iM_6 v9 w9 (ew9.symm) (by omega) (by omega) (by omega)) ⟨ml_X10_337, ym_X10_works, yv_X10_works, yi_X10_works, yc_X10_works⟩ yd_X10_works ob_60 (by decide) rfl rfl hl.1 (Nat.le_of_ble_eq_true rfl) ⟨by decide, by decide⟩ ⟨Nat.zero_le _, Nat.zero_le _⟩ dX10_goes_39 (fun r_18 M_19 H locs hp_19 hw => ?_)
          obtain ⟨iM_19, q_20, q_21, b0r_18, b1r_18, p0r_18⟩ := hp_19
          refine sb_if_ne (tgt := 96) hx hb rfl dX10_goes_42 (by decide) (fun c_42_21 => ?_) (fun c_42_21 => ?_)
          · obtain ⟨x_35, ex_35⟩ : ∃ z : Int32, z = x_3 + 1 := ⟨_, rfl⟩
            have tx_35 : x_35.toInt = x_3.toInt + 1 := i_add ex_35 rfl (by decide) (by omega) (by omega)
            refine lv_iinc (v := x_35) (lv' := [(2, .int x_35), (0, .ref (A 60 0)), (1, .int a)]) hx hb dX10_goes_96 hl (k := 0) rfl (by rw [ex_35]; rfl) (by decide) rfl (fun ls hl => ?_)
            refine lv_goto (tgt := 12) hx hb dX10_goes_99 (by decide) ?_
            have u_36 : 0 ≤ (tI M_19 60 33).toInt ∧ (tI M_19 60 33).toInt ≤ 64 := mI_rd (x := tI M_19 60 33) (k := 33) iM_19 rfl
            exact ih_12 x_35 M_19 _ _ _ (by omega) (by first | omega | decide) (by first | omega | decide) iM_19 (qw.trans q_20 f_7) ((q_21).trans f_8) (by first | omega | decide) (by omega) (by rw [show (tI M_19 60 33).toInt.toNat = d9 by omega, show x_35.toInt = x_3.toInt + 1 by omega]; exact g9) hw (lv_sub hl [0, 1, 2] rfl)
          · refine lv_iconst (v := 0) hx hb dX10_goes_45 (by decide) ?_
            exact hQ _ _ _ _ _ _ hw rfl (⟨iM_19, (qw.trans q_20 f_7), ((q_21).trans f_8), (by first | omega | decide), (by first | omega | decide)⟩) dX10_goes_46
  exact hl_12_11 ((64 - x_2.toInt : Int).toNat + 1) x_2 M_1 _ _ _ (Nat.lt_succ_self _) (by first | omega | decide) (by first | omega | decide) iM_1 (qw_I hM_1 (by decide)) (ry_I hM_1) (by first | omega | decide) (by rw [((cg (tY_uIE hM_1) a.toNatClampNeg).symm.trans ((cg (tY_uIE hM_1) a.toNatClampNeg).trans wx_2))]; exact Int.le_refl _) (by rw [tI_uE hM_1]; exact gd_0 ((cg (tY_uIE hM_1) a.toNatClampNeg).symm.trans ((cg (tY_uIE hM_1) a.toNatClampNeg).trans wx_2))) hw (lv_sub hl [0, 1, 2] rfl)
set_option maxHeartbeats 4000000 in
set_option maxRecDepth 100000 in
theorem s_X10_within (l : Launch) (D : va_G) (A : Nat → Nat → Nat) (cy : Nat → ClassId) (hJ : ti_inj ti_LM A) (M : ti_M) (hI : mI Tm M) (hL : mL M) (a : Int32) (h1 : 0 ≤ a.toInt) (h2 : a.toInt ≤ 2) (lo : Int32) (mo : Int32) (wo : Int32) : ti_Ki l yX10_within cX10_within 5 (some .int) 3 ti_LM D A cy M [.ref (A 60 0), .int a, .int lo, .int mo, .int wo] (fun r M2 => mI Tm M2 ∧ qw M2 M ∧ M2.2.1 = M.2.1) := by
  refine ti_eI yp_X10_within hJ ti_LM_nd (Nat.le_of_ble_eq_true rfl) ?_
  intro p e s m args below meth c Q H0 C hQ hw ls hl
  have hx := C.1
  have hb := C.2.1
  have hl : lv_has ls 5 [(0, .ref (A 60 0)), (1, .int a), (2, .int lo), (3, .int mo), (4, .int wo)] := hl
  refine lv_aload_n hx hb dX10_within_0 rfl (lv_at hl 0 rfl) ?_
  refine lv_iload_n hx hb dX10_within_1 rfl (lv_at hl 1 rfl) ?_
  refine ti_callVi (ci := 10) (av := [.int a]) C hw (s_X10_hasLaw l D A cy hJ M hI a (by first | omega | decide) (by first | omega | decide)) ⟨ml_X10_340, ym_X10_hasLaw, yv_X10_hasLaw, yi_X10_hasLaw, yc_X10_hasLaw⟩ yd_X10_hasLaw ob_60 (by decide) rfl rfl hl.1 (Nat.le_of_ble_eq_true rfl) ⟨by decide, by decide⟩ ⟨Nat.zero_le _, Nat.zero_le _⟩ dX10_within_2 (fun r_1 M_2 H locs hp_2 hw => ?_)
  have hm := hp_2
  have hw := hw.to hm
  have hj_16_11 : ∀ (M_9 : ti_M) (H : Heap) (locs : List Loc) (ls : Array Slot), (mI Tm M_9) → (qw M_9 M) → (M_9.2.1 = M.2.1) → ti_H ti_LM D A cy H0 M_9 H locs → lv_has ls 5 [(0, .ref (A 60 0)), (1, .int a), (2, .int lo), (3, .int mo), (4, .int wo)] → W p l e (ti_rm 3) s m args below meth c H locs 0 0 Q (F0 m 16 ls []) := by
    intro M_9 H locs ls iM_9 f_10 f_11 hw hl
    refine lv_iload hx hb dX10_within_16 (lv_at hl 4 rfl) ?_
    exact hQ _ _ _ _ _ _ hw rfl (⟨iM_9, f_10, (f_11)⟩) dX10_within_18
  refine sb_if_eq (tgt := 16) hx hb rfl dX10_within_5 (by decide) (fun c_5_2 => ?_) (fun c_5_2 => ?_)
  · exact hj_16_11 M _ _ _ hI qw.refl rfl hw (lv_sub hl [0, 1, 2, 3, 4] rfl)
  · refine lv_aload_n hx hb dX10_within_8 rfl (lv_at hl 0 rfl) ?_
    refine lv_iload_n hx hb dX10_within_9 rfl (lv_at hl 1 rfl) ?_
    refine ti_callVi (ci := 10) (av := [.int a]) C hw (s_X10_goes l D A cy hJ M hI hL a (by first | omega | decide) (by first | omega | decide)) ⟨ml_X10_343, ym_X10_goes, yv_X10_goes, yi_X10_goes, yc_X10_goes⟩ yd_X10_goes ob_60 (by decide) rfl rfl hl.1 (Nat.le_of_ble_eq_true rfl) ⟨by decide, by decide⟩ ⟨Nat.zero_le _, Nat.zero_le _⟩ dX10_within_10 (fun r_4 M_5 H locs hp_5 hw => ?_)
    obtain ⟨iM_5, q_6, q_7, b0r_4, b1r_4⟩ := hp_5
    refine sb_if_ne (tgt := 19) hx hb rfl dX10_within_13 (by decide) (fun c_13_7 => ?_) (fun c_13_7 => ?_)
    · refine lv_iload_n hx hb dX10_within_19 rfl (lv_at hl 2 rfl) ?_
      obtain ⟨x_12, ex_12⟩ : ∃ z : Int64, z = lo.toInt64 := ⟨_, rfl⟩
      refine lv_i2l (v := x_12) hx hb dX10_within_20 ex_12.symm ?_
      refine lv_iload_n hx hb dX10_within_21 rfl (lv_at hl 3 rfl) ?_
      obtain ⟨x_13, ex_13⟩ : ∃ z : Int64, z = mo.toInt64 := ⟨_, rfl⟩
      refine lv_i2l (v := x_13) hx hb dX10_within_22 ex_13.symm ?_
      refine lv_aload_n hx hb dX10_within_23 rfl (lv_at hl 0 rfl) ?_
      refine ti_get (ci := 10) (k := 32) (N := 67) (T := TX10) (v := .ref (A 60 33)) C hw iw_10 rfl ob_60 (by decide) (by decide) fl_X10_66 rfl rfl dX10_within_24 ?_
      refine lv_iconst (v := 0) hx hb dX10_within_27 (by decide) ?_
      refine ti_lald (ci := 10) (k := 32) (n := 64) C hw ob_60 (by decide) (fun _ _ => rfl) (by unfold vp_in; decide) dX10_within_28 ?_
      refine lv_topl (fun x_14 ex_14 => ?_)
      refine ti_minl C ml_X10_346 hl.1 (by decide) (Nat.le_of_ble_eq_true rfl) ⟨Nat.zero_le _, Nat.zero_le _⟩ dX10_within_29 ?_
      refine lv_topl (fun x_15 ex_15 => ?_)
      refine ti_maxl C ml_X10_350 hl.1 (by decide) (Nat.le_of_ble_eq_true rfl) ⟨Nat.zero_le _, Nat.zero_le _⟩ dX10_within_32 ?_
      refine lv_topl (fun x_16 ex_16 => ?_)
      obtain ⟨x_17, ex_17⟩ : ∃ z : Int32, z = (x_16 : Int64).toInt32 := ⟨_, rfl⟩
      refine lv_l2i (v := x_17) hx hb dX10_within_35 ex_17.symm ?_
      exact hQ _ _ _ _ _ _ hw rfl (⟨iM_5, q_6, (q_7)⟩) dX10_within_36
    · exact hj_16_11 M_5 _ _ _ iM_5 q_6 (q_7) hw (lv_sub hl [0, 1, 2, 3, 4] rfl)
set_option maxHeartbeats 4000000 in
set_option maxRecDepth 100000 in
theorem s_X10_standsAt_0 (l : Launch) (D : va_G) (A : Nat → Nat → Nat) (cy : Nat → ClassId) (hJ : ti_inj ti_LM A) (M : ti_M) (hI : mI Tm M) (a : Int32) (h1 : 0 ≤ a.toInt) (h2 : a.toInt ≤ 7) : ti_Ki l yX10_standsAt cX10_standsAt 3 (some .int) 0 ti_LM D A cy M [.ref (A 60 0), .int 0, .int a] (fun r M2 => M2 = M ∧ -2 ≤ r.toInt ∧ r.toInt ≤ 7) := by
  refine ti_eI yp_X10_standsAt hJ ti_LM_nd (Nat.le_of_ble_eq_true rfl) ?_
  intro p e s m args below meth c Q H0 C hQ hw ls hl
  have hx := C.1
  have hb := C.2.1
  have hl : lv_has ls 3 [(0, .ref (A 60 0)), (1, .int 0), (2, .int a)] := hl
  refine lv_iload_n hx hb dX10_standsAt_0 rfl (lv_at hl 2 rfl) ?_
  refine lv_aload_n hx hb dX10_standsAt_1 rfl (lv_at hl 0 rfl) ?_
  refine ti_get (ci := 10) (k := 38) (N := 67) (T := TX10) (v := .ref (A 60 39)) C hw iw_10 rfl ob_60 (by decide) (by decide) fl_X10_81 rfl rfl dX10_standsAt_2 ?_
  refine lv_iload_n hx hb dX10_standsAt_5 rfl (lv_at hl 1 rfl) ?_
  refine ti_iald (ci := 10) (k := 38) (n := 23) C hw ob_60 (by decide) (fun _ _ => rfl) (by unfold vp_in; decide) dX10_standsAt_6 ?_
  refine lv_topi (fun x_1 ex_1 => ?_)
  have yx_1 : tY M 60 38 0 = x_1 := ((congrArg _ (by decide)).symm.trans ex_1.symm)
  have bx_1 : 0 ≤ x_1.toInt ∧ x_1.toInt ≤ 8 := mI_ry (k := 38) (i := 0) hI yx_1.symm
  have zx_1 : (tY M 60 38 0).toInt = x_1.toInt := by rw [yx_1]
  refine sb_icmp_ge (tgt := 24) hx hb rfl rfl dX10_standsAt_7 (by decide) (fun c_7_1 => ?_) (fun c_7_1 => ?_)
  · refine lv_bipush (v := (-2)) hx hb dX10_standsAt_24 (by decide) ?_
    exact hQ _ _ _ _ _ _ hw rfl (⟨rfl, by first | omega | decide, by first | omega | decide⟩) dX10_standsAt_26
  · refine lv_aload_n hx hb dX10_standsAt_10 rfl (lv_at hl 0 rfl) ?_
    refine ti_get (ci := 10) (k := 39) (N := 67) (T := TX10) (v := .ref (A 60 40)) C hw iw_10 rfl ob_60 (by decide) (by decide) fl_X10_84 rfl rfl dX10_standsAt_11 ?_
    refine lv_bipush (v := 8) hx hb dX10_standsAt_14 (by decide) ?_
    refine lv_iload_n hx hb dX10_standsAt_16 rfl (lv_at hl 1 rfl) ?_
    refine lv_imul hx hb dX10_standsAt_17 ?_
    refine ti_top (y := 0) (by decide) ?_
    refine lv_iload_n hx hb dX10_standsAt_18 rfl (lv_at hl 2 rfl) ?_
    refine lv_iadd hx hb dX10_standsAt_19 ?_
    refine lv_topi (fun x_3 ex_3 => ?_)
    have tx_3 : x_3.toInt = 0 + a.toInt := i_add ex_3 (by decide : (0 : Int32).toInt = 0) rfl (by omega) (by omega)
    refine ti_iald (ci := 10) (k := 39) (n := 184) C hw ob_60 (by decide) (fun _ _ => rfl) (vp_in_iff.mpr (by omega)) dX10_standsAt_20 ?_
    refine lv_topi (fun x_4 ex_4 => ?_)
    have yx_4 : tY M 60 39 x_3.toNatClampNeg = x_4 := (ex_4.symm)
    have bx_4 : 0 ≤ x_4.toInt ∧ x_4.toInt ≤ 7 := mI_ry (k := 39) (i := x_3.toNatClampNeg) hI yx_4.symm
    refine lv_goto (tgt := 26) hx hb dX10_standsAt_21 (by decide) ?_
    exact hQ _ _ _ _ _ _ hw rfl (⟨rfl, by first | omega | decide, by first | omega | decide⟩) dX10_standsAt_26
set_option maxHeartbeats 4000000 in
set_option maxRecDepth 100000 in
theorem s_X10_standsAt_1 (l : Launch) (D : va_G) (A : Nat → Nat → Nat) (cy : Nat → ClassId) (hJ : ti_inj ti_LM A) (M : ti_M) (hI : mI Tm M) (a : Int32) (h1 : 0 ≤ a.toInt) (h2 : a.toInt ≤ 7) : ti_Ki l yX10_standsAt cX10_standsAt 3 (some .int) 0 ti_LM D A cy M [.ref (A 60 0), .int 1, .int a] (fun r M2 => M2 = M ∧ -2 ≤ r.toInt ∧ r.toInt ≤ 7) := by
  refine ti_eI yp_X10_standsAt hJ ti_LM_nd (Nat.le_of_ble_eq_true rfl) ?_
  intro p e s m args below meth c Q H0 C hQ hw ls hl
  have hx := C.1
  have hb := C.2.1
  have hl : lv_has ls 3 [(0, .ref (A 60 0)), (1, .int 1), (2, .int a)] := hl
  refine lv_iload_n hx hb dX10_standsAt_0 rfl (lv_at hl 2 rfl) ?_
  refine lv_aload_n hx hb dX10_standsAt_1 rfl (lv_at hl 0 rfl) ?_
  refine ti_get (ci := 10) (k := 38) (N := 67) (T := TX10) (v := .ref (A 60 39)) C hw iw_10 rfl ob_60 (by decide) (by decide) fl_X10_81 rfl rfl dX10_standsAt_2 ?_
  refine lv_iload_n hx hb dX10_standsAt_5 rfl (lv_at hl 1 rfl) ?_
  refine ti_iald (ci := 10) (k := 38) (n := 23) C hw ob_60 (by decide) (fun _ _ => rfl) (by unfold vp_in; decide) dX10_standsAt_6 ?_
  refine lv_topi (fun x_1 ex_1 => ?_)
  have yx_1 : tY M 60 38 1 = x_1 := ((congrArg _ (by decide)).symm.trans ex_1.symm)
  have bx_1 : 0 ≤ x_1.toInt ∧ x_1.toInt ≤ 8 := mI_ry (k := 38) (i := 1) hI yx_1.symm
  have zx_1 : (tY M 60 38 1).toInt = x_1.toInt := by rw [yx_1]
  refine sb_icmp_ge (tgt := 24) hx hb rfl rfl dX10_standsAt_7 (by decide) (fun c_7_1 => ?_) (fun c_7_1 => ?_)
  · refine lv_bipush (v := (-2)) hx hb dX10_standsAt_24 (by decide) ?_
    exact hQ _ _ _ _ _ _ hw rfl (⟨rfl, by first | omega | decide, by first | omega | decide⟩) dX10_standsAt_26
  · refine lv_aload_n hx hb dX10_standsAt_10 rfl (lv_at hl 0 rfl) ?_
    refine ti_get (ci := 10) (k := 39) (N := 67) (T := TX10) (v := .ref (A 60 40)) C hw iw_10 rfl ob_60 (by decide) (by decide) fl_X10_84 rfl rfl dX10_standsAt_11 ?_
    refine lv_bipush (v := 8) hx hb dX10_standsAt_14 (by decide) ?_
    refine lv_iload_n hx hb dX10_standsAt_16 rfl (lv_at hl 1 rfl) ?_
    refine lv_imul hx hb dX10_standsAt_17 ?_
    refine ti_top (y := 8) (by decide) ?_
    refine lv_iload_n hx hb dX10_standsAt_18 rfl (lv_at hl 2 rfl) ?_
    refine lv_iadd hx hb dX10_standsAt_19 ?_
    refine lv_topi (fun x_3 ex_3 => ?_)
    have tx_3 : x_3.toInt = 8 + a.toInt := i_add ex_3 (by decide : (8 : Int32).toInt = 8) rfl (by omega) (by omega)
    refine ti_iald (ci := 10) (k := 39) (n := 184) C hw ob_60 (by decide) (fun _ _ => rfl) (vp_in_iff.mpr (by omega)) dX10_standsAt_20 ?_
    refine lv_topi (fun x_4 ex_4 => ?_)
    have yx_4 : tY M 60 39 x_3.toNatClampNeg = x_4 := (ex_4.symm)
    have bx_4 : 0 ≤ x_4.toInt ∧ x_4.toInt ≤ 7 := mI_ry (k := 39) (i := x_3.toNatClampNeg) hI yx_4.symm
    refine lv_goto (tgt := 26) hx hb dX10_standsAt_21 (by decide) ?_
    exact hQ _ _ _ _ _ _ hw rfl (⟨rfl, by first | omega | decide, by first | omega | decide⟩) dX10_standsAt_26
set_option maxHeartbeats 4000000 in
set_option maxRecDepth 100000 in
theorem s_X10_placeOf_0 (l : Launch) (D : va_G) (A : Nat → Nat → Nat) (cy : Nat → ClassId) (hJ : ti_inj ti_LM A) (M : ti_M) (hI : mI Tm M)  (a : Int32) : ti_Ki l yX10_placeOf cX10_placeOf 4 (some .int) 0 ti_LM D A cy M [.ref (A 60 0), .int 0, .int a] (fun r M2 => M2 = M ∧ ((r = -1 ∧ ∀ j : Nat, (j : Int) < (tY M 60 38 0).toInt → (tY M 60 39 (0 + j)).toInt ≠ a.toInt) ∨ (0 ≤ r.toInt ∧ r.toInt < (tY M 60 38 0).toInt ∧ r.toInt ≤ 7 ∧ (tY M 60 39 (0 + r.toInt.toNat)).toInt = a.toInt))) := by
  refine ti_eI yp_X10_placeOf hJ ti_LM_nd (Nat.le_of_ble_eq_true rfl) ?_
  intro p e s m args below meth c Q H0 C hQ hw ls hl
  have hx := C.1
  have hb := C.2.1
  have hl : lv_has ls 4 [(0, .ref (A 60 0)), (1, .int 0), (2, .int a)] := hl
  refine lv_iconst (v := 0) hx hb dX10_placeOf_0 (by decide) ?_
  refine lv_istore_n (lv' := [(3, .int 0), (0, .ref (A 60 0)), (1, .int 0), (2, .int a)]) hx hb dX10_placeOf_1 rfl hl (by decide) rfl (fun ls hl => ?_)
  have hl_2_4 : ∀ (n_5 : Nat) (x_1 : Int32) (H : Heap) (locs : List Loc) (ls : Array Slot), (8 - x_1.toInt : Int).toNat < n_5 → (0 ≤ x_1.toInt) → (x_1.toInt ≤ 8) → (∀ j : Nat, (j : Int) < x_1.toInt → (tY M 60 39 (0 + j)).toInt ≠ a.toInt) → ti_H ti_LM D A cy H0 M H locs → lv_has ls 4 [(3, .int x_1), (0, .ref (A 60 0)), (1, .int 0), (2, .int a)] → W p l e (ti_rm 0) s m args below meth c H locs 0 0 Q (F0 m 2 ls []) := by
    intro n_5
    induction n_5 with
    | zero => intro x_1 H locs ls hf_5; exact absurd hf_5 (Nat.not_lt_zero _)
    | succ n_5 ih_5 =>
      intro x_1 H locs ls hf_5 b_2 b_3 j_4 hw hl
      refine lv_iload_n hx hb dX10_placeOf_2 rfl (lv_at hl 0 rfl) ?_
      refine lv_aload_n hx hb dX10_placeOf_3 rfl (lv_at hl 1 rfl) ?_
      refine ti_get (ci := 10) (k := 38) (N := 67) (T := TX10) (v := .ref (A 60 39)) C hw iw_10 rfl ob_60 (by decide) (by decide) fl_X10_81 rfl rfl dX10_placeOf_4 ?_
      refine lv_iload_n hx hb dX10_placeOf_7 rfl (lv_at hl 2 rfl) ?_
      refine ti_iald (ci := 10) (k := 38) (n := 23) C hw ob_60 (by decide) (fun _ _ => rfl) (by unfold vp_in; decide) dX10_placeOf_8 ?_
      refine lv_topi (fun x_6 ex_6 => ?_)
      have yx_6 : tY M 60 38 0 = x_6 := ((congrArg _ (by decide)).symm.trans ex_6.symm)
      have bx_6 : 0 ≤ x_6.toInt ∧ x_6.toInt ≤ 8 := mI_ry (k := 38) (i := 0) hI yx_6.symm
      have zx_6 : (tY M 60 38 0).toInt = x_6.toInt := by rw [yx_6]
      refine sb_icmp_ge (tgt := 35) hx hb rfl rfl dX10_placeOf_9 (by decide) (fun c_9_6 => ?_) (fun c_9_6 => ?_)
      · refine lv_iconst (v := (-1)) hx hb dX10_placeOf_35 (by decide) ?_
        exact hQ _ _ _ _ _ _ hw rfl (⟨rfl, Or.inl ⟨rfl, fun j hj => j_4 j (by rw [(yx_6)] at hj; omega)⟩⟩) dX10_placeOf_36
      · refine lv_aload_n hx hb dX10_placeOf_12 rfl (lv_at hl 1 rfl) ?_
        refine ti_get (ci := 10) (k := 39) (N := 67) (T := TX10) (v := .ref (A 60 40)) C hw iw_10 rfl ob_60 (by decide) (by decide) fl_X10_84 rfl rfl dX10_placeOf_13 ?_
        refine lv_bipush (v := 8) hx hb dX10_placeOf_16 (by decide) ?_
        refine lv_iload_n hx hb dX10_placeOf_18 rfl (lv_at hl 2 rfl) ?_
        refine lv_imul hx hb dX10_placeOf_19 ?_
        refine ti_top (y := 0) (by decide) ?_
        refine lv_iload_n hx hb dX10_placeOf_20 rfl (lv_at hl 0 rfl) ?_
        refine lv_iadd hx hb dX10_placeOf_21 ?_
        refine lv_topi (fun x_8 ex_8 => ?_)
        have tx_8 : x_8.toInt = 0 + x_1.toInt := i_add ex_8 (by decide : (0 : Int32).toInt = 0) rfl (by omega) (by omega)
        refine ti_iald (ci := 10) (k := 39) (n := 184) C hw ob_60 (by decide) (fun _ _ => rfl) (vp_in_iff.mpr (by omega)) dX10_placeOf_22 ?_
        refine lv_topi (fun x_9 ex_9 => ?_)
        have yx_9 : tY M 60 39 x_8.toNatClampNeg = x_9 := (ex_9.symm)
        have bx_9 : 0 ≤ x_9.toInt ∧ x_9.toInt ≤ 7 := mI_ry (k := 39) (i := x_8.toNatClampNeg) hI yx_9.symm
        have n9 : x_8.toNatClampNeg = 0 + x_1.toInt.toNat := by show (x_8).toInt.toNat = _; omega
        have k9 : (tY M 60 39 (0 + x_1.toInt.toNat)).toInt = x_9.toInt := by rw [← n9, (yx_9)]
        refine lv_iload_n hx hb dX10_placeOf_23 rfl (lv_at hl 3 rfl) ?_
        refine sb_icmp_ne (tgt := 29) hx hb rfl rfl dX10_placeOf_24 (by decide) (fun c_24_9 => ?_) (fun c_24_9 => ?_)
        · obtain ⟨x_11, ex_11⟩ : ∃ z : Int32, z = x_1 + 1 := ⟨_, rfl⟩
          have tx_11 : x_11.toInt = x_1.toInt + 1 := i_add ex_11 rfl (by decide) (by omega) (by omega)
          refine lv_iinc (v := x_11) (lv' := [(3, .int x_11), (0, .ref (A 60 0)), (1, .int 0), (2, .int a)]) hx hb dX10_placeOf_29 hl (k := 0) rfl (by rw [ex_11]; rfl) (by decide) rfl (fun ls hl => ?_)
          refine lv_goto (tgt := 2) hx hb dX10_placeOf_32 (by decide) ?_
          exact ih_5 x_11 _ _ _ (by omega) (by first | omega | decide) (by first | omega | decide) (fun j hj => (show (j : Int) < x_1.toInt ∨ j = (x_1.toInt.toNat) by omega).elim (fun h => j_4 j h) (fun h => by subst h; intro h; omega)) hw (lv_sub hl [0, 1, 2, 3] rfl)
        · refine lv_iload_n hx hb dX10_placeOf_27 rfl (lv_at hl 0 rfl) ?_
          exact hQ _ _ _ _ _ _ hw rfl (⟨rfl, Or.inr ⟨by omega, by rw [(yx_6)]; omega, by omega, by rw [k9]; omega⟩⟩) dX10_placeOf_28
  exact hl_2_4 ((8 - 0 : Int).toNat + 1) 0 _ _ _ (Nat.lt_succ_self _) (by have lt0 : (0 : Int32).toInt = 0 := (by decide); first | omega | decide) (by have lt0 : (0 : Int32).toInt = 0 := (by decide); first | omega | decide) (fun j hj => absurd hj (by have h0 : (0 : Int32).toInt = 0 := (by decide); omega)) hw (lv_sub hl [0, 1, 2, 3] rfl)
set_option maxHeartbeats 4000000 in
set_option maxRecDepth 100000 in
theorem s_X10_placeOf_1 (l : Launch) (D : va_G) (A : Nat → Nat → Nat) (cy : Nat → ClassId) (hJ : ti_inj ti_LM A) (M : ti_M) (hI : mI Tm M)  (a : Int32) : ti_Ki l yX10_placeOf cX10_placeOf 4 (some .int) 0 ti_LM D A cy M [.ref (A 60 0), .int 1, .int a] (fun r M2 => M2 = M ∧ ((r = -1 ∧ ∀ j : Nat, (j : Int) < (tY M 60 38 1).toInt → (tY M 60 39 (8 + j)).toInt ≠ a.toInt) ∨ (0 ≤ r.toInt ∧ r.toInt < (tY M 60 38 1).toInt ∧ r.toInt ≤ 7 ∧ (tY M 60 39 (8 + r.toInt.toNat)).toInt = a.toInt))) := by
  refine ti_eI yp_X10_placeOf hJ ti_LM_nd (Nat.le_of_ble_eq_true rfl) ?_
  intro p e s m args below meth c Q H0 C hQ hw ls hl
  have hx := C.1
  have hb := C.2.1
  have hl : lv_has ls 4 [(0, .ref (A 60 0)), (1, .int 1), (2, .int a)] := hl
  refine lv_iconst (v := 0) hx hb dX10_placeOf_0 (by decide) ?_
  refine lv_istore_n (lv' := [(3, .int 0), (0, .ref (A 60 0)), (1, .int 1), (2, .int a)]) hx hb dX10_placeOf_1 rfl hl (by decide) rfl (fun ls hl => ?_)
  have hl_2_4 : ∀ (n_5 : Nat) (x_1 : Int32) (H : Heap) (locs : List Loc) (ls : Array Slot), (8 - x_1.toInt : Int).toNat < n_5 → (0 ≤ x_1.toInt) → (x_1.toInt ≤ 8) → (∀ j : Nat, (j : Int) < x_1.toInt → (tY M 60 39 (8 + j)).toInt ≠ a.toInt) → ti_H ti_LM D A cy H0 M H locs → lv_has ls 4 [(3, .int x_1), (0, .ref (A 60 0)), (1, .int 1), (2, .int a)] → W p l e (ti_rm 0) s m args below meth c H locs 0 0 Q (F0 m 2 ls []) := by
    intro n_5
    induction n_5 with
    | zero => intro x_1 H locs ls hf_5; exact absurd hf_5 (Nat.not_lt_zero _)
    | succ n_5 ih_5 =>
      intro x_1 H locs ls hf_5 b_2 b_3 j_4 hw hl
      refine lv_iload_n hx hb dX10_placeOf_2 rfl (lv_at hl 0 rfl) ?_
      refine lv_aload_n hx hb dX10_placeOf_3 rfl (lv_at hl 1 rfl) ?_
      refine ti_get (ci := 10) (k := 38) (N := 67) (T := TX10) (v := .ref (A 60 39)) C hw iw_10 rfl ob_60 (by decide) (by decide) fl_X10_81 rfl rfl dX10_placeOf_4 ?_
      refine lv_iload_n hx hb dX10_placeOf_7 rfl (lv_at hl 2 rfl) ?_
      refine ti_iald (ci := 10) (k := 38) (n := 23) C hw ob_60 (by decide) (fun _ _ => rfl) (by unfold vp_in; decide) dX10_placeOf_8 ?_
      refine lv_topi (fun x_6 ex_6 => ?_)
      have yx_6 : tY M 60 38 1 = x_6 := ((congrArg _ (by decide)).symm.trans ex_6.symm)
      have bx_6 : 0 ≤ x_6.toInt ∧ x_6.toInt ≤ 8 := mI_ry (k := 38) (i := 1) hI yx_6.symm
      have zx_6 : (tY M 60 38 1).toInt = x_6.toInt := by rw [yx_6]
      refine sb_icmp_ge (tgt := 35) hx hb rfl rfl dX10_placeOf_9 (by decide) (fun c_9_6 => ?_) (fun c_9_6 => ?_)
      · refine lv_iconst (v := (-1)) hx hb dX10_placeOf_35 (by decide) ?_
        exact hQ _ _ _ _ _ _ hw rfl (⟨rfl, Or.inl ⟨rfl, fun j hj => j_4 j (by rw [(yx_6)] at hj; omega)⟩⟩) dX10_placeOf_36
      · refine lv_aload_n hx hb dX10_placeOf_12 rfl (lv_at hl 1 rfl) ?_
        refine ti_get (ci := 10) (k := 39) (N := 67) (T := TX10) (v := .ref (A 60 40)) C hw iw_10 rfl ob_60 (by decide) (by decide) fl_X10_84 rfl rfl dX10_placeOf_13 ?_
        refine lv_bipush (v := 8) hx hb dX10_placeOf_16 (by decide) ?_
        refine lv_iload_n hx hb dX10_placeOf_18 rfl (lv_at hl 2 rfl) ?_
        refine lv_imul hx hb dX10_placeOf_19 ?_
        refine ti_top (y := 8) (by decide) ?_
        refine lv_iload_n hx hb dX10_placeOf_20 rfl (lv_at hl 0 rfl) ?_
        refine lv_iadd hx hb dX10_placeOf_21 ?_
        refine lv_topi (fun x_8 ex_8 => ?_)
        have tx_8 : x_8.toInt = 8 + x_1.toInt := i_add ex_8 (by decide : (8 : Int32).toInt = 8) rfl (by omega) (by omega)
        refine ti_iald (ci := 10) (k := 39) (n := 184) C hw ob_60 (by decide) (fun _ _ => rfl) (vp_in_iff.mpr (by omega)) dX10_placeOf_22 ?_
        refine lv_topi (fun x_9 ex_9 => ?_)
        have yx_9 : tY M 60 39 x_8.toNatClampNeg = x_9 := (ex_9.symm)
        have bx_9 : 0 ≤ x_9.toInt ∧ x_9.toInt ≤ 7 := mI_ry (k := 39) (i := x_8.toNatClampNeg) hI yx_9.symm
        have n9 : x_8.toNatClampNeg = 8 + x_1.toInt.toNat := by show (x_8).toInt.toNat = _; omega
        have k9 : (tY M 60 39 (8 + x_1.toInt.toNat)).toInt = x_9.toInt := by rw [← n9, (yx_9)]
        refine lv_iload_n hx hb dX10_placeOf_23 rfl (lv_at hl 3 rfl) ?_
        refine sb_icmp_ne (tgt := 29) hx hb rfl rfl dX10_placeOf_24 (by decide) (fun c_24_9 => ?_) (fun c_24_9 => ?_)
        · obtain ⟨x_11, ex_11⟩ : ∃ z : Int32, z = x_1 + 1 := ⟨_, rfl⟩
          have tx_11 : x_11.toInt = x_1.toInt + 1 := i_add ex_11 rfl (by decide) (by omega) (by omega)
          refine lv_iinc (v := x_11) (lv' := [(3, .int x_11), (0, .ref (A 60 0)), (1, .int 1), (2, .int a)]) hx hb dX10_placeOf_29 hl (k := 0) rfl (by rw [ex_11]; rfl) (by decide) rfl (fun ls hl => ?_)
          refine lv_goto (tgt := 2) hx hb dX10_placeOf_32 (by decide) ?_
          exact ih_5 x_11 _ _ _ (by omega) (by first | omega | decide) (by first | omega | decide) (fun j hj => (show (j : Int) < x_1.toInt ∨ j = (x_1.toInt.toNat) by omega).elim (fun h => j_4 j h) (fun h => by subst h; intro h; omega)) hw (lv_sub hl [0, 1, 2, 3] rfl)
        · refine lv_iload_n hx hb dX10_placeOf_27 rfl (lv_at hl 0 rfl) ?_
          exact hQ _ _ _ _ _ _ hw rfl (⟨rfl, Or.inr ⟨by omega, by rw [(yx_6)]; omega, by omega, by rw [k9]; omega⟩⟩) dX10_placeOf_28
  exact hl_2_4 ((8 - 0 : Int).toNat + 1) 0 _ _ _ (Nat.lt_succ_self _) (by have lt0 : (0 : Int32).toInt = 0 := (by decide); first | omega | decide) (by have lt0 : (0 : Int32).toInt = 0 := (by decide); first | omega | decide) (fun j hj => absurd hj (by have h0 : (0 : Int32).toInt = 0 := (by decide); omega)) hw (lv_sub hl [0, 1, 2, 3] rfl)

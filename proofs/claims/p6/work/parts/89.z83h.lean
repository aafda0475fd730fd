variable {Tc : gC} {Tm : gM}
/-- all rows of queues but those of q stay, what tells how many steps and whether there is an image, and what is tried -/
def fT (q : Nat) (N M : ti_M) : Prop := ik N M ∧ ∀ k i : Nat, 34 ≤ k → k ≤ 50 → ¬ bk q k i → tY N 60 k i = tY M 60 k i
def fR (q : Nat) (N M : ti_M) : Prop := fT q N M ∧ tI N 60 53 = tI M 60 53
theorem fT.refl {q : Nat} {M : ti_M} : fT q M M := ⟨⟨rfl, rfl, rfl⟩, fun _ _ _ _ _ => rfl⟩
theorem fR.refl {q : Nat} {M : ti_M} : fR q M M := ⟨fT.refl, rfl⟩
theorem fT.trans {q : Nat} {K N M : ti_M} (x : fT q K N) (y : fT q N M) : fT q K M := ⟨⟨x.1.1.trans y.1.1, x.1.2.1.trans y.1.2.1, x.1.2.2.trans y.1.2.2⟩, fun k i a b h => (x.2 k i a b h).trans (y.2 k i a b h)⟩
theorem fR.trans {q : Nat} {K N M : ti_M} (x : fR q K N) (y : fR q N M) : fR q K M := ⟨x.1.trans y.1, x.2.trans y.2⟩
theorem fT_I {q k : Nat} {N M : ti_M} {v : Int32} (e : N = uI M 60 k v) (h : k ≠ 2 ∧ k ≠ 51 ∧ k ≠ 52) : fT q N M := ⟨⟨tI_nE e (nk (Ne.symm h.1)), tI_nE e (nk (Ne.symm h.2.1)), tI_nE e (nk (Ne.symm h.2.2))⟩, fun _ i _ _ _ => cg (tY_uIE e) i⟩
theorem fR_I {q k : Nat} {N M : ti_M} {v : Int32} (e : N = uI M 60 k v) (h : k ≠ 2 ∧ k ≠ 51 ∧ k ≠ 52 ∧ k ≠ 53) : fR q N M := ⟨fT_I e ⟨h.1, h.2.1, h.2.2.1⟩, tI_nE e (nk (Ne.symm h.2.2.2))⟩
theorem fR_O {q k : Nat} {N M : ti_M} {f : Nat → Int32} (e : N = uY M 60 k f) (h : k < 34 ∨ 50 < k) : fR q N M := ⟨⟨⟨tI_uYE e, tI_uYE e, tI_uYE e⟩, fun _ i a b _ => cg (tY_nE e (nk (by omega))) i⟩, tI_uYE e⟩
theorem fR_Y {q k j : Nat} {N M : ti_M} {v : Int32} (e : N = uY M 60 k (upd (tY M 60 k) j v)) (h : bk q k j) : fR q N M := ⟨⟨⟨tI_uYE e, tI_uYE e, tI_uYE e⟩, fun k2 i _ _ hn => by
  by_cases r : k2 = k
  · subst r
    rw [tY_uE e, pk_un (fun r2 => hn (by subst r2; exact h))]
  · exact cg (tY_nE e (nk r)) i⟩, tI_uYE e⟩
theorem fR_of {q : Nat} {N M : ti_M} (h : ik N M) (f : fI N M) (e : N.2.1 = M.2.1) : fR q N M := ⟨⟨h, fun _ i _ _ _ => cg (tY_fr e) i⟩, f 53 (by decide)⟩
theorem fR_1 {N M : ti_M} (h : fR (1 : Int32).toInt.toNat N M) : fR 1 N M := by rwa [show (1 : Int32).toInt.toNat = 1 by decide] at h
set_option maxHeartbeats 4000000 in
set_option maxRecDepth 100000 in
theorem f_X10_works (l : Launch) (D : va_G) (A : Nat → Nat → Nat) (cy : Nat → ClassId) (hJ : ti_inj ti_LM A) (M : ti_M) (hI : mI Tm M) (sg d : Int32) (hd : tI M 60 33 = d) (d1 : 1 ≤ d.toInt) (d2 : d.toInt ≤ 64) (hs : sg.toInt = 260 ∨ 2 ≤ d.toInt) : ti_Ki l yX10_works cX10_works 8 (some .boolean) 1 ti_LM D A cy M [.ref (A 60 0), .int sg] (fun r M2 => fI M2 M ∧ mI Tm M2 ∧ qw M2 M ∧ M2.2.1 = M.2.1 ∧ 0 ≤ r.toInt ∧ r.toInt ≤ 1 ∧ ((sg.toInt = 260 ∧ (tI M2 60 33).toInt = d.toInt) ∨ (sg.toInt ≠ 260 ∧ (tI M2 60 33).toInt = d.toInt - 1))) := by
  refine ti_eI yp_X10_works hJ ti_LM_nd (Nat.le_of_ble_eq_true rfl) ?_
  intro p e s m args below meth c Q H0 C hQ hw ls hl
  have hx := C.1
  have hb := C.2.1
  have hl : lv_has ls 8 [(0, .ref (A 60 0)), (1, .int sg)] := hl
  refine lv_aload_n hx hb dX10_works_0 rfl (lv_at hl 0 rfl) ?_
  refine ti_get (ci := 10) (k := 32) (N := 67) (T := TX10) (v := .ref (A 60 33)) C hw iw_10 rfl ob_60 (by decide) (by decide) fl_X10_66 rfl rfl dX10_works_1 ?_
  refine lv_aload_n hx hb dX10_works_4 rfl (lv_at hl 0 rfl) ?_
  refine ti_get (ci := 10) (k := 33) (N := 67) (T := TX10) C hw iw_10 rfl ob_60 (by decide) (by decide) fl_X10_320 rfl rfl dX10_works_5 ?_
  refine ti_top (y := d) (hd) ?_
  have u_1 : (tI M 60 33).toInt = (d : Int32).toInt := by rw [(hd)]
  refine lv_iconst (v := 1) hx hb dX10_works_8 (by decide) ?_
  refine lv_isub hx hb dX10_works_9 ?_
  refine lv_topi (fun x_2 ex_2 => ?_)
  have tx_2 : x_2.toInt = d.toInt - 1 := i_sub ex_2 rfl (by decide : (1 : Int32).toInt = 1) (by omega) (by omega)
  refine ti_lald (ci := 10) (k := 32) (n := 64) C hw ob_60 (by decide) (fun _ _ => rfl) (vp_in_iff.mpr (by omega)) dX10_works_10 ?_
  refine lv_topl (fun x_3 ex_3 => ?_)
  refine lv_lstore_n (lv' := [(2, .long x_3), (0, .ref (A 60 0)), (1, .int sg)]) hx hb dX10_works_11 rfl hl (by decide) rfl (fun ls hl => ?_)
  refine lv_iload_n hx hb dX10_works_12 rfl (lv_at hl 2 rfl) ?_
  refine lv_sipush (v := 260) hx hb dX10_works_13 (by decide) ?_
  refine sb_icmp_ne (tgt := 46) hx hb rfl (by decide : (260 : Int32).toInt = 260) dX10_works_16 (by decide) (fun c_16_3 => ?_) (fun c_16_3 => ?_)
  · refine lv_aload_n hx hb dX10_works_46 rfl (lv_at hl 1 rfl) ?_
    refine ti_get (ci := 10) (k := 32) (N := 67) (T := TX10) (v := .ref (A 60 33)) C hw iw_10 rfl ob_60 (by decide) (by decide) fl_X10_66 rfl rfl dX10_works_47 ?_
    refine lv_aload_n hx hb dX10_works_50 rfl (lv_at hl 1 rfl) ?_
    refine ti_get (ci := 10) (k := 33) (N := 67) (T := TX10) C hw iw_10 rfl ob_60 (by decide) (by decide) fl_X10_320 rfl rfl dX10_works_51 ?_
    refine ti_top (y := d) (hd) ?_
    have u_15 : (tI M 60 33).toInt = (d : Int32).toInt := by rw [(hd)]
    refine lv_iconst (v := 2) hx hb dX10_works_54 (by decide) ?_
    refine lv_isub hx hb dX10_works_55 ?_
    refine lv_topi (fun x_16 ex_16 => ?_)
    have tx_16 : x_16.toInt = d.toInt - 2 := i_sub ex_16 rfl (by decide : (2 : Int32).toInt = 2) (by omega) (by omega)
    refine ti_lald (ci := 10) (k := 32) (n := 64) C hw ob_60 (by decide) (fun _ _ => rfl) (vp_in_iff.mpr (by omega)) dX10_works_56 ?_
    refine lv_topl (fun x_17 ex_17 => ?_)
    refine lv_lstore (lv' := [(4, .long x_17), (2, .long x_3), (0, .ref (A 60 0)), (1, .int sg)]) hx hb dX10_works_57 hl (by decide) rfl (fun ls hl => ?_)
    refine lv_aload_n hx hb dX10_works_59 rfl (lv_at hl 2 rfl) ?_
    refine lv_dup hx hb dX10_works_60 rfl ?_
    refine ti_get (ci := 10) (k := 33) (N := 67) (T := TX10) C hw iw_10 rfl ob_60 (by decide) (by decide) fl_X10_320 rfl rfl dX10_works_61 ?_
    refine ti_top (y := d) (hd) ?_
    have u_18 : (tI M 60 33).toInt = (d : Int32).toInt := by rw [(hd)]
    refine lv_iconst (v := 1) hx hb dX10_works_64 (by decide) ?_
    refine lv_isub hx hb dX10_works_65 ?_
    refine lv_topi (fun x_19 ex_19 => ?_)
    have tx_19 : x_19.toInt = d.toInt - 1 := i_sub ex_19 rfl (by decide : (1 : Int32).toInt = 1) (by omega) (by omega)
    refine ti_putI (ci := 10) (k := 33) (N := 67) (T := TX10) C hw iw_10 tyX10 tyX10_ok nmX10 rfl ob_60 (by decide) (by decide) fl_X10_320 rfl rfl rfl rfl (fn_10 A _) fs_10_33 dX10_works_66 (fun H locs hw => ?_)
    obtain ⟨M_20, hM_20⟩ : ∃ z : ti_M, z = uI M 60 33 x_19 := ⟨_, rfl⟩
    have hw := hw.to hM_20.symm
    have iM_20 : mI Tm M_20 := mI_uI hI hM_20 (by decide) (by decide) (ib_mk (lo := 0) (hi := 64) (by omega) (by omega))
    have vM_20 : (tI M_20 60 33).toInt = (x_19 : Int32).toInt := by rw [tI_uE hM_20]
    refine lv_iload_n hx hb dX10_works_69 rfl (lv_at hl 3 rfl) ?_
    have hj_407_95 : ∀ (x_95 : Int64) (H : Heap) (locs : List Loc) (ls : Array Slot), ti_H ti_LM D A cy H0 M_20 H locs → lv_has ls 8 [(6, .long x_95), (4, .long x_17), (2, .long x_3), (0, .ref (A 60 0)), (1, .int sg)] → W p l e (ti_rm 1) s m args below meth c H locs 0 0 Q (F0 m 407 ls []) := by
      intro x_95 H locs ls  hw hl
      refine lv_aload_n hx hb dX10_works_407 rfl (lv_at hl 3 rfl) ?_
      refine ti_get (ci := 10) (k := 32) (N := 67) (T := TX10) (v := .ref (A 60 33)) C hw iw_10 rfl ob_60 (by decide) (by decide) fl_X10_66 rfl rfl dX10_works_408 ?_
      refine lv_aload_n hx hb dX10_works_411 rfl (lv_at hl 3 rfl) ?_
      refine ti_get (ci := 10) (k := 33) (N := 67) (T := TX10) C hw iw_10 rfl ob_60 (by decide) (by decide) fl_X10_320 rfl rfl dX10_works_412 ?_
      refine ti_top (y := x_19) (tI_uE hM_20) ?_
      have u_96 : (tI M_20 60 33).toInt = (x_19 : Int32).toInt := by rw [(tI_uE hM_20)]
      refine lv_iconst (v := 1) hx hb dX10_works_415 (by decide) ?_
      refine lv_isub hx hb dX10_works_416 ?_
      refine lv_topi (fun x_97 ex_97 => ?_)
      have tx_97 : x_97.toInt = x_19.toInt - 1 := i_sub ex_97 rfl (by decide : (1 : Int32).toInt = 1) (by omega) (by omega)
      refine lv_lload hx hb dX10_works_417 (lv_at hl 0 rfl) ?_
      refine ti_last (ci := 10) (k := 32) (n := 64) C hw ob_60 (by decide) (fun _ _ => rfl) (vp_in_iff.mpr (by omega)) dX10_works_419 (fun H locs hw => ?_)
      obtain ⟨M_98, hM_98⟩ : ∃ z : ti_M, z = uZ M_20 60 32 (vp_updL (tZ M_20 60 32) (x_97 : Int32).toNatClampNeg x_95) := ⟨_, rfl⟩
      have hw := hw.to hM_98.symm
      have iM_98 : mI Tm M_98 := mI_uZ iM_20 hM_98
      refine lv_lload hx hb dX10_works_420 (lv_at hl 0 rfl) ?_
      refine lv_ldc2 (v := 1000000000000) hx hb C.2.2.2.1 (C.2.2.1 _ cn_X10_333) dX10_works_422 ?_
      refine W.lcmp hx hb dX10_works_425 ?_
      refine lv_topi (fun x_99 ex_99 => ?_)
      have hj_442_102 : ∀  (H : Heap) (locs : List Loc) (ls : Array Slot), ti_H ti_LM D A cy H0 M_98 H locs → lv_has ls 8 [(6, .long x_95), (4, .long x_17), (2, .long x_3), (0, .ref (A 60 0)), (1, .int sg)] → W p l e (ti_rm 1) s m args below meth c H locs 0 0 Q (F0 m 442 ls []) := by
        intro  H locs ls  hw hl
        refine lv_iconst (v := 0) hx hb dX10_works_442 (by decide) ?_
        exact hQ _ _ _ _ _ _ hw rfl (⟨(fI.trans (fI_Z hM_98) (fI_I hM_20)), iM_98, (qw.trans (qw_Z hM_98) (qw_I hM_20 (by decide))), ((ry_Z hM_98).trans (ry_I hM_20)), (by first | omega | decide), (by first | omega | decide), by rw [((tI_uZE hM_98).trans (tI_uE hM_20))]; omega⟩) dX10_works_443
      refine sb_if_gt (tgt := 442) hx hb rfl dX10_works_426 (by decide) (fun c_426_99 => ?_) (fun c_426_99 => ?_)
      · exact hj_442_102  _ _ _  hw (lv_sub hl [0, 1, 2, 3, 4] rfl)
      · refine lv_lload hx hb dX10_works_429 (lv_at hl 0 rfl) ?_
        refine lv_ldc2 (v := (-1000000000000)) hx hb C.2.2.2.1 (C.2.2.1 _ cn_X10_335) dX10_works_431 ?_
        refine W.lcmp hx hb dX10_works_434 ?_
        refine lv_topi (fun x_101 ex_101 => ?_)
        refine sb_if_lt (tgt := 442) hx hb rfl dX10_works_435 (by decide) (fun c_435_101 => ?_) (fun c_435_101 => ?_)
        · exact hj_442_102  _ _ _  hw (lv_sub hl [0, 1, 2, 3, 4] rfl)
        · refine lv_iconst (v := 1) hx hb dX10_works_438 (by decide) ?_
          refine lv_goto (tgt := 443) hx hb dX10_works_439 (by decide) ?_
          exact hQ _ _ _ _ _ _ hw rfl (⟨(fI.trans (fI_Z hM_98) (fI_I hM_20)), iM_98, (qw.trans (qw_Z hM_98) (qw_I hM_20 (by decide))), ((ry_Z hM_98).trans (ry_I hM_20)), (by first | omega | decide), (by first | omega | decide), by rw [((tI_uZE hM_98).trans (tI_uE hM_20))]; omega⟩) dX10_works_443
    by_cases s_21_42 : sg = 42
    · refine lv_lookup (tgt := 186) hx hb dX10_works_70 (by decide) (off := 116) (by rw [s_21_42]; decide) (by decide) ?_
      refine lv_lload hx hb dX10_works_186 (lv_at hl 0 rfl) ?_
      refine lv_lconst (v := 0) hx hb dX10_works_188 (by decide) ?_
      refine W.lcmp hx hb dX10_works_189 ?_
      refine lv_topi (fun x_24 ex_24 => ?_)
      have hj_212_30 : ∀  (H : Heap) (locs : List Loc) (ls : Array Slot), ti_H ti_LM D A cy H0 M_20 H locs → lv_has ls 8 [(4, .long x_17), (2, .long x_3), (0, .ref (A 60 0)), (1, .int sg)] → W p l e (ti_rm 1) s m args below meth c H locs 0 0 Q (F0 m 212 ls []) := by
        intro  H locs ls  hw hl
        refine lv_lload hx hb dX10_works_212 (lv_at hl 0 rfl) ?_
        refine lv_lload_n hx hb dX10_works_214 rfl (lv_at hl 1 rfl) ?_
        refine lv_lmul hx hb dX10_works_215 ?_
        refine lv_topl (fun x_31 ex_31 => ?_)
        refine lv_lstore (lv' := [(6, .long x_31), (4, .long x_17), (2, .long x_3), (0, .ref (A 60 0)), (1, .int sg)]) hx hb dX10_works_216 hl (by decide) rfl (fun ls hl => ?_)
        refine lv_goto (tgt := 407) hx hb dX10_works_218 (by decide) ?_
        exact hj_407_95 x_31 _ _ _  hw (lv_sub hl [0, 1, 2, 3, 4] rfl)
      refine sb_if_eq (tgt := 212) hx hb rfl dX10_works_190 (by decide) (fun c_190_24 => ?_) (fun c_190_24 => ?_)
      · exact hj_212_30  _ _ _  hw (lv_sub hl [0, 1, 2, 3] rfl)
      · refine lv_lload_n hx hb dX10_works_193 rfl (lv_at hl 1 rfl) ?_
        refine ti_absl C ml_X10_327 hl.1 (by decide) (Nat.le_of_ble_eq_true rfl) ⟨Nat.zero_le _, Nat.zero_le _⟩ dX10_works_194 ?_
        refine lv_topl (fun x_26 ex_26 => ?_)
        refine lv_ldc2 (v := 1000000000000) hx hb C.2.2.2.1 (C.2.2.1 _ cn_X10_333) dX10_works_197 ?_
        refine lv_lload hx hb dX10_works_200 (lv_at hl 0 rfl) ?_
        refine ti_absl C ml_X10_327 hl.1 (by decide) (Nat.le_of_ble_eq_true rfl) ⟨Nat.zero_le _, Nat.zero_le _⟩ dX10_works_202 ?_
        refine lv_topl (fun x_27 ex_27 => ?_)
        refine lv_ldiv hx hb dX10_works_205 (ab0 ex_27 (lc0 ex_24 c_190_24)) ?_
        refine lv_topl (fun x_28 ex_28 => ?_)
        refine W.lcmp hx hb dX10_works_206 ?_
        refine lv_topi (fun x_29 ex_29 => ?_)
        refine sb_if_le (tgt := 212) hx hb rfl dX10_works_207 (by decide) (fun c_207_29 => ?_) (fun c_207_29 => ?_)
        · exact hj_212_30  _ _ _  hw (lv_sub hl [0, 1, 2, 3] rfl)
        · refine lv_iconst (v := 0) hx hb dX10_works_210 (by decide) ?_
          exact hQ _ _ _ _ _ _ hw rfl (⟨(fI_I hM_20), iM_20, (qw_I hM_20 (by decide)), (ry_I hM_20), (by first | omega | decide), (by first | omega | decide), by rw [(tI_uE hM_20)]; omega⟩) dX10_works_211
    · by_cases s_21_43 : sg = 43
      · refine lv_lookup (tgt := 168) hx hb dX10_works_70 (by decide) (off := 98) (by rw [s_21_43]; decide) (by decide) ?_
        refine lv_lload hx hb dX10_works_168 (lv_at hl 0 rfl) ?_
        refine lv_lload_n hx hb dX10_works_170 rfl (lv_at hl 1 rfl) ?_
        refine lv_ladd hx hb dX10_works_171 ?_
        refine lv_topl (fun x_22 ex_22 => ?_)
        refine lv_lstore (lv' := [(6, .long x_22), (4, .long x_17), (2, .long x_3), (0, .ref (A 60 0)), (1, .int sg)]) hx hb dX10_works_172 hl (by decide) rfl (fun ls hl => ?_)
        refine lv_goto (tgt := 407) hx hb dX10_works_174 (by decide) ?_
        exact hj_407_95 x_22 _ _ _  hw (lv_sub hl [0, 1, 2, 3, 4] rfl)
      · by_cases s_21_45 : sg = 45
        · refine lv_lookup (tgt := 177) hx hb dX10_works_70 (by decide) (off := 107) (by rw [s_21_45]; decide) (by decide) ?_
          refine lv_lload hx hb dX10_works_177 (lv_at hl 0 rfl) ?_
          refine lv_lload_n hx hb dX10_works_179 rfl (lv_at hl 1 rfl) ?_
          refine lv_lsub hx hb dX10_works_180 ?_
          refine lv_topl (fun x_23 ex_23 => ?_)
          refine lv_lstore (lv' := [(6, .long x_23), (4, .long x_17), (2, .long x_3), (0, .ref (A 60 0)), (1, .int sg)]) hx hb dX10_works_181 hl (by decide) rfl (fun ls hl => ?_)
          refine lv_goto (tgt := 407) hx hb dX10_works_183 (by decide) ?_
          exact hj_407_95 x_23 _ _ _  hw (lv_sub hl [0, 1, 2, 3, 4] rfl)
        · by_cases s_21_47 : sg = 47
          · refine lv_lookup (tgt := 221) hx hb dX10_works_70 (by decide) (off := 151) (by rw [s_21_47]; decide) (by decide) ?_
            refine lv_lload_n hx hb dX10_works_221 rfl (lv_at hl 1 rfl) ?_
            refine lv_lconst (v := 0) hx hb dX10_works_222 (by decide) ?_
            refine W.lcmp hx hb dX10_works_223 ?_
            refine lv_topi (fun x_32 ex_32 => ?_)
            refine sb_if_ne (tgt := 229) hx hb rfl dX10_works_224 (by decide) (fun c_224_32 => ?_) (fun c_224_32 => ?_)
            · refine lv_lload hx hb dX10_works_229 (lv_at hl 0 rfl) ?_
              refine lv_lload_n hx hb dX10_works_231 rfl (lv_at hl 1 rfl) ?_
              refine lv_ldiv hx hb dX10_works_232 (lc0 ex_32 c_224_32) ?_
              refine lv_topl (fun x_34 ex_34 => ?_)
              refine lv_lstore (lv' := [(6, .long x_34), (4, .long x_17), (2, .long x_3), (0, .ref (A 60 0)), (1, .int sg)]) hx hb dX10_works_233 hl (by decide) rfl (fun ls hl => ?_)
              refine lv_goto (tgt := 407) hx hb dX10_works_235 (by decide) ?_
              exact hj_407_95 x_34 _ _ _  hw (lv_sub hl [0, 1, 2, 3, 4] rfl)
            · refine lv_iconst (v := 0) hx hb dX10_works_227 (by decide) ?_
              exact hQ _ _ _ _ _ _ hw rfl (⟨(fI_I hM_20), iM_20, (qw_I hM_20 (by decide)), (ry_I hM_20), (by first | omega | decide), (by first | omega | decide), by rw [(tI_uE hM_20)]; omega⟩) dX10_works_228
          · by_cases s_21_60 : sg = 60
            · refine lv_lookup (tgt := 238) hx hb dX10_works_70 (by decide) (off := 168) (by rw [s_21_60]; decide) (by decide) ?_
              refine lv_lload hx hb dX10_works_238 (lv_at hl 0 rfl) ?_
              refine lv_lload_n hx hb dX10_works_240 rfl (lv_at hl 1 rfl) ?_
              refine W.lcmp hx hb dX10_works_241 ?_
              refine lv_topi (fun x_35 ex_35 => ?_)
              have hj_250_39 : ∀ (x_37 : Int32) (H : Heap) (locs : List Loc) (ls : Array Slot), (0 ≤ x_37.toInt) → (x_37.toInt ≤ 1) → ti_H ti_LM D A cy H0 M_20 H locs → lv_has ls 8 [(4, .long x_17), (2, .long x_3), (0, .ref (A 60 0)), (1, .int sg)] → W p l e (ti_rm 1) s m args below meth c H locs 0 0 Q (F0 m 250 ls [.int x_37]) := by
                intro x_37 H locs ls b_38 b_39 hw hl
                refine ti_callSl (av := [.int x_37]) C hw (s_X10_is l D A cy hJ M_20 iM_20 x_37) ⟨ml_X10_323, ys_X10_is, yi_X10_is, yc_X10_is⟩ yd_X10_is rfl hl.1 (Nat.le_of_ble_eq_true rfl) ⟨by decide, by decide⟩ ⟨Nat.zero_le _, Nat.zero_le _⟩ dX10_works_250 (fun r_40 M_41 H locs hp_41 hw => ?_)
                have hm := hp_41
                have hw := hw.to hm
                refine lv_lstore (lv' := [(6, .long r_40), (4, .long x_17), (2, .long x_3), (0, .ref (A 60 0)), (1, .int sg)]) hx hb dX10_works_253 hl (by decide) rfl (fun ls hl => ?_)
                refine lv_goto (tgt := 407) hx hb dX10_works_255 (by decide) ?_
                exact hj_407_95 r_40 _ _ _  hw (lv_sub hl [0, 1, 2, 3, 4] rfl)
              refine sb_if_ge (tgt := 249) hx hb rfl dX10_works_242 (by decide) (fun c_242_35 => ?_) (fun c_242_35 => ?_)
              · refine lv_iconst (v := 0) hx hb dX10_works_249 (by decide) ?_
                exact hj_250_39 0 _ _ _ (by have lt0 : (0 : Int32).toInt = 0 := (by decide); first | omega | decide) (by have lt0 : (0 : Int32).toInt = 0 := (by decide); first | omega | decide) hw (lv_sub hl [0, 1, 2, 3] rfl)
              · refine lv_iconst (v := 1) hx hb dX10_works_245 (by decide) ?_
                refine lv_goto (tgt := 250) hx hb dX10_works_246 (by decide) ?_
                exact hj_250_39 1 _ _ _ (by have lt0 : (1 : Int32).toInt = 1 := (by decide); first | omega | decide) (by have lt0 : (1 : Int32).toInt = 1 := (by decide); first | omega | decide) hw (lv_sub hl [0, 1, 2, 3] rfl)
            · by_cases s_21_61 : sg = 61
              · refine lv_lookup (tgt := 278) hx hb dX10_works_70 (by decide) (off := 208) (by rw [s_21_61]; decide) (by decide) ?_
                refine lv_lload hx hb dX10_works_278 (lv_at hl 0 rfl) ?_
                refine lv_lload_n hx hb dX10_works_280 rfl (lv_at hl 1 rfl) ?_
                refine W.lcmp hx hb dX10_works_281 ?_
                refine lv_topi (fun x_49 ex_49 => ?_)
                have hj_290_53 : ∀ (x_51 : Int32) (H : Heap) (locs : List Loc) (ls : Array Slot), (0 ≤ x_51.toInt) → (x_51.toInt ≤ 1) → ti_H ti_LM D A cy H0 M_20 H locs → lv_has ls 8 [(4, .long x_17), (2, .long x_3), (0, .ref (A 60 0)), (1, .int sg)] → W p l e (ti_rm 1) s m args below meth c H locs 0 0 Q (F0 m 290 ls [.int x_51]) := by
                  intro x_51 H locs ls b_52 b_53 hw hl
                  refine ti_callSl (av := [.int x_51]) C hw (s_X10_is l D A cy hJ M_20 iM_20 x_51) ⟨ml_X10_323, ys_X10_is, yi_X10_is, yc_X10_is⟩ yd_X10_is rfl hl.1 (Nat.le_of_ble_eq_true rfl) ⟨by decide, by decide⟩ ⟨Nat.zero_le _, Nat.zero_le _⟩ dX10_works_290 (fun r_54 M_55 H locs hp_55 hw => ?_)
                  have hm := hp_55
                  have hw := hw.to hm
                  refine lv_lstore (lv' := [(6, .long r_54), (4, .long x_17), (2, .long x_3), (0, .ref (A 60 0)), (1, .int sg)]) hx hb dX10_works_293 hl (by decide) rfl (fun ls hl => ?_)
                  refine lv_goto (tgt := 407) hx hb dX10_works_295 (by decide) ?_
                  exact hj_407_95 r_54 _ _ _  hw (lv_sub hl [0, 1, 2, 3, 4] rfl)
                refine sb_if_ne (tgt := 289) hx hb rfl dX10_works_282 (by decide) (fun c_282_49 => ?_) (fun c_282_49 => ?_)
                · refine lv_iconst (v := 0) hx hb dX10_works_289 (by decide) ?_
                  exact hj_290_53 0 _ _ _ (by have lt0 : (0 : Int32).toInt = 0 := (by decide); first | omega | decide) (by have lt0 : (0 : Int32).toInt = 0 := (by decide); first | omega | decide) hw (lv_sub hl [0, 1, 2, 3] rfl)
                · refine lv_iconst (v := 1) hx hb dX10_works_285 (by decide) ?_
                  refine lv_goto (tgt := 290) hx hb dX10_works_286 (by decide) ?_
                  exact hj_290_53 1 _ _ _ (by have lt0 : (1 : Int32).toInt = 1 := (by decide); first | omega | decide) (by have lt0 : (1 : Int32).toInt = 1 := (by decide); first | omega | decide) hw (lv_sub hl [0, 1, 2, 3] rfl)
              · by_cases s_21_62 : sg = 62
                · refine lv_lookup (tgt := 258) hx hb dX10_works_70 (by decide) (off := 188) (by rw [s_21_62]; decide) (by decide) ?_
                  refine lv_lload hx hb dX10_works_258 (lv_at hl 0 rfl) ?_
                  refine lv_lload_n hx hb dX10_works_260 rfl (lv_at hl 1 rfl) ?_
                  refine W.lcmp hx hb dX10_works_261 ?_
                  refine lv_topi (fun x_42 ex_42 => ?_)
                  have hj_270_46 : ∀ (x_44 : Int32) (H : Heap) (locs : List Loc) (ls : Array Slot), (0 ≤ x_44.toInt) → (x_44.toInt ≤ 1) → ti_H ti_LM D A cy H0 M_20 H locs → lv_has ls 8 [(4, .long x_17), (2, .long x_3), (0, .ref (A 60 0)), (1, .int sg)] → W p l e (ti_rm 1) s m args below meth c H locs 0 0 Q (F0 m 270 ls [.int x_44]) := by
                    intro x_44 H locs ls b_45 b_46 hw hl
                    refine ti_callSl (av := [.int x_44]) C hw (s_X10_is l D A cy hJ M_20 iM_20 x_44) ⟨ml_X10_323, ys_X10_is, yi_X10_is, yc_X10_is⟩ yd_X10_is rfl hl.1 (Nat.le_of_ble_eq_true rfl) ⟨by decide, by decide⟩ ⟨Nat.zero_le _, Nat.zero_le _⟩ dX10_works_270 (fun r_47 M_48 H locs hp_48 hw => ?_)
                    have hm := hp_48
                    have hw := hw.to hm
                    refine lv_lstore (lv' := [(6, .long r_47), (4, .long x_17), (2, .long x_3), (0, .ref (A 60 0)), (1, .int sg)]) hx hb dX10_works_273 hl (by decide) rfl (fun ls hl => ?_)
                    refine lv_goto (tgt := 407) hx hb dX10_works_275 (by decide) ?_
                    exact hj_407_95 r_47 _ _ _  hw (lv_sub hl [0, 1, 2, 3, 4] rfl)
                  refine sb_if_le (tgt := 269) hx hb rfl dX10_works_262 (by decide) (fun c_262_42 => ?_) (fun c_262_42 => ?_)
                  · refine lv_iconst (v := 0) hx hb dX10_works_269 (by decide) ?_
                    exact hj_270_46 0 _ _ _ (by have lt0 : (0 : Int32).toInt = 0 := (by decide); first | omega | decide) (by have lt0 : (0 : Int32).toInt = 0 := (by decide); first | omega | decide) hw (lv_sub hl [0, 1, 2, 3] rfl)
                  · refine lv_iconst (v := 1) hx hb dX10_works_265 (by decide) ?_
                    refine lv_goto (tgt := 270) hx hb dX10_works_266 (by decide) ?_
                    exact hj_270_46 1 _ _ _ (by have lt0 : (1 : Int32).toInt = 1 := (by decide); first | omega | decide) (by have lt0 : (1 : Int32).toInt = 1 := (by decide); first | omega | decide) hw (lv_sub hl [0, 1, 2, 3] rfl)
                · by_cases s_21_256 : sg = 256
                  · refine lv_lookup (tgt := 298) hx hb dX10_works_70 (by decide) (off := 228) (by rw [s_21_256]; decide) (by decide) ?_
                    refine lv_lload hx hb dX10_works_298 (lv_at hl 0 rfl) ?_
                    refine lv_lload_n hx hb dX10_works_300 rfl (lv_at hl 1 rfl) ?_
                    refine W.lcmp hx hb dX10_works_301 ?_
                    refine lv_topi (fun x_56 ex_56 => ?_)
                    have hj_310_60 : ∀ (x_58 : Int32) (H : Heap) (locs : List Loc) (ls : Array Slot), (0 ≤ x_58.toInt) → (x_58.toInt ≤ 1) → ti_H ti_LM D A cy H0 M_20 H locs → lv_has ls 8 [(4, .long x_17), (2, .long x_3), (0, .ref (A 60 0)), (1, .int sg)] → W p l e (ti_rm 1) s m args below meth c H locs 0 0 Q (F0 m 310 ls [.int x_58]) := by
                      intro x_58 H locs ls b_59 b_60 hw hl
                      refine ti_callSl (av := [.int x_58]) C hw (s_X10_is l D A cy hJ M_20 iM_20 x_58) ⟨ml_X10_323, ys_X10_is, yi_X10_is, yc_X10_is⟩ yd_X10_is rfl hl.1 (Nat.le_of_ble_eq_true rfl) ⟨by decide, by decide⟩ ⟨Nat.zero_le _, Nat.zero_le _⟩ dX10_works_310 (fun r_61 M_62 H locs hp_62 hw => ?_)
                      have hm := hp_62
                      have hw := hw.to hm
                      refine lv_lstore (lv' := [(6, .long r_61), (4, .long x_17), (2, .long x_3), (0, .ref (A 60 0)), (1, .int sg)]) hx hb dX10_works_313 hl (by decide) rfl (fun ls hl => ?_)
                      refine lv_goto (tgt := 407) hx hb dX10_works_315 (by decide) ?_
                      exact hj_407_95 r_61 _ _ _  hw (lv_sub hl [0, 1, 2, 3, 4] rfl)
                    refine sb_if_gt (tgt := 309) hx hb rfl dX10_works_302 (by decide) (fun c_302_56 => ?_) (fun c_302_56 => ?_)
                    · refine lv_iconst (v := 0) hx hb dX10_works_309 (by decide) ?_
                      exact hj_310_60 0 _ _ _ (by have lt0 : (0 : Int32).toInt = 0 := (by decide); first | omega | decide) (by have lt0 : (0 : Int32).toInt = 0 := (by decide); first | omega | decide) hw (lv_sub hl [0, 1, 2, 3] rfl)
                    · refine lv_iconst (v := 1) hx hb dX10_works_305 (by decide) ?_
                      refine lv_goto (tgt := 310) hx hb dX10_works_306 (by decide) ?_
                      exact hj_310_60 1 _ _ _ (by have lt0 : (1 : Int32).toInt = 1 := (by decide); first | omega | decide) (by have lt0 : (1 : Int32).toInt = 1 := (by decide); first | omega | decide) hw (lv_sub hl [0, 1, 2, 3] rfl)
                  · by_cases s_21_257 : sg = 257
                    · refine lv_lookup (tgt := 338) hx hb dX10_works_70 (by decide) (off := 268) (by rw [s_21_257]; decide) (by decide) ?_
                      refine lv_lload hx hb dX10_works_338 (lv_at hl 0 rfl) ?_
                      refine lv_lload_n hx hb dX10_works_340 rfl (lv_at hl 1 rfl) ?_
                      refine W.lcmp hx hb dX10_works_341 ?_
                      refine lv_topi (fun x_70 ex_70 => ?_)
                      have hj_350_74 : ∀ (x_72 : Int32) (H : Heap) (locs : List Loc) (ls : Array Slot), (0 ≤ x_72.toInt) → (x_72.toInt ≤ 1) → ti_H ti_LM D A cy H0 M_20 H locs → lv_has ls 8 [(4, .long x_17), (2, .long x_3), (0, .ref (A 60 0)), (1, .int sg)] → W p l e (ti_rm 1) s m args below meth c H locs 0 0 Q (F0 m 350 ls [.int x_72]) := by
                        intro x_72 H locs ls b_73 b_74 hw hl
                        refine ti_callSl (av := [.int x_72]) C hw (s_X10_is l D A cy hJ M_20 iM_20 x_72) ⟨ml_X10_323, ys_X10_is, yi_X10_is, yc_X10_is⟩ yd_X10_is rfl hl.1 (Nat.le_of_ble_eq_true rfl) ⟨by decide, by decide⟩ ⟨Nat.zero_le _, Nat.zero_le _⟩ dX10_works_350 (fun r_75 M_76 H locs hp_76 hw => ?_)
                        have hm := hp_76
                        have hw := hw.to hm
                        refine lv_lstore (lv' := [(6, .long r_75), (4, .long x_17), (2, .long x_3), (0, .ref (A 60 0)), (1, .int sg)]) hx hb dX10_works_353 hl (by decide) rfl (fun ls hl => ?_)
                        refine lv_goto (tgt := 407) hx hb dX10_works_355 (by decide) ?_
                        exact hj_407_95 r_75 _ _ _  hw (lv_sub hl [0, 1, 2, 3, 4] rfl)
                      refine sb_if_eq (tgt := 349) hx hb rfl dX10_works_342 (by decide) (fun c_342_70 => ?_) (fun c_342_70 => ?_)
                      · refine lv_iconst (v := 0) hx hb dX10_works_349 (by decide) ?_
                        exact hj_350_74 0 _ _ _ (by have lt0 : (0 : Int32).toInt = 0 := (by decide); first | omega | decide) (by have lt0 : (0 : Int32).toInt = 0 := (by decide); first | omega | decide) hw (lv_sub hl [0, 1, 2, 3] rfl)
                      · refine lv_iconst (v := 1) hx hb dX10_works_345 (by decide) ?_
                        refine lv_goto (tgt := 350) hx hb dX10_works_346 (by decide) ?_
                        exact hj_350_74 1 _ _ _ (by have lt0 : (1 : Int32).toInt = 1 := (by decide); first | omega | decide) (by have lt0 : (1 : Int32).toInt = 1 := (by decide); first | omega | decide) hw (lv_sub hl [0, 1, 2, 3] rfl)
                    · by_cases s_21_258 : sg = 258
                      · refine lv_lookup (tgt := 318) hx hb dX10_works_70 (by decide) (off := 248) (by rw [s_21_258]; decide) (by decide) ?_
                        refine lv_lload hx hb dX10_works_318 (lv_at hl 0 rfl) ?_
                        refine lv_lload_n hx hb dX10_works_320 rfl (lv_at hl 1 rfl) ?_
                        refine W.lcmp hx hb dX10_works_321 ?_
                        refine lv_topi (fun x_63 ex_63 => ?_)
                        have hj_330_67 : ∀ (x_65 : Int32) (H : Heap) (locs : List Loc) (ls : Array Slot), (0 ≤ x_65.toInt) → (x_65.toInt ≤ 1) → ti_H ti_LM D A cy H0 M_20 H locs → lv_has ls 8 [(4, .long x_17), (2, .long x_3), (0, .ref (A 60 0)), (1, .int sg)] → W p l e (ti_rm 1) s m args below meth c H locs 0 0 Q (F0 m 330 ls [.int x_65]) := by
                          intro x_65 H locs ls b_66 b_67 hw hl
                          refine ti_callSl (av := [.int x_65]) C hw (s_X10_is l D A cy hJ M_20 iM_20 x_65) ⟨ml_X10_323, ys_X10_is, yi_X10_is, yc_X10_is⟩ yd_X10_is rfl hl.1 (Nat.le_of_ble_eq_true rfl) ⟨by decide, by decide⟩ ⟨Nat.zero_le _, Nat.zero_le _⟩ dX10_works_330 (fun r_68 M_69 H locs hp_69 hw => ?_)
                          have hm := hp_69
                          have hw := hw.to hm
                          refine lv_lstore (lv' := [(6, .long r_68), (4, .long x_17), (2, .long x_3), (0, .ref (A 60 0)), (1, .int sg)]) hx hb dX10_works_333 hl (by decide) rfl (fun ls hl => ?_)
                          refine lv_goto (tgt := 407) hx hb dX10_works_335 (by decide) ?_
                          exact hj_407_95 r_68 _ _ _  hw (lv_sub hl [0, 1, 2, 3, 4] rfl)
                        refine sb_if_lt (tgt := 329) hx hb rfl dX10_works_322 (by decide) (fun c_322_63 => ?_) (fun c_322_63 => ?_)
                        · refine lv_iconst (v := 0) hx hb dX10_works_329 (by decide) ?_
                          exact hj_330_67 0 _ _ _ (by have lt0 : (0 : Int32).toInt = 0 := (by decide); first | omega | decide) (by have lt0 : (0 : Int32).toInt = 0 := (by decide); first | omega | decide) hw (lv_sub hl [0, 1, 2, 3] rfl)
                        · refine lv_iconst (v := 1) hx hb dX10_works_325 (by decide) ?_
                          refine lv_goto (tgt := 330) hx hb dX10_works_326 (by decide) ?_
                          exact hj_330_67 1 _ _ _ (by have lt0 : (1 : Int32).toInt = 1 := (by decide); first | omega | decide) (by have lt0 : (1 : Int32).toInt = 1 := (by decide); first | omega | decide) hw (lv_sub hl [0, 1, 2, 3] rfl)
                      · by_cases s_21_261 : sg = 261
                        · refine lv_lookup (tgt := 358) hx hb dX10_works_70 (by decide) (off := 288) (by rw [s_21_261]; decide) (by decide) ?_
                          refine lv_lload hx hb dX10_works_358 (lv_at hl 0 rfl) ?_
                          refine lv_lconst (v := 0) hx hb dX10_works_360 (by decide) ?_
                          refine W.lcmp hx hb dX10_works_361 ?_
                          refine lv_topi (fun x_77 ex_77 => ?_)
                          have hj_376_83 : ∀ (x_81 : Int32) (H : Heap) (locs : List Loc) (ls : Array Slot), (0 ≤ x_81.toInt) → (x_81.toInt ≤ 1) → ti_H ti_LM D A cy H0 M_20 H locs → lv_has ls 8 [(4, .long x_17), (2, .long x_3), (0, .ref (A 60 0)), (1, .int sg)] → W p l e (ti_rm 1) s m args below meth c H locs 0 0 Q (F0 m 376 ls [.int x_81]) := by
                            intro x_81 H locs ls b_82 b_83 hw hl
                            refine ti_callSl (av := [.int x_81]) C hw (s_X10_is l D A cy hJ M_20 iM_20 x_81) ⟨ml_X10_323, ys_X10_is, yi_X10_is, yc_X10_is⟩ yd_X10_is rfl hl.1 (Nat.le_of_ble_eq_true rfl) ⟨by decide, by decide⟩ ⟨Nat.zero_le _, Nat.zero_le _⟩ dX10_works_376 (fun r_84 M_85 H locs hp_85 hw => ?_)
                            have hm := hp_85
                            have hw := hw.to hm
                            refine lv_lstore (lv' := [(6, .long r_84), (4, .long x_17), (2, .long x_3), (0, .ref (A 60 0)), (1, .int sg)]) hx hb dX10_works_379 hl (by decide) rfl (fun ls hl => ?_)
                            refine lv_goto (tgt := 407) hx hb dX10_works_381 (by decide) ?_
                            exact hj_407_95 r_84 _ _ _  hw (lv_sub hl [0, 1, 2, 3, 4] rfl)
                          have hj_375_80 : ∀  (H : Heap) (locs : List Loc) (ls : Array Slot), ti_H ti_LM D A cy H0 M_20 H locs → lv_has ls 8 [(4, .long x_17), (2, .long x_3), (0, .ref (A 60 0)), (1, .int sg)] → W p l e (ti_rm 1) s m args below meth c H locs 0 0 Q (F0 m 375 ls []) := by
                            intro  H locs ls  hw hl
                            refine lv_iconst (v := 0) hx hb dX10_works_375 (by decide) ?_
                            exact hj_376_83 0 _ _ _ (by have lt0 : (0 : Int32).toInt = 0 := (by decide); first | omega | decide) (by have lt0 : (0 : Int32).toInt = 0 := (by decide); first | omega | decide) hw (lv_sub hl [0, 1, 2, 3] rfl)
                          refine sb_if_eq (tgt := 375) hx hb rfl dX10_works_362 (by decide) (fun c_362_77 => ?_) (fun c_362_77 => ?_)
                          · exact hj_375_80  _ _ _  hw (lv_sub hl [0, 1, 2, 3] rfl)
                          · refine lv_lload_n hx hb dX10_works_365 rfl (lv_at hl 1 rfl) ?_
                            refine lv_lconst (v := 0) hx hb dX10_works_366 (by decide) ?_
                            refine W.lcmp hx hb dX10_works_367 ?_
                            refine lv_topi (fun x_79 ex_79 => ?_)
                            refine sb_if_eq (tgt := 375) hx hb rfl dX10_works_368 (by decide) (fun c_368_79 => ?_) (fun c_368_79 => ?_)
                            · exact hj_375_80  _ _ _  hw (lv_sub hl [0, 1, 2, 3] rfl)
                            · refine lv_iconst (v := 1) hx hb dX10_works_371 (by decide) ?_
                              refine lv_goto (tgt := 376) hx hb dX10_works_372 (by decide) ?_
                              exact hj_376_83 1 _ _ _ (by have lt0 : (1 : Int32).toInt = 1 := (by decide); first | omega | decide) (by have lt0 : (1 : Int32).toInt = 1 := (by decide); first | omega | decide) hw (lv_sub hl [0, 1, 2, 3] rfl)
                        · refine lv_lookup (tgt := 384) hx hb dX10_works_70 (by decide) (off := 314) (ti_lk _ sg.toInt _ (by intro q hq; simp only [List.mem_cons, List.not_mem_nil, or_false] at hq; rcases hq with rfl | rfl | rfl | rfl | rfl | rfl | rfl | rfl | rfl | rfl | rfl <;> first | exact ti_nev 42 s_21_42 (by decide) | exact ti_nev 43 s_21_43 (by decide) | exact ti_nev 45 s_21_45 (by decide) | exact ti_nev 47 s_21_47 (by decide) | exact ti_nev 60 s_21_60 (by decide) | exact ti_nev 61 s_21_61 (by decide) | exact ti_nev 62 s_21_62 (by decide) | exact ti_nev 256 s_21_256 (by decide) | exact ti_nev 257 s_21_257 (by decide) | exact ti_nev 258 s_21_258 (by decide) | exact ti_nev 261 s_21_261 (by decide))) (by decide) ?_
                          refine lv_lload hx hb dX10_works_384 (lv_at hl 0 rfl) ?_
                          refine lv_lconst (v := 0) hx hb dX10_works_386 (by decide) ?_
                          refine W.lcmp hx hb dX10_works_387 ?_
                          refine lv_topi (fun x_86 ex_86 => ?_)
                          have hj_402_92 : ∀ (x_90 : Int32) (H : Heap) (locs : List Loc) (ls : Array Slot), (0 ≤ x_90.toInt) → (x_90.toInt ≤ 1) → ti_H ti_LM D A cy H0 M_20 H locs → lv_has ls 8 [(4, .long x_17), (2, .long x_3), (0, .ref (A 60 0)), (1, .int sg)] → W p l e (ti_rm 1) s m args below meth c H locs 0 0 Q (F0 m 402 ls [.int x_90]) := by
                            intro x_90 H locs ls b_91 b_92 hw hl
                            refine ti_callSl (av := [.int x_90]) C hw (s_X10_is l D A cy hJ M_20 iM_20 x_90) ⟨ml_X10_323, ys_X10_is, yi_X10_is, yc_X10_is⟩ yd_X10_is rfl hl.1 (Nat.le_of_ble_eq_true rfl) ⟨by decide, by decide⟩ ⟨Nat.zero_le _, Nat.zero_le _⟩ dX10_works_402 (fun r_93 M_94 H locs hp_94 hw => ?_)
                            have hm := hp_94
                            have hw := hw.to hm
                            refine lv_lstore (lv' := [(6, .long r_93), (4, .long x_17), (2, .long x_3), (0, .ref (A 60 0)), (1, .int sg)]) hx hb dX10_works_405 hl (by decide) rfl (fun ls hl => ?_)
                            exact hj_407_95 r_93 _ _ _  hw (lv_sub hl [0, 1, 2, 3, 4] rfl)
                          have hj_397_89 : ∀  (H : Heap) (locs : List Loc) (ls : Array Slot), ti_H ti_LM D A cy H0 M_20 H locs → lv_has ls 8 [(4, .long x_17), (2, .long x_3), (0, .ref (A 60 0)), (1, .int sg)] → W p l e (ti_rm 1) s m args below meth c H locs 0 0 Q (F0 m 397 ls []) := by
                            intro  H locs ls  hw hl
                            refine lv_iconst (v := 1) hx hb dX10_works_397 (by decide) ?_
                            refine lv_goto (tgt := 402) hx hb dX10_works_398 (by decide) ?_
                            exact hj_402_92 1 _ _ _ (by have lt0 : (1 : Int32).toInt = 1 := (by decide); first | omega | decide) (by have lt0 : (1 : Int32).toInt = 1 := (by decide); first | omega | decide) hw (lv_sub hl [0, 1, 2, 3] rfl)
                          refine sb_if_ne (tgt := 397) hx hb rfl dX10_works_388 (by decide) (fun c_388_86 => ?_) (fun c_388_86 => ?_)
                          · exact hj_397_89  _ _ _  hw (lv_sub hl [0, 1, 2, 3] rfl)
                          · refine lv_lload_n hx hb dX10_works_391 rfl (lv_at hl 1 rfl) ?_
                            refine lv_lconst (v := 0) hx hb dX10_works_392 (by decide) ?_
                            refine W.lcmp hx hb dX10_works_393 ?_
                            refine lv_topi (fun x_88 ex_88 => ?_)
                            refine sb_if_eq (tgt := 401) hx hb rfl dX10_works_394 (by decide) (fun c_394_88 => ?_) (fun c_394_88 => ?_)
                            · refine lv_iconst (v := 0) hx hb dX10_works_401 (by decide) ?_
                              exact hj_402_92 0 _ _ _ (by have lt0 : (0 : Int32).toInt = 0 := (by decide); first | omega | decide) (by have lt0 : (0 : Int32).toInt = 0 := (by decide); first | omega | decide) hw (lv_sub hl [0, 1, 2, 3] rfl)
                            · exact hj_397_89  _ _ _  hw (lv_sub hl [0, 1, 2, 3] rfl)
  · refine lv_aload_n hx hb dX10_works_19 rfl (lv_at hl 1 rfl) ?_
    refine ti_get (ci := 10) (k := 32) (N := 67) (T := TX10) (v := .ref (A 60 33)) C hw iw_10 rfl ob_60 (by decide) (by decide) fl_X10_66 rfl rfl dX10_works_20 ?_
    refine lv_aload_n hx hb dX10_works_23 rfl (lv_at hl 1 rfl) ?_
    refine ti_get (ci := 10) (k := 33) (N := 67) (T := TX10) C hw iw_10 rfl ob_60 (by decide) (by decide) fl_X10_320 rfl rfl dX10_works_24 ?_
    refine ti_top (y := d) (hd) ?_
    have u_5 : (tI M 60 33).toInt = (d : Int32).toInt := by rw [(hd)]
    refine lv_iconst (v := 1) hx hb dX10_works_27 (by decide) ?_
    refine lv_isub hx hb dX10_works_28 ?_
    refine lv_topi (fun x_6 ex_6 => ?_)
    have tx_6 : x_6.toInt = d.toInt - 1 := i_sub ex_6 rfl (by decide : (1 : Int32).toInt = 1) (by omega) (by omega)
    refine lv_lload_n hx hb dX10_works_29 rfl (lv_at hl 0 rfl) ?_
    refine lv_lconst (v := 0) hx hb dX10_works_30 (by decide) ?_
    refine W.lcmp hx hb dX10_works_31 ?_
    refine lv_topi (fun x_7 ex_7 => ?_)
    have hj_40_11 : ∀ (x_9 : Int32) (H : Heap) (locs : List Loc) (ls : Array Slot), (0 ≤ x_9.toInt) → (x_9.toInt ≤ 1) → ti_H ti_LM D A cy H0 M H locs → lv_has ls 8 [(2, .long x_3), (0, .ref (A 60 0)), (1, .int sg)] → W p l e (ti_rm 1) s m args below meth c H locs 0 0 Q (F0 m 40 ls [.int x_9, .int x_6, .ref (A 60 33)]) := by
      intro x_9 H locs ls b_10 b_11 hw hl
      refine ti_callSl (av := [.int x_9]) C hw (s_X10_is l D A cy hJ M hI x_9) ⟨ml_X10_323, ys_X10_is, yi_X10_is, yc_X10_is⟩ yd_X10_is rfl hl.1 (Nat.le_of_ble_eq_true rfl) ⟨by decide, by decide⟩ ⟨Nat.zero_le _, Nat.zero_le _⟩ dX10_works_40 (fun r_12 M_13 H locs hp_13 hw => ?_)
      have hm := hp_13
      have hw := hw.to hm
      refine ti_last (ci := 10) (k := 32) (n := 64) C hw ob_60 (by decide) (fun _ _ => rfl) (vp_in_iff.mpr (by omega)) dX10_works_43 (fun H locs hw => ?_)
      obtain ⟨M_14, hM_14⟩ : ∃ z : ti_M, z = uZ M 60 32 (vp_updL (tZ M 60 32) (x_6 : Int32).toNatClampNeg r_12) := ⟨_, rfl⟩
      have hw := hw.to hM_14.symm
      have iM_14 : mI Tm M_14 := mI_uZ hI hM_14
      refine lv_iconst (v := 1) hx hb dX10_works_44 (by decide) ?_
      exact hQ _ _ _ _ _ _ hw rfl (⟨(fI_Z hM_14), iM_14, (qw_Z hM_14), (ry_Z hM_14), (by first | omega | decide), (by first | omega | decide), by rw [((tI_uZE hM_14).trans hd)]; omega⟩) dX10_works_45
    refine sb_if_ne (tgt := 39) hx hb rfl dX10_works_32 (by decide) (fun c_32_7 => ?_) (fun c_32_7 => ?_)
    · refine lv_iconst (v := 0) hx hb dX10_works_39 (by decide) ?_
      exact hj_40_11 0 _ _ _ (by have lt0 : (0 : Int32).toInt = 0 := (by decide); first | omega | decide) (by have lt0 : (0 : Int32).toInt = 0 := (by decide); first | omega | decide) hw (lv_sub hl [0, 1, 2] rfl)
    · refine lv_iconst (v := 1) hx hb dX10_works_35 (by decide) ?_
      refine lv_goto (tgt := 40) hx hb dX10_works_36 (by decide) ?_
      exact hj_40_11 1 _ _ _ (by have lt0 : (1 : Int32).toInt = 1 := (by decide); first | omega | decide) (by have lt0 : (1 : Int32).toInt = 1 := (by decide); first | omega | decide) hw (lv_sub hl [0, 1, 2] rfl)
set_option maxHeartbeats 4000000 in
set_option maxRecDepth 100000 in
theorem f_X10_goes (l : Launch) (D : va_G) (A : Nat → Nat → Nat) (cy : Nat → ClassId) (hJ : ti_inj ti_LM A) (M : ti_M) (hI : mI Tm M) (hL : mL M) (a : Int32) (h1 : 0 ≤ a.toInt) (h2 : a.toInt ≤ 2) : ti_Ki l yX10_goes cX10_goes 3 (some .boolean) 2 ti_LM D A cy M [.ref (A 60 0), .int a] (fun r M2 => fI M2 M ∧ mI Tm M2 ∧ qw M2 M ∧ M2.2.1 = M.2.1 ∧ 0 ≤ r.toInt ∧ r.toInt ≤ 1) := by
  refine ti_eI yp_X10_goes hJ ti_LM_nd (Nat.le_of_ble_eq_true rfl) ?_
  intro p e s m args below meth c Q H0 C hQ hw ls hl
  have hx := C.1
  have hb := C.2.1
  have hl : lv_has ls 3 [(0, .ref (A 60 0)), (1, .int a)] := hl
  refine lv_aload_n hx hb dX10_goes_0 rfl (lv_at hl 0 rfl) ?_
  refine lv_iconst (v := 0) hx hb dX10_goes_1 (by decide) ?_
  refine ti_putI (ci := 10) (k := 33) (N := 67) (T := TX10) C hw iw_10 tyX10 tyX10_ok nmX10 rfl ob_60 (by decide) (by decide) fl_X10_320 rfl rfl rfl rfl (fn_10 A _) fs_10_33 dX10_goes_2 (fun H locs hw => ?_)
  obtain ⟨M_1, hM_1⟩ : ∃ z : ti_M, z = uI M 60 33 0 := ⟨_, rfl⟩
  have hw := hw.to hM_1.symm
  have iM_1 : mI Tm M_1 := mI_uI hI hM_1 (by decide) (by decide) (ib_mk (lo := 0) (hi := 64) (by decide) (by decide))
  have vM_1 : (tI M_1 60 33).toInt = 0 := by rw [tI_uE hM_1]; decide
  refine lv_aload_n hx hb dX10_goes_5 rfl (lv_at hl 0 rfl) ?_
  refine ti_get (ci := 10) (k := 14) (N := 67) (T := TX10) (v := .ref (A 60 15)) C hw iw_10 rfl ob_60 (by decide) (by decide) fl_X10_46 rfl rfl dX10_goes_6 ?_
  refine lv_iload_n hx hb dX10_goes_9 rfl (lv_at hl 1 rfl) ?_
  refine ti_iald (ci := 10) (k := 14) (n := 6) C hw ob_60 (by decide) (fun _ _ => rfl) (vp_in_iff.mpr (by omega)) dX10_goes_10 ?_
  refine lv_topi (fun x_2 ex_2 => ?_)
  have yx_2 : tY M_1 60 14 a.toNatClampNeg = x_2 := (ex_2.symm)
  have bx_2 : 0 ≤ x_2.toInt ∧ x_2.toInt ≤ 64 := mI_ry (k := 14) (i := a.toNatClampNeg) iM_1 yx_2.symm
  have wx_2 : tY M 60 14 a.toNatClampNeg = x_2 := ((cg (tY_uIE hM_1) a.toNatClampNeg)).symm.trans yx_2
  refine lv_istore_n (lv' := [(2, .int x_2), (0, .ref (A 60 0)), (1, .int a)]) hx hb dX10_goes_11 rfl hl (by decide) rfl (fun ls hl => ?_)
  have u_14 : (tI M_1 60 33).toInt = (0 : Int32).toInt := by rw [(tI_uE hM_1)]
  have hl_12_12 : ∀ (n_13 : Nat) (x_3 : Int32) (M_6 : ti_M) (H : Heap) (locs : List Loc) (ls : Array Slot), (64 - x_3.toInt : Int).toNat < n_13 → (0 ≤ x_3.toInt) → (x_3.toInt ≤ 64) → (mI Tm M_6) → (qw M_6 M) → (M_6.2.1 = M.2.1) → (fI M_6 M) → (0 ≤ (tI M_6 60 33).toInt) → ((tY M 60 14 a.toNatClampNeg).toInt ≤ x_3.toInt) → (gd M a x_3.toInt (tI M_6 60 33).toInt.toNat) → ti_H ti_LM D A cy H0 M_6 H locs → lv_has ls 3 [(2, .int x_3), (0, .ref (A 60 0)), (1, .int a)] → W p l e (ti_rm 2) s m args below meth c H locs 0 0 Q (F0 m 12 ls []) := by
    intro n_13
    induction n_13 with
    | zero => intro x_3 M_6 H locs ls hf_13; exact absurd hf_13 (Nat.not_lt_zero _)
    | succ n_13 ih_13 =>
      intro x_3 M_6 H locs ls hf_13 b_4 b_5 iM_6 f_7 f_8 f_9 j_10 j_11 j_12 hw hl
      refine lv_iload_n hx hb dX10_goes_12 rfl (lv_at hl 0 rfl) ?_
      refine lv_aload_n hx hb dX10_goes_13 rfl (lv_at hl 1 rfl) ?_
      refine ti_get (ci := 10) (k := 15) (N := 67) (T := TX10) (v := .ref (A 60 16)) C hw iw_10 rfl ob_60 (by decide) (by decide) fl_X10_49 rfl rfl dX10_goes_14 ?_
      refine lv_iload_n hx hb dX10_goes_17 rfl (lv_at hl 2 rfl) ?_
      refine ti_iald (ci := 10) (k := 15) (n := 6) C hw ob_60 (by decide) (fun _ _ => rfl) (vp_in_iff.mpr (by omega)) dX10_goes_18 ?_
      refine lv_topi (fun x_15 ex_15 => ?_)
      have yx_15 : tY M_6 60 15 a.toNatClampNeg = x_15 := (ex_15.symm)
      have bx_15 : 0 ≤ x_15.toInt ∧ x_15.toInt ≤ 64 := mI_ry (k := 15) (i := a.toNatClampNeg) iM_6 yx_15.symm
      have wx_15 : tY M 60 15 a.toNatClampNeg = x_15 := ((cg (tY_fr f_8) a.toNatClampNeg)).symm.trans yx_15
      refine sb_icmp_ge (tgt := 102) hx hb rfl rfl dX10_goes_19 (by decide) (fun c_19_15 => ?_) (fun c_19_15 => ?_)
      · refine lv_iconst (v := 1) hx hb dX10_goes_102 (by decide) ?_
        exact hQ _ _ _ _ _ _ hw rfl (⟨f_9, iM_6, f_7, (f_8), (by first | omega | decide), (by first | omega | decide)⟩) dX10_goes_103
      · obtain ⟨s9, es9⟩ : ∃ z, z = tY M 60 16 x_3.toNatClampNeg := ⟨_, rfl⟩
        obtain ⟨v9, ev9⟩ : ∃ z, z = tY M 60 17 x_3.toNatClampNeg := ⟨_, rfl⟩
        have b15 := cg (tY_fr f_8 (o := 60) (k := 15)) a.toNatClampNeg
        have hk2 : x_3.toInt < (tY M 60 15 a.toNatClampNeg).toInt := by rw [← b15, ((cg (tY_fr f_8) a.toNatClampNeg).trans wx_15)]; omega
        obtain ⟨d9, g9, hc9⟩ := mL_go hI hL h1 h2 (by omega) hk2 j_12
        rw [← es9, ← ev9] at hc9
        have l9 := gd_le j_12
        obtain ⟨w9, ew9⟩ : ∃ z, z = tI M_6 60 33 := ⟨_, rfl⟩
        have bw9 : 0 ≤ w9.toInt ∧ w9.toInt ≤ 64 := mI_rd iM_6 ew9
        have uw9 : (tI M_6 60 33).toInt = w9.toInt := by rw [ew9]
        refine lv_aload_n hx hb dX10_goes_22 rfl (lv_at hl 1 rfl) ?_
        refine ti_get (ci := 10) (k := 16) (N := 67) (T := TX10) (v := .ref (A 60 17)) C hw iw_10 rfl ob_60 (by decide) (by decide) fl_X10_52 rfl rfl dX10_goes_23 ?_
        refine lv_iload_n hx hb dX10_goes_26 rfl (lv_at hl 0 rfl) ?_
        refine ti_iald (ci := 10) (k := 16) (n := 128) C hw ob_60 (by decide) (fun _ _ => rfl) (vp_in_iff.mpr (by omega)) dX10_goes_27 ?_
        refine ti_top (y := s9) (((cg (tY_fr f_8) x_3.toNatClampNeg).trans es9.symm)) ?_
        refine lv_iconst (v := 2) hx hb dX10_goes_28 (by decide) ?_
        refine sb_icmp_ne (tgt := 47) hx hb rfl (by decide : (2 : Int32).toInt = 2) dX10_goes_29 (by decide) (fun c_29_17 => ?_) (fun c_29_17 => ?_)
        · refine lv_aload_n hx hb dX10_goes_47 rfl (lv_at hl 1 rfl) ?_
          refine ti_get (ci := 10) (k := 32) (N := 67) (T := TX10) (v := .ref (A 60 33)) C hw iw_10 rfl ob_60 (by decide) (by decide) fl_X10_66 rfl rfl dX10_goes_48 ?_
          refine lv_aload_n hx hb dX10_goes_51 rfl (lv_at hl 1 rfl) ?_
          refine ti_get (ci := 10) (k := 33) (N := 67) (T := TX10) C hw iw_10 rfl ob_60 (by decide) (by decide) fl_X10_320 rfl rfl dX10_goes_52 ?_
          refine ti_top (y := w9) (ew9.symm) ?_
          have u_24 : (tI M_6 60 33).toInt = (w9 : Int32).toInt := by rw [(ew9.symm)]
          refine lv_aload_n hx hb dX10_goes_55 rfl (lv_at hl 1 rfl) ?_
          refine ti_get (ci := 10) (k := 16) (N := 67) (T := TX10) (v := .ref (A 60 17)) C hw iw_10 rfl ob_60 (by decide) (by decide) fl_X10_52 rfl rfl dX10_goes_56 ?_
          refine lv_iload_n hx hb dX10_goes_59 rfl (lv_at hl 0 rfl) ?_
          refine ti_iald (ci := 10) (k := 16) (n := 128) C hw ob_60 (by decide) (fun _ _ => rfl) (vp_in_iff.mpr (by omega)) dX10_goes_60 ?_
          refine ti_top (y := s9) (((cg (tY_fr f_8) x_3.toNatClampNeg).trans es9.symm)) ?_
          refine sb_if_ne (tgt := 74) hx hb rfl dX10_goes_61 (by decide) (fun c_61_24 => ?_) (fun c_61_24 => ?_)
          · refine lv_aload_n hx hb dX10_goes_74 rfl (lv_at hl 1 rfl) ?_
            refine ti_get (ci := 10) (k := 31) (N := 67) (T := TX10) (v := .ref (A 60 32)) C hw iw_10 rfl ob_60 (by decide) (by decide) fl_X10_62 rfl rfl dX10_goes_75 ?_
            refine lv_aload_n hx hb dX10_goes_78 rfl (lv_at hl 1 rfl) ?_
            refine ti_get (ci := 10) (k := 17) (N := 67) (T := TX10) (v := .ref (A 60 18)) C hw iw_10 rfl ob_60 (by decide) (by decide) fl_X10_55 rfl rfl dX10_goes_79 ?_
            refine lv_iload_n hx hb dX10_goes_82 rfl (lv_at hl 0 rfl) ?_
            refine ti_iald (ci := 10) (k := 17) (n := 128) C hw ob_60 (by decide) (fun _ _ => rfl) (vp_in_iff.mpr (by omega)) dX10_goes_83 ?_
            refine ti_top (y := v9) (((cg (tY_fr f_8) x_3.toNatClampNeg).trans ev9.symm)) ?_
            refine ti_lald (ci := 10) (k := 31) (n := 6) C hw ob_60 (by decide) (fun _ _ => rfl) (vp_in_iff.mpr (by omega)) dX10_goes_84 ?_
            refine lv_topl (fun x_27 ex_27 => ?_)
            refine ti_last (ci := 10) (k := 32) (n := 64) C hw ob_60 (by decide) (fun _ _ => rfl) (vp_in_iff.mpr (by omega)) dX10_goes_85 (fun H locs hw => ?_)
            obtain ⟨M_32, hM_32⟩ : ∃ z : ti_M, z = uZ M_6 60 32 (vp_updL (tZ M_6 60 32) (w9 : Int32).toNatClampNeg x_27) := ⟨_, rfl⟩
            have hw := hw.to hM_32.symm
            have iM_32 : mI Tm M_32 := mI_uZ iM_6 hM_32
            refine lv_aload_n hx hb dX10_goes_86 rfl (lv_at hl 1 rfl) ?_
            refine lv_dup hx hb dX10_goes_87 rfl ?_
            refine ti_get (ci := 10) (k := 33) (N := 67) (T := TX10) C hw iw_10 rfl ob_60 (by decide) (by decide) fl_X10_320 rfl rfl dX10_goes_88 ?_
            refine ti_top (y := w9) ((tI_uZE hM_32).trans ew9.symm) ?_
            have u_33 : (tI M_32 60 33).toInt = (w9 : Int32).toInt := by rw [((tI_uZE hM_32).trans ew9.symm)]
            refine lv_iconst (v := 1) hx hb dX10_goes_91 (by decide) ?_
            refine lv_iadd hx hb dX10_goes_92 ?_
            refine lv_topi (fun x_34 ex_34 => ?_)
            have tx_34 : x_34.toInt = w9.toInt + 1 := i_add ex_34 rfl (by decide : (1 : Int32).toInt = 1) (by omega) (by omega)
            refine ti_putI (ci := 10) (k := 33) (N := 67) (T := TX10) C hw iw_10 tyX10 tyX10_ok nmX10 rfl ob_60 (by decide) (by decide) fl_X10_320 rfl rfl rfl rfl (fn_10 A _) fs_10_33 dX10_goes_93 (fun H locs hw => ?_)
            obtain ⟨M_35, hM_35⟩ : ∃ z : ti_M, z = uI M_32 60 33 x_34 := ⟨_, rfl⟩
            have hw := hw.to hM_35.symm
            have iM_35 : mI Tm M_35 := mI_uI iM_32 hM_35 (by decide) (by decide) (ib_mk (lo := 0) (hi := 64) (by omega) (by omega))
            have vM_35 : (tI M_35 60 33).toInt = (x_34 : Int32).toInt := by rw [tI_uE hM_35]
            obtain ⟨x_40, ex_40⟩ : ∃ z : Int32, z = x_3 + 1 := ⟨_, rfl⟩
            have tx_40 : x_40.toInt = x_3.toInt + 1 := i_add ex_40 rfl (by decide) (by omega) (by omega)
            refine lv_iinc (v := x_40) (lv' := [(2, .int x_40), (0, .ref (A 60 0)), (1, .int a)]) hx hb dX10_goes_96 hl (k := 0) rfl (by rw [ex_40]; rfl) (by decide) rfl (fun ls hl => ?_)
            refine lv_goto (tgt := 12) hx hb dX10_goes_99 (by decide) ?_
            have u_41 : (tI M_35 60 33).toInt = (x_34 : Int32).toInt := by rw [(tI_uE hM_35)]
            exact ih_13 x_40 M_35 _ _ _ (by omega) (by first | omega | decide) (by first | omega | decide) iM_35 (qw.trans (qw_I hM_35 (by decide)) (qw.trans (qw_Z hM_32) f_7)) ((ry_I hM_35).trans ((ry_Z hM_32).trans f_8)) (fI.trans (fI_I hM_35) (fI.trans (fI_Z hM_32) f_9)) (by first | omega | decide) (by omega) (by rw [show (tI M_35 60 33).toInt.toNat = d9 by omega, show x_40.toInt = x_3.toInt + 1 by omega]; exact g9) hw (lv_sub hl [0, 1, 2] rfl)
          · refine lv_aload_n hx hb dX10_goes_64 rfl (lv_at hl 1 rfl) ?_
            refine ti_get (ci := 10) (k := 17) (N := 67) (T := TX10) (v := .ref (A 60 18)) C hw iw_10 rfl ob_60 (by decide) (by decide) fl_X10_55 rfl rfl dX10_goes_65 ?_
            refine lv_iload_n hx hb dX10_goes_68 rfl (lv_at hl 0 rfl) ?_
            refine ti_iald (ci := 10) (k := 17) (n := 128) C hw ob_60 (by decide) (fun _ _ => rfl) (vp_in_iff.mpr (by omega)) dX10_goes_69 ?_
            refine ti_top (y := v9) (((cg (tY_fr f_8) x_3.toNatClampNeg).trans ev9.symm)) ?_
            obtain ⟨x_26, ex_26⟩ : ∃ z : Int64, z = v9.toInt64 := ⟨_, rfl⟩
            refine lv_i2l (v := x_26) hx hb dX10_goes_70 ex_26.symm ?_
            refine lv_goto (tgt := 85) hx hb dX10_goes_71 (by decide) ?_
            refine ti_last (ci := 10) (k := 32) (n := 64) C hw ob_60 (by decide) (fun _ _ => rfl) (vp_in_iff.mpr (by omega)) dX10_goes_85 (fun H locs hw => ?_)
            obtain ⟨M_28, hM_28⟩ : ∃ z : ti_M, z = uZ M_6 60 32 (vp_updL (tZ M_6 60 32) (w9 : Int32).toNatClampNeg x_26) := ⟨_, rfl⟩
            have hw := hw.to hM_28.symm
            have iM_28 : mI Tm M_28 := mI_uZ iM_6 hM_28
            refine lv_aload_n hx hb dX10_goes_86 rfl (lv_at hl 1 rfl) ?_
            refine lv_dup hx hb dX10_goes_87 rfl ?_
            refine ti_get (ci := 10) (k := 33) (N := 67) (T := TX10) C hw iw_10 rfl ob_60 (by decide) (by decide) fl_X10_320 rfl rfl dX10_goes_88 ?_
            refine ti_top (y := w9) ((tI_uZE hM_28).trans ew9.symm) ?_
            have u_29 : (tI M_28 60 33).toInt = (w9 : Int32).toInt := by rw [((tI_uZE hM_28).trans ew9.symm)]
            refine lv_iconst (v := 1) hx hb dX10_goes_91 (by decide) ?_
            refine lv_iadd hx hb dX10_goes_92 ?_
            refine lv_topi (fun x_30 ex_30 => ?_)
            have tx_30 : x_30.toInt = w9.toInt + 1 := i_add ex_30 rfl (by decide : (1 : Int32).toInt = 1) (by omega) (by omega)
            refine ti_putI (ci := 10) (k := 33) (N := 67) (T := TX10) C hw iw_10 tyX10 tyX10_ok nmX10 rfl ob_60 (by decide) (by decide) fl_X10_320 rfl rfl rfl rfl (fn_10 A _) fs_10_33 dX10_goes_93 (fun H locs hw => ?_)
            obtain ⟨M_31, hM_31⟩ : ∃ z : ti_M, z = uI M_28 60 33 x_30 := ⟨_, rfl⟩
            have hw := hw.to hM_31.symm
            have iM_31 : mI Tm M_31 := mI_uI iM_28 hM_31 (by decide) (by decide) (ib_mk (lo := 0) (hi := 64) (by omega) (by omega))
            have vM_31 : (tI M_31 60 33).toInt = (x_30 : Int32).toInt := by rw [tI_uE hM_31]
            obtain ⟨x_38, ex_38⟩ : ∃ z : Int32, z = x_3 + 1 := ⟨_, rfl⟩
            have tx_38 : x_38.toInt = x_3.toInt + 1 := i_add ex_38 rfl (by decide) (by omega) (by omega)
            refine lv_iinc (v := x_38) (lv' := [(2, .int x_38), (0, .ref (A 60 0)), (1, .int a)]) hx hb dX10_goes_96 hl (k := 0) rfl (by rw [ex_38]; rfl) (by decide) rfl (fun ls hl => ?_)
            refine lv_goto (tgt := 12) hx hb dX10_goes_99 (by decide) ?_
            have u_39 : (tI M_31 60 33).toInt = (x_30 : Int32).toInt := by rw [(tI_uE hM_31)]
            exact ih_13 x_38 M_31 _ _ _ (by omega) (by first | omega | decide) (by first | omega | decide) iM_31 (qw.trans (qw_I hM_31 (by decide)) (qw.trans (qw_Z hM_28) f_7)) ((ry_I hM_31).trans ((ry_Z hM_28).trans f_8)) (fI.trans (fI_I hM_31) (fI.trans (fI_Z hM_28) f_9)) (by first | omega | decide) (by omega) (by rw [show (tI M_31 60 33).toInt.toNat = d9 by omega, show x_38.toInt = x_3.toInt + 1 by omega]; exact g9) hw (lv_sub hl [0, 1, 2] rfl)
        · refine lv_aload_n hx hb dX10_goes_32 rfl (lv_at hl 1 rfl) ?_
          refine lv_aload_n hx hb dX10_goes_33 rfl (lv_at hl 1 rfl) ?_
          refine ti_get (ci := 10) (k := 17) (N := 67) (T := TX10) (v := .ref (A 60 18)) C hw iw_10 rfl ob_60 (by decide) (by decide) fl_X10_55 rfl rfl dX10_goes_34 ?_
          refine lv_iload_n hx hb dX10_goes_37 rfl (lv_at hl 0 rfl) ?_
          refine ti_iald (ci := 10) (k := 17) (n := 128) C hw ob_60 (by decide) (fun _ _ => rfl) (vp_in_iff.mpr (by omega)) dX10_goes_38 ?_
          refine ti_top (y := v9) (((cg (tY_fr f_8) x_3.toNatClampNeg).trans ev9.symm)) ?_
          refine ti_callVi (ci := 10) (av := [.int v9]) C hw (f_X10_works l D A cy hJ M_6 iM_6 v9 w9 (ew9.symm) (by omega) (by omega) (by omega)) ⟨ml_X10_337, ym_X10_works, yv_X10_works, yi_X10_works, yc_X10_works⟩ yd_X10_works ob_60 (by decide) rfl rfl hl.1 (Nat.le_of_ble_eq_true rfl) ⟨by decide, by decide⟩ ⟨Nat.zero_le _, Nat.zero_le _⟩ dX10_goes_39 (fun r_19 M_20 H locs hp_20 hw => ?_)
          obtain ⟨fiM_20, hqM_20⟩ := hp_20
          obtain ⟨iM_20, q_21, q_22, b0r_19, b1r_19, p0r_19⟩ := hqM_20
          refine sb_if_ne (tgt := 96) hx hb rfl dX10_goes_42 (by decide) (fun c_42_22 => ?_) (fun c_42_22 => ?_)
          · obtain ⟨x_36, ex_36⟩ : ∃ z : Int32, z = x_3 + 1 := ⟨_, rfl⟩
            have tx_36 : x_36.toInt = x_3.toInt + 1 := i_add ex_36 rfl (by decide) (by omega) (by omega)
            refine lv_iinc (v := x_36) (lv' := [(2, .int x_36), (0, .ref (A 60 0)), (1, .int a)]) hx hb dX10_goes_96 hl (k := 0) rfl (by rw [ex_36]; rfl) (by decide) rfl (fun ls hl => ?_)
            refine lv_goto (tgt := 12) hx hb dX10_goes_99 (by decide) ?_
            have u_37 : 0 ≤ (tI M_20 60 33).toInt ∧ (tI M_20 60 33).toInt ≤ 64 := mI_rd (x := tI M_20 60 33) (k := 33) iM_20 rfl
            exact ih_13 x_36 M_20 _ _ _ (by omega) (by first | omega | decide) (by first | omega | decide) iM_20 (qw.trans q_21 f_7) ((q_22).trans f_8) (fI.trans fiM_20 f_9) (by first | omega | decide) (by omega) (by rw [show (tI M_20 60 33).toInt.toNat = d9 by omega, show x_36.toInt = x_3.toInt + 1 by omega]; exact g9) hw (lv_sub hl [0, 1, 2] rfl)
          · refine lv_iconst (v := 0) hx hb dX10_goes_45 (by decide) ?_
            exact hQ _ _ _ _ _ _ hw rfl (⟨(fI.trans fiM_20 f_9), iM_20, (qw.trans q_21 f_7), ((q_22).trans f_8), (by first | omega | decide), (by first | omega | decide)⟩) dX10_goes_46
  exact hl_12_12 ((64 - x_2.toInt : Int).toNat + 1) x_2 M_1 _ _ _ (Nat.lt_succ_self _) (by first | omega | decide) (by first | omega | decide) iM_1 (qw_I hM_1 (by decide)) (ry_I hM_1) (fI_I hM_1) (by first | omega | decide) (by rw [((cg (tY_uIE hM_1) a.toNatClampNeg).symm.trans ((cg (tY_uIE hM_1) a.toNatClampNeg).trans wx_2))]; exact Int.le_refl _) (by rw [tI_uE hM_1]; exact gd_0 ((cg (tY_uIE hM_1) a.toNatClampNeg).symm.trans ((cg (tY_uIE hM_1) a.toNatClampNeg).trans wx_2))) hw (lv_sub hl [0, 1, 2] rfl)
set_option maxHeartbeats 4000000 in
set_option maxRecDepth 100000 in
theorem f_X10_calls_0 (l : Launch) (D : va_G) (A : Nat → Nat → Nat) (cy : Nat → ClassId) (hJ : ti_inj ti_LM A) (M : ti_M) (hI : mI Tm M) (a b t : Int32) (h1 : 0 ≤ a.toInt) (h2 : a.toInt ≤ 7) : ti_Kv l yX10_calls cX10_calls 6 0 ti_LM D A cy M [.ref (A 60 0), .int 0, .int a, .int b, .int t] (fun M2 => fI M2 M ∧ mI Tm M2 ∧ qw M2 M ∧ M2.2.1 = M.2.1) := by
  refine ti_eV yp_X10_calls hJ ti_LM_nd (Nat.le_of_ble_eq_true rfl) ?_
  intro p e s m args below meth c Q H0 C hQ hw ls hl
  have hx := C.1
  have hb := C.2.1
  have hl : lv_has ls 6 [(0, .ref (A 60 0)), (1, .int 0), (2, .int a), (3, .int b), (4, .int t)] := hl
  refine lv_bipush (v := 8) hx hb dX10_calls_0 (by decide) ?_
  refine lv_iload_n hx hb dX10_calls_2 rfl (lv_at hl 1 rfl) ?_
  refine lv_imul hx hb dX10_calls_3 ?_
  refine ti_top (y := 0) (by decide) ?_
  refine lv_iload_n hx hb dX10_calls_4 rfl (lv_at hl 2 rfl) ?_
  refine lv_iadd hx hb dX10_calls_5 ?_
  refine lv_topi (fun x_1 ex_1 => ?_)
  have tx_1 : x_1.toInt = 0 + a.toInt := i_add ex_1 (by decide : (0 : Int32).toInt = 0) rfl (by omega) (by omega)
  refine lv_istore (lv' := [(5, .int x_1), (0, .ref (A 60 0)), (1, .int 0), (2, .int a), (3, .int b), (4, .int t)]) hx hb dX10_calls_6 hl (by decide) rfl (fun ls hl => ?_)
  refine lv_aload_n hx hb dX10_calls_8 rfl (lv_at hl 1 rfl) ?_
  refine ti_get (ci := 10) (k := 31) (N := 67) (T := TX10) (v := .ref (A 60 32)) C hw iw_10 rfl ob_60 (by decide) (by decide) fl_X10_62 rfl rfl dX10_calls_9 ?_
  refine lv_iconst (v := 0) hx hb dX10_calls_12 (by decide) ?_
  refine lv_aload_n hx hb dX10_calls_13 rfl (lv_at hl 1 rfl) ?_
  refine ti_get (ci := 10) (k := 5) (N := 67) (T := TX10) (v := .ref (A 60 6)) C hw iw_10 rfl ob_60 (by decide) (by decide) fl_X10_19 rfl rfl dX10_calls_14 ?_
  refine lv_iload_n hx hb dX10_calls_17 rfl (lv_at hl 3 rfl) ?_
  refine ti_iald (ci := 10) (k := 5) (n := 16) C hw ob_60 (by decide) (fun _ _ => rfl) (vp_in_iff.mpr (by omega)) dX10_calls_18 ?_
  refine lv_topi (fun x_2 ex_2 => ?_)
  have yx_2 : tY M 60 5 a.toNatClampNeg = x_2 := (ex_2.symm)
  obtain ⟨x_3, ex_3⟩ : ∃ z : Int64, z = x_2.toInt64 := ⟨_, rfl⟩
  refine lv_i2l (v := x_3) hx hb dX10_calls_19 ex_3.symm ?_
  refine ti_last (ci := 10) (k := 31) (n := 6) C hw ob_60 (by decide) (fun _ _ => rfl) (by unfold vp_in; decide) dX10_calls_20 (fun H locs hw => ?_)
  obtain ⟨M_4, hM_4⟩ : ∃ z : ti_M, z = uZ M 60 31 (vp_updL (tZ M 60 31) (0 : Int32).toNatClampNeg x_3) := ⟨_, rfl⟩
  have hw := hw.to hM_4.symm
  have iM_4 : mI Tm M_4 := mI_uZ hI hM_4
  refine lv_aload_n hx hb dX10_calls_21 rfl (lv_at hl 1 rfl) ?_
  refine ti_get (ci := 10) (k := 31) (N := 67) (T := TX10) (v := .ref (A 60 32)) C hw iw_10 rfl ob_60 (by decide) (by decide) fl_X10_62 rfl rfl dX10_calls_22 ?_
  refine lv_iconst (v := 1) hx hb dX10_calls_25 (by decide) ?_
  refine lv_aload_n hx hb dX10_calls_26 rfl (lv_at hl 1 rfl) ?_
  refine ti_get (ci := 10) (k := 6) (N := 67) (T := TX10) (v := .ref (A 60 7)) C hw iw_10 rfl ob_60 (by decide) (by decide) fl_X10_22 rfl rfl dX10_calls_27 ?_
  refine lv_iload_n hx hb dX10_calls_30 rfl (lv_at hl 3 rfl) ?_
  refine ti_iald (ci := 10) (k := 6) (n := 16) C hw ob_60 (by decide) (fun _ _ => rfl) (vp_in_iff.mpr (by omega)) dX10_calls_31 ?_
  refine lv_topi (fun x_5 ex_5 => ?_)
  have yx_5 : tY M_4 60 6 a.toNatClampNeg = x_5 := (ex_5.symm)
  have wx_5 : tY M 60 6 a.toNatClampNeg = x_5 := ((cg (tY_uZE hM_4) a.toNatClampNeg)).symm.trans yx_5
  obtain ⟨x_6, ex_6⟩ : ∃ z : Int64, z = x_5.toInt64 := ⟨_, rfl⟩
  refine lv_i2l (v := x_6) hx hb dX10_calls_32 ex_6.symm ?_
  refine ti_last (ci := 10) (k := 31) (n := 6) C hw ob_60 (by decide) (fun _ _ => rfl) (by unfold vp_in; decide) dX10_calls_33 (fun H locs hw => ?_)
  obtain ⟨M_7, hM_7⟩ : ∃ z : ti_M, z = uZ M_4 60 31 (vp_updL (tZ M_4 60 31) (1 : Int32).toNatClampNeg x_6) := ⟨_, rfl⟩
  have hw := hw.to hM_7.symm
  have iM_7 : mI Tm M_7 := mI_uZ iM_4 hM_7
  refine lv_aload_n hx hb dX10_calls_34 rfl (lv_at hl 1 rfl) ?_
  refine ti_get (ci := 10) (k := 31) (N := 67) (T := TX10) (v := .ref (A 60 32)) C hw iw_10 rfl ob_60 (by decide) (by decide) fl_X10_62 rfl rfl dX10_calls_35 ?_
  refine lv_iconst (v := 2) hx hb dX10_calls_38 (by decide) ?_
  refine lv_aload_n hx hb dX10_calls_39 rfl (lv_at hl 1 rfl) ?_
  refine ti_get (ci := 10) (k := 8) (N := 67) (T := TX10) (v := .ref (A 60 9)) C hw iw_10 rfl ob_60 (by decide) (by decide) fl_X10_28 rfl rfl dX10_calls_40 ?_
  refine lv_iload_n hx hb dX10_calls_43 rfl (lv_at hl 3 rfl) ?_
  refine ti_iald (ci := 10) (k := 8) (n := 16) C hw ob_60 (by decide) (fun _ _ => rfl) (vp_in_iff.mpr (by omega)) dX10_calls_44 ?_
  refine lv_topi (fun x_8 ex_8 => ?_)
  have yx_8 : tY M_7 60 8 a.toNatClampNeg = x_8 := (ex_8.symm)
  have wx_8 : tY M 60 8 a.toNatClampNeg = x_8 := (((cg (tY_uZE hM_7) a.toNatClampNeg).trans (cg (tY_uZE hM_4) a.toNatClampNeg))).symm.trans yx_8
  obtain ⟨x_9, ex_9⟩ : ∃ z : Int64, z = x_8.toInt64 := ⟨_, rfl⟩
  refine lv_i2l (v := x_9) hx hb dX10_calls_45 ex_9.symm ?_
  refine ti_last (ci := 10) (k := 31) (n := 6) C hw ob_60 (by decide) (fun _ _ => rfl) (by unfold vp_in; decide) dX10_calls_46 (fun H locs hw => ?_)
  obtain ⟨M_10, hM_10⟩ : ∃ z : ti_M, z = uZ M_7 60 31 (vp_updL (tZ M_7 60 31) (2 : Int32).toNatClampNeg x_9) := ⟨_, rfl⟩
  have hw := hw.to hM_10.symm
  have iM_10 : mI Tm M_10 := mI_uZ iM_7 hM_10
  refine lv_aload_n hx hb dX10_calls_47 rfl (lv_at hl 1 rfl) ?_
  refine ti_get (ci := 10) (k := 31) (N := 67) (T := TX10) (v := .ref (A 60 32)) C hw iw_10 rfl ob_60 (by decide) (by decide) fl_X10_62 rfl rfl dX10_calls_48 ?_
  refine lv_iconst (v := 3) hx hb dX10_calls_51 (by decide) ?_
  refine lv_aload_n hx hb dX10_calls_52 rfl (lv_at hl 1 rfl) ?_
  refine ti_get (ci := 10) (k := 43) (N := 67) (T := TX10) (v := .ref (A 60 44)) C hw iw_10 rfl ob_60 (by decide) (by decide) fl_X10_96 rfl rfl dX10_calls_53 ?_
  refine lv_iload hx hb dX10_calls_56 (lv_at hl 0 rfl) ?_
  refine ti_iald (ci := 10) (k := 43) (n := 184) C hw ob_60 (by decide) (fun _ _ => rfl) (vp_in_iff.mpr (by omega)) dX10_calls_58 ?_
  refine lv_topi (fun x_11 ex_11 => ?_)
  have yx_11 : tY M_10 60 43 x_1.toNatClampNeg = x_11 := (ex_11.symm)
  have wx_11 : tY M 60 43 x_1.toNatClampNeg = x_11 := (((cg (tY_uZE hM_10) x_1.toNatClampNeg).trans ((cg (tY_uZE hM_7) x_1.toNatClampNeg).trans (cg (tY_uZE hM_4) x_1.toNatClampNeg)))).symm.trans yx_11
  obtain ⟨x_12, ex_12⟩ : ∃ z : Int64, z = x_11.toInt64 := ⟨_, rfl⟩
  refine lv_i2l (v := x_12) hx hb dX10_calls_59 ex_12.symm ?_
  refine ti_last (ci := 10) (k := 31) (n := 6) C hw ob_60 (by decide) (fun _ _ => rfl) (by unfold vp_in; decide) dX10_calls_60 (fun H locs hw => ?_)
  obtain ⟨M_13, hM_13⟩ : ∃ z : ti_M, z = uZ M_10 60 31 (vp_updL (tZ M_10 60 31) (3 : Int32).toNatClampNeg x_12) := ⟨_, rfl⟩
  have hw := hw.to hM_13.symm
  have iM_13 : mI Tm M_13 := mI_uZ iM_10 hM_13
  refine lv_aload_n hx hb dX10_calls_61 rfl (lv_at hl 1 rfl) ?_
  refine ti_get (ci := 10) (k := 31) (N := 67) (T := TX10) (v := .ref (A 60 32)) C hw iw_10 rfl ob_60 (by decide) (by decide) fl_X10_62 rfl rfl dX10_calls_62 ?_
  refine lv_iconst (v := 4) hx hb dX10_calls_65 (by decide) ?_
  refine lv_iload_n hx hb dX10_calls_66 rfl (lv_at hl 4 rfl) ?_
  obtain ⟨x_14, ex_14⟩ : ∃ z : Int64, z = b.toInt64 := ⟨_, rfl⟩
  refine lv_i2l (v := x_14) hx hb dX10_calls_67 ex_14.symm ?_
  refine ti_last (ci := 10) (k := 31) (n := 6) C hw ob_60 (by decide) (fun _ _ => rfl) (by unfold vp_in; decide) dX10_calls_68 (fun H locs hw => ?_)
  obtain ⟨M_15, hM_15⟩ : ∃ z : ti_M, z = uZ M_13 60 31 (vp_updL (tZ M_13 60 31) (4 : Int32).toNatClampNeg x_14) := ⟨_, rfl⟩
  have hw := hw.to hM_15.symm
  have iM_15 : mI Tm M_15 := mI_uZ iM_13 hM_15
  refine lv_aload_n hx hb dX10_calls_69 rfl (lv_at hl 1 rfl) ?_
  refine ti_get (ci := 10) (k := 31) (N := 67) (T := TX10) (v := .ref (A 60 32)) C hw iw_10 rfl ob_60 (by decide) (by decide) fl_X10_62 rfl rfl dX10_calls_70 ?_
  refine lv_iconst (v := 5) hx hb dX10_calls_73 (by decide) ?_
  refine lv_iload hx hb dX10_calls_74 (lv_at hl 5 rfl) ?_
  refine lv_aload_n hx hb dX10_calls_76 rfl (lv_at hl 1 rfl) ?_
  refine ti_get (ci := 10) (k := 45) (N := 67) (T := TX10) (v := .ref (A 60 46)) C hw iw_10 rfl ob_60 (by decide) (by decide) fl_X10_102 rfl rfl dX10_calls_77 ?_
  refine lv_iload hx hb dX10_calls_80 (lv_at hl 0 rfl) ?_
  refine ti_iald (ci := 10) (k := 45) (n := 184) C hw ob_60 (by decide) (fun _ _ => rfl) (vp_in_iff.mpr (by omega)) dX10_calls_82 ?_
  refine lv_topi (fun x_16 ex_16 => ?_)
  have yx_16 : tY M_15 60 45 x_1.toNatClampNeg = x_16 := (ex_16.symm)
  have wx_16 : tY M 60 45 x_1.toNatClampNeg = x_16 := (((cg (tY_uZE hM_15) x_1.toNatClampNeg).trans ((cg (tY_uZE hM_13) x_1.toNatClampNeg).trans ((cg (tY_uZE hM_10) x_1.toNatClampNeg).trans ((cg (tY_uZE hM_7) x_1.toNatClampNeg).trans (cg (tY_uZE hM_4) x_1.toNatClampNeg)))))).symm.trans yx_16
  refine lv_isub hx hb dX10_calls_83 ?_
  refine lv_topi (fun x_17 ex_17 => ?_)
  obtain ⟨x_18, ex_18⟩ : ∃ z : Int64, z = x_17.toInt64 := ⟨_, rfl⟩
  refine lv_i2l (v := x_18) hx hb dX10_calls_84 ex_18.symm ?_
  refine ti_last (ci := 10) (k := 31) (n := 6) C hw ob_60 (by decide) (fun _ _ => rfl) (by unfold vp_in; decide) dX10_calls_85 (fun H locs hw => ?_)
  obtain ⟨M_19, hM_19⟩ : ∃ z : ti_M, z = uZ M_15 60 31 (vp_updL (tZ M_15 60 31) (5 : Int32).toNatClampNeg x_18) := ⟨_, rfl⟩
  have hw := hw.to hM_19.symm
  have iM_19 : mI Tm M_19 := mI_uZ iM_15 hM_19
  exact hQ _ _ _ _ _ hw (⟨(fI.trans (fI_Z hM_19) (fI.trans (fI_Z hM_15) (fI.trans (fI_Z hM_13) (fI.trans (fI_Z hM_10) (fI.trans (fI_Z hM_7) (fI_Z hM_4)))))), iM_19, (qw.trans (qw_Z hM_19) (qw.trans (qw_Z hM_15) (qw.trans (qw_Z hM_13) (qw.trans (qw_Z hM_10) (qw.trans (qw_Z hM_7) (qw_Z hM_4)))))), ((ry_Z hM_19).trans ((ry_Z hM_15).trans ((ry_Z hM_13).trans ((ry_Z hM_10).trans ((ry_Z hM_7).trans (ry_Z hM_4))))))⟩) dX10_calls_86
set_option maxHeartbeats 4000000 in
set_option maxRecDepth 100000 in
theorem f_X10_calls_1 (l : Launch) (D : va_G) (A : Nat → Nat → Nat) (cy : Nat → ClassId) (hJ : ti_inj ti_LM A) (M : ti_M) (hI : mI Tm M) (a b t : Int32) (h1 : 0 ≤ a.toInt) (h2 : a.toInt ≤ 7) : ti_Kv l yX10_calls cX10_calls 6 0 ti_LM D A cy M [.ref (A 60 0), .int 1, .int a, .int b, .int t] (fun M2 => fI M2 M ∧ mI Tm M2 ∧ qw M2 M ∧ M2.2.1 = M.2.1) := by
  refine ti_eV yp_X10_calls hJ ti_LM_nd (Nat.le_of_ble_eq_true rfl) ?_
  intro p e s m args below meth c Q H0 C hQ hw ls hl
  have hx := C.1
  have hb := C.2.1
  have hl : lv_has ls 6 [(0, .ref (A 60 0)), (1, .int 1), (2, .int a), (3, .int b), (4, .int t)] := hl
  refine lv_bipush (v := 8) hx hb dX10_calls_0 (by decide) ?_
  refine lv_iload_n hx hb dX10_calls_2 rfl (lv_at hl 1 rfl) ?_
  refine lv_imul hx hb dX10_calls_3 ?_
  refine ti_top (y := 8) (by decide) ?_
  refine lv_iload_n hx hb dX10_calls_4 rfl (lv_at hl 2 rfl) ?_
  refine lv_iadd hx hb dX10_calls_5 ?_
  refine lv_topi (fun x_1 ex_1 => ?_)
  have tx_1 : x_1.toInt = 8 + a.toInt := i_add ex_1 (by decide : (8 : Int32).toInt = 8) rfl (by omega) (by omega)
  refine lv_istore (lv' := [(5, .int x_1), (0, .ref (A 60 0)), (1, .int 1), (2, .int a), (3, .int b), (4, .int t)]) hx hb dX10_calls_6 hl (by decide) rfl (fun ls hl => ?_)
  refine lv_aload_n hx hb dX10_calls_8 rfl (lv_at hl 1 rfl) ?_
  refine ti_get (ci := 10) (k := 31) (N := 67) (T := TX10) (v := .ref (A 60 32)) C hw iw_10 rfl ob_60 (by decide) (by decide) fl_X10_62 rfl rfl dX10_calls_9 ?_
  refine lv_iconst (v := 0) hx hb dX10_calls_12 (by decide) ?_
  refine lv_aload_n hx hb dX10_calls_13 rfl (lv_at hl 1 rfl) ?_
  refine ti_get (ci := 10) (k := 5) (N := 67) (T := TX10) (v := .ref (A 60 6)) C hw iw_10 rfl ob_60 (by decide) (by decide) fl_X10_19 rfl rfl dX10_calls_14 ?_
  refine lv_iload_n hx hb dX10_calls_17 rfl (lv_at hl 3 rfl) ?_
  refine ti_iald (ci := 10) (k := 5) (n := 16) C hw ob_60 (by decide) (fun _ _ => rfl) (vp_in_iff.mpr (by omega)) dX10_calls_18 ?_
  refine lv_topi (fun x_2 ex_2 => ?_)
  have yx_2 : tY M 60 5 a.toNatClampNeg = x_2 := (ex_2.symm)
  obtain ⟨x_3, ex_3⟩ : ∃ z : Int64, z = x_2.toInt64 := ⟨_, rfl⟩
  refine lv_i2l (v := x_3) hx hb dX10_calls_19 ex_3.symm ?_
  refine ti_last (ci := 10) (k := 31) (n := 6) C hw ob_60 (by decide) (fun _ _ => rfl) (by unfold vp_in; decide) dX10_calls_20 (fun H locs hw => ?_)
  obtain ⟨M_4, hM_4⟩ : ∃ z : ti_M, z = uZ M 60 31 (vp_updL (tZ M 60 31) (0 : Int32).toNatClampNeg x_3) := ⟨_, rfl⟩
  have hw := hw.to hM_4.symm
  have iM_4 : mI Tm M_4 := mI_uZ hI hM_4
  refine lv_aload_n hx hb dX10_calls_21 rfl (lv_at hl 1 rfl) ?_
  refine ti_get (ci := 10) (k := 31) (N := 67) (T := TX10) (v := .ref (A 60 32)) C hw iw_10 rfl ob_60 (by decide) (by decide) fl_X10_62 rfl rfl dX10_calls_22 ?_
  refine lv_iconst (v := 1) hx hb dX10_calls_25 (by decide) ?_
  refine lv_aload_n hx hb dX10_calls_26 rfl (lv_at hl 1 rfl) ?_
  refine ti_get (ci := 10) (k := 6) (N := 67) (T := TX10) (v := .ref (A 60 7)) C hw iw_10 rfl ob_60 (by decide) (by decide) fl_X10_22 rfl rfl dX10_calls_27 ?_
  refine lv_iload_n hx hb dX10_calls_30 rfl (lv_at hl 3 rfl) ?_
  refine ti_iald (ci := 10) (k := 6) (n := 16) C hw ob_60 (by decide) (fun _ _ => rfl) (vp_in_iff.mpr (by omega)) dX10_calls_31 ?_
  refine lv_topi (fun x_5 ex_5 => ?_)
  have yx_5 : tY M_4 60 6 a.toNatClampNeg = x_5 := (ex_5.symm)
  have wx_5 : tY M 60 6 a.toNatClampNeg = x_5 := ((cg (tY_uZE hM_4) a.toNatClampNeg)).symm.trans yx_5
  obtain ⟨x_6, ex_6⟩ : ∃ z : Int64, z = x_5.toInt64 := ⟨_, rfl⟩
  refine lv_i2l (v := x_6) hx hb dX10_calls_32 ex_6.symm ?_
  refine ti_last (ci := 10) (k := 31) (n := 6) C hw ob_60 (by decide) (fun _ _ => rfl) (by unfold vp_in; decide) dX10_calls_33 (fun H locs hw => ?_)
  obtain ⟨M_7, hM_7⟩ : ∃ z : ti_M, z = uZ M_4 60 31 (vp_updL (tZ M_4 60 31) (1 : Int32).toNatClampNeg x_6) := ⟨_, rfl⟩
  have hw := hw.to hM_7.symm
  have iM_7 : mI Tm M_7 := mI_uZ iM_4 hM_7
  refine lv_aload_n hx hb dX10_calls_34 rfl (lv_at hl 1 rfl) ?_
  refine ti_get (ci := 10) (k := 31) (N := 67) (T := TX10) (v := .ref (A 60 32)) C hw iw_10 rfl ob_60 (by decide) (by decide) fl_X10_62 rfl rfl dX10_calls_35 ?_
  refine lv_iconst (v := 2) hx hb dX10_calls_38 (by decide) ?_
  refine lv_aload_n hx hb dX10_calls_39 rfl (lv_at hl 1 rfl) ?_
  refine ti_get (ci := 10) (k := 8) (N := 67) (T := TX10) (v := .ref (A 60 9)) C hw iw_10 rfl ob_60 (by decide) (by decide) fl_X10_28 rfl rfl dX10_calls_40 ?_
  refine lv_iload_n hx hb dX10_calls_43 rfl (lv_at hl 3 rfl) ?_
  refine ti_iald (ci := 10) (k := 8) (n := 16) C hw ob_60 (by decide) (fun _ _ => rfl) (vp_in_iff.mpr (by omega)) dX10_calls_44 ?_
  refine lv_topi (fun x_8 ex_8 => ?_)
  have yx_8 : tY M_7 60 8 a.toNatClampNeg = x_8 := (ex_8.symm)
  have wx_8 : tY M 60 8 a.toNatClampNeg = x_8 := (((cg (tY_uZE hM_7) a.toNatClampNeg).trans (cg (tY_uZE hM_4) a.toNatClampNeg))).symm.trans yx_8
  obtain ⟨x_9, ex_9⟩ : ∃ z : Int64, z = x_8.toInt64 := ⟨_, rfl⟩
  refine lv_i2l (v := x_9) hx hb dX10_calls_45 ex_9.symm ?_
  refine ti_last (ci := 10) (k := 31) (n := 6) C hw ob_60 (by decide) (fun _ _ => rfl) (by unfold vp_in; decide) dX10_calls_46 (fun H locs hw => ?_)
  obtain ⟨M_10, hM_10⟩ : ∃ z : ti_M, z = uZ M_7 60 31 (vp_updL (tZ M_7 60 31) (2 : Int32).toNatClampNeg x_9) := ⟨_, rfl⟩
  have hw := hw.to hM_10.symm
  have iM_10 : mI Tm M_10 := mI_uZ iM_7 hM_10
  refine lv_aload_n hx hb dX10_calls_47 rfl (lv_at hl 1 rfl) ?_
  refine ti_get (ci := 10) (k := 31) (N := 67) (T := TX10) (v := .ref (A 60 32)) C hw iw_10 rfl ob_60 (by decide) (by decide) fl_X10_62 rfl rfl dX10_calls_48 ?_
  refine lv_iconst (v := 3) hx hb dX10_calls_51 (by decide) ?_
  refine lv_aload_n hx hb dX10_calls_52 rfl (lv_at hl 1 rfl) ?_
  refine ti_get (ci := 10) (k := 43) (N := 67) (T := TX10) (v := .ref (A 60 44)) C hw iw_10 rfl ob_60 (by decide) (by decide) fl_X10_96 rfl rfl dX10_calls_53 ?_
  refine lv_iload hx hb dX10_calls_56 (lv_at hl 0 rfl) ?_
  refine ti_iald (ci := 10) (k := 43) (n := 184) C hw ob_60 (by decide) (fun _ _ => rfl) (vp_in_iff.mpr (by omega)) dX10_calls_58 ?_
  refine lv_topi (fun x_11 ex_11 => ?_)
  have yx_11 : tY M_10 60 43 x_1.toNatClampNeg = x_11 := (ex_11.symm)
  have wx_11 : tY M 60 43 x_1.toNatClampNeg = x_11 := (((cg (tY_uZE hM_10) x_1.toNatClampNeg).trans ((cg (tY_uZE hM_7) x_1.toNatClampNeg).trans (cg (tY_uZE hM_4) x_1.toNatClampNeg)))).symm.trans yx_11
  obtain ⟨x_12, ex_12⟩ : ∃ z : Int64, z = x_11.toInt64 := ⟨_, rfl⟩
  refine lv_i2l (v := x_12) hx hb dX10_calls_59 ex_12.symm ?_
  refine ti_last (ci := 10) (k := 31) (n := 6) C hw ob_60 (by decide) (fun _ _ => rfl) (by unfold vp_in; decide) dX10_calls_60 (fun H locs hw => ?_)
  obtain ⟨M_13, hM_13⟩ : ∃ z : ti_M, z = uZ M_10 60 31 (vp_updL (tZ M_10 60 31) (3 : Int32).toNatClampNeg x_12) := ⟨_, rfl⟩
  have hw := hw.to hM_13.symm
  have iM_13 : mI Tm M_13 := mI_uZ iM_10 hM_13
  refine lv_aload_n hx hb dX10_calls_61 rfl (lv_at hl 1 rfl) ?_
  refine ti_get (ci := 10) (k := 31) (N := 67) (T := TX10) (v := .ref (A 60 32)) C hw iw_10 rfl ob_60 (by decide) (by decide) fl_X10_62 rfl rfl dX10_calls_62 ?_
  refine lv_iconst (v := 4) hx hb dX10_calls_65 (by decide) ?_
  refine lv_iload_n hx hb dX10_calls_66 rfl (lv_at hl 4 rfl) ?_
  obtain ⟨x_14, ex_14⟩ : ∃ z : Int64, z = b.toInt64 := ⟨_, rfl⟩
  refine lv_i2l (v := x_14) hx hb dX10_calls_67 ex_14.symm ?_
  refine ti_last (ci := 10) (k := 31) (n := 6) C hw ob_60 (by decide) (fun _ _ => rfl) (by unfold vp_in; decide) dX10_calls_68 (fun H locs hw => ?_)
  obtain ⟨M_15, hM_15⟩ : ∃ z : ti_M, z = uZ M_13 60 31 (vp_updL (tZ M_13 60 31) (4 : Int32).toNatClampNeg x_14) := ⟨_, rfl⟩
  have hw := hw.to hM_15.symm
  have iM_15 : mI Tm M_15 := mI_uZ iM_13 hM_15
  refine lv_aload_n hx hb dX10_calls_69 rfl (lv_at hl 1 rfl) ?_
  refine ti_get (ci := 10) (k := 31) (N := 67) (T := TX10) (v := .ref (A 60 32)) C hw iw_10 rfl ob_60 (by decide) (by decide) fl_X10_62 rfl rfl dX10_calls_70 ?_
  refine lv_iconst (v := 5) hx hb dX10_calls_73 (by decide) ?_
  refine lv_iload hx hb dX10_calls_74 (lv_at hl 5 rfl) ?_
  refine lv_aload_n hx hb dX10_calls_76 rfl (lv_at hl 1 rfl) ?_
  refine ti_get (ci := 10) (k := 45) (N := 67) (T := TX10) (v := .ref (A 60 46)) C hw iw_10 rfl ob_60 (by decide) (by decide) fl_X10_102 rfl rfl dX10_calls_77 ?_
  refine lv_iload hx hb dX10_calls_80 (lv_at hl 0 rfl) ?_
  refine ti_iald (ci := 10) (k := 45) (n := 184) C hw ob_60 (by decide) (fun _ _ => rfl) (vp_in_iff.mpr (by omega)) dX10_calls_82 ?_
  refine lv_topi (fun x_16 ex_16 => ?_)
  have yx_16 : tY M_15 60 45 x_1.toNatClampNeg = x_16 := (ex_16.symm)
  have wx_16 : tY M 60 45 x_1.toNatClampNeg = x_16 := (((cg (tY_uZE hM_15) x_1.toNatClampNeg).trans ((cg (tY_uZE hM_13) x_1.toNatClampNeg).trans ((cg (tY_uZE hM_10) x_1.toNatClampNeg).trans ((cg (tY_uZE hM_7) x_1.toNatClampNeg).trans (cg (tY_uZE hM_4) x_1.toNatClampNeg)))))).symm.trans yx_16
  refine lv_isub hx hb dX10_calls_83 ?_
  refine lv_topi (fun x_17 ex_17 => ?_)
  obtain ⟨x_18, ex_18⟩ : ∃ z : Int64, z = x_17.toInt64 := ⟨_, rfl⟩
  refine lv_i2l (v := x_18) hx hb dX10_calls_84 ex_18.symm ?_
  refine ti_last (ci := 10) (k := 31) (n := 6) C hw ob_60 (by decide) (fun _ _ => rfl) (by unfold vp_in; decide) dX10_calls_85 (fun H locs hw => ?_)
  obtain ⟨M_19, hM_19⟩ : ∃ z : ti_M, z = uZ M_15 60 31 (vp_updL (tZ M_15 60 31) (5 : Int32).toNatClampNeg x_18) := ⟨_, rfl⟩
  have hw := hw.to hM_19.symm
  have iM_19 : mI Tm M_19 := mI_uZ iM_15 hM_19
  exact hQ _ _ _ _ _ hw (⟨(fI.trans (fI_Z hM_19) (fI.trans (fI_Z hM_15) (fI.trans (fI_Z hM_13) (fI.trans (fI_Z hM_10) (fI.trans (fI_Z hM_7) (fI_Z hM_4)))))), iM_19, (qw.trans (qw_Z hM_19) (qw.trans (qw_Z hM_15) (qw.trans (qw_Z hM_13) (qw.trans (qw_Z hM_10) (qw.trans (qw_Z hM_7) (qw_Z hM_4)))))), ((ry_Z hM_19).trans ((ry_Z hM_15).trans ((ry_Z hM_13).trans ((ry_Z hM_10).trans ((ry_Z hM_7).trans (ry_Z hM_4))))))⟩) dX10_calls_86
set_option maxHeartbeats 4000000 in
set_option maxRecDepth 100000 in
theorem f_X10_within (l : Launch) (D : va_G) (A : Nat → Nat → Nat) (cy : Nat → ClassId) (hJ : ti_inj ti_LM A) (M : ti_M) (hI : mI Tm M) (hL : mL M) (a : Int32) (h1 : 0 ≤ a.toInt) (h2 : a.toInt ≤ 2) (lo : Int32) (mo : Int32) (wo : Int32) : ti_Ki l yX10_within cX10_within 5 (some .int) 3 ti_LM D A cy M [.ref (A 60 0), .int a, .int lo, .int mo, .int wo] (fun r M2 => fI M2 M ∧ mI Tm M2 ∧ qw M2 M ∧ M2.2.1 = M.2.1) := by
  refine ti_eI yp_X10_within hJ ti_LM_nd (Nat.le_of_ble_eq_true rfl) ?_
  intro p e s m args below meth c Q H0 C hQ hw ls hl
  have hx := C.1
  have hb := C.2.1
  have hl : lv_has ls 5 [(0, .ref (A 60 0)), (1, .int a), (2, .int lo), (3, .int mo), (4, .int wo)] := hl
  refine lv_aload_n hx hb dX10_within_0 rfl (lv_at hl 0 rfl) ?_
  refine lv_iload_n hx hb dX10_within_1 rfl (lv_at hl 1 rfl) ?_
  refine ti_callVi (ci := 10) (av := [.int a]) C hw (s_X10_hasLaw l D A cy hJ M hI a (by first | omega | decide) (by first | omega | decide)) ⟨ml_X10_340, ym_X10_hasLaw, yv_X10_hasLaw, yi_X10_hasLaw, yc_X10_hasLaw⟩ yd_X10_hasLaw ob_60 (by decide) rfl rfl hl.1 (Nat.le_of_ble_eq_true rfl) ⟨by decide, by decide⟩ ⟨Nat.zero_le _, Nat.zero_le _⟩ dX10_within_2 (fun r_1 M_2 H locs hp_2 hw => ?_)
  have hm := hp_2
  have hw := hw.to hm
  have hj_16_12 : ∀ (M_9 : ti_M) (H : Heap) (locs : List Loc) (ls : Array Slot), (mI Tm M_9) → (qw M_9 M) → (M_9.2.1 = M.2.1) → (fI M_9 M) → ti_H ti_LM D A cy H0 M_9 H locs → lv_has ls 5 [(0, .ref (A 60 0)), (1, .int a), (2, .int lo), (3, .int mo), (4, .int wo)] → W p l e (ti_rm 3) s m args below meth c H locs 0 0 Q (F0 m 16 ls []) := by
    intro M_9 H locs ls iM_9 f_10 f_11 f_12 hw hl
    refine lv_iload hx hb dX10_within_16 (lv_at hl 4 rfl) ?_
    exact hQ _ _ _ _ _ _ hw rfl (⟨f_12, iM_9, f_10, (f_11)⟩) dX10_within_18
  refine sb_if_eq (tgt := 16) hx hb rfl dX10_within_5 (by decide) (fun c_5_2 => ?_) (fun c_5_2 => ?_)
  · exact hj_16_12 M _ _ _ hI qw.refl rfl fI.refl hw (lv_sub hl [0, 1, 2, 3, 4] rfl)
  · refine lv_aload_n hx hb dX10_within_8 rfl (lv_at hl 0 rfl) ?_
    refine lv_iload_n hx hb dX10_within_9 rfl (lv_at hl 1 rfl) ?_
    refine ti_callVi (ci := 10) (av := [.int a]) C hw (f_X10_goes l D A cy hJ M hI hL a (by first | omega | decide) (by first | omega | decide)) ⟨ml_X10_343, ym_X10_goes, yv_X10_goes, yi_X10_goes, yc_X10_goes⟩ yd_X10_goes ob_60 (by decide) rfl rfl hl.1 (Nat.le_of_ble_eq_true rfl) ⟨by decide, by decide⟩ ⟨Nat.zero_le _, Nat.zero_le _⟩ dX10_within_10 (fun r_4 M_5 H locs hp_5 hw => ?_)
    obtain ⟨fiM_5, hqM_5⟩ := hp_5
    obtain ⟨iM_5, q_6, q_7, b0r_4, b1r_4⟩ := hqM_5
    refine sb_if_ne (tgt := 19) hx hb rfl dX10_within_13 (by decide) (fun c_13_7 => ?_) (fun c_13_7 => ?_)
    · refine lv_iload_n hx hb dX10_within_19 rfl (lv_at hl 2 rfl) ?_
      obtain ⟨x_13, ex_13⟩ : ∃ z : Int64, z = lo.toInt64 := ⟨_, rfl⟩
      refine lv_i2l (v := x_13) hx hb dX10_within_20 ex_13.symm ?_
      refine lv_iload_n hx hb dX10_within_21 rfl (lv_at hl 3 rfl) ?_
      obtain ⟨x_14, ex_14⟩ : ∃ z : Int64, z = mo.toInt64 := ⟨_, rfl⟩
      refine lv_i2l (v := x_14) hx hb dX10_within_22 ex_14.symm ?_
      refine lv_aload_n hx hb dX10_within_23 rfl (lv_at hl 0 rfl) ?_
      refine ti_get (ci := 10) (k := 32) (N := 67) (T := TX10) (v := .ref (A 60 33)) C hw iw_10 rfl ob_60 (by decide) (by decide) fl_X10_66 rfl rfl dX10_within_24 ?_
      refine lv_iconst (v := 0) hx hb dX10_within_27 (by decide) ?_
      refine ti_lald (ci := 10) (k := 32) (n := 64) C hw ob_60 (by decide) (fun _ _ => rfl) (by unfold vp_in; decide) dX10_within_28 ?_
      refine lv_topl (fun x_15 ex_15 => ?_)
      refine ti_minl C ml_X10_346 hl.1 (by decide) (Nat.le_of_ble_eq_true rfl) ⟨Nat.zero_le _, Nat.zero_le _⟩ dX10_within_29 ?_
      refine lv_topl (fun x_16 ex_16 => ?_)
      refine ti_maxl C ml_X10_350 hl.1 (by decide) (Nat.le_of_ble_eq_true rfl) ⟨Nat.zero_le _, Nat.zero_le _⟩ dX10_within_32 ?_
      refine lv_topl (fun x_17 ex_17 => ?_)
      obtain ⟨x_18, ex_18⟩ : ∃ z : Int32, z = (x_17 : Int64).toInt32 := ⟨_, rfl⟩
      refine lv_l2i (v := x_18) hx hb dX10_within_35 ex_18.symm ?_
      exact hQ _ _ _ _ _ _ hw rfl (⟨fiM_5, iM_5, q_6, (q_7)⟩) dX10_within_36
    · exact hj_16_12 M_5 _ _ _ iM_5 q_6 (q_7) fiM_5 hw (lv_sub hl [0, 1, 2, 3, 4] rfl)
set_option maxHeartbeats 4000000 in
set_option maxRecDepth 100000 in
theorem f_X10_needOf_0 (l : Launch) (D : va_G) (A : Nat → Nat → Nat) (cy : Nat → ClassId) (hJ : ti_inj ti_LM A) (M : ti_M) (hI : mI Tm M) (hL : mL M) (t : Int32) : ti_Ki l yX10_needOf cX10_needOf 3 (some .int) 4 ti_LM D A cy M [.ref (A 60 0), .int 0, .int t] (fun r M2 => fI M2 M ∧ mI Tm M2 ∧ qw M2 M ∧ M2.2.1 = M.2.1) := by
  refine ti_eI yp_X10_needOf hJ ti_LM_nd (Nat.le_of_ble_eq_true rfl) ?_
  intro p e s m args below meth c Q H0 C hQ hw ls hl
  have hx := C.1
  have hb := C.2.1
  have hl : lv_has ls 3 [(0, .ref (A 60 0)), (1, .int 0), (2, .int t)] := hl
  refine lv_aload_n hx hb dX10_needOf_0 rfl (lv_at hl 0 rfl) ?_
  refine lv_iload_n hx hb dX10_needOf_1 rfl (lv_at hl 1 rfl) ?_
  refine lv_aload_n hx hb dX10_needOf_2 rfl (lv_at hl 0 rfl) ?_
  refine ti_get (ci := 10) (k := 39) (N := 67) (T := TX10) (v := .ref (A 60 40)) C hw iw_10 rfl ob_60 (by decide) (by decide) fl_X10_84 rfl rfl dX10_needOf_3 ?_
  refine lv_bipush (v := 8) hx hb dX10_needOf_6 (by decide) ?_
  refine lv_iload_n hx hb dX10_needOf_8 rfl (lv_at hl 1 rfl) ?_
  refine lv_imul hx hb dX10_needOf_9 ?_
  refine ti_top (y := 0) (by decide) ?_
  refine ti_iald (ci := 10) (k := 39) (n := 184) C hw ob_60 (by decide) (fun _ _ => rfl) (by unfold vp_in; decide) dX10_needOf_10 ?_
  refine lv_topi (fun x_1 ex_1 => ?_)
  have yx_1 : tY M 60 39 0 = x_1 := ((congrArg _ (by decide)).symm.trans ex_1.symm)
  have bx_1 : 0 ≤ x_1.toInt ∧ x_1.toInt ≤ 7 := mI_ry (k := 39) (i := 0) hI yx_1.symm
  refine lv_aload_n hx hb dX10_needOf_11 rfl (lv_at hl 0 rfl) ?_
  refine ti_get (ci := 10) (k := 38) (N := 67) (T := TX10) (v := .ref (A 60 39)) C hw iw_10 rfl ob_60 (by decide) (by decide) fl_X10_81 rfl rfl dX10_needOf_12 ?_
  refine lv_iload_n hx hb dX10_needOf_15 rfl (lv_at hl 1 rfl) ?_
  refine ti_iald (ci := 10) (k := 38) (n := 23) C hw ob_60 (by decide) (fun _ _ => rfl) (by unfold vp_in; decide) dX10_needOf_16 ?_
  refine lv_topi (fun x_2 ex_2 => ?_)
  have yx_2 : tY M 60 38 0 = x_2 := ((congrArg _ (by decide)).symm.trans ex_2.symm)
  have bx_2 : 0 ≤ x_2.toInt ∧ x_2.toInt ≤ 8 := mI_ry (k := 38) (i := 0) hI yx_2.symm
  have zx_2 : (tY M 60 38 0).toInt = x_2.toInt := by rw [yx_2]
  refine lv_iload_n hx hb dX10_needOf_17 rfl (lv_at hl 2 rfl) ?_
  refine ti_callVv (ci := 10) (av := [.int 0, .int x_1, .int x_2, .int t]) C hw (f_X10_calls_0 l D A cy hJ M hI x_1 x_2 t (by first | omega | decide) (by first | omega | decide)) ⟨ml_X10_363, ym_X10_calls, yv_X10_calls, yi_X10_calls, yc_X10_calls⟩ yd_X10_calls ob_60 (by decide) rfl rfl hl.1 (Nat.le_of_ble_eq_true rfl) ⟨by decide, by decide⟩ ⟨Nat.zero_le _, Nat.zero_le _⟩ dX10_needOf_18 (fun M_4 H locs hp_4 hw => ?_)
  obtain ⟨fiM_4, hqM_4⟩ := hp_4
  obtain ⟨iM_4, q_5, q_6⟩ := hqM_4
  refine lv_aload_n hx hb dX10_needOf_21 rfl (lv_at hl 0 rfl) ?_
  refine lv_iconst (v := 2) hx hb dX10_needOf_22 (by decide) ?_
  refine lv_iconst (v := 1) hx hb dX10_needOf_23 (by decide) ?_
  refine lv_bipush (v := 9) hx hb dX10_needOf_24 (by decide) ?_
  refine lv_aload_n hx hb dX10_needOf_26 rfl (lv_at hl 0 rfl) ?_
  refine ti_get (ci := 10) (k := 38) (N := 67) (T := TX10) (v := .ref (A 60 39)) C hw iw_10 rfl ob_60 (by decide) (by decide) fl_X10_81 rfl rfl dX10_needOf_27 ?_
  refine lv_iload_n hx hb dX10_needOf_30 rfl (lv_at hl 1 rfl) ?_
  refine ti_iald (ci := 10) (k := 38) (n := 23) C hw ob_60 (by decide) (fun _ _ => rfl) (by unfold vp_in; decide) dX10_needOf_31 ?_
  refine ti_top (y := x_2) ((congrArg _ (by decide)).trans ((cg (tY_fr q_6) 0).trans yx_2)) ?_
  refine lv_iconst (v := 1) hx hb dX10_needOf_32 (by decide) ?_
  refine lv_iadd hx hb dX10_needOf_33 ?_
  refine lv_topi (fun x_7 ex_7 => ?_)
  have tx_7 : x_7.toInt = x_2.toInt + 1 := i_add ex_7 rfl (by decide : (1 : Int32).toInt = 1) (by omega) (by omega)
  refine lv_iconst (v := 2) hx hb dX10_needOf_34 (by decide) ?_
  refine lv_idiv hx hb dX10_needOf_35 (by decide) ?_
  refine lv_topi (fun x_8 ex_8 => ?_)
  refine ti_callVi (ci := 10) (av := [.int 2, .int 1, .int 9, .int x_8]) C hw (f_X10_within l D A cy hJ M_4 iM_4 (mL_lw (lk_of q_5.1 q_5.2.1).1 hL) 2 (by first | omega | decide) (by first | omega | decide) 1 9 x_8) ⟨ml_X10_367, ym_X10_within, yv_X10_within, yi_X10_within, yc_X10_within⟩ yd_X10_within ob_60 (by decide) rfl rfl hl.1 (Nat.le_of_ble_eq_true rfl) ⟨by decide, by decide⟩ ⟨Nat.zero_le _, Nat.zero_le _⟩ dX10_needOf_36 (fun r_9 M_10 H locs hp_10 hw => ?_)
  obtain ⟨fiM_10, hqM_10⟩ := hp_10
  obtain ⟨iM_10, q_11, q_12⟩ := hqM_10
  exact hQ _ _ _ _ _ _ hw rfl (⟨(fI.trans fiM_10 fiM_4), iM_10, (qw.trans q_11 q_5), ((q_12).trans q_6)⟩) dX10_needOf_39
set_option maxHeartbeats 4000000 in
set_option maxRecDepth 100000 in
theorem f_X10_needOf_1 (l : Launch) (D : va_G) (A : Nat → Nat → Nat) (cy : Nat → ClassId) (hJ : ti_inj ti_LM A) (M : ti_M) (hI : mI Tm M) (hL : mL M) (t : Int32) : ti_Ki l yX10_needOf cX10_needOf 3 (some .int) 4 ti_LM D A cy M [.ref (A 60 0), .int 1, .int t] (fun r M2 => fI M2 M ∧ mI Tm M2 ∧ qw M2 M ∧ M2.2.1 = M.2.1) := by
  refine ti_eI yp_X10_needOf hJ ti_LM_nd (Nat.le_of_ble_eq_true rfl) ?_
  intro p e s m args below meth c Q H0 C hQ hw ls hl
  have hx := C.1
  have hb := C.2.1
  have hl : lv_has ls 3 [(0, .ref (A 60 0)), (1, .int 1), (2, .int t)] := hl
  refine lv_aload_n hx hb dX10_needOf_0 rfl (lv_at hl 0 rfl) ?_
  refine lv_iload_n hx hb dX10_needOf_1 rfl (lv_at hl 1 rfl) ?_
  refine lv_aload_n hx hb dX10_needOf_2 rfl (lv_at hl 0 rfl) ?_
  refine ti_get (ci := 10) (k := 39) (N := 67) (T := TX10) (v := .ref (A 60 40)) C hw iw_10 rfl ob_60 (by decide) (by decide) fl_X10_84 rfl rfl dX10_needOf_3 ?_
  refine lv_bipush (v := 8) hx hb dX10_needOf_6 (by decide) ?_
  refine lv_iload_n hx hb dX10_needOf_8 rfl (lv_at hl 1 rfl) ?_
  refine lv_imul hx hb dX10_needOf_9 ?_
  refine ti_top (y := 8) (by decide) ?_
  refine ti_iald (ci := 10) (k := 39) (n := 184) C hw ob_60 (by decide) (fun _ _ => rfl) (by unfold vp_in; decide) dX10_needOf_10 ?_
  refine lv_topi (fun x_1 ex_1 => ?_)
  have yx_1 : tY M 60 39 8 = x_1 := ((congrArg _ (by decide)).symm.trans ex_1.symm)
  have bx_1 : 0 ≤ x_1.toInt ∧ x_1.toInt ≤ 7 := mI_ry (k := 39) (i := 8) hI yx_1.symm
  refine lv_aload_n hx hb dX10_needOf_11 rfl (lv_at hl 0 rfl) ?_
  refine ti_get (ci := 10) (k := 38) (N := 67) (T := TX10) (v := .ref (A 60 39)) C hw iw_10 rfl ob_60 (by decide) (by decide) fl_X10_81 rfl rfl dX10_needOf_12 ?_
  refine lv_iload_n hx hb dX10_needOf_15 rfl (lv_at hl 1 rfl) ?_
  refine ti_iald (ci := 10) (k := 38) (n := 23) C hw ob_60 (by decide) (fun _ _ => rfl) (by unfold vp_in; decide) dX10_needOf_16 ?_
  refine lv_topi (fun x_2 ex_2 => ?_)
  have yx_2 : tY M 60 38 1 = x_2 := ((congrArg _ (by decide)).symm.trans ex_2.symm)
  have bx_2 : 0 ≤ x_2.toInt ∧ x_2.toInt ≤ 8 := mI_ry (k := 38) (i := 1) hI yx_2.symm
  have zx_2 : (tY M 60 38 1).toInt = x_2.toInt := by rw [yx_2]
  refine lv_iload_n hx hb dX10_needOf_17 rfl (lv_at hl 2 rfl) ?_
  refine ti_callVv (ci := 10) (av := [.int 1, .int x_1, .int x_2, .int t]) C hw (f_X10_calls_1 l D A cy hJ M hI x_1 x_2 t (by first | omega | decide) (by first | omega | decide)) ⟨ml_X10_363, ym_X10_calls, yv_X10_calls, yi_X10_calls, yc_X10_calls⟩ yd_X10_calls ob_60 (by decide) rfl rfl hl.1 (Nat.le_of_ble_eq_true rfl) ⟨by decide, by decide⟩ ⟨Nat.zero_le _, Nat.zero_le _⟩ dX10_needOf_18 (fun M_4 H locs hp_4 hw => ?_)
  obtain ⟨fiM_4, hqM_4⟩ := hp_4
  obtain ⟨iM_4, q_5, q_6⟩ := hqM_4
  refine lv_aload_n hx hb dX10_needOf_21 rfl (lv_at hl 0 rfl) ?_
  refine lv_iconst (v := 2) hx hb dX10_needOf_22 (by decide) ?_
  refine lv_iconst (v := 1) hx hb dX10_needOf_23 (by decide) ?_
  refine lv_bipush (v := 9) hx hb dX10_needOf_24 (by decide) ?_
  refine lv_aload_n hx hb dX10_needOf_26 rfl (lv_at hl 0 rfl) ?_
  refine ti_get (ci := 10) (k := 38) (N := 67) (T := TX10) (v := .ref (A 60 39)) C hw iw_10 rfl ob_60 (by decide) (by decide) fl_X10_81 rfl rfl dX10_needOf_27 ?_
  refine lv_iload_n hx hb dX10_needOf_30 rfl (lv_at hl 1 rfl) ?_
  refine ti_iald (ci := 10) (k := 38) (n := 23) C hw ob_60 (by decide) (fun _ _ => rfl) (by unfold vp_in; decide) dX10_needOf_31 ?_
  refine ti_top (y := x_2) ((congrArg _ (by decide)).trans ((cg (tY_fr q_6) 1).trans yx_2)) ?_
  refine lv_iconst (v := 1) hx hb dX10_needOf_32 (by decide) ?_
  refine lv_iadd hx hb dX10_needOf_33 ?_
  refine lv_topi (fun x_7 ex_7 => ?_)
  have tx_7 : x_7.toInt = x_2.toInt + 1 := i_add ex_7 rfl (by decide : (1 : Int32).toInt = 1) (by omega) (by omega)
  refine lv_iconst (v := 2) hx hb dX10_needOf_34 (by decide) ?_
  refine lv_idiv hx hb dX10_needOf_35 (by decide) ?_
  refine lv_topi (fun x_8 ex_8 => ?_)
  refine ti_callVi (ci := 10) (av := [.int 2, .int 1, .int 9, .int x_8]) C hw (f_X10_within l D A cy hJ M_4 iM_4 (mL_lw (lk_of q_5.1 q_5.2.1).1 hL) 2 (by first | omega | decide) (by first | omega | decide) 1 9 x_8) ⟨ml_X10_367, ym_X10_within, yv_X10_within, yi_X10_within, yc_X10_within⟩ yd_X10_within ob_60 (by decide) rfl rfl hl.1 (Nat.le_of_ble_eq_true rfl) ⟨by decide, by decide⟩ ⟨Nat.zero_le _, Nat.zero_le _⟩ dX10_needOf_36 (fun r_9 M_10 H locs hp_10 hw => ?_)
  obtain ⟨fiM_10, hqM_10⟩ := hp_10
  obtain ⟨iM_10, q_11, q_12⟩ := hqM_10
  exact hQ _ _ _ _ _ _ hw rfl (⟨(fI.trans fiM_10 fiM_4), iM_10, (qw.trans q_11 q_5), ((q_12).trans q_6)⟩) dX10_needOf_39
set_option maxHeartbeats 4000000 in
set_option maxRecDepth 100000 in
theorem f_X10_draw_1 (l : Launch) (D : va_G) (A : Nat → Nat → Nat) (cy : Nat → ClassId) (hJ : ti_inj ti_LM A) (M : ti_M) (hI : mI Tm M)  : ti_Ki l yX10_draw cX10_draw 2 (some .int) 0 ti_LM D A cy M [.ref (A 60 0), .int 1] (fun r M2 => fR 1 M2 M ∧ mI Tm M2 ∧ qw M2 M ∧ tY M2 60 34 = tY M 60 34) := by
  refine ti_eI yp_X10_draw hJ ti_LM_nd (Nat.le_of_ble_eq_true rfl) ?_
  intro p e s m args below meth c Q H0 C hQ hw ls hl
  have hx := C.1
  have hb := C.2.1
  have hl : lv_has ls 2 [(0, .ref (A 60 0)), (1, .int 1)] := hl
  refine lv_aload_n hx hb dX10_draw_0 rfl (lv_at hl 0 rfl) ?_
  refine ti_get (ci := 10) (k := 36) (N := 67) (T := TX10) (v := .ref (A 60 37)) C hw iw_10 rfl ob_60 (by decide) (by decide) fl_X10_75 rfl rfl dX10_draw_1 ?_
  refine lv_iload_n hx hb dX10_draw_4 rfl (lv_at hl 1 rfl) ?_
  refine lv_aload_n hx hb dX10_draw_5 rfl (lv_at hl 0 rfl) ?_
  refine ti_get (ci := 10) (k := 36) (N := 67) (T := TX10) (v := .ref (A 60 37)) C hw iw_10 rfl ob_60 (by decide) (by decide) fl_X10_75 rfl rfl dX10_draw_6 ?_
  refine lv_iload_n hx hb dX10_draw_9 rfl (lv_at hl 1 rfl) ?_
  refine ti_iald (ci := 10) (k := 36) (n := 23) C hw ob_60 (by decide) (fun _ _ => rfl) (by unfold vp_in; decide) dX10_draw_10 ?_
  refine lv_topi (fun x_1 ex_1 => ?_)
  have yx_1 : tY M 60 36 1 = x_1 := ((congrArg _ (by decide)).symm.trans ex_1.symm)
  refine lv_ldcw (v := 1103515245) hx hb C.2.2.2.1 (C.2.2.1 _ cn_X10_400) dX10_draw_11 ?_
  refine lv_imul hx hb dX10_draw_14 ?_
  refine lv_topi (fun x_2 ex_2 => ?_)
  refine lv_sipush (v := 12345) hx hb dX10_draw_15 (by decide) ?_
  refine lv_iadd hx hb dX10_draw_18 ?_
  refine lv_topi (fun x_3 ex_3 => ?_)
  refine lv_ldcw (v := 2147483647) hx hb C.2.2.2.1 (C.2.2.1 _ cn_X10_403) dX10_draw_19 ?_
  refine lv_iand hx hb dX10_draw_22 ?_
  refine lv_topi (fun x_4 ex_4 => ?_)
  refine ti_iast (ci := 10) (k := 36) (n := 23) C hw ob_60 (by decide) (fun _ _ => rfl) (by unfold vp_in; decide) dX10_draw_23 (fun H locs hw => ?_)
  obtain ⟨M_5, hM_5⟩ : ∃ z : ti_M, z = uY M 60 36 (upd (tY M 60 36) (1 : Int32).toNatClampNeg x_4) := ⟨_, rfl⟩
  have hw := hw.to hM_5.symm
  have iM_5 : mI Tm M_5 := mI_up (i := 1) hI hM_5 trivial
  refine lv_aload_n hx hb dX10_draw_24 rfl (lv_at hl 0 rfl) ?_
  refine ti_get (ci := 10) (k := 36) (N := 67) (T := TX10) (v := .ref (A 60 37)) C hw iw_10 rfl ob_60 (by decide) (by decide) fl_X10_75 rfl rfl dX10_draw_25 ?_
  refine lv_iload_n hx hb dX10_draw_28 rfl (lv_at hl 1 rfl) ?_
  refine ti_iald (ci := 10) (k := 36) (n := 23) C hw ob_60 (by decide) (fun _ _ => rfl) (by unfold vp_in; decide) dX10_draw_29 ?_
  refine ti_top (y := x_4) ((congrArg _ (by decide)).trans ((cg (tY_uE hM_5) 1).trans (upl (by decide)))) ?_
  refine lv_bipush (v := 16) hx hb dX10_draw_30 (by decide) ?_
  refine lv_ishr hx hb dX10_draw_32 ?_
  refine lv_topi (fun x_6 ex_6 => ?_)
  refine lv_bipush (v := 100) hx hb dX10_draw_33 (by decide) ?_
  refine lv_irem hx hb dX10_draw_35 (by decide) ?_
  refine lv_topi (fun x_7 ex_7 => ?_)
  exact hQ _ _ _ _ _ _ hw rfl (⟨(fR_Y hM_5 (bk_q (z := 1) (by decide) (by decide))), iM_5, (qw_Y hM_5 (by decide)), ((tY_nE hM_5 (nk (by decide))))⟩) dX10_draw_36
set_option maxHeartbeats 4000000 in
set_option maxRecDepth 100000 in
theorem f_X10_pour_1 (l : Launch) (D : va_G) (A : Nat → Nat → Nat) (cy : Nat → ClassId) (hJ : ti_inj ti_LM A) (M : ti_M) (hI : mI Tm M)  : ti_Kv l yX10_pour cX10_pour 4 1 ti_LM D A cy M [.ref (A 60 0), .int 1] (fun M2 => fR 1 M2 M ∧ mI Tm M2 ∧ qw M2 M ∧ tY M2 60 34 = tY M 60 34) := by
  refine ti_eV yp_X10_pour hJ ti_LM_nd (Nat.le_of_ble_eq_true rfl) ?_
  intro p e s m args below meth c Q H0 C hQ hw ls hl
  have hx := C.1
  have hb := C.2.1
  have hl : lv_has ls 4 [(0, .ref (A 60 0)), (1, .int 1)] := hl
  refine lv_aload_n hx hb dX10_pour_0 rfl (lv_at hl 0 rfl) ?_
  refine ti_get (ci := 10) (k := 38) (N := 67) (T := TX10) (v := .ref (A 60 39)) C hw iw_10 rfl ob_60 (by decide) (by decide) fl_X10_81 rfl rfl dX10_pour_1 ?_
  refine lv_iload_n hx hb dX10_pour_4 rfl (lv_at hl 1 rfl) ?_
  refine ti_iald (ci := 10) (k := 38) (n := 23) C hw ob_60 (by decide) (fun _ _ => rfl) (by unfold vp_in; decide) dX10_pour_5 ?_
  refine lv_topi (fun x_1 ex_1 => ?_)
  have yx_1 : tY M 60 38 1 = x_1 := ((congrArg _ (by decide)).symm.trans ex_1.symm)
  have bx_1 : 0 ≤ x_1.toInt ∧ x_1.toInt ≤ 8 := mI_ry (k := 38) (i := 1) hI yx_1.symm
  have zx_1 : (tY M 60 38 1).toInt = x_1.toInt := by rw [yx_1]
  refine sb_if_ne (tgt := 10) hx hb rfl dX10_pour_6 (by decide) (fun c_6_1 => ?_) (fun c_6_1 => ?_)
  · refine lv_aload_n hx hb dX10_pour_10 rfl (lv_at hl 0 rfl) ?_
    refine ti_get (ci := 10) (k := 39) (N := 67) (T := TX10) (v := .ref (A 60 40)) C hw iw_10 rfl ob_60 (by decide) (by decide) fl_X10_84 rfl rfl dX10_pour_11 ?_
    refine lv_bipush (v := 8) hx hb dX10_pour_14 (by decide) ?_
    refine lv_iload_n hx hb dX10_pour_16 rfl (lv_at hl 1 rfl) ?_
    refine lv_imul hx hb dX10_pour_17 ?_
    refine ti_top (y := 8) (by decide) ?_
    refine ti_iald (ci := 10) (k := 39) (n := 184) C hw ob_60 (by decide) (fun _ _ => rfl) (by unfold vp_in; decide) dX10_pour_18 ?_
    refine lv_topi (fun x_3 ex_3 => ?_)
    have yx_3 : tY M 60 39 8 = x_3 := ((congrArg _ (by decide)).symm.trans ex_3.symm)
    have bx_3 : 0 ≤ x_3.toInt ∧ x_3.toInt ≤ 7 := mI_ry (k := 39) (i := 8) hI yx_3.symm
    refine lv_istore_n (lv' := [(2, .int x_3), (0, .ref (A 60 0)), (1, .int 1)]) hx hb dX10_pour_19 rfl hl (by decide) rfl (fun ls hl => ?_)
    refine lv_aload_n hx hb dX10_pour_20 rfl (lv_at hl 1 rfl) ?_
    refine ti_get (ci := 10) (k := 3) (N := 67) (T := TX10) (v := .ref (A 60 4)) C hw iw_10 rfl ob_60 (by decide) (by decide) fl_X10_13 rfl rfl dX10_pour_21 ?_
    refine lv_iconst (v := 2) hx hb dX10_pour_24 (by decide) ?_
    refine ti_iald (ci := 10) (k := 3) (n := 22) C hw ob_60 (by decide) (fun _ _ => rfl) (by unfold vp_in; decide) dX10_pour_25 ?_
    refine lv_topi (fun x_4 ex_4 => ?_)
    have yx_4 : tY M 60 3 2 = x_4 := ((congrArg _ (by decide)).symm.trans ex_4.symm)
    have zx_4 : (tY M 60 3 2).toInt = x_4.toInt := by rw [yx_4]
    refine lv_aload_n hx hb dX10_pour_26 rfl (lv_at hl 1 rfl) ?_
    refine ti_get (ci := 10) (k := 53) (N := 67) (T := TX10) C hw iw_10 rfl ob_60 (by decide) (by decide) fl_X10_120 rfl rfl dX10_pour_27 ?_
    refine lv_topi (fun x_5 ex_5 => ?_)
    refine lv_iconst (v := 3) hx hb dX10_pour_30 (by decide) ?_
    have hj_39_9 : ∀ (x_7 : Int32) (H : Heap) (locs : List Loc) (ls : Array Slot), (0 ≤ x_7.toInt) → (x_7.toInt ≤ 1) → ti_H ti_LM D A cy H0 M H locs → lv_has ls 4 [(2, .int x_3), (0, .ref (A 60 0)), (1, .int 1)] → W p l e (ti_rm 1) s m args below meth c H locs 0 0 Q (F0 m 39 ls [.int x_7, .int x_4]) := by
      intro x_7 H locs ls b_8 b_9 hw hl
      refine lv_iadd hx hb dX10_pour_39 ?_
      refine lv_topi (fun x_10 ex_10 => ?_)
      refine lv_aload_n hx hb dX10_pour_40 rfl (lv_at hl 1 rfl) ?_
      refine ti_get (ci := 10) (k := 8) (N := 67) (T := TX10) (v := .ref (A 60 9)) C hw iw_10 rfl ob_60 (by decide) (by decide) fl_X10_28 rfl rfl dX10_pour_41 ?_
      refine lv_iload_n hx hb dX10_pour_44 rfl (lv_at hl 0 rfl) ?_
      refine ti_iald (ci := 10) (k := 8) (n := 16) C hw ob_60 (by decide) (fun _ _ => rfl) (vp_in_iff.mpr (by omega)) dX10_pour_45 ?_
      refine lv_topi (fun x_11 ex_11 => ?_)
      have yx_11 : tY M 60 8 x_3.toNatClampNeg = x_11 := (ex_11.symm)
      refine lv_aload_n hx hb dX10_pour_46 rfl (lv_at hl 1 rfl) ?_
      refine ti_get (ci := 10) (k := 42) (N := 67) (T := TX10) (v := .ref (A 60 43)) C hw iw_10 rfl ob_60 (by decide) (by decide) fl_X10_93 rfl rfl dX10_pour_47 ?_
      refine lv_bipush (v := 8) hx hb dX10_pour_50 (by decide) ?_
      refine lv_iload_n hx hb dX10_pour_52 rfl (lv_at hl 2 rfl) ?_
      refine lv_imul hx hb dX10_pour_53 ?_
      refine ti_top (y := 8) (by decide) ?_
      refine lv_iload_n hx hb dX10_pour_54 rfl (lv_at hl 0 rfl) ?_
      refine lv_iadd hx hb dX10_pour_55 ?_
      refine lv_topi (fun x_12 ex_12 => ?_)
      have tx_12 : x_12.toInt = 8 + x_3.toInt := i_add ex_12 (by decide : (8 : Int32).toInt = 8) rfl (by omega) (by omega)
      refine ti_iald (ci := 10) (k := 42) (n := 184) C hw ob_60 (by decide) (fun _ _ => rfl) (vp_in_iff.mpr (by omega)) dX10_pour_56 ?_
      refine lv_topi (fun x_13 ex_13 => ?_)
      have yx_13 : tY M 60 42 x_12.toNatClampNeg = x_13 := (ex_13.symm)
      refine lv_isub hx hb dX10_pour_57 ?_
      refine lv_topi (fun x_14 ex_14 => ?_)
      refine ti_min C ml_X10_380 hl.1 (by decide) (Nat.le_of_ble_eq_true rfl) ⟨Nat.zero_le _, Nat.zero_le _⟩ dX10_pour_58 ?_
      refine lv_topi (fun x_15 ex_15 => ?_)
      have bx_15 := i_min ex_15 rfl rfl
      refine lv_istore_n (lv' := [(3, .int x_15), (2, .int x_3), (0, .ref (A 60 0)), (1, .int 1)]) hx hb dX10_pour_61 rfl hl (by decide) rfl (fun ls hl => ?_)
      refine lv_aload_n hx hb dX10_pour_62 rfl (lv_at hl 2 rfl) ?_
      refine ti_get (ci := 10) (k := 53) (N := 67) (T := TX10) C hw iw_10 rfl ob_60 (by decide) (by decide) fl_X10_120 rfl rfl dX10_pour_63 ?_
      refine ti_top (y := x_5) (ex_5.symm) ?_
      refine lv_iconst (v := 4) hx hb dX10_pour_66 (by decide) ?_
      have hj_91_25 : ∀ (x_21 : Int32) (M_22 : ti_M) (H : Heap) (locs : List Loc) (ls : Array Slot), (mI Tm M_22) → (qw M_22 M) → (tY M_22 60 34 = tY M 60 34) → (fR 1 M_22 M) → ti_H ti_LM D A cy H0 M_22 H locs → lv_has ls 4 [(3, .int x_21), (2, .int x_3), (0, .ref (A 60 0)), (1, .int 1)] → W p l e (ti_rm 1) s m args below meth c H locs 0 0 Q (F0 m 91 ls []) := by
        intro x_21 M_22 H locs ls iM_22 f_23 f_24 f_25 hw hl
        refine lv_aload_n hx hb dX10_pour_91 rfl (lv_at hl 2 rfl) ?_
        refine ti_get (ci := 10) (k := 42) (N := 67) (T := TX10) (v := .ref (A 60 43)) C hw iw_10 rfl ob_60 (by decide) (by decide) fl_X10_93 rfl rfl dX10_pour_92 ?_
        refine lv_bipush (v := 8) hx hb dX10_pour_95 (by decide) ?_
        refine lv_iload_n hx hb dX10_pour_97 rfl (lv_at hl 3 rfl) ?_
        refine lv_imul hx hb dX10_pour_98 ?_
        refine ti_top (y := 8) (by decide) ?_
        refine lv_iload_n hx hb dX10_pour_99 rfl (lv_at hl 1 rfl) ?_
        refine lv_iadd hx hb dX10_pour_100 ?_
        refine lv_topi (fun x_26 ex_26 => ?_)
        have tx_26 : x_26.toInt = 8 + x_3.toInt := i_add ex_26 (by decide : (8 : Int32).toInt = 8) rfl (by omega) (by omega)
        refine lv_dup2_11 hx hb dX10_pour_101 rfl rfl ?_
        refine ti_iald (ci := 10) (k := 42) (n := 184) C hw ob_60 (by decide) (fun _ _ => rfl) (vp_in_iff.mpr (by omega)) dX10_pour_102 ?_
        refine lv_topi (fun x_27 ex_27 => ?_)
        have yx_27 : tY M_22 60 42 x_26.toNatClampNeg = x_27 := (ex_27.symm)
        refine lv_iload_n hx hb dX10_pour_103 rfl (lv_at hl 0 rfl) ?_
        refine lv_iadd hx hb dX10_pour_104 ?_
        refine lv_topi (fun x_28 ex_28 => ?_)
        refine ti_iast (ci := 10) (k := 42) (n := 184) C hw ob_60 (by decide) (fun _ _ => rfl) (vp_in_iff.mpr (by omega)) dX10_pour_105 (fun H locs hw => ?_)
        obtain ⟨M_29, hM_29⟩ : ∃ z : ti_M, z = uY M_22 60 42 (upd (tY M_22 60 42) (x_26 : Int32).toNatClampNeg x_28) := ⟨_, rfl⟩
        have hw := hw.to hM_29.symm
        have iM_29 : mI Tm M_29 := mI_up (i := x_26.toNatClampNeg) iM_22 hM_29 trivial
        exact hQ _ _ _ _ _ hw (⟨(fR.trans (fR_Y hM_29 (bk_m (z := x_26) (by omega) (by decide))) f_25), iM_29, (qw.trans (qw_Y hM_29 (by decide)) f_23), (((tY_nE hM_29 (nk (by decide))).trans f_24))⟩) dX10_pour_106
      refine sb_icmp_eq (tgt := 91) hx hb rfl (by decide : (4 : Int32).toInt = 4) dX10_pour_67 (by decide) (fun c_67_15 => ?_) (fun c_67_15 => ?_)
      · exact hj_91_25 x_15 M _ _ _ hI qw.refl rfl fR.refl hw (lv_sub hl [0, 1, 2, 3] rfl)
      · refine lv_iload_n hx hb dX10_pour_70 rfl (lv_at hl 0 rfl) ?_
        refine lv_aload_n hx hb dX10_pour_71 rfl (lv_at hl 2 rfl) ?_
        refine ti_get (ci := 10) (k := 35) (N := 67) (T := TX10) (v := .ref (A 60 36)) C hw iw_10 rfl ob_60 (by decide) (by decide) fl_X10_72 rfl rfl dX10_pour_72 ?_
        refine lv_iload_n hx hb dX10_pour_75 rfl (lv_at hl 3 rfl) ?_
        refine ti_iald (ci := 10) (k := 35) (n := 23) C hw ob_60 (by decide) (fun _ _ => rfl) (by unfold vp_in; decide) dX10_pour_76 ?_
        refine lv_topi (fun x_17 ex_17 => ?_)
        have yx_17 : tY M 60 35 1 = x_17 := ((congrArg _ (by decide)).symm.trans ex_17.symm)
        refine ti_min C ml_X10_380 hl.1 (by decide) (Nat.le_of_ble_eq_true rfl) ⟨Nat.zero_le _, Nat.zero_le _⟩ dX10_pour_77 ?_
        refine lv_topi (fun x_18 ex_18 => ?_)
        have bx_18 := i_min ex_18 rfl rfl
        refine lv_istore_n (lv' := [(3, .int x_18), (2, .int x_3), (0, .ref (A 60 0)), (1, .int 1)]) hx hb dX10_pour_80 rfl hl (by decide) rfl (fun ls hl => ?_)
        refine lv_aload_n hx hb dX10_pour_81 rfl (lv_at hl 2 rfl) ?_
        refine ti_get (ci := 10) (k := 35) (N := 67) (T := TX10) (v := .ref (A 60 36)) C hw iw_10 rfl ob_60 (by decide) (by decide) fl_X10_72 rfl rfl dX10_pour_82 ?_
        refine lv_iload_n hx hb dX10_pour_85 rfl (lv_at hl 3 rfl) ?_
        refine lv_dup2_11 hx hb dX10_pour_86 rfl rfl ?_
        refine ti_iald (ci := 10) (k := 35) (n := 23) C hw ob_60 (by decide) (fun _ _ => rfl) (by unfold vp_in; decide) dX10_pour_87 ?_
        refine ti_top (y := x_17) ((congrArg _ (by decide)).trans (yx_17)) ?_
        refine lv_iload_n hx hb dX10_pour_88 rfl (lv_at hl 0 rfl) ?_
        refine lv_isub hx hb dX10_pour_89 ?_
        refine lv_topi (fun x_19 ex_19 => ?_)
        refine ti_iast (ci := 10) (k := 35) (n := 23) C hw ob_60 (by decide) (fun _ _ => rfl) (by unfold vp_in; decide) dX10_pour_90 (fun H locs hw => ?_)
        obtain ⟨M_20, hM_20⟩ : ∃ z : ti_M, z = uY M 60 35 (upd (tY M 60 35) (1 : Int32).toNatClampNeg x_19) := ⟨_, rfl⟩
        have hw := hw.to hM_20.symm
        have iM_20 : mI Tm M_20 := mI_up (i := 1) hI hM_20 trivial
        exact hj_91_25 x_18 M_20 _ _ _ iM_20 (qw_Y hM_20 (by decide)) ((tY_nE hM_20 (nk (by decide)))) (fR_Y hM_20 (bk_q (z := 1) (by decide) (by decide))) hw (lv_sub hl [0, 1, 2, 3] rfl)
    refine sb_icmp_ne (tgt := 38) hx hb rfl (by decide : (3 : Int32).toInt = 3) dX10_pour_31 (by decide) (fun c_31_5 => ?_) (fun c_31_5 => ?_)
    · refine lv_iconst (v := 0) hx hb dX10_pour_38 (by decide) ?_
      exact hj_39_9 0 _ _ _ (by have lt0 : (0 : Int32).toInt = 0 := (by decide); first | omega | decide) (by have lt0 : (0 : Int32).toInt = 0 := (by decide); first | omega | decide) hw (lv_sub hl [0, 1, 2] rfl)
    · refine lv_iconst (v := 1) hx hb dX10_pour_34 (by decide) ?_
      refine lv_goto (tgt := 39) hx hb dX10_pour_35 (by decide) ?_
      exact hj_39_9 1 _ _ _ (by have lt0 : (1 : Int32).toInt = 1 := (by decide); first | omega | decide) (by have lt0 : (1 : Int32).toInt = 1 := (by decide); first | omega | decide) hw (lv_sub hl [0, 1, 2] rfl)
  · exact hQ _ _ _ _ _ hw (⟨fR.refl, hI, qw.refl, rfl⟩) dX10_pour_9
set_option maxHeartbeats 4000000 in
set_option maxRecDepth 100000 in
theorem f_X10_levy_1 (l : Launch) (D : va_G) (A : Nat → Nat → Nat) (cy : Nat → ClassId) (hJ : ti_inj ti_LM A) (M : ti_M) (hI : mI Tm M) (hL : mL M) (t : Int32) : ti_Kv l yX10_levy cX10_levy 8 4 ti_LM D A cy M [.ref (A 60 0), .int 1, .int t] (fun M2 => fR 1 M2 M ∧ mI Tm M2 ∧ qw M2 M ∧ tY M2 60 34 = tY M 60 34) := by
  refine ti_eV yp_X10_levy hJ ti_LM_nd (Nat.le_of_ble_eq_true rfl) ?_
  intro p e s m args below meth c Q H0 C hQ hw ls hl
  have hx := C.1
  have hb := C.2.1
  have hl : lv_has ls 8 [(0, .ref (A 60 0)), (1, .int 1), (2, .int t)] := hl
  refine lv_aload_n hx hb dX10_levy_0 rfl (lv_at hl 0 rfl) ?_
  refine ti_get (ci := 10) (k := 49) (N := 67) (T := TX10) (v := .ref (A 60 50)) C hw iw_10 rfl ob_60 (by decide) (by decide) fl_X10_114 rfl rfl dX10_levy_1 ?_
  refine lv_iconst (v := 3) hx hb dX10_levy_4 (by decide) ?_
  refine lv_iload_n hx hb dX10_levy_5 rfl (lv_at hl 1 rfl) ?_
  refine lv_imul hx hb dX10_levy_6 ?_
  refine ti_top (y := 3) (by decide) ?_
  refine lv_iconst (v := 2) hx hb dX10_levy_7 (by decide) ?_
  refine lv_iadd hx hb dX10_levy_8 ?_
  refine ti_top (y := 5) (by decide) ?_
  refine ti_iald (ci := 10) (k := 49) (n := 69) C hw ob_60 (by decide) (fun _ _ => rfl) (by unfold vp_in; decide) dX10_levy_9 ?_
  refine lv_topi (fun x_1 ex_1 => ?_)
  have yx_1 : tY M 60 49 5 = x_1 := ((congrArg _ (by decide)).symm.trans ex_1.symm)
  have bx_1 : 0 ≤ x_1.toInt ∧ x_1.toInt ≤ 7 := mI_ry (k := 49) (i := 5) hI yx_1.symm
  refine lv_istore_n (lv' := [(3, .int x_1), (0, .ref (A 60 0)), (1, .int 1), (2, .int t)]) hx hb dX10_levy_10 rfl hl (by decide) rfl (fun ls hl => ?_)
  refine lv_iload_n hx hb dX10_levy_11 rfl (lv_at hl 3 rfl) ?_
  refine lv_aload_n hx hb dX10_levy_12 rfl (lv_at hl 1 rfl) ?_
  refine ti_get (ci := 10) (k := 3) (N := 67) (T := TX10) (v := .ref (A 60 4)) C hw iw_10 rfl ob_60 (by decide) (by decide) fl_X10_13 rfl rfl dX10_levy_13 ?_
  refine lv_iconst (v := 3) hx hb dX10_levy_16 (by decide) ?_
  refine ti_iald (ci := 10) (k := 3) (n := 22) C hw ob_60 (by decide) (fun _ _ => rfl) (by unfold vp_in; decide) dX10_levy_17 ?_
  refine lv_topi (fun x_2 ex_2 => ?_)
  have yx_2 : tY M 60 3 3 = x_2 := ((congrArg _ (by decide)).symm.trans ex_2.symm)
  have bx_2 : 1 ≤ x_2.toInt ∧ x_2.toInt ≤ 30 := mI_rn (i := 3) hI yx_2.symm (fun _ h => h)
  have zx_2 : (tY M 60 3 3).toInt = x_2.toInt := by rw [yx_2]
  refine lv_irem hx hb dX10_levy_18 (nz (by omega)) ?_
  refine lv_topi (fun x_3 ex_3 => ?_)
  refine sb_if_ne (tgt := 39) hx hb rfl dX10_levy_19 (by decide) (fun c_19_3 => ?_) (fun c_19_3 => ?_)
  · exact hQ _ _ _ _ _ hw (⟨fR.refl, hI, qw.refl, rfl⟩) dX10_levy_39
  · refine lv_iload_n hx hb dX10_levy_22 rfl (lv_at hl 0 rfl) ?_
    refine lv_aload_n hx hb dX10_levy_23 rfl (lv_at hl 1 rfl) ?_
    refine ti_get (ci := 10) (k := 38) (N := 67) (T := TX10) (v := .ref (A 60 39)) C hw iw_10 rfl ob_60 (by decide) (by decide) fl_X10_81 rfl rfl dX10_levy_24 ?_
    refine lv_iload_n hx hb dX10_levy_27 rfl (lv_at hl 2 rfl) ?_
    refine ti_iald (ci := 10) (k := 38) (n := 23) C hw ob_60 (by decide) (fun _ _ => rfl) (by unfold vp_in; decide) dX10_levy_28 ?_
    refine lv_topi (fun x_5 ex_5 => ?_)
    have yx_5 : tY M 60 38 1 = x_5 := ((congrArg _ (by decide)).symm.trans ex_5.symm)
    have bx_5 : 0 ≤ x_5.toInt ∧ x_5.toInt ≤ 8 := mI_ry (k := 38) (i := 1) hI yx_5.symm
    have zx_5 : (tY M 60 38 1).toInt = x_5.toInt := by rw [yx_5]
    refine sb_icmp_ge (tgt := 39) hx hb rfl rfl dX10_levy_29 (by decide) (fun c_29_5 => ?_) (fun c_29_5 => ?_)
    · exact hQ _ _ _ _ _ hw (⟨fR.refl, hI, qw.refl, rfl⟩) dX10_levy_39
    · refine lv_aload_n hx hb dX10_levy_32 rfl (lv_at hl 1 rfl) ?_
      refine ti_get (ci := 10) (k := 53) (N := 67) (T := TX10) C hw iw_10 rfl ob_60 (by decide) (by decide) fl_X10_120 rfl rfl dX10_levy_33 ?_
      refine lv_topi (fun x_7 ex_7 => ?_)
      refine sb_if_ne (tgt := 40) hx hb rfl dX10_levy_36 (by decide) (fun c_36_7 => ?_) (fun c_36_7 => ?_)
      · refine lv_bipush (v := 8) hx hb dX10_levy_40 (by decide) ?_
        refine lv_iload_n hx hb dX10_levy_42 rfl (lv_at hl 2 rfl) ?_
        refine lv_imul hx hb dX10_levy_43 ?_
        refine ti_top (y := 8) (by decide) ?_
        refine lv_aload_n hx hb dX10_levy_44 rfl (lv_at hl 1 rfl) ?_
        refine ti_get (ci := 10) (k := 39) (N := 67) (T := TX10) (v := .ref (A 60 40)) C hw iw_10 rfl ob_60 (by decide) (by decide) fl_X10_84 rfl rfl dX10_levy_45 ?_
        refine lv_bipush (v := 8) hx hb dX10_levy_48 (by decide) ?_
        refine lv_iload_n hx hb dX10_levy_50 rfl (lv_at hl 2 rfl) ?_
        refine lv_imul hx hb dX10_levy_51 ?_
        refine ti_top (y := 8) (by decide) ?_
        refine lv_iload_n hx hb dX10_levy_52 rfl (lv_at hl 0 rfl) ?_
        refine lv_iadd hx hb dX10_levy_53 ?_
        refine lv_topi (fun x_9 ex_9 => ?_)
        have tx_9 : x_9.toInt = 8 + x_1.toInt := i_add ex_9 (by decide : (8 : Int32).toInt = 8) rfl (by omega) (by omega)
        refine ti_iald (ci := 10) (k := 39) (n := 184) C hw ob_60 (by decide) (fun _ _ => rfl) (vp_in_iff.mpr (by omega)) dX10_levy_54 ?_
        refine lv_topi (fun x_10 ex_10 => ?_)
        have yx_10 : tY M 60 39 x_9.toNatClampNeg = x_10 := (ex_10.symm)
        have bx_10 : 0 ≤ x_10.toInt ∧ x_10.toInt ≤ 7 := mI_ry (k := 39) (i := x_9.toNatClampNeg) hI yx_10.symm
        refine lv_iadd hx hb dX10_levy_55 ?_
        refine lv_topi (fun x_11 ex_11 => ?_)
        have tx_11 : x_11.toInt = 8 + x_10.toInt := i_add ex_11 (by decide : (8 : Int32).toInt = 8) rfl (by omega) (by omega)
        refine lv_istore (lv' := [(4, .int x_11), (3, .int x_1), (0, .ref (A 60 0)), (1, .int 1), (2, .int t)]) hx hb dX10_levy_56 hl (by decide) rfl (fun ls hl => ?_)
        refine lv_iconst (v := 0) hx hb dX10_levy_58 (by decide) ?_
        refine lv_istore (lv' := [(5, .int 0), (4, .int x_11), (3, .int x_1), (0, .ref (A 60 0)), (1, .int 1), (2, .int t)]) hx hb dX10_levy_59 hl (by decide) rfl (fun ls hl => ?_)
        have hl_61_18 : ∀ (n_19 : Nat) (x_12 : Int32) (M_15 : ti_M) (H : Heap) (locs : List Loc) (ls : Array Slot), (8 - x_12.toInt : Int).toNat < n_19 → (0 ≤ x_12.toInt) → (x_12.toInt ≤ 8) → (mI Tm M_15) → (qw M_15 M) → (tY M_15 60 34 = tY M 60 34) → (fR 1 M_15 M) → ti_H ti_LM D A cy H0 M_15 H locs → lv_has ls 8 [(5, .int x_12), (4, .int x_11), (3, .int x_1), (0, .ref (A 60 0)), (1, .int 1), (2, .int t)] → W p l e (ti_rm 4) s m args below meth c H locs 0 0 Q (F0 m 61 ls []) := by
          intro n_19
          induction n_19 with
          | zero => intro x_12 M_15 H locs ls hf_19; exact absurd hf_19 (Nat.not_lt_zero _)
          | succ n_19 ih_19 =>
            intro x_12 M_15 H locs ls hf_19 b_13 b_14 iM_15 f_16 f_17 f_18 hw hl
            refine lv_iload hx hb dX10_levy_61 (lv_at hl 0 rfl) ?_
            refine lv_aload_n hx hb dX10_levy_63 rfl (lv_at hl 3 rfl) ?_
            refine ti_get (ci := 10) (k := 38) (N := 67) (T := TX10) (v := .ref (A 60 39)) C hw iw_10 rfl ob_60 (by decide) (by decide) fl_X10_81 rfl rfl dX10_levy_64 ?_
            refine lv_iload_n hx hb dX10_levy_67 rfl (lv_at hl 4 rfl) ?_
            refine ti_iald (ci := 10) (k := 38) (n := 23) C hw ob_60 (by decide) (fun _ _ => rfl) (by unfold vp_in; decide) dX10_levy_68 ?_
            refine ti_top (y := x_5) ((congrArg _ (by decide)).trans ((cg f_16.2.2.1 1).trans yx_5)) ?_
            refine sb_icmp_ge (tgt := 166) hx hb rfl rfl dX10_levy_69 (by decide) (fun c_69_19 => ?_) (fun c_69_19 => ?_)
            · exact hQ _ _ _ _ _ hw (⟨f_18, iM_15, f_16, ((f_17))⟩) dX10_levy_166
            · refine lv_iload hx hb dX10_levy_72 (lv_at hl 0 rfl) ?_
              refine lv_iload_n hx hb dX10_levy_74 rfl (lv_at hl 2 rfl) ?_
              have hj_160_45 : ∀ (M_42 : ti_M) (H : Heap) (locs : List Loc) (ls : Array Slot), (mI Tm M_42) → (qw M_42 M) → (tY M_42 60 34 = tY M 60 34) → (fR 1 M_42 M) → ti_H ti_LM D A cy H0 M_42 H locs → lv_has ls 8 [(5, .int x_12), (4, .int x_11), (3, .int x_1), (0, .ref (A 60 0)), (1, .int 1), (2, .int t)] → W p l e (ti_rm 4) s m args below meth c H locs 0 0 Q (F0 m 160 ls []) := by
                intro M_42 H locs ls iM_42 f_43 f_44 f_45 hw hl
                obtain ⟨x_46, ex_46⟩ : ∃ z : Int32, z = x_12 + 1 := ⟨_, rfl⟩
                have tx_46 : x_46.toInt = x_12.toInt + 1 := i_add ex_46 rfl (by decide) (by omega) (by omega)
                refine lv_iinc (v := x_46) (lv' := [(5, .int x_46), (4, .int x_11), (3, .int x_1), (0, .ref (A 60 0)), (1, .int 1), (2, .int t)]) hx hb dX10_levy_160 hl (k := 0) rfl (by rw [ex_46]; rfl) (by decide) rfl (fun ls hl => ?_)
                refine lv_goto (tgt := 61) hx hb dX10_levy_163 (by decide) ?_
                exact ih_19 x_46 M_42 _ _ _ (by omega) (by first | omega | decide) (by first | omega | decide) iM_42 f_43 ((f_44)) f_45 hw (lv_sub hl [0, 1, 2, 3, 4, 5] rfl)
              refine sb_icmp_ne (tgt := 81) hx hb rfl rfl dX10_levy_75 (by decide) (fun c_75_20 => ?_) (fun c_75_20 => ?_)
              · refine lv_aload_n hx hb dX10_levy_81 rfl (lv_at hl 3 rfl) ?_
                refine ti_get (ci := 10) (k := 39) (N := 67) (T := TX10) (v := .ref (A 60 40)) C hw iw_10 rfl ob_60 (by decide) (by decide) fl_X10_84 rfl rfl dX10_levy_82 ?_
                refine lv_bipush (v := 8) hx hb dX10_levy_85 (by decide) ?_
                refine lv_iload_n hx hb dX10_levy_87 rfl (lv_at hl 4 rfl) ?_
                refine lv_imul hx hb dX10_levy_88 ?_
                refine ti_top (y := 8) (by decide) ?_
                refine lv_iload hx hb dX10_levy_89 (lv_at hl 0 rfl) ?_
                refine lv_iadd hx hb dX10_levy_91 ?_
                refine lv_topi (fun x_22 ex_22 => ?_)
                have tx_22 : x_22.toInt = 8 + x_12.toInt := i_add ex_22 (by decide : (8 : Int32).toInt = 8) rfl (by omega) (by omega)
                refine ti_iald (ci := 10) (k := 39) (n := 184) C hw ob_60 (by decide) (fun _ _ => rfl) (vp_in_iff.mpr (by omega)) dX10_levy_92 ?_
                refine lv_topi (fun x_23 ex_23 => ?_)
                have yx_23 : tY M_15 60 39 x_22.toNatClampNeg = x_23 := (ex_23.symm)
                have bx_23 : 0 ≤ x_23.toInt ∧ x_23.toInt ≤ 7 := mI_ry (k := 39) (i := x_22.toNatClampNeg) iM_15 yx_23.symm
                have wx_23 : tY M 60 39 x_22.toNatClampNeg = x_23 := ((cg f_16.2.2.2.1 x_22.toNatClampNeg)).symm.trans yx_23
                refine lv_istore (lv' := [(6, .int x_23), (5, .int x_12), (4, .int x_11), (3, .int x_1), (0, .ref (A 60 0)), (1, .int 1), (2, .int t)]) hx hb dX10_levy_93 hl (by decide) rfl (fun ls hl => ?_)
                refine lv_aload_n hx hb dX10_levy_95 rfl (lv_at hl 4 rfl) ?_
                refine lv_iload_n hx hb dX10_levy_96 rfl (lv_at hl 5 rfl) ?_
                refine lv_iload hx hb dX10_levy_97 (lv_at hl 0 rfl) ?_
                refine lv_iload hx hb dX10_levy_99 (lv_at hl 1 rfl) ?_
                refine lv_iload_n hx hb dX10_levy_101 rfl (lv_at hl 6 rfl) ?_
                refine ti_callVv (ci := 10) (av := [.int 1, .int x_23, .int x_12, .int t]) C hw (f_X10_calls_1 l D A cy hJ M_15 iM_15 x_23 x_12 t (by first | omega | decide) (by first | omega | decide)) ⟨ml_X10_363, ym_X10_calls, yv_X10_calls, yi_X10_calls, yc_X10_calls⟩ yd_X10_calls ob_60 (by decide) rfl rfl hl.1 (Nat.le_of_ble_eq_true rfl) ⟨by decide, by decide⟩ ⟨Nat.zero_le _, Nat.zero_le _⟩ dX10_levy_102 (fun M_25 H locs hp_25 hw => ?_)
                obtain ⟨fiM_25, hqM_25⟩ := hp_25
                obtain ⟨iM_25, q_26, q_27⟩ := hqM_25
                refine lv_aload_n hx hb dX10_levy_105 rfl (lv_at hl 4 rfl) ?_
                refine ti_get (ci := 10) (k := 43) (N := 67) (T := TX10) (v := .ref (A 60 44)) C hw iw_10 rfl ob_60 (by decide) (by decide) fl_X10_96 rfl rfl dX10_levy_106 ?_
                refine lv_bipush (v := 8) hx hb dX10_levy_109 (by decide) ?_
                refine lv_iload_n hx hb dX10_levy_111 rfl (lv_at hl 5 rfl) ?_
                refine lv_imul hx hb dX10_levy_112 ?_
                refine ti_top (y := 8) (by decide) ?_
                refine lv_iload hx hb dX10_levy_113 (lv_at hl 0 rfl) ?_
                refine lv_iadd hx hb dX10_levy_115 ?_
                refine lv_topi (fun x_28 ex_28 => ?_)
                have tx_28 : x_28.toInt = 8 + x_23.toInt := i_add ex_28 (by decide : (8 : Int32).toInt = 8) rfl (by omega) (by omega)
                refine ti_iald (ci := 10) (k := 43) (n := 184) C hw ob_60 (by decide) (fun _ _ => rfl) (vp_in_iff.mpr (by omega)) dX10_levy_116 ?_
                refine lv_topi (fun x_29 ex_29 => ?_)
                have yx_29 : tY M_25 60 43 x_28.toNatClampNeg = x_29 := (ex_29.symm)
                have wx_29 : tY M_15 60 43 x_28.toNatClampNeg = x_29 := ((cg (tY_fr q_27) x_28.toNatClampNeg)).symm.trans yx_29
                refine lv_aload_n hx hb dX10_levy_117 rfl (lv_at hl 4 rfl) ?_
                refine lv_iconst (v := 0) hx hb dX10_levy_118 (by decide) ?_
                refine lv_iconst (v := 0) hx hb dX10_levy_119 (by decide) ?_
                refine lv_bipush (v := 99) hx hb dX10_levy_120 (by decide) ?_
                refine lv_iconst (v := 1) hx hb dX10_levy_122 (by decide) ?_
                refine ti_callVi (ci := 10) (av := [.int 0, .int 0, .int 99, .int 1]) C hw (f_X10_within l D A cy hJ M_25 iM_25 (mL_lw (lk.trans (lk_of q_26.1 q_26.2.1) (lk_of f_16.1 f_16.2.1)).1 hL) 0 (by first | omega | decide) (by first | omega | decide) 0 99 1) ⟨ml_X10_367, ym_X10_within, yv_X10_within, yi_X10_within, yc_X10_within⟩ yd_X10_within ob_60 (by decide) rfl rfl hl.1 (Nat.le_of_ble_eq_true rfl) ⟨by decide, by decide⟩ ⟨Nat.zero_le _, Nat.zero_le _⟩ dX10_levy_123 (fun r_30 M_31 H locs hp_31 hw => ?_)
                obtain ⟨fiM_31, hqM_31⟩ := hp_31
                obtain ⟨iM_31, q_32, q_33⟩ := hqM_31
                refine ti_min C ml_X10_380 hl.1 (by decide) (Nat.le_of_ble_eq_true rfl) ⟨Nat.zero_le _, Nat.zero_le _⟩ dX10_levy_126 ?_
                refine lv_topi (fun x_34 ex_34 => ?_)
                have bx_34 := i_min ex_34 rfl rfl
                refine lv_istore (lv' := [(7, .int x_34), (6, .int x_23), (5, .int x_12), (4, .int x_11), (3, .int x_1), (0, .ref (A 60 0)), (1, .int 1), (2, .int t)]) hx hb dX10_levy_129 hl (by decide) rfl (fun ls hl => ?_)
                refine lv_aload_n hx hb dX10_levy_131 rfl (lv_at hl 5 rfl) ?_
                refine ti_get (ci := 10) (k := 43) (N := 67) (T := TX10) (v := .ref (A 60 44)) C hw iw_10 rfl ob_60 (by decide) (by decide) fl_X10_96 rfl rfl dX10_levy_132 ?_
                refine lv_bipush (v := 8) hx hb dX10_levy_135 (by decide) ?_
                refine lv_iload_n hx hb dX10_levy_137 rfl (lv_at hl 6 rfl) ?_
                refine lv_imul hx hb dX10_levy_138 ?_
                refine ti_top (y := 8) (by decide) ?_
                refine lv_iload hx hb dX10_levy_139 (lv_at hl 1 rfl) ?_
                refine lv_iadd hx hb dX10_levy_141 ?_
                refine lv_topi (fun x_35 ex_35 => ?_)
                have tx_35 : x_35.toInt = 8 + x_23.toInt := i_add ex_35 (by decide : (8 : Int32).toInt = 8) rfl (by omega) (by omega)
                refine lv_dup2_11 hx hb dX10_levy_142 rfl rfl ?_
                refine ti_iald (ci := 10) (k := 43) (n := 184) C hw ob_60 (by decide) (fun _ _ => rfl) (vp_in_iff.mpr (by omega)) dX10_levy_143 ?_
                refine lv_topi (fun x_36 ex_36 => ?_)
                have yx_36 : tY M_31 60 43 x_35.toNatClampNeg = x_36 := (ex_36.symm)
                have wx_36 : tY M_15 60 43 x_35.toNatClampNeg = x_36 := (((cg (tY_fr q_33) x_35.toNatClampNeg).trans (cg (tY_fr q_27) x_35.toNatClampNeg))).symm.trans yx_36
                refine lv_iload hx hb dX10_levy_144 (lv_at hl 0 rfl) ?_
                refine lv_isub hx hb dX10_levy_146 ?_
                refine lv_topi (fun x_37 ex_37 => ?_)
                refine ti_iast (ci := 10) (k := 43) (n := 184) C hw ob_60 (by decide) (fun _ _ => rfl) (vp_in_iff.mpr (by omega)) dX10_levy_147 (fun H locs hw => ?_)
                obtain ⟨M_38, hM_38⟩ : ∃ z : ti_M, z = uY M_31 60 43 (upd (tY M_31 60 43) (x_35 : Int32).toNatClampNeg x_37) := ⟨_, rfl⟩
                have hw := hw.to hM_38.symm
                have iM_38 : mI Tm M_38 := mI_up (i := x_35.toNatClampNeg) iM_31 hM_38 trivial
                refine lv_aload_n hx hb dX10_levy_148 rfl (lv_at hl 5 rfl) ?_
                refine ti_get (ci := 10) (k := 43) (N := 67) (T := TX10) (v := .ref (A 60 44)) C hw iw_10 rfl ob_60 (by decide) (by decide) fl_X10_96 rfl rfl dX10_levy_149 ?_
                refine lv_iload hx hb dX10_levy_152 (lv_at hl 3 rfl) ?_
                refine lv_dup2_11 hx hb dX10_levy_154 rfl rfl ?_
                refine ti_iald (ci := 10) (k := 43) (n := 184) C hw ob_60 (by decide) (fun _ _ => rfl) (vp_in_iff.mpr (by omega)) dX10_levy_155 ?_
                refine lv_topi (fun x_39 ex_39 => ?_)
                have yx_39 : tY M_38 60 43 x_11.toNatClampNeg = x_39 := (ex_39.symm)
                refine lv_iload hx hb dX10_levy_156 (lv_at hl 0 rfl) ?_
                refine lv_iadd hx hb dX10_levy_158 ?_
                refine lv_topi (fun x_40 ex_40 => ?_)
                refine ti_iast (ci := 10) (k := 43) (n := 184) C hw ob_60 (by decide) (fun _ _ => rfl) (vp_in_iff.mpr (by omega)) dX10_levy_159 (fun H locs hw => ?_)
                obtain ⟨M_41, hM_41⟩ : ∃ z : ti_M, z = uY M_38 60 43 (upd (tY M_38 60 43) (x_11 : Int32).toNatClampNeg x_40) := ⟨_, rfl⟩
                have hw := hw.to hM_41.symm
                have iM_41 : mI Tm M_41 := mI_up (i := x_11.toNatClampNeg) iM_38 hM_41 trivial
                exact hj_160_45 M_41 _ _ _ iM_41 (qw.trans (qw_Y hM_41 (by decide)) (qw.trans (qw_Y hM_38 (by decide)) (qw.trans q_32 (qw.trans q_26 f_16)))) (((tY_nE hM_41 (nk (by decide))).trans ((tY_nE hM_38 (nk (by decide))).trans ((tY_fr q_33).trans ((tY_fr q_27).trans f_17))))) (fR.trans (fR_Y hM_41 (bk_m (z := x_11) (by omega) (by decide))) (fR.trans (fR_Y hM_38 (bk_m (z := x_35) (by omega) (by decide))) (fR.trans (fR_of q_32.2.1 fiM_31 q_33) (fR.trans (fR_of q_26.2.1 fiM_25 q_27) f_18)))) hw (lv_sub hl [2, 3, 4, 5, 6, 7] rfl)
              · refine lv_goto (tgt := 160) hx hb dX10_levy_78 (by decide) ?_
                exact hj_160_45 M_15 _ _ _ iM_15 f_16 ((f_17)) f_18 hw (lv_sub hl [0, 1, 2, 3, 4, 5] rfl)
        exact hl_61_18 ((8 - 0 : Int).toNat + 1) 0 M _ _ _ (Nat.lt_succ_self _) (by have lt0 : (0 : Int32).toInt = 0 := (by decide); first | omega | decide) (by have lt0 : (0 : Int32).toInt = 0 := (by decide); first | omega | decide) hI qw.refl rfl fR.refl hw (lv_sub hl [0, 1, 2, 3, 4, 5] rfl)
      · exact hQ _ _ _ _ _ hw (⟨fR.refl, hI, qw.refl, rfl⟩) dX10_levy_39
set_option maxHeartbeats 4000000 in
set_option maxRecDepth 100000 in
theorem f_X10_wear_1 (l : Launch) (D : va_G) (A : Nat → Nat → Nat) (cy : Nat → ClassId) (hJ : ti_inj ti_LM A) (M : ti_M) (hI : mI Tm M) (hL : mL M) (t : Int32) : ti_Kv l yX10_wear cX10_wear 6 4 ti_LM D A cy M [.ref (A 60 0), .int 1, .int t] (fun M2 => fR 1 M2 M ∧ mI Tm M2 ∧ qw M2 M ∧ tY M2 60 34 = tY M 60 34) := by
  refine ti_eV yp_X10_wear hJ ti_LM_nd (Nat.le_of_ble_eq_true rfl) ?_
  intro p e s m args below meth c Q H0 C hQ hw ls hl
  have hx := C.1
  have hb := C.2.1
  have hl : lv_has ls 6 [(0, .ref (A 60 0)), (1, .int 1), (2, .int t)] := hl
  refine lv_iconst (v := 0) hx hb dX10_wear_0 (by decide) ?_
  refine lv_istore_n (lv' := [(3, .int 0), (0, .ref (A 60 0)), (1, .int 1), (2, .int t)]) hx hb dX10_wear_1 rfl hl (by decide) rfl (fun ls hl => ?_)
  have hl_2_7 : ∀ (n_8 : Nat) (x_1 : Int32) (M_4 : ti_M) (H : Heap) (locs : List Loc) (ls : Array Slot), (8 - x_1.toInt : Int).toNat < n_8 → (0 ≤ x_1.toInt) → (x_1.toInt ≤ 8) → (mI Tm M_4) → (qw M_4 M) → (tY M_4 60 34 = tY M 60 34) → (fR 1 M_4 M) → ti_H ti_LM D A cy H0 M_4 H locs → lv_has ls 6 [(3, .int x_1), (0, .ref (A 60 0)), (1, .int 1), (2, .int t)] → W p l e (ti_rm 4) s m args below meth c H locs 0 0 Q (F0 m 2 ls []) := by
    intro n_8
    induction n_8 with
    | zero => intro x_1 M_4 H locs ls hf_8; exact absurd hf_8 (Nat.not_lt_zero _)
    | succ n_8 ih_8 =>
      intro x_1 M_4 H locs ls hf_8 b_2 b_3 iM_4 f_5 f_6 f_7 hw hl
      refine lv_iload_n hx hb dX10_wear_2 rfl (lv_at hl 0 rfl) ?_
      refine lv_aload_n hx hb dX10_wear_3 rfl (lv_at hl 1 rfl) ?_
      refine ti_get (ci := 10) (k := 38) (N := 67) (T := TX10) (v := .ref (A 60 39)) C hw iw_10 rfl ob_60 (by decide) (by decide) fl_X10_81 rfl rfl dX10_wear_4 ?_
      refine lv_iload_n hx hb dX10_wear_7 rfl (lv_at hl 2 rfl) ?_
      refine ti_iald (ci := 10) (k := 38) (n := 23) C hw ob_60 (by decide) (fun _ _ => rfl) (by unfold vp_in; decide) dX10_wear_8 ?_
      refine lv_topi (fun x_9 ex_9 => ?_)
      have yx_9 : tY M_4 60 38 1 = x_9 := ((congrArg _ (by decide)).symm.trans ex_9.symm)
      have bx_9 : 0 ≤ x_9.toInt ∧ x_9.toInt ≤ 8 := mI_ry (k := 38) (i := 1) iM_4 yx_9.symm
      have zx_9 : (tY M_4 60 38 1).toInt = x_9.toInt := by rw [yx_9]
      have wx_9 : tY M 60 38 1 = x_9 := ((cg f_5.2.2.1 1)).symm.trans yx_9
      have zwx_9 : (tY M 60 38 1).toInt = x_9.toInt := by rw [wx_9]
      refine sb_icmp_ge (tgt := 104) hx hb rfl rfl dX10_wear_9 (by decide) (fun c_9_9 => ?_) (fun c_9_9 => ?_)
      · exact hQ _ _ _ _ _ hw (⟨f_7, iM_4, f_5, ((f_6))⟩) dX10_wear_104
      · refine lv_aload_n hx hb dX10_wear_12 rfl (lv_at hl 1 rfl) ?_
        refine ti_get (ci := 10) (k := 39) (N := 67) (T := TX10) (v := .ref (A 60 40)) C hw iw_10 rfl ob_60 (by decide) (by decide) fl_X10_84 rfl rfl dX10_wear_13 ?_
        refine lv_bipush (v := 8) hx hb dX10_wear_16 (by decide) ?_
        refine lv_iload_n hx hb dX10_wear_18 rfl (lv_at hl 2 rfl) ?_
        refine lv_imul hx hb dX10_wear_19 ?_
        refine ti_top (y := 8) (by decide) ?_
        refine lv_iload_n hx hb dX10_wear_20 rfl (lv_at hl 0 rfl) ?_
        refine lv_iadd hx hb dX10_wear_21 ?_
        refine lv_topi (fun x_11 ex_11 => ?_)
        have tx_11 : x_11.toInt = 8 + x_1.toInt := i_add ex_11 (by decide : (8 : Int32).toInt = 8) rfl (by omega) (by omega)
        refine ti_iald (ci := 10) (k := 39) (n := 184) C hw ob_60 (by decide) (fun _ _ => rfl) (vp_in_iff.mpr (by omega)) dX10_wear_22 ?_
        refine lv_topi (fun x_12 ex_12 => ?_)
        have yx_12 : tY M_4 60 39 x_11.toNatClampNeg = x_12 := (ex_12.symm)
        have bx_12 : 0 ≤ x_12.toInt ∧ x_12.toInt ≤ 7 := mI_ry (k := 39) (i := x_11.toNatClampNeg) iM_4 yx_12.symm
        have wx_12 : tY M 60 39 x_11.toNatClampNeg = x_12 := ((cg f_5.2.2.2.1 x_11.toNatClampNeg)).symm.trans yx_12
        refine lv_istore (lv' := [(4, .int x_12), (3, .int x_1), (0, .ref (A 60 0)), (1, .int 1), (2, .int t)]) hx hb dX10_wear_23 hl (by decide) rfl (fun ls hl => ?_)
        refine lv_bipush (v := 8) hx hb dX10_wear_25 (by decide) ?_
        refine lv_iload_n hx hb dX10_wear_27 rfl (lv_at hl 3 rfl) ?_
        refine lv_imul hx hb dX10_wear_28 ?_
        refine ti_top (y := 8) (by decide) ?_
        refine lv_iload hx hb dX10_wear_29 (lv_at hl 0 rfl) ?_
        refine lv_iadd hx hb dX10_wear_31 ?_
        refine lv_topi (fun x_13 ex_13 => ?_)
        have tx_13 : x_13.toInt = 8 + x_12.toInt := i_add ex_13 (by decide : (8 : Int32).toInt = 8) rfl (by omega) (by omega)
        refine lv_istore (lv' := [(5, .int x_13), (4, .int x_12), (3, .int x_1), (0, .ref (A 60 0)), (1, .int 1), (2, .int t)]) hx hb dX10_wear_32 hl (by decide) rfl (fun ls hl => ?_)
        refine lv_aload_n hx hb dX10_wear_34 rfl (lv_at hl 3 rfl) ?_
        refine ti_get (ci := 10) (k := 47) (N := 67) (T := TX10) (v := .ref (A 60 48)) C hw iw_10 rfl ob_60 (by decide) (by decide) fl_X10_108 rfl rfl dX10_wear_35 ?_
        refine lv_iload hx hb dX10_wear_38 (lv_at hl 0 rfl) ?_
        refine ti_iald (ci := 10) (k := 47) (n := 184) C hw ob_60 (by decide) (fun _ _ => rfl) (vp_in_iff.mpr (by omega)) dX10_wear_40 ?_
        refine lv_topi (fun x_14 ex_14 => ?_)
        have yx_14 : tY M_4 60 47 x_13.toNatClampNeg = x_14 := (ex_14.symm)
        have hj_98_35 : ∀ (M_32 : ti_M) (H : Heap) (locs : List Loc) (ls : Array Slot), (mI Tm M_32) → (qw M_32 M) → (tY M_32 60 34 = tY M 60 34) → (fR 1 M_32 M) → ti_H ti_LM D A cy H0 M_32 H locs → lv_has ls 6 [(5, .int x_13), (4, .int x_12), (3, .int x_1), (0, .ref (A 60 0)), (1, .int 1), (2, .int t)] → W p l e (ti_rm 4) s m args below meth c H locs 0 0 Q (F0 m 98 ls []) := by
          intro M_32 H locs ls iM_32 f_33 f_34 f_35 hw hl
          obtain ⟨x_36, ex_36⟩ : ∃ z : Int32, z = x_1 + 1 := ⟨_, rfl⟩
          have tx_36 : x_36.toInt = x_1.toInt + 1 := i_add ex_36 rfl (by decide) (by omega) (by omega)
          refine lv_iinc (v := x_36) (lv' := [(3, .int x_36), (5, .int x_13), (4, .int x_12), (0, .ref (A 60 0)), (1, .int 1), (2, .int t)]) hx hb dX10_wear_98 hl (k := 2) rfl (by rw [ex_36]; rfl) (by decide) rfl (fun ls hl => ?_)
          refine lv_goto (tgt := 2) hx hb dX10_wear_101 (by decide) ?_
          exact ih_8 x_36 M_32 _ _ _ (by omega) (by first | omega | decide) (by first | omega | decide) iM_32 f_33 ((f_34)) f_35 hw (lv_sub hl [0, 3, 4, 5] rfl)
        refine sb_if_le (tgt := 58) hx hb rfl dX10_wear_41 (by decide) (fun c_41_14 => ?_) (fun c_41_14 => ?_)
        · refine lv_iload_n hx hb dX10_wear_58 rfl (lv_at hl 2 rfl) ?_
          refine sb_if_le (tgt := 98) hx hb rfl dX10_wear_59 (by decide) (fun c_59_17 => ?_) (fun c_59_17 => ?_)
          · exact hj_98_35 M_4 _ _ _ iM_4 f_5 ((f_6)) f_7 hw (lv_sub hl [0, 1, 2, 3, 4, 5] rfl)
          · refine lv_aload_n hx hb dX10_wear_62 rfl (lv_at hl 3 rfl) ?_
            refine ti_get (ci := 10) (k := 53) (N := 67) (T := TX10) C hw iw_10 rfl ob_60 (by decide) (by decide) fl_X10_120 rfl rfl dX10_wear_63 ?_
            refine lv_topi (fun x_19 ex_19 => ?_)
            refine lv_iconst (v := 1) hx hb dX10_wear_66 (by decide) ?_
            refine sb_icmp_eq (tgt := 98) hx hb rfl (by decide : (1 : Int32).toInt = 1) dX10_wear_67 (by decide) (fun c_67_19 => ?_) (fun c_67_19 => ?_)
            · exact hj_98_35 M_4 _ _ _ iM_4 f_5 ((f_6)) f_7 hw (lv_sub hl [0, 1, 2, 3, 4, 5] rfl)
            · refine lv_aload_n hx hb dX10_wear_70 rfl (lv_at hl 3 rfl) ?_
              refine lv_iload_n hx hb dX10_wear_71 rfl (lv_at hl 4 rfl) ?_
              refine lv_iload hx hb dX10_wear_72 (lv_at hl 1 rfl) ?_
              refine lv_iload_n hx hb dX10_wear_74 rfl (lv_at hl 2 rfl) ?_
              refine lv_iload_n hx hb dX10_wear_75 rfl (lv_at hl 5 rfl) ?_
              refine ti_callVv (ci := 10) (av := [.int 1, .int x_12, .int x_1, .int t]) C hw (f_X10_calls_1 l D A cy hJ M_4 iM_4 x_12 x_1 t (by first | omega | decide) (by first | omega | decide)) ⟨ml_X10_363, ym_X10_calls, yv_X10_calls, yi_X10_calls, yc_X10_calls⟩ yd_X10_calls ob_60 (by decide) rfl rfl hl.1 (Nat.le_of_ble_eq_true rfl) ⟨by decide, by decide⟩ ⟨Nat.zero_le _, Nat.zero_le _⟩ dX10_wear_76 (fun M_22 H locs hp_22 hw => ?_)
              obtain ⟨fiM_22, hqM_22⟩ := hp_22
              obtain ⟨iM_22, q_23, q_24⟩ := hqM_22
              refine lv_aload_n hx hb dX10_wear_79 rfl (lv_at hl 3 rfl) ?_
              refine ti_get (ci := 10) (k := 41) (N := 67) (T := TX10) (v := .ref (A 60 42)) C hw iw_10 rfl ob_60 (by decide) (by decide) fl_X10_90 rfl rfl dX10_wear_80 ?_
              refine lv_iload hx hb dX10_wear_83 (lv_at hl 0 rfl) ?_
              refine lv_dup2_11 hx hb dX10_wear_85 rfl rfl ?_
              refine ti_iald (ci := 10) (k := 41) (n := 184) C hw ob_60 (by decide) (fun _ _ => rfl) (vp_in_iff.mpr (by omega)) dX10_wear_86 ?_
              refine lv_topi (fun x_25 ex_25 => ?_)
              have yx_25 : tY M_22 60 41 x_13.toNatClampNeg = x_25 := (ex_25.symm)
              have wx_25 : tY M_4 60 41 x_13.toNatClampNeg = x_25 := ((cg (tY_fr q_24) x_13.toNatClampNeg)).symm.trans yx_25
              refine lv_aload_n hx hb dX10_wear_87 rfl (lv_at hl 3 rfl) ?_
              refine lv_iconst (v := 1) hx hb dX10_wear_88 (by decide) ?_
              refine lv_iconst (v := 0) hx hb dX10_wear_89 (by decide) ?_
              refine lv_bipush (v := 9) hx hb dX10_wear_90 (by decide) ?_
              refine lv_iconst (v := 1) hx hb dX10_wear_92 (by decide) ?_
              refine ti_callVi (ci := 10) (av := [.int 1, .int 0, .int 9, .int 1]) C hw (f_X10_within l D A cy hJ M_22 iM_22 (mL_lw (lk.trans (lk_of q_23.1 q_23.2.1) (lk_of f_5.1 f_5.2.1)).1 hL) 1 (by first | omega | decide) (by first | omega | decide) 0 9 1) ⟨ml_X10_367, ym_X10_within, yv_X10_within, yi_X10_within, yc_X10_within⟩ yd_X10_within ob_60 (by decide) rfl rfl hl.1 (Nat.le_of_ble_eq_true rfl) ⟨by decide, by decide⟩ ⟨Nat.zero_le _, Nat.zero_le _⟩ dX10_wear_93 (fun r_26 M_27 H locs hp_27 hw => ?_)
              obtain ⟨fiM_27, hqM_27⟩ := hp_27
              obtain ⟨iM_27, q_28, q_29⟩ := hqM_27
              refine lv_isub hx hb dX10_wear_96 ?_
              refine lv_topi (fun x_30 ex_30 => ?_)
              refine ti_iast (ci := 10) (k := 41) (n := 184) C hw ob_60 (by decide) (fun _ _ => rfl) (vp_in_iff.mpr (by omega)) dX10_wear_97 (fun H locs hw => ?_)
              obtain ⟨M_31, hM_31⟩ : ∃ z : ti_M, z = uY M_27 60 41 (upd (tY M_27 60 41) (x_13 : Int32).toNatClampNeg x_30) := ⟨_, rfl⟩
              have hw := hw.to hM_31.symm
              have iM_31 : mI Tm M_31 := mI_up (i := x_13.toNatClampNeg) iM_27 hM_31 trivial
              exact hj_98_35 M_31 _ _ _ iM_31 (qw.trans (qw_Y hM_31 (by decide)) (qw.trans q_28 (qw.trans q_23 f_5))) (((tY_nE hM_31 (nk (by decide))).trans ((tY_fr q_29).trans ((tY_fr q_24).trans f_6)))) (fR.trans (fR_Y hM_31 (bk_m (z := x_13) (by omega) (by decide))) (fR.trans (fR_of q_28.2.1 fiM_27 q_29) (fR.trans (fR_of q_23.2.1 fiM_22 q_24) f_7))) hw (lv_sub hl [0, 1, 2, 3, 4, 5] rfl)
        · refine lv_aload_n hx hb dX10_wear_44 rfl (lv_at hl 3 rfl) ?_
          refine ti_get (ci := 10) (k := 47) (N := 67) (T := TX10) (v := .ref (A 60 48)) C hw iw_10 rfl ob_60 (by decide) (by decide) fl_X10_108 rfl rfl dX10_wear_45 ?_
          refine lv_iload hx hb dX10_wear_48 (lv_at hl 0 rfl) ?_
          refine lv_dup2_11 hx hb dX10_wear_50 rfl rfl ?_
          refine ti_iald (ci := 10) (k := 47) (n := 184) C hw ob_60 (by decide) (fun _ _ => rfl) (vp_in_iff.mpr (by omega)) dX10_wear_51 ?_
          refine ti_top (y := x_14) ((yx_14)) ?_
          refine lv_iconst (v := 1) hx hb dX10_wear_52 (by decide) ?_
          refine lv_isub hx hb dX10_wear_53 ?_
          refine lv_topi (fun x_16 ex_16 => ?_)
          refine ti_iast (ci := 10) (k := 47) (n := 184) C hw ob_60 (by decide) (fun _ _ => rfl) (vp_in_iff.mpr (by omega)) dX10_wear_54 (fun H locs hw => ?_)
          obtain ⟨M_17, hM_17⟩ : ∃ z : ti_M, z = uY M_4 60 47 (upd (tY M_4 60 47) (x_13 : Int32).toNatClampNeg x_16) := ⟨_, rfl⟩
          have hw := hw.to hM_17.symm
          have iM_17 : mI Tm M_17 := mI_up (i := x_13.toNatClampNeg) iM_4 hM_17 trivial
          refine lv_goto (tgt := 98) hx hb dX10_wear_55 (by decide) ?_
          exact hj_98_35 M_17 _ _ _ iM_17 (qw.trans (qw_Y hM_17 (by decide)) f_5) (((tY_nE hM_17 (nk (by decide))).trans f_6)) (fR.trans (fR_Y hM_17 (bk_m (z := x_13) (by omega) (by decide))) f_7) hw (lv_sub hl [0, 1, 2, 3, 4, 5] rfl)
  exact hl_2_7 ((8 - 0 : Int).toNat + 1) 0 M _ _ _ (Nat.lt_succ_self _) (by have lt0 : (0 : Int32).toInt = 0 := (by decide); first | omega | decide) (by have lt0 : (0 : Int32).toInt = 0 := (by decide); first | omega | decide) hI qw.refl rfl fR.refl hw (lv_sub hl [0, 1, 2, 3] rfl)
set_option maxHeartbeats 4000000 in
set_option maxRecDepth 100000 in
theorem f_X10_joins_1 (l : Launch) (D : va_G) (A : Nat → Nat → Nat) (cy : Nat → ClassId) (hJ : ti_inj ti_LM A) (M : ti_M) (hI : mI Tm M) (hC : mC M 1) (a t : Int32) (h1 : 0 ≤ a.toInt) (h2 : a.toInt ≤ 7) (h0 : ∀ i : Nat, (i : Int) = 8 + a.toInt → (tY M 60 40 i).toInt = 0) : ti_Kv l yX10_joins cX10_joins 4 0 ti_LM D A cy M [.ref (A 60 0), .int 1, .int a, .int t] (fun M2 => fR 1 M2 M ∧ mI Tm M2 ∧ rq 1 M2 M ∧ mC M2 1 ∧ tY M2 60 34 = tY M 60 34 ∧ zc (tY M2 60 40) 8 < zc (tY M 60 40) 8) := by
  refine ti_eV yp_X10_joins hJ ti_LM_nd (Nat.le_of_ble_eq_true rfl) ?_
  intro p e s m args below meth c Q H0 C hQ hw ls hl
  have hx := C.1
  have hb := C.2.1
  have hl : lv_has ls 4 [(0, .ref (A 60 0)), (1, .int 1), (2, .int a), (3, .int t)] := hl
  have m7 := mC_7 (i := (8 + a.toInt).toNat) hC (h0 _ (by omega)) (by omega) (by omega)
  refine lv_aload_n hx hb dX10_joins_0 rfl (lv_at hl 0 rfl) ?_
  refine ti_get (ci := 10) (k := 39) (N := 67) (T := TX10) (v := .ref (A 60 40)) C hw iw_10 rfl ob_60 (by decide) (by decide) fl_X10_84 rfl rfl dX10_joins_1 ?_
  refine lv_bipush (v := 8) hx hb dX10_joins_4 (by decide) ?_
  refine lv_iload_n hx hb dX10_joins_6 rfl (lv_at hl 1 rfl) ?_
  refine lv_imul hx hb dX10_joins_7 ?_
  refine ti_top (y := 8) (by decide) ?_
  refine lv_aload_n hx hb dX10_joins_8 rfl (lv_at hl 0 rfl) ?_
  refine ti_get (ci := 10) (k := 38) (N := 67) (T := TX10) (v := .ref (A 60 39)) C hw iw_10 rfl ob_60 (by decide) (by decide) fl_X10_81 rfl rfl dX10_joins_9 ?_
  refine lv_iload_n hx hb dX10_joins_12 rfl (lv_at hl 1 rfl) ?_
  refine ti_iald (ci := 10) (k := 38) (n := 23) C hw ob_60 (by decide) (fun _ _ => rfl) (by unfold vp_in; decide) dX10_joins_13 ?_
  refine lv_topi (fun x_1 ex_1 => ?_)
  have yx_1 : tY M 60 38 1 = x_1 := ((congrArg _ (by decide)).symm.trans ex_1.symm)
  have bx_1 : 0 ≤ x_1.toInt ∧ x_1.toInt ≤ 8 := mI_ry (k := 38) (i := 1) hI yx_1.symm
  have zx_1 : (tY M 60 38 1).toInt = x_1.toInt := by rw [yx_1]
  refine lv_iadd hx hb dX10_joins_14 ?_
  refine lv_topi (fun x_2 ex_2 => ?_)
  have tx_2 : x_2.toInt = 8 + x_1.toInt := i_add ex_2 (by decide : (8 : Int32).toInt = 8) rfl (by omega) (by omega)
  refine lv_iload_n hx hb dX10_joins_15 rfl (lv_at hl 2 rfl) ?_
  refine ti_iast (ci := 10) (k := 39) (n := 184) C hw ob_60 (by decide) (fun _ _ => rfl) (vp_in_iff.mpr (by omega)) dX10_joins_16 (fun H locs hw => ?_)
  obtain ⟨M_3, hM_3⟩ : ∃ z : ti_M, z = uY M 60 39 (upd (tY M 60 39) (x_2 : Int32).toNatClampNeg a) := ⟨_, rfl⟩
  have hw := hw.to hM_3.symm
  have iM_3 : mI Tm M_3 := mI_up (i := x_2.toNatClampNeg) hI hM_3 (ib_mk (lo := 0) (hi := 7) (by omega) (by omega))
  refine lv_aload_n hx hb dX10_joins_17 rfl (lv_at hl 0 rfl) ?_
  refine ti_get (ci := 10) (k := 38) (N := 67) (T := TX10) (v := .ref (A 60 39)) C hw iw_10 rfl ob_60 (by decide) (by decide) fl_X10_81 rfl rfl dX10_joins_18 ?_
  refine lv_iload_n hx hb dX10_joins_21 rfl (lv_at hl 1 rfl) ?_
  refine lv_dup2_11 hx hb dX10_joins_22 rfl rfl ?_
  refine ti_iald (ci := 10) (k := 38) (n := 23) C hw ob_60 (by decide) (fun _ _ => rfl) (by unfold vp_in; decide) dX10_joins_23 ?_
  refine ti_top (y := x_1) ((congrArg _ (by decide)).trans ((cg (tY_nE hM_3 (nk (by decide))) 1).trans yx_1)) ?_
  refine lv_iconst (v := 1) hx hb dX10_joins_24 (by decide) ?_
  refine lv_iadd hx hb dX10_joins_25 ?_
  refine lv_topi (fun x_4 ex_4 => ?_)
  have tx_4 : x_4.toInt = x_1.toInt + 1 := i_add ex_4 rfl (by decide : (1 : Int32).toInt = 1) (by omega) (by omega)
  refine ti_iast (ci := 10) (k := 38) (n := 23) C hw ob_60 (by decide) (fun _ _ => rfl) (by unfold vp_in; decide) dX10_joins_26 (fun H locs hw => ?_)
  obtain ⟨M_5, hM_5⟩ : ∃ z : ti_M, z = uY M_3 60 38 (upd (tY M_3 60 38) (1 : Int32).toNatClampNeg x_4) := ⟨_, rfl⟩
  have hw := hw.to hM_5.symm
  have iM_5 : mI Tm M_5 := mI_up (i := 1) iM_3 hM_5 (ib_mk (lo := 0) (hi := 8) (by omega) (by omega))
  refine lv_aload_n hx hb dX10_joins_27 rfl (lv_at hl 0 rfl) ?_
  refine ti_get (ci := 10) (k := 40) (N := 67) (T := TX10) (v := .ref (A 60 41)) C hw iw_10 rfl ob_60 (by decide) (by decide) fl_X10_87 rfl rfl dX10_joins_28 ?_
  refine lv_bipush (v := 8) hx hb dX10_joins_31 (by decide) ?_
  refine lv_iload_n hx hb dX10_joins_33 rfl (lv_at hl 1 rfl) ?_
  refine lv_imul hx hb dX10_joins_34 ?_
  refine ti_top (y := 8) (by decide) ?_
  refine lv_iload_n hx hb dX10_joins_35 rfl (lv_at hl 2 rfl) ?_
  refine lv_iadd hx hb dX10_joins_36 ?_
  refine lv_topi (fun x_6 ex_6 => ?_)
  have tx_6 : x_6.toInt = 8 + a.toInt := i_add ex_6 (by decide : (8 : Int32).toInt = 8) rfl (by omega) (by omega)
  refine lv_iconst (v := 1) hx hb dX10_joins_37 (by decide) ?_
  refine ti_iast (ci := 10) (k := 40) (n := 184) C hw ob_60 (by decide) (fun _ _ => rfl) (vp_in_iff.mpr (by omega)) dX10_joins_38 (fun H locs hw => ?_)
  obtain ⟨M_7, hM_7⟩ : ∃ z : ti_M, z = uY M_5 60 40 (upd (tY M_5 60 40) (x_6 : Int32).toNatClampNeg 1) := ⟨_, rfl⟩
  have hw := hw.to hM_7.symm
  have iM_7 : mI Tm M_7 := mI_up (i := x_6.toNatClampNeg) iM_5 hM_7 trivial
  refine lv_aload_n hx hb dX10_joins_39 rfl (lv_at hl 0 rfl) ?_
  refine ti_get (ci := 10) (k := 45) (N := 67) (T := TX10) (v := .ref (A 60 46)) C hw iw_10 rfl ob_60 (by decide) (by decide) fl_X10_102 rfl rfl dX10_joins_40 ?_
  refine lv_bipush (v := 8) hx hb dX10_joins_43 (by decide) ?_
  refine lv_iload_n hx hb dX10_joins_45 rfl (lv_at hl 1 rfl) ?_
  refine lv_imul hx hb dX10_joins_46 ?_
  refine ti_top (y := 8) (by decide) ?_
  refine lv_iload_n hx hb dX10_joins_47 rfl (lv_at hl 2 rfl) ?_
  refine lv_iadd hx hb dX10_joins_48 ?_
  refine lv_topi (fun x_8 ex_8 => ?_)
  have tx_8 : x_8.toInt = 8 + a.toInt := i_add ex_8 (by decide : (8 : Int32).toInt = 8) rfl (by omega) (by omega)
  refine lv_iload_n hx hb dX10_joins_49 rfl (lv_at hl 3 rfl) ?_
  refine ti_iast (ci := 10) (k := 45) (n := 184) C hw ob_60 (by decide) (fun _ _ => rfl) (vp_in_iff.mpr (by omega)) dX10_joins_50 (fun H locs hw => ?_)
  obtain ⟨M_9, hM_9⟩ : ∃ z : ti_M, z = uY M_7 60 45 (upd (tY M_7 60 45) (x_8 : Int32).toNatClampNeg t) := ⟨_, rfl⟩
  have hw := hw.to hM_9.symm
  have iM_9 : mI Tm M_9 := mI_up (i := x_8.toNatClampNeg) iM_7 hM_9 trivial
  have jj := q_join (mn := a.toInt.toNat) hI hC (by rw [tY_nE (o2 := 60) (k2 := 38) hM_9 (nk (by decide)), tY_nE (o2 := 60) (k2 := 38) hM_7 (nk (by decide)), tY_uE hM_5, tY_nE (o2 := 60) (k2 := 38) hM_3 (nk (by decide))] : tY M_9 60 38 = upd (tY M 60 38) (1 : Int32).toNatClampNeg x_4) (by rw [tY_nE (o2 := 60) (k2 := 39) hM_9 (nk (by decide)), tY_nE (o2 := 60) (k2 := 39) hM_7 (nk (by decide)), tY_nE (o2 := 60) (k2 := 39) hM_5 (nk (by decide)), tY_uE hM_3] : tY M_9 60 39 = upd (tY M 60 39) (x_2 : Int32).toNatClampNeg a) (by rw [tY_nE (o2 := 60) (k2 := 40) hM_9 (nk (by decide)), tY_uE hM_7, tY_nE (o2 := 60) (k2 := 40) hM_5 (nk (by decide)), tY_nE (o2 := 60) (k2 := 40) hM_3 (nk (by decide))] : tY M_9 60 40 = upd (tY M 60 40) (x_6 : Int32).toNatClampNeg 1) (lk.trans (lk_Y hM_9 (by decide)) (lk.trans (lk_Y hM_7 (by decide)) (lk.trans (lk_Y hM_5 (by decide)) (lk_Y hM_3 (by decide))))) (by decide) (by omega) (by show ((x_2.toInt.toNat : Nat) : Int) = _; omega) (by omega) (by show x_6.toInt.toNat = _; omega) (by omega) (by decide) (h0 _ (by show ((x_6.toInt.toNat : Nat) : Int) = _; omega))
  exact hQ _ _ _ _ _ hw (⟨(fR.trans (fR_Y hM_9 (bk_m (z := x_8) (by omega) (by decide))) (fR.trans (fR_Y hM_7 (bk_m (z := x_6) (by omega) (by decide))) (fR.trans (fR_Y hM_5 (bk_q (z := 1) (by decide) (by decide))) (fR_Y hM_3 (bk_m (z := x_2) (by omega) (by decide)))))), iM_9, jj.1, jj.2.1, (((tY_nE hM_9 (nk (by decide))).trans ((tY_nE hM_7 (nk (by decide))).trans ((tY_nE hM_5 (nk (by decide))).trans (tY_nE hM_3 (nk (by decide))))))), jj.2.2⟩) dX10_joins_51
set_option maxHeartbeats 4000000 in
set_option maxRecDepth 100000 in
theorem f_X10_leaves_1 (l : Launch) (D : va_G) (A : Nat → Nat → Nat) (cy : Nat → ClassId) (hJ : ti_inj ti_LM A) (M : ti_M) (hI : mI Tm M) (hC : mC M 1) (pl ho t : Int32) (h1 : 0 ≤ pl.toInt) (h2 : pl.toInt < (tY M 60 38 1).toInt) (h3 : 2 ≤ ho.toInt) : ti_Kv l yX10_leaves cX10_leaves 8 0 ti_LM D A cy M [.ref (A 60 0), .int 1, .int pl, .int ho, .int t] (fun M2 => fR 1 M2 M ∧ mI Tm M2 ∧ rq 1 M2 M ∧ mC M2 1 ∧ tY M2 60 34 = tY M 60 34 ∧ (tY M2 60 38 1).toInt = (tY M 60 38 1).toInt - 1) := by
  refine ti_eV yp_X10_leaves hJ ti_LM_nd (Nat.le_of_ble_eq_true rfl) ?_
  intro p e s m args below meth c Q H0 C hQ hw ls hl
  have hx := C.1
  have hb := C.2.1
  have hl : lv_has ls 8 [(0, .ref (A 60 0)), (1, .int 1), (2, .int pl), (3, .int ho), (4, .int t)] := hl
  have h7 : 0 ≤ (tY M 60 38 1).toInt ∧ (tY M 60 38 1).toInt ≤ 8 := hI.2.1 38 _
  refine lv_aload_n hx hb dX10_leaves_0 rfl (lv_at hl 0 rfl) ?_
  refine ti_get (ci := 10) (k := 39) (N := 67) (T := TX10) (v := .ref (A 60 40)) C hw iw_10 rfl ob_60 (by decide) (by decide) fl_X10_84 rfl rfl dX10_leaves_1 ?_
  refine lv_bipush (v := 8) hx hb dX10_leaves_4 (by decide) ?_
  refine lv_iload_n hx hb dX10_leaves_6 rfl (lv_at hl 1 rfl) ?_
  refine lv_imul hx hb dX10_leaves_7 ?_
  refine ti_top (y := 8) (by decide) ?_
  refine lv_iload_n hx hb dX10_leaves_8 rfl (lv_at hl 2 rfl) ?_
  refine lv_iadd hx hb dX10_leaves_9 ?_
  refine lv_topi (fun x_1 ex_1 => ?_)
  have tx_1 : x_1.toInt = 8 + pl.toInt := i_add ex_1 (by decide : (8 : Int32).toInt = 8) rfl (by omega) (by omega)
  refine ti_iald (ci := 10) (k := 39) (n := 184) C hw ob_60 (by decide) (fun _ _ => rfl) (vp_in_iff.mpr (by omega)) dX10_leaves_10 ?_
  refine lv_topi (fun x_2 ex_2 => ?_)
  have yx_2 : tY M 60 39 x_1.toNatClampNeg = x_2 := (ex_2.symm)
  have bx_2 : 0 ≤ x_2.toInt ∧ x_2.toInt ≤ 7 := mI_ry (k := 39) (i := x_1.toNatClampNeg) hI yx_2.symm
  refine lv_istore (lv' := [(5, .int x_2), (0, .ref (A 60 0)), (1, .int 1), (2, .int pl), (3, .int ho), (4, .int t)]) hx hb dX10_leaves_11 hl (by decide) rfl (fun ls hl => ?_)
  refine lv_bipush (v := 8) hx hb dX10_leaves_13 (by decide) ?_
  refine lv_iload_n hx hb dX10_leaves_15 rfl (lv_at hl 2 rfl) ?_
  refine lv_imul hx hb dX10_leaves_16 ?_
  refine ti_top (y := 8) (by decide) ?_
  refine lv_iload hx hb dX10_leaves_17 (lv_at hl 0 rfl) ?_
  refine lv_iadd hx hb dX10_leaves_19 ?_
  refine lv_topi (fun x_3 ex_3 => ?_)
  have tx_3 : x_3.toInt = 8 + x_2.toInt := i_add ex_3 (by decide : (8 : Int32).toInt = 8) rfl (by omega) (by omega)
  refine lv_istore (lv' := [(6, .int x_3), (5, .int x_2), (0, .ref (A 60 0)), (1, .int 1), (2, .int pl), (3, .int ho), (4, .int t)]) hx hb dX10_leaves_20 hl (by decide) rfl (fun ls hl => ?_)
  refine lv_iload_n hx hb dX10_leaves_22 rfl (lv_at hl 4 rfl) ?_
  refine lv_istore (lv' := [(7, .int pl), (6, .int x_3), (5, .int x_2), (0, .ref (A 60 0)), (1, .int 1), (2, .int pl), (3, .int ho), (4, .int t)]) hx hb dX10_leaves_23 hl (by decide) rfl (fun ls hl => ?_)
  have hl_25_15 : ∀ (n_16 : Nat) (x_4 : Int32) (M_7 : ti_M) (H : Heap) (locs : List Loc) (ls : Array Slot), (8 - x_4.toInt : Int).toNat < n_16 → (0 ≤ x_4.toInt) → (x_4.toInt ≤ 7) → (mI Tm M_7) → (lk M_7 M) → (tY M_7 60 38 = tY M 60 38) → (tY M_7 60 40 = tY M 60 40) → (tY M_7 60 34 = tY M 60 34) → (fR 1 M_7 M) → (pl.toInt ≤ x_4.toInt) → (x_4.toInt < (tY M 60 38 1).toInt) → (sh M M_7 8 pl.toInt.toNat x_4.toInt) → ti_H ti_LM D A cy H0 M_7 H locs → lv_has ls 8 [(7, .int x_4), (6, .int x_3), (5, .int x_2), (0, .ref (A 60 0)), (1, .int 1), (2, .int pl), (3, .int ho), (4, .int t)] → W p l e (ti_rm 0) s m args below meth c H locs 0 0 Q (F0 m 25 ls []) := by
    intro n_16
    induction n_16 with
    | zero => intro x_4 M_7 H locs ls hf_16; exact absurd hf_16 (Nat.not_lt_zero _)
    | succ n_16 ih_16 =>
      intro x_4 M_7 H locs ls hf_16 b_5 b_6 iM_7 f_8 f_9 f_10 f_11 f_12 j_13 j_14 j_15 hw hl
      refine lv_iload hx hb dX10_leaves_25 (lv_at hl 0 rfl) ?_
      refine lv_iconst (v := 1) hx hb dX10_leaves_27 (by decide) ?_
      refine lv_iadd hx hb dX10_leaves_28 ?_
      refine lv_topi (fun x_17 ex_17 => ?_)
      have tx_17 : x_17.toInt = x_4.toInt + 1 := i_add ex_17 rfl (by decide : (1 : Int32).toInt = 1) (by omega) (by omega)
      refine lv_aload_n hx hb dX10_leaves_29 rfl (lv_at hl 3 rfl) ?_
      refine ti_get (ci := 10) (k := 38) (N := 67) (T := TX10) (v := .ref (A 60 39)) C hw iw_10 rfl ob_60 (by decide) (by decide) fl_X10_81 rfl rfl dX10_leaves_30 ?_
      refine lv_iload_n hx hb dX10_leaves_33 rfl (lv_at hl 4 rfl) ?_
      refine ti_iald (ci := 10) (k := 38) (n := 23) C hw ob_60 (by decide) (fun _ _ => rfl) (by unfold vp_in; decide) dX10_leaves_34 ?_
      refine lv_topi (fun x_18 ex_18 => ?_)
      have yx_18 : tY M_7 60 38 1 = x_18 := ((congrArg _ (by decide)).symm.trans ex_18.symm)
      have bx_18 : 0 ≤ x_18.toInt ∧ x_18.toInt ≤ 8 := mI_ry (k := 38) (i := 1) iM_7 yx_18.symm
      have zx_18 : (tY M_7 60 38 1).toInt = x_18.toInt := by rw [yx_18]
      have wx_18 : tY M 60 38 1 = x_18 := ((cg f_9 1)).symm.trans yx_18
      have zwx_18 : (tY M 60 38 1).toInt = x_18.toInt := by rw [wx_18]
      refine sb_icmp_ge (tgt := 70) hx hb rfl rfl dX10_leaves_35 (by decide) (fun c_35_18 => ?_) (fun c_35_18 => ?_)
      · refine lv_aload_n hx hb dX10_leaves_70 rfl (lv_at hl 3 rfl) ?_
        refine ti_get (ci := 10) (k := 38) (N := 67) (T := TX10) (v := .ref (A 60 39)) C hw iw_10 rfl ob_60 (by decide) (by decide) fl_X10_81 rfl rfl dX10_leaves_71 ?_
        refine lv_iload_n hx hb dX10_leaves_74 rfl (lv_at hl 4 rfl) ?_
        refine lv_dup2_11 hx hb dX10_leaves_75 rfl rfl ?_
        refine ti_iald (ci := 10) (k := 38) (n := 23) C hw ob_60 (by decide) (fun _ _ => rfl) (by unfold vp_in; decide) dX10_leaves_76 ?_
        refine ti_top (y := x_18) ((congrArg _ (by decide)).trans ((cg f_9 1).trans wx_18)) ?_
        refine lv_iconst (v := 1) hx hb dX10_leaves_77 (by decide) ?_
        refine lv_isub hx hb dX10_leaves_78 ?_
        refine lv_topi (fun x_26 ex_26 => ?_)
        have tx_26 : x_26.toInt = x_18.toInt - 1 := i_sub ex_26 rfl (by decide : (1 : Int32).toInt = 1) (by omega) (by omega)
        refine ti_iast (ci := 10) (k := 38) (n := 23) C hw ob_60 (by decide) (fun _ _ => rfl) (by unfold vp_in; decide) dX10_leaves_79 (fun H locs hw => ?_)
        obtain ⟨M_27, hM_27⟩ : ∃ z : ti_M, z = uY M_7 60 38 (upd (tY M_7 60 38) (1 : Int32).toNatClampNeg x_26) := ⟨_, rfl⟩
        have hw := hw.to hM_27.symm
        have iM_27 : mI Tm M_27 := mI_up (i := 1) iM_7 hM_27 (ib_mk (lo := 0) (hi := 8) (by omega) (by omega))
        refine lv_aload_n hx hb dX10_leaves_80 rfl (lv_at hl 3 rfl) ?_
        refine ti_get (ci := 10) (k := 40) (N := 67) (T := TX10) (v := .ref (A 60 41)) C hw iw_10 rfl ob_60 (by decide) (by decide) fl_X10_87 rfl rfl dX10_leaves_81 ?_
        refine lv_iload hx hb dX10_leaves_84 (lv_at hl 1 rfl) ?_
        refine lv_iload_n hx hb dX10_leaves_86 rfl (lv_at hl 6 rfl) ?_
        refine ti_iast (ci := 10) (k := 40) (n := 184) C hw ob_60 (by decide) (fun _ _ => rfl) (vp_in_iff.mpr (by omega)) dX10_leaves_87 (fun H locs hw => ?_)
        obtain ⟨M_28, hM_28⟩ : ∃ z : ti_M, z = uY M_27 60 40 (upd (tY M_27 60 40) (x_3 : Int32).toNatClampNeg ho) := ⟨_, rfl⟩
        have hw := hw.to hM_28.symm
        have iM_28 : mI Tm M_28 := mI_up (i := x_3.toNatClampNeg) iM_27 hM_28 trivial
        refine lv_aload_n hx hb dX10_leaves_88 rfl (lv_at hl 3 rfl) ?_
        refine ti_get (ci := 10) (k := 46) (N := 67) (T := TX10) (v := .ref (A 60 47)) C hw iw_10 rfl ob_60 (by decide) (by decide) fl_X10_105 rfl rfl dX10_leaves_89 ?_
        refine lv_iload hx hb dX10_leaves_92 (lv_at hl 1 rfl) ?_
        refine lv_iload hx hb dX10_leaves_94 (lv_at hl 7 rfl) ?_
        refine ti_iast (ci := 10) (k := 46) (n := 184) C hw ob_60 (by decide) (fun _ _ => rfl) (vp_in_iff.mpr (by omega)) dX10_leaves_96 (fun H locs hw => ?_)
        obtain ⟨M_29, hM_29⟩ : ∃ z : ti_M, z = uY M_28 60 46 (upd (tY M_28 60 46) (x_3 : Int32).toNatClampNeg t) := ⟨_, rfl⟩
        have hw := hw.to hM_29.symm
        have iM_29 : mI Tm M_29 := mI_up (i := x_3.toNatClampNeg) iM_28 hM_29 trivial
        refine lv_aload_n hx hb dX10_leaves_97 rfl (lv_at hl 3 rfl) ?_
        refine ti_get (ci := 10) (k := 47) (N := 67) (T := TX10) (v := .ref (A 60 48)) C hw iw_10 rfl ob_60 (by decide) (by decide) fl_X10_108 rfl rfl dX10_leaves_98 ?_
        refine lv_iload hx hb dX10_leaves_101 (lv_at hl 1 rfl) ?_
        refine lv_iconst (v := 0) hx hb dX10_leaves_103 (by decide) ?_
        refine ti_iast (ci := 10) (k := 47) (n := 184) C hw ob_60 (by decide) (fun _ _ => rfl) (vp_in_iff.mpr (by omega)) dX10_leaves_104 (fun H locs hw => ?_)
        obtain ⟨M_30, hM_30⟩ : ∃ z : ti_M, z = uY M_29 60 47 (upd (tY M_29 60 47) (x_3 : Int32).toNatClampNeg 0) := ⟨_, rfl⟩
        have hw := hw.to hM_30.symm
        have iM_30 : mI Tm M_30 := mI_up (i := x_3.toNatClampNeg) iM_29 hM_30 trivial
        refine lv_aload_n hx hb dX10_leaves_105 rfl (lv_at hl 3 rfl) ?_
        refine ti_get (ci := 10) (k := 37) (N := 67) (T := TX10) (v := .ref (A 60 38)) C hw iw_10 rfl ob_60 (by decide) (by decide) fl_X10_78 rfl rfl dX10_leaves_106 ?_
        refine lv_iload_n hx hb dX10_leaves_109 rfl (lv_at hl 4 rfl) ?_
        refine lv_dup2_11 hx hb dX10_leaves_110 rfl rfl ?_
        refine ti_iald (ci := 10) (k := 37) (n := 23) C hw ob_60 (by decide) (fun _ _ => rfl) (by unfold vp_in; decide) dX10_leaves_111 ?_
        refine lv_topi (fun x_31 ex_31 => ?_)
        have yx_31 : tY M_30 60 37 1 = x_31 := ((congrArg _ (by decide)).symm.trans ex_31.symm)
        have wx_31 : tY M_7 60 37 1 = x_31 := (((cg (tY_nE hM_30 (nk (by decide))) 1).trans ((cg (tY_nE hM_29 (nk (by decide))) 1).trans ((cg (tY_nE hM_28 (nk (by decide))) 1).trans (cg (tY_nE hM_27 (nk (by decide))) 1))))).symm.trans yx_31
        refine lv_iconst (v := 1) hx hb dX10_leaves_112 (by decide) ?_
        refine lv_iload hx hb dX10_leaves_113 (lv_at hl 2 rfl) ?_
        refine lv_ishl hx hb dX10_leaves_115 ?_
        refine lv_topi (fun x_32 ex_32 => ?_)
        refine lv_iconst (v := (-1)) hx hb dX10_leaves_116 (by decide) ?_
        refine lv_ixor hx hb dX10_leaves_117 ?_
        refine lv_topi (fun x_33 ex_33 => ?_)
        refine lv_iand hx hb dX10_leaves_118 ?_
        refine lv_topi (fun x_34 ex_34 => ?_)
        refine ti_iast (ci := 10) (k := 37) (n := 23) C hw ob_60 (by decide) (fun _ _ => rfl) (by unfold vp_in; decide) dX10_leaves_119 (fun H locs hw => ?_)
        obtain ⟨M_35, hM_35⟩ : ∃ z : ti_M, z = uY M_30 60 37 (upd (tY M_30 60 37) (1 : Int32).toNatClampNeg x_34) := ⟨_, rfl⟩
        have hw := hw.to hM_35.symm
        have iM_35 : mI Tm M_35 := mI_up (i := 1) iM_30 hM_35 trivial
        refine lv_iload_n hx hb dX10_leaves_120 rfl (lv_at hl 6 rfl) ?_
        refine lv_iconst (v := 2) hx hb dX10_leaves_121 (by decide) ?_
        refine sb_icmp_ne (tgt := 134) hx hb rfl (by decide : (2 : Int32).toInt = 2) dX10_leaves_122 (by decide) (fun c_122_35 => ?_) (fun c_122_35 => ?_)
        · have n9 : x_1.toNatClampNeg = 8 * 1 + pl.toInt.toNat := by show (x_1).toInt.toNat = _; omega
          have k9 : (tY M 60 39 (8 * 1 + pl.toInt.toNat)).toInt = x_2.toInt := by rw [← n9, (yx_2)]
          have jj := q_leave (q := 1) (pl := pl.toInt.toNat) (p := x_4.toInt) hI hC (by rw [tY_nE (o2 := 60) (k2 := 38) hM_35 (nk (by decide)), tY_nE (o2 := 60) (k2 := 38) hM_30 (nk (by decide)), tY_nE (o2 := 60) (k2 := 38) hM_29 (nk (by decide)), tY_nE (o2 := 60) (k2 := 38) hM_28 (nk (by decide)), tY_uE hM_27, (f_9 : tY M_7 60 38 = tY M 60 38)] : tY M_35 60 38 = upd (tY M 60 38) (1 : Int32).toNatClampNeg x_26) (fun i => (cg (by rw [tY_nE (o2 := 60) (k2 := 39) hM_35 (nk (by decide)), tY_nE (o2 := 60) (k2 := 39) hM_30 (nk (by decide)), tY_nE (o2 := 60) (k2 := 39) hM_29 (nk (by decide)), tY_nE (o2 := 60) (k2 := 39) hM_28 (nk (by decide)), tY_nE (o2 := 60) (k2 := 39) hM_27 (nk (by decide))] : tY M_35 60 39 = tY M_7 60 39) i).trans (j_15 i)) (by rw [tY_nE (o2 := 60) (k2 := 40) hM_35 (nk (by decide)), tY_nE (o2 := 60) (k2 := 40) hM_30 (nk (by decide)), tY_nE (o2 := 60) (k2 := 40) hM_29 (nk (by decide)), tY_uE hM_28, tY_nE (o2 := 60) (k2 := 40) hM_27 (nk (by decide)), (f_10 : tY M_7 60 40 = tY M 60 40)] : tY M_35 60 40 = upd (tY M 60 40) (x_3 : Int32).toNatClampNeg ho) (lk.trans (lk_Y hM_35 (by decide)) (lk.trans (lk_Y hM_30 (by decide)) (lk.trans (lk_Y hM_29 (by decide)) (lk.trans (lk_Y hM_28 (by decide)) (lk.trans (lk_Y hM_27 (by decide)) f_8))))) (by decide) (by omega) (by omega) (by omega) (by show ((x_3.toInt.toNat : Nat) : Int) = _; omega) h3
          exact hQ _ _ _ _ _ hw (⟨(fR.trans (fR_Y hM_35 (bk_q (z := 1) (by decide) (by decide))) (fR.trans (fR_Y hM_30 (bk_m (z := x_3) (by omega) (by decide))) (fR.trans (fR_Y hM_29 (bk_m (z := x_3) (by omega) (by decide))) (fR.trans (fR_Y hM_28 (bk_m (z := x_3) (by omega) (by decide))) (fR.trans (fR_Y hM_27 (bk_q (z := 1) (by decide) (by decide))) f_12))))), iM_35, jj.1, jj.2.1, (((tY_nE hM_35 (nk (by decide))).trans ((tY_nE hM_30 (nk (by decide))).trans ((tY_nE hM_29 (nk (by decide))).trans ((tY_nE hM_28 (nk (by decide))).trans ((tY_nE hM_27 (nk (by decide))).trans f_11)))))), jj.2.2⟩) dX10_leaves_134
        · refine lv_aload_n hx hb dX10_leaves_125 rfl (lv_at hl 3 rfl) ?_
          refine ti_get (ci := 10) (k := 48) (N := 67) (T := TX10) (v := .ref (A 60 49)) C hw iw_10 rfl ob_60 (by decide) (by decide) fl_X10_111 rfl rfl dX10_leaves_126 ?_
          refine lv_iload hx hb dX10_leaves_129 (lv_at hl 1 rfl) ?_
          refine lv_iload hx hb dX10_leaves_131 (lv_at hl 7 rfl) ?_
          refine ti_iast (ci := 10) (k := 48) (n := 184) C hw ob_60 (by decide) (fun _ _ => rfl) (vp_in_iff.mpr (by omega)) dX10_leaves_133 (fun H locs hw => ?_)
          obtain ⟨M_37, hM_37⟩ : ∃ z : ti_M, z = uY M_35 60 48 (upd (tY M_35 60 48) (x_3 : Int32).toNatClampNeg t) := ⟨_, rfl⟩
          have hw := hw.to hM_37.symm
          have iM_37 : mI Tm M_37 := mI_up (i := x_3.toNatClampNeg) iM_35 hM_37 trivial
          have n9 : x_1.toNatClampNeg = 8 * 1 + pl.toInt.toNat := by show (x_1).toInt.toNat = _; omega
          have k9 : (tY M 60 39 (8 * 1 + pl.toInt.toNat)).toInt = x_2.toInt := by rw [← n9, (yx_2)]
          have jj := q_leave (q := 1) (pl := pl.toInt.toNat) (p := x_4.toInt) hI hC (by rw [tY_nE (o2 := 60) (k2 := 38) hM_37 (nk (by decide)), tY_nE (o2 := 60) (k2 := 38) hM_35 (nk (by decide)), tY_nE (o2 := 60) (k2 := 38) hM_30 (nk (by decide)), tY_nE (o2 := 60) (k2 := 38) hM_29 (nk (by decide)), tY_nE (o2 := 60) (k2 := 38) hM_28 (nk (by decide)), tY_uE hM_27, (f_9 : tY M_7 60 38 = tY M 60 38)] : tY M_37 60 38 = upd (tY M 60 38) (1 : Int32).toNatClampNeg x_26) (fun i => (cg (by rw [tY_nE (o2 := 60) (k2 := 39) hM_37 (nk (by decide)), tY_nE (o2 := 60) (k2 := 39) hM_35 (nk (by decide)), tY_nE (o2 := 60) (k2 := 39) hM_30 (nk (by decide)), tY_nE (o2 := 60) (k2 := 39) hM_29 (nk (by decide)), tY_nE (o2 := 60) (k2 := 39) hM_28 (nk (by decide)), tY_nE (o2 := 60) (k2 := 39) hM_27 (nk (by decide))] : tY M_37 60 39 = tY M_7 60 39) i).trans (j_15 i)) (by rw [tY_nE (o2 := 60) (k2 := 40) hM_37 (nk (by decide)), tY_nE (o2 := 60) (k2 := 40) hM_35 (nk (by decide)), tY_nE (o2 := 60) (k2 := 40) hM_30 (nk (by decide)), tY_nE (o2 := 60) (k2 := 40) hM_29 (nk (by decide)), tY_uE hM_28, tY_nE (o2 := 60) (k2 := 40) hM_27 (nk (by decide)), (f_10 : tY M_7 60 40 = tY M 60 40)] : tY M_37 60 40 = upd (tY M 60 40) (x_3 : Int32).toNatClampNeg ho) (lk.trans (lk_Y hM_37 (by decide)) (lk.trans (lk_Y hM_35 (by decide)) (lk.trans (lk_Y hM_30 (by decide)) (lk.trans (lk_Y hM_29 (by decide)) (lk.trans (lk_Y hM_28 (by decide)) (lk.trans (lk_Y hM_27 (by decide)) f_8)))))) (by decide) (by omega) (by omega) (by omega) (by show ((x_3.toInt.toNat : Nat) : Int) = _; omega) h3
          exact hQ _ _ _ _ _ hw (⟨(fR.trans (fR_Y hM_37 (bk_m (z := x_3) (by omega) (by decide))) (fR.trans (fR_Y hM_35 (bk_q (z := 1) (by decide) (by decide))) (fR.trans (fR_Y hM_30 (bk_m (z := x_3) (by omega) (by decide))) (fR.trans (fR_Y hM_29 (bk_m (z := x_3) (by omega) (by decide))) (fR.trans (fR_Y hM_28 (bk_m (z := x_3) (by omega) (by decide))) (fR.trans (fR_Y hM_27 (bk_q (z := 1) (by decide) (by decide))) f_12)))))), iM_37, jj.1, jj.2.1, (((tY_nE hM_37 (nk (by decide))).trans ((tY_nE hM_35 (nk (by decide))).trans ((tY_nE hM_30 (nk (by decide))).trans ((tY_nE hM_29 (nk (by decide))).trans ((tY_nE hM_28 (nk (by decide))).trans ((tY_nE hM_27 (nk (by decide))).trans f_11))))))), jj.2.2⟩) dX10_leaves_134
      · refine lv_aload_n hx hb dX10_leaves_38 rfl (lv_at hl 3 rfl) ?_
        refine ti_get (ci := 10) (k := 39) (N := 67) (T := TX10) (v := .ref (A 60 40)) C hw iw_10 rfl ob_60 (by decide) (by decide) fl_X10_84 rfl rfl dX10_leaves_39 ?_
        refine lv_bipush (v := 8) hx hb dX10_leaves_42 (by decide) ?_
        refine lv_iload_n hx hb dX10_leaves_44 rfl (lv_at hl 4 rfl) ?_
        refine lv_imul hx hb dX10_leaves_45 ?_
        refine ti_top (y := 8) (by decide) ?_
        refine lv_iload hx hb dX10_leaves_46 (lv_at hl 0 rfl) ?_
        refine lv_iadd hx hb dX10_leaves_48 ?_
        refine lv_topi (fun x_20 ex_20 => ?_)
        have tx_20 : x_20.toInt = 8 + x_4.toInt := i_add ex_20 (by decide : (8 : Int32).toInt = 8) rfl (by omega) (by omega)
        refine lv_aload_n hx hb dX10_leaves_49 rfl (lv_at hl 3 rfl) ?_
        refine ti_get (ci := 10) (k := 39) (N := 67) (T := TX10) (v := .ref (A 60 40)) C hw iw_10 rfl ob_60 (by decide) (by decide) fl_X10_84 rfl rfl dX10_leaves_50 ?_
        refine lv_bipush (v := 8) hx hb dX10_leaves_53 (by decide) ?_
        refine lv_iload_n hx hb dX10_leaves_55 rfl (lv_at hl 4 rfl) ?_
        refine lv_imul hx hb dX10_leaves_56 ?_
        refine ti_top (y := 8) (by decide) ?_
        refine lv_iload hx hb dX10_leaves_57 (lv_at hl 0 rfl) ?_
        refine lv_iadd hx hb dX10_leaves_59 ?_
        refine lv_topi (fun x_21 ex_21 => ?_)
        have tx_21 : x_21.toInt = 8 + x_4.toInt := i_add ex_21 (by decide : (8 : Int32).toInt = 8) rfl (by omega) (by omega)
        refine lv_iconst (v := 1) hx hb dX10_leaves_60 (by decide) ?_
        refine lv_iadd hx hb dX10_leaves_61 ?_
        refine lv_topi (fun x_22 ex_22 => ?_)
        have tx_22 : x_22.toInt = x_21.toInt + 1 := i_add ex_22 rfl (by decide : (1 : Int32).toInt = 1) (by omega) (by omega)
        refine ti_iald (ci := 10) (k := 39) (n := 184) C hw ob_60 (by decide) (fun _ _ => rfl) (vp_in_iff.mpr (by omega)) dX10_leaves_62 ?_
        refine lv_topi (fun x_23 ex_23 => ?_)
        have yx_23 : tY M_7 60 39 x_22.toNatClampNeg = x_23 := (ex_23.symm)
        have bx_23 : 0 ≤ x_23.toInt ∧ x_23.toInt ≤ 7 := mI_ry (k := 39) (i := x_22.toNatClampNeg) iM_7 yx_23.symm
        refine ti_iast (ci := 10) (k := 39) (n := 184) C hw ob_60 (by decide) (fun _ _ => rfl) (vp_in_iff.mpr (by omega)) dX10_leaves_63 (fun H locs hw => ?_)
        obtain ⟨M_24, hM_24⟩ : ∃ z : ti_M, z = uY M_7 60 39 (upd (tY M_7 60 39) (x_20 : Int32).toNatClampNeg x_23) := ⟨_, rfl⟩
        have hw := hw.to hM_24.symm
        have iM_24 : mI Tm M_24 := mI_up (i := x_20.toNatClampNeg) iM_7 hM_24 (ib_mk (lo := 0) (hi := 7) (by omega) (by omega))
        obtain ⟨x_25, ex_25⟩ : ∃ z : Int32, z = x_4 + 1 := ⟨_, rfl⟩
        have tx_25 : x_25.toInt = x_4.toInt + 1 := i_add ex_25 rfl (by decide) (by omega) (by omega)
        refine lv_iinc (v := x_25) (lv' := [(7, .int x_25), (6, .int x_3), (5, .int x_2), (0, .ref (A 60 0)), (1, .int 1), (2, .int pl), (3, .int ho), (4, .int t)]) hx hb dX10_leaves_64 hl (k := 0) rfl (by rw [ex_25]; rfl) (by decide) rfl (fun ls hl => ?_)
        refine lv_goto (tgt := 25) hx hb dX10_leaves_67 (by decide) ?_
        exact ih_16 x_25 M_24 _ _ _ (by omega) (by first | omega | decide) (by first | omega | decide) iM_24 (lk.trans (lk_Y hM_24 (by decide)) f_8) (((tY_nE hM_24 (nk (by decide))).trans f_9)) (((tY_nE hM_24 (nk (by decide))).trans f_10)) (((tY_nE hM_24 (nk (by decide))).trans f_11)) (fR.trans (fR_Y hM_24 (bk_m (z := x_20) (by omega) (by decide))) f_12) (by first | omega | decide) (by first | omega | decide) (sh_s j_15 hM_24 (by show ((x_20.toInt.toNat : Nat) : Int) = _; omega) (by omega) yx_23 (by show (x_22).toInt.toNat = (x_20).toInt.toNat + 1; omega) (by omega)) hw (lv_sub hl [0, 1, 2, 3, 4, 5, 6, 7] rfl)
  exact hl_25_15 ((8 - pl.toInt : Int).toNat + 1) pl M _ _ _ (Nat.lt_succ_self _) (by first | omega | decide) (by first | omega | decide) hI lk.refl rfl rfl rfl fR.refl (by first | omega | decide) (by first | omega | decide) (sh_0 (by omega)) hw (lv_sub hl [0, 1, 2, 3, 4, 5, 6, 7] rfl)
set_option maxHeartbeats 4000000 in
set_option maxRecDepth 100000 in
theorem f_X10_arrive_1 (l : Launch) (D : va_G) (A : Nat → Nat → Nat) (cy : Nat → ClassId) (hJ : ti_inj ti_LM A) (M : ti_M) (hI : mI Tm M) (hC : mC M 1) (t : Int32) : ti_Kv l yX10_arrive cX10_arrive 5 1 ti_LM D A cy M [.ref (A 60 0), .int 1, .int t] (fun M2 => fR 1 M2 M ∧ mI Tm M2 ∧ rq 1 M2 M ∧ mC M2 1 ∧ tY M2 60 34 = tY M 60 34) := by
  refine ti_eV yp_X10_arrive hJ ti_LM_nd (Nat.le_of_ble_eq_true rfl) ?_
  intro p e s m args below meth c Q H0 C hQ hw ls hl
  have hx := C.1
  have hb := C.2.1
  have hl : lv_has ls 5 [(0, .ref (A 60 0)), (1, .int 1), (2, .int t)] := hl
  have hl_0_5 : ∀ (n_6 : Nat) (M_1 : ti_M) (H : Heap) (locs : List Loc) (ls : Array Slot), (((zc (tY M_1 60 40) 8 : Nat) : Int) : Int).toNat < n_6 → (mI Tm M_1) → (rq 1 M_1 M) → (mC M_1 1) → (tY M_1 60 34 = tY M 60 34) → (fR 1 M_1 M) → ti_H ti_LM D A cy H0 M_1 H locs → lv_has ls 5 [(0, .ref (A 60 0)), (1, .int 1), (2, .int t)] → W p l e (ti_rm 1) s m args below meth c H locs 0 0 Q (F0 m 0 ls []) := by
    intro n_6
    induction n_6 with
    | zero => intro M_1 H locs ls hf_6; exact absurd hf_6 (Nat.not_lt_zero _)
    | succ n_6 ih_6 =>
      intro M_1 H locs ls hf_6 iM_1 f_2 f_3 f_4 f_5 hw hl
      refine lv_iconst (v := (-1)) hx hb dX10_arrive_0 (by decide) ?_
      refine lv_istore_n (lv' := [(3, .int (-1)), (0, .ref (A 60 0)), (1, .int 1), (2, .int t)]) hx hb dX10_arrive_1 rfl hl (by decide) rfl (fun ls hl => ?_)
      refine lv_iconst (v := 0) hx hb dX10_arrive_2 (by decide) ?_
      refine lv_istore (lv' := [(4, .int 0), (3, .int (-1)), (0, .ref (A 60 0)), (1, .int 1), (2, .int t)]) hx hb dX10_arrive_3 hl (by decide) rfl (fun ls hl => ?_)
      have hl_5_13 : ∀ (n_14 : Nat) (x_7 : Int32) (x_10 : Int32) (H : Heap) (locs : List Loc) (ls : Array Slot), (8 - x_7.toInt : Int).toNat < n_14 → (0 ≤ x_7.toInt) → (x_7.toInt ≤ 8) → ((-1) ≤ x_10.toInt) → (x_10.toInt ≤ 7) → (x_10.toInt = -1 ∨ ∀ i : Nat, (i : Int) = 8 + x_10.toInt → (tY M_1 60 40 i).toInt = 0) → ti_H ti_LM D A cy H0 M_1 H locs → lv_has ls 5 [(4, .int x_7), (3, .int x_10), (0, .ref (A 60 0)), (1, .int 1), (2, .int t)] → W p l e (ti_rm 1) s m args below meth c H locs 0 0 Q (F0 m 5 ls []) := by
        intro n_14
        induction n_14 with
        | zero => intro x_7 x_10 H locs ls hf_14; exact absurd hf_14 (Nat.not_lt_zero _)
        | succ n_14 ih_14 =>
          intro x_7 x_10 H locs ls hf_14 b_8 b_9 b_11 b_12 j_13 hw hl
          refine lv_iload hx hb dX10_arrive_5 (lv_at hl 0 rfl) ?_
          refine lv_aload_n hx hb dX10_arrive_7 rfl (lv_at hl 2 rfl) ?_
          refine ti_get (ci := 10) (k := 3) (N := 67) (T := TX10) (v := .ref (A 60 4)) C hw iw_10 rfl ob_60 (by decide) (by decide) fl_X10_13 rfl rfl dX10_arrive_8 ?_
          refine lv_iconst (v := 0) hx hb dX10_arrive_11 (by decide) ?_
          refine ti_iald (ci := 10) (k := 3) (n := 22) C hw ob_60 (by decide) (fun _ _ => rfl) (by unfold vp_in; decide) dX10_arrive_12 ?_
          refine lv_topi (fun x_15 ex_15 => ?_)
          have yx_15 : tY M_1 60 3 0 = x_15 := ((congrArg _ (by decide)).symm.trans ex_15.symm)
          have bx_15 : 0 ≤ x_15.toInt ∧ x_15.toInt ≤ 8 := mI_rn (i := 0) iM_1 yx_15.symm (fun _ h => h)
          have zx_15 : (tY M_1 60 3 0).toInt = x_15.toInt := by rw [yx_15]
          have wx_15 : tY M 60 3 0 = x_15 := ((cg (f_2.1 3 (by decide) (by decide)) 0)).symm.trans yx_15
          have zwx_15 : (tY M 60 3 0).toInt = x_15.toInt := by rw [wx_15]
          refine sb_icmp_ge (tgt := 112) hx hb rfl rfl dX10_arrive_13 (by decide) (fun c_13_15 => ?_) (fun c_13_15 => ?_)
          · refine lv_iload_n hx hb dX10_arrive_112 rfl (lv_at hl 1 rfl) ?_
            refine lv_iconst (v := (-1)) hx hb dX10_arrive_113 (by decide) ?_
            refine sb_icmp_ne (tgt := 118) hx hb rfl (by decide : ((-1) : Int32).toInt = (-1)) dX10_arrive_114 (by decide) (fun c_114_36 => ?_) (fun c_114_36 => ?_)
            · refine lv_aload_n hx hb dX10_arrive_118 rfl (lv_at hl 2 rfl) ?_
              refine lv_iload_n hx hb dX10_arrive_119 rfl (lv_at hl 3 rfl) ?_
              refine lv_iload_n hx hb dX10_arrive_120 rfl (lv_at hl 1 rfl) ?_
              refine lv_iload_n hx hb dX10_arrive_121 rfl (lv_at hl 4 rfl) ?_
              refine ti_callVv (ci := 10) (av := [.int 1, .int x_10, .int t]) C hw (f_X10_joins_1 l D A cy hJ M_1 iM_1 f_3 x_10 t (by first | omega | decide | (have l0 : (0 : Int32).toInt = 0 := (by decide); have l2 : (2 : Int32).toInt = 2 := (by decide); have l3 : (3 : Int32).toInt = 3 := (by decide); omega)) (by first | omega | decide | (have l0 : (0 : Int32).toInt = 0 := (by decide); have l2 : (2 : Int32).toInt = 2 := (by decide); have l3 : (3 : Int32).toInt = 3 := (by decide); omega)) (fun i hi => (j_13).elim (fun h => absurd h (by omega)) (fun h => h i hi))) ⟨ml_X10_359, ym_X10_joins, yv_X10_joins, yi_X10_joins, yc_X10_joins⟩ yd_X10_joins ob_60 (by decide) rfl rfl hl.1 (Nat.le_of_ble_eq_true rfl) ⟨by decide, by decide⟩ ⟨Nat.zero_le _, Nat.zero_le _⟩ dX10_arrive_122 (fun M_39 H locs hp_39 hw => ?_)
              obtain ⟨frM_39, hqM_39⟩ := hp_39
              obtain ⟨iM_39, q_40, q_41, q_42, q_43⟩ := hqM_39
              refine lv_goto (tgt := 0) hx hb dX10_arrive_125 (by decide) ?_
              exact ih_6 M_39 _ _ _ (by omega) iM_39 (rq.trans q_40 f_2) q_41 (((q_42).trans f_4)) (fR.trans frM_39 f_5) hw (lv_sub hl [2, 3, 4] rfl)
            · exact hQ _ _ _ _ _ hw (⟨f_5, iM_1, f_2, f_3, ((f_4))⟩) dX10_arrive_117
          · refine lv_aload_n hx hb dX10_arrive_16 rfl (lv_at hl 2 rfl) ?_
            refine ti_get (ci := 10) (k := 40) (N := 67) (T := TX10) (v := .ref (A 60 41)) C hw iw_10 rfl ob_60 (by decide) (by decide) fl_X10_87 rfl rfl dX10_arrive_17 ?_
            refine lv_bipush (v := 8) hx hb dX10_arrive_20 (by decide) ?_
            refine lv_iload_n hx hb dX10_arrive_22 rfl (lv_at hl 3 rfl) ?_
            refine lv_imul hx hb dX10_arrive_23 ?_
            refine ti_top (y := 8) (by decide) ?_
            refine lv_iload hx hb dX10_arrive_24 (lv_at hl 0 rfl) ?_
            refine lv_iadd hx hb dX10_arrive_26 ?_
            refine lv_topi (fun x_17 ex_17 => ?_)
            have tx_17 : x_17.toInt = 8 + x_7.toInt := i_add ex_17 (by decide : (8 : Int32).toInt = 8) rfl (by omega) (by omega)
            refine ti_iald (ci := 10) (k := 40) (n := 184) C hw ob_60 (by decide) (fun _ _ => rfl) (vp_in_iff.mpr (by omega)) dX10_arrive_27 ?_
            refine lv_topi (fun x_18 ex_18 => ?_)
            have yx_18 : tY M_1 60 40 x_17.toNatClampNeg = x_18 := (ex_18.symm)
            have zx_18 : (tY M_1 60 40 x_17.toNatClampNeg).toInt = x_18.toInt := by rw [yx_18]
            have hj_106_35 : ∀ (x_31 : Int32) (H : Heap) (locs : List Loc) (ls : Array Slot), ((-1) ≤ x_31.toInt) → (x_31.toInt ≤ 8) → (x_31.toInt = -1 ∨ ∀ i : Nat, (i : Int) = 8 + x_31.toInt → (tY M_1 60 40 i).toInt = 0) → (x_31.toInt ≤ 7) → ti_H ti_LM D A cy H0 M_1 H locs → lv_has ls 5 [(4, .int x_7), (3, .int x_31), (0, .ref (A 60 0)), (1, .int 1), (2, .int t)] → W p l e (ti_rm 1) s m args below meth c H locs 0 0 Q (F0 m 106 ls []) := by
              intro x_31 H locs ls b_32 b_33 j_34 j_35 hw hl
              obtain ⟨x_36, ex_36⟩ : ∃ z : Int32, z = x_7 + 1 := ⟨_, rfl⟩
              have tx_36 : x_36.toInt = x_7.toInt + 1 := i_add ex_36 rfl (by decide) (by omega) (by omega)
              refine lv_iinc (v := x_36) (lv' := [(4, .int x_36), (3, .int x_31), (0, .ref (A 60 0)), (1, .int 1), (2, .int t)]) hx hb dX10_arrive_106 hl (k := 0) rfl (by rw [ex_36]; rfl) (by decide) rfl (fun ls hl => ?_)
              refine lv_goto (tgt := 5) hx hb dX10_arrive_109 (by decide) ?_
              exact ih_14 x_36 x_31 _ _ _ (by omega) (by first | omega | decide) (by first | omega | decide) (by first | omega | decide) (by first | omega | decide) j_34 hw (lv_sub hl [0, 1, 2, 3, 4] rfl)
            refine sb_if_ne (tgt := 106) hx hb rfl dX10_arrive_28 (by decide) (fun c_28_18 => ?_) (fun c_28_18 => ?_)
            · exact hj_106_35 x_10 _ _ _ (by first | omega | decide) (by first | omega | decide) j_13 (by first | omega | decide) hw (lv_sub hl [0, 1, 2, 3, 4] rfl)
            · refine lv_aload_n hx hb dX10_arrive_31 rfl (lv_at hl 2 rfl) ?_
              refine ti_get (ci := 10) (k := 44) (N := 67) (T := TX10) (v := .ref (A 60 45)) C hw iw_10 rfl ob_60 (by decide) (by decide) fl_X10_99 rfl rfl dX10_arrive_32 ?_
              refine lv_bipush (v := 8) hx hb dX10_arrive_35 (by decide) ?_
              refine lv_iload_n hx hb dX10_arrive_37 rfl (lv_at hl 3 rfl) ?_
              refine lv_imul hx hb dX10_arrive_38 ?_
              refine ti_top (y := 8) (by decide) ?_
              refine lv_iload hx hb dX10_arrive_39 (lv_at hl 0 rfl) ?_
              refine lv_iadd hx hb dX10_arrive_41 ?_
              refine lv_topi (fun x_20 ex_20 => ?_)
              have tx_20 : x_20.toInt = 8 + x_7.toInt := i_add ex_20 (by decide : (8 : Int32).toInt = 8) rfl (by omega) (by omega)
              refine ti_iald (ci := 10) (k := 44) (n := 184) C hw ob_60 (by decide) (fun _ _ => rfl) (vp_in_iff.mpr (by omega)) dX10_arrive_42 ?_
              refine lv_topi (fun x_21 ex_21 => ?_)
              have yx_21 : tY M_1 60 44 x_20.toNatClampNeg = x_21 := (ex_21.symm)
              refine lv_iload_n hx hb dX10_arrive_43 rfl (lv_at hl 4 rfl) ?_
              refine sb_icmp_eq (tgt := 50) hx hb rfl rfl dX10_arrive_44 (by decide) (fun c_44_21 => ?_) (fun c_44_21 => ?_)
              · refine lv_iload_n hx hb dX10_arrive_50 rfl (lv_at hl 1 rfl) ?_
                refine lv_iconst (v := (-1)) hx hb dX10_arrive_51 (by decide) ?_
                have hj_103_30 : ∀  (H : Heap) (locs : List Loc) (ls : Array Slot), ti_H ti_LM D A cy H0 M_1 H locs → lv_has ls 5 [(4, .int x_7), (3, .int x_10), (0, .ref (A 60 0)), (1, .int 1), (2, .int t)] → W p l e (ti_rm 1) s m args below meth c H locs 0 0 Q (F0 m 103 ls []) := by
                  intro  H locs ls  hw hl
                  refine lv_iload hx hb dX10_arrive_103 (lv_at hl 0 rfl) ?_
                  refine lv_istore_n (lv' := [(3, .int x_7), (4, .int x_7), (0, .ref (A 60 0)), (1, .int 1), (2, .int t)]) hx hb dX10_arrive_105 rfl hl (by decide) rfl (fun ls hl => ?_)
                  exact hj_106_35 x_7 _ _ _ (by first | omega | decide) (by first | omega | decide) (Or.inr (fun i hi => by rw [show i = x_17.toNatClampNeg by (show i = (x_17).toInt.toNat; omega), yx_18]; omega)) (by first | omega | decide) hw (lv_sub hl [1, 0, 2, 3, 4] rfl)
                refine sb_icmp_eq (tgt := 103) hx hb rfl (by decide : ((-1) : Int32).toInt = (-1)) dX10_arrive_52 (by decide) (fun c_52_22 => ?_) (fun c_52_22 => ?_)
                · exact hj_103_30  _ _ _  hw (lv_sub hl [0, 1, 2, 3, 4] rfl)
                · refine lv_aload_n hx hb dX10_arrive_55 rfl (lv_at hl 2 rfl) ?_
                  refine ti_get (ci := 10) (k := 6) (N := 67) (T := TX10) (v := .ref (A 60 7)) C hw iw_10 rfl ob_60 (by decide) (by decide) fl_X10_22 rfl rfl dX10_arrive_56 ?_
                  refine lv_iload hx hb dX10_arrive_59 (lv_at hl 0 rfl) ?_
                  refine ti_iald (ci := 10) (k := 6) (n := 16) C hw ob_60 (by decide) (fun _ _ => rfl) (vp_in_iff.mpr (by omega)) dX10_arrive_61 ?_
                  refine lv_topi (fun x_24 ex_24 => ?_)
                  have yx_24 : tY M_1 60 6 x_7.toNatClampNeg = x_24 := (ex_24.symm)
                  have wx_24 : tY M 60 6 x_7.toNatClampNeg = x_24 := ((cg (f_2.1 6 (by decide) (by decide)) x_7.toNatClampNeg)).symm.trans yx_24
                  refine lv_aload_n hx hb dX10_arrive_62 rfl (lv_at hl 2 rfl) ?_
                  refine ti_get (ci := 10) (k := 6) (N := 67) (T := TX10) (v := .ref (A 60 7)) C hw iw_10 rfl ob_60 (by decide) (by decide) fl_X10_22 rfl rfl dX10_arrive_63 ?_
                  refine lv_iload_n hx hb dX10_arrive_66 rfl (lv_at hl 1 rfl) ?_
                  refine ti_iald (ci := 10) (k := 6) (n := 16) C hw ob_60 (by decide) (fun _ _ => rfl) (vp_in_iff.mpr (by omega)) dX10_arrive_67 ?_
                  refine lv_topi (fun x_25 ex_25 => ?_)
                  have yx_25 : tY M_1 60 6 x_10.toNatClampNeg = x_25 := (ex_25.symm)
                  have wx_25 : tY M 60 6 x_10.toNatClampNeg = x_25 := ((cg (f_2.1 6 (by decide) (by decide)) x_10.toNatClampNeg)).symm.trans yx_25
                  refine sb_icmp_lt (tgt := 103) hx hb rfl rfl dX10_arrive_68 (by decide) (fun c_68_25 => ?_) (fun c_68_25 => ?_)
                  · exact hj_103_30  _ _ _  hw (lv_sub hl [0, 1, 2, 3, 4] rfl)
                  · refine lv_aload_n hx hb dX10_arrive_71 rfl (lv_at hl 2 rfl) ?_
                    refine ti_get (ci := 10) (k := 6) (N := 67) (T := TX10) (v := .ref (A 60 7)) C hw iw_10 rfl ob_60 (by decide) (by decide) fl_X10_22 rfl rfl dX10_arrive_72 ?_
                    refine lv_iload hx hb dX10_arrive_75 (lv_at hl 0 rfl) ?_
                    refine ti_iald (ci := 10) (k := 6) (n := 16) C hw ob_60 (by decide) (fun _ _ => rfl) (vp_in_iff.mpr (by omega)) dX10_arrive_77 ?_
                    refine ti_top (y := x_24) (((cg (f_2.1 6 (by decide) (by decide)) x_7.toNatClampNeg).trans wx_24)) ?_
                    refine lv_aload_n hx hb dX10_arrive_78 rfl (lv_at hl 2 rfl) ?_
                    refine ti_get (ci := 10) (k := 6) (N := 67) (T := TX10) (v := .ref (A 60 7)) C hw iw_10 rfl ob_60 (by decide) (by decide) fl_X10_22 rfl rfl dX10_arrive_79 ?_
                    refine lv_iload_n hx hb dX10_arrive_82 rfl (lv_at hl 1 rfl) ?_
                    refine ti_iald (ci := 10) (k := 6) (n := 16) C hw ob_60 (by decide) (fun _ _ => rfl) (vp_in_iff.mpr (by omega)) dX10_arrive_83 ?_
                    refine ti_top (y := x_25) (((cg (f_2.1 6 (by decide) (by decide)) x_10.toNatClampNeg).trans wx_25)) ?_
                    refine sb_icmp_ne (tgt := 106) hx hb rfl rfl dX10_arrive_84 (by decide) (fun c_84_26 => ?_) (fun c_84_26 => ?_)
                    · exact hj_106_35 x_10 _ _ _ (by first | omega | decide) (by first | omega | decide) j_13 (by first | omega | decide) hw (lv_sub hl [0, 1, 2, 3, 4] rfl)
                    · refine lv_aload_n hx hb dX10_arrive_87 rfl (lv_at hl 2 rfl) ?_
                      refine ti_get (ci := 10) (k := 5) (N := 67) (T := TX10) (v := .ref (A 60 6)) C hw iw_10 rfl ob_60 (by decide) (by decide) fl_X10_19 rfl rfl dX10_arrive_88 ?_
                      refine lv_iload hx hb dX10_arrive_91 (lv_at hl 0 rfl) ?_
                      refine ti_iald (ci := 10) (k := 5) (n := 16) C hw ob_60 (by decide) (fun _ _ => rfl) (vp_in_iff.mpr (by omega)) dX10_arrive_93 ?_
                      refine lv_topi (fun x_28 ex_28 => ?_)
                      have yx_28 : tY M_1 60 5 x_7.toNatClampNeg = x_28 := (ex_28.symm)
                      have wx_28 : tY M 60 5 x_7.toNatClampNeg = x_28 := ((cg (f_2.1 5 (by decide) (by decide)) x_7.toNatClampNeg)).symm.trans yx_28
                      refine lv_aload_n hx hb dX10_arrive_94 rfl (lv_at hl 2 rfl) ?_
                      refine ti_get (ci := 10) (k := 5) (N := 67) (T := TX10) (v := .ref (A 60 6)) C hw iw_10 rfl ob_60 (by decide) (by decide) fl_X10_19 rfl rfl dX10_arrive_95 ?_
                      refine lv_iload_n hx hb dX10_arrive_98 rfl (lv_at hl 1 rfl) ?_
                      refine ti_iald (ci := 10) (k := 5) (n := 16) C hw ob_60 (by decide) (fun _ _ => rfl) (vp_in_iff.mpr (by omega)) dX10_arrive_99 ?_
                      refine lv_topi (fun x_29 ex_29 => ?_)
                      have yx_29 : tY M_1 60 5 x_10.toNatClampNeg = x_29 := (ex_29.symm)
                      have wx_29 : tY M 60 5 x_10.toNatClampNeg = x_29 := ((cg (f_2.1 5 (by decide) (by decide)) x_10.toNatClampNeg)).symm.trans yx_29
                      refine sb_icmp_le (tgt := 106) hx hb rfl rfl dX10_arrive_100 (by decide) (fun c_100_29 => ?_) (fun c_100_29 => ?_)
                      · exact hj_106_35 x_10 _ _ _ (by first | omega | decide) (by first | omega | decide) j_13 (by first | omega | decide) hw (lv_sub hl [0, 1, 2, 3, 4] rfl)
                      · exact hj_103_30  _ _ _  hw (lv_sub hl [0, 1, 2, 3, 4] rfl)
              · refine lv_goto (tgt := 106) hx hb dX10_arrive_47 (by decide) ?_
                exact hj_106_35 x_10 _ _ _ (by first | omega | decide) (by first | omega | decide) j_13 (by first | omega | decide) hw (lv_sub hl [0, 1, 2, 3, 4] rfl)
      exact hl_5_13 ((8 - 0 : Int).toNat + 1) 0 (-1) _ _ _ (Nat.lt_succ_self _) (by have lt0 : ((-1) : Int32).toInt = (-1) := (by decide); have lt1 : (0 : Int32).toInt = 0 := (by decide); first | omega | decide) (by have lt0 : ((-1) : Int32).toInt = (-1) := (by decide); have lt1 : (0 : Int32).toInt = 0 := (by decide); first | omega | decide) (by have lt0 : ((-1) : Int32).toInt = (-1) := (by decide); have lt1 : (0 : Int32).toInt = 0 := (by decide); first | omega | decide) (by have lt0 : ((-1) : Int32).toInt = (-1) := (by decide); have lt1 : (0 : Int32).toInt = 0 := (by decide); first | omega | decide) (Or.inl (by decide)) hw (lv_sub hl [0, 1, 2, 3, 4] rfl)
  exact hl_0_5 ((((zc (tY M 60 40) 8 : Nat) : Int) : Int).toNat + 1) M _ _ _ (Nat.lt_succ_self _) hI rq.refl hC rfl fR.refl hw (lv_sub hl [0, 1, 2] rfl)
set_option maxHeartbeats 4000000 in
set_option maxRecDepth 100000 in
theorem f_X10_coughing_1 (l : Launch) (D : va_G) (A : Nat → Nat → Nat) (cy : Nat → ClassId) (hJ : ti_inj ti_LM A) (M : ti_M) (hI : mI Tm M) (hC : mC M 1) (hL : mL M) (t : Int32) : ti_Kv l yX10_coughing cX10_coughing 5 5 ti_LM D A cy M [.ref (A 60 0), .int 1, .int t] (fun M2 => fR 1 M2 M ∧ mI Tm M2 ∧ rq 1 M2 M ∧ mC M2 1 ∧ tY M2 60 34 = tY M 60 34) := by
  refine ti_eV yp_X10_coughing hJ ti_LM_nd (Nat.le_of_ble_eq_true rfl) ?_
  intro p e s m args below meth c Q H0 C hQ hw ls hl
  have hx := C.1
  have hb := C.2.1
  have hl : lv_has ls 5 [(0, .ref (A 60 0)), (1, .int 1), (2, .int t)] := hl
  refine lv_iconst (v := 0) hx hb dX10_coughing_0 (by decide) ?_
  refine lv_istore_n (lv' := [(3, .int 0), (0, .ref (A 60 0)), (1, .int 1), (2, .int t)]) hx hb dX10_coughing_1 rfl hl (by decide) rfl (fun ls hl => ?_)
  refine lv_iconst (v := 1) hx hb dX10_coughing_2 (by decide) ?_
  refine lv_istore (lv' := [(4, .int 1), (3, .int 0), (0, .ref (A 60 0)), (1, .int 1), (2, .int t)]) hx hb dX10_coughing_3 hl (by decide) rfl (fun ls hl => ?_)
  have hl_5_4 : ∀ (n_5 : Nat) (x_1 : Int32) (x_4 : Int32) (H : Heap) (locs : List Loc) (ls : Array Slot), (8 - x_1.toInt : Int).toNat < n_5 → (1 ≤ x_1.toInt) → (x_1.toInt ≤ 8) → ti_H ti_LM D A cy H0 M H locs → lv_has ls 5 [(4, .int x_1), (3, .int x_4), (0, .ref (A 60 0)), (1, .int 1), (2, .int t)] → W p l e (ti_rm 5) s m args below meth c H locs 0 0 Q (F0 m 5 ls []) := by
    intro n_5
    induction n_5 with
    | zero => intro x_1 x_4 H locs ls hf_5; exact absurd hf_5 (Nat.not_lt_zero _)
    | succ n_5 ih_5 =>
      intro x_1 x_4 H locs ls hf_5 b_2 b_3 hw hl
      refine lv_iload hx hb dX10_coughing_5 (lv_at hl 0 rfl) ?_
      refine lv_aload_n hx hb dX10_coughing_7 rfl (lv_at hl 2 rfl) ?_
      refine ti_get (ci := 10) (k := 38) (N := 67) (T := TX10) (v := .ref (A 60 39)) C hw iw_10 rfl ob_60 (by decide) (by decide) fl_X10_81 rfl rfl dX10_coughing_8 ?_
      refine lv_iload_n hx hb dX10_coughing_11 rfl (lv_at hl 3 rfl) ?_
      refine ti_iald (ci := 10) (k := 38) (n := 23) C hw ob_60 (by decide) (fun _ _ => rfl) (by unfold vp_in; decide) dX10_coughing_12 ?_
      refine lv_topi (fun x_6 ex_6 => ?_)
      have yx_6 : tY M 60 38 1 = x_6 := ((congrArg _ (by decide)).symm.trans ex_6.symm)
      have bx_6 : 0 ≤ x_6.toInt ∧ x_6.toInt ≤ 8 := mI_ry (k := 38) (i := 1) hI yx_6.symm
      have zx_6 : (tY M 60 38 1).toInt = x_6.toInt := by rw [yx_6]
      have hj_57_16 : ∀  (H : Heap) (locs : List Loc) (ls : Array Slot), ti_H ti_LM D A cy H0 M H locs → lv_has ls 5 [(4, .int x_1), (3, .int x_4), (0, .ref (A 60 0)), (1, .int 1), (2, .int t)] → W p l e (ti_rm 5) s m args below meth c H locs 0 0 Q (F0 m 57 ls []) := by
        intro  H locs ls  hw hl
        refine lv_aload_n hx hb dX10_coughing_57 rfl (lv_at hl 2 rfl) ?_
        refine ti_get (ci := 10) (k := 38) (N := 67) (T := TX10) (v := .ref (A 60 39)) C hw iw_10 rfl ob_60 (by decide) (by decide) fl_X10_81 rfl rfl dX10_coughing_58 ?_
        refine lv_iload_n hx hb dX10_coughing_61 rfl (lv_at hl 3 rfl) ?_
        refine ti_iald (ci := 10) (k := 38) (n := 23) C hw ob_60 (by decide) (fun _ _ => rfl) (by unfold vp_in; decide) dX10_coughing_62 ?_
        refine ti_top (y := x_6) ((congrArg _ (by decide)).trans (yx_6)) ?_
        have hj_96_37 : ∀ (M_33 : ti_M) (H : Heap) (locs : List Loc) (ls : Array Slot), (mI Tm M_33) → (rq 1 M_33 M) → (mC M_33 1) → (tY M_33 60 34 = tY M 60 34) → (fR 1 M_33 M) → ti_H ti_LM D A cy H0 M_33 H locs → lv_has ls 5 [(4, .int x_1), (3, .int x_4), (0, .ref (A 60 0)), (1, .int 1), (2, .int t)] → W p l e (ti_rm 5) s m args below meth c H locs 0 0 Q (F0 m 96 ls []) := by
          intro M_33 H locs ls iM_33 f_34 f_35 f_36 f_37 hw hl
          refine lv_aload_n hx hb dX10_coughing_96 rfl (lv_at hl 2 rfl) ?_
          refine ti_get (ci := 10) (k := 37) (N := 67) (T := TX10) (v := .ref (A 60 38)) C hw iw_10 rfl ob_60 (by decide) (by decide) fl_X10_78 rfl rfl dX10_coughing_97 ?_
          refine lv_iload_n hx hb dX10_coughing_100 rfl (lv_at hl 3 rfl) ?_
          refine lv_iconst (v := 0) hx hb dX10_coughing_101 (by decide) ?_
          refine ti_iast (ci := 10) (k := 37) (n := 23) C hw ob_60 (by decide) (fun _ _ => rfl) (by unfold vp_in; decide) dX10_coughing_102 (fun H locs hw => ?_)
          obtain ⟨M_38, hM_38⟩ : ∃ z : ti_M, z = uY M_33 60 37 (upd (tY M_33 60 37) (1 : Int32).toNatClampNeg 0) := ⟨_, rfl⟩
          have hw := hw.to hM_38.symm
          have iM_38 : mI Tm M_38 := mI_up (i := 1) iM_33 hM_38 trivial
          exact hQ _ _ _ _ _ hw (⟨(fR.trans (fR_Y hM_38 (bk_q (z := 1) (by decide) (by decide))) f_37), iM_38, (rq.trans (rq_qw (qw_Y hM_38 (by decide))) f_34), (mC_qw (qw_Y hM_38 (by decide)) f_35), (((tY_nE hM_38 (nk (by decide))).trans f_36))⟩) dX10_coughing_103
        refine sb_if_le (tgt := 96) hx hb rfl dX10_coughing_63 (by decide) (fun c_63_16 => ?_) (fun c_63_16 => ?_)
        · exact hj_96_37 M _ _ _ hI rq.refl hC rfl fR.refl hw (lv_sub hl [0, 1, 2, 3, 4] rfl)
        · refine lv_iload_n hx hb dX10_coughing_66 rfl (lv_at hl 1 rfl) ?_
          refine sb_if_le (tgt := 96) hx hb rfl dX10_coughing_67 (by decide) (fun c_67_17 => ?_) (fun c_67_17 => ?_)
          · exact hj_96_37 M _ _ _ hI rq.refl hC rfl fR.refl hw (lv_sub hl [0, 1, 2, 3, 4] rfl)
          · refine lv_iload_n hx hb dX10_coughing_70 rfl (lv_at hl 1 rfl) ?_
            refine lv_aload_n hx hb dX10_coughing_71 rfl (lv_at hl 2 rfl) ?_
            refine lv_iload_n hx hb dX10_coughing_72 rfl (lv_at hl 3 rfl) ?_
            refine lv_iload_n hx hb dX10_coughing_73 rfl (lv_at hl 4 rfl) ?_
            refine ti_callVi (ci := 10) (av := [.int 1, .int t]) C hw (f_X10_needOf_1 l D A cy hJ M hI hL t) ⟨ml_X10_371, ym_X10_needOf, yv_X10_needOf, yi_X10_needOf, yc_X10_needOf⟩ yd_X10_needOf ob_60 (by decide) rfl rfl hl.1 (Nat.le_of_ble_eq_true rfl) ⟨by decide, by decide⟩ ⟨Nat.zero_le _, Nat.zero_le _⟩ dX10_coughing_74 (fun r_19 M_20 H locs hp_20 hw => ?_)
            obtain ⟨fiM_20, hqM_20⟩ := hp_20
            obtain ⟨iM_20, q_21, q_22⟩ := hqM_20
            refine sb_icmp_lt (tgt := 96) hx hb rfl rfl dX10_coughing_77 (by decide) (fun c_77_22 => ?_) (fun c_77_22 => ?_)
            · exact hj_96_37 M_20 _ _ _ iM_20 (rq_qw q_21) (mC_qw q_21 hC) ((tY_fr q_22)) (fR_of q_21.2.1 fiM_20 q_22) hw (lv_sub hl [0, 1, 2, 3, 4] rfl)
            · refine lv_aload_n hx hb dX10_coughing_80 rfl (lv_at hl 2 rfl) ?_
              refine lv_iload_n hx hb dX10_coughing_81 rfl (lv_at hl 3 rfl) ?_
              refine ti_callVi (ci := 10) (av := [.int 1]) C hw (s_X10_isGuarded_1 l D A cy hJ M_20 iM_20 ) ⟨ml_X10_374, ym_X10_isGuarded, yv_X10_isGuarded, yi_X10_isGuarded, yc_X10_isGuarded⟩ yd_X10_isGuarded ob_60 (by decide) rfl rfl hl.1 (Nat.le_of_ble_eq_true rfl) ⟨by decide, by decide⟩ ⟨Nat.zero_le _, Nat.zero_le _⟩ dX10_coughing_82 (fun r_24 M_25 H locs hp_25 hw => ?_)
              obtain ⟨hm, b0r_24, b1r_24⟩ := hp_25
              have hw := hw.to hm
              refine sb_if_ne (tgt := 96) hx hb rfl dX10_coughing_85 (by decide) (fun c_85_25 => ?_) (fun c_85_25 => ?_)
              · exact hj_96_37 M_20 _ _ _ iM_20 (rq_qw q_21) (mC_qw q_21 hC) ((tY_fr q_22)) (fR_of q_21.2.1 fiM_20 q_22) hw (lv_sub hl [0, 1, 2, 3, 4] rfl)
              · refine lv_aload_n hx hb dX10_coughing_88 rfl (lv_at hl 2 rfl) ?_
                refine lv_iload_n hx hb dX10_coughing_89 rfl (lv_at hl 3 rfl) ?_
                refine lv_iconst (v := 0) hx hb dX10_coughing_90 (by decide) ?_
                refine lv_iconst (v := 3) hx hb dX10_coughing_91 (by decide) ?_
                refine lv_iload_n hx hb dX10_coughing_92 rfl (lv_at hl 4 rfl) ?_
                have lk_29 : (tY M_20 60 38 1).toInt = (tY M 60 38 1).toInt := by rw [(cg (tY_fr q_22) 1)]
                refine ti_callVv (ci := 10) (av := [.int 1, .int 0, .int 3, .int t]) C hw (f_X10_leaves_1 l D A cy hJ M_20 iM_20 (mC_qw q_21 hC) 0 3 t (by first | omega | decide | (have l0 : (0 : Int32).toInt = 0 := (by decide); have l2 : (2 : Int32).toInt = 2 := (by decide); have l3 : (3 : Int32).toInt = 3 := (by decide); omega)) (by first | omega | decide | (have l0 : (0 : Int32).toInt = 0 := (by decide); have l2 : (2 : Int32).toInt = 2 := (by decide); have l3 : (3 : Int32).toInt = 3 := (by decide); omega)) (by first | omega | decide | (have l0 : (0 : Int32).toInt = 0 := (by decide); have l2 : (2 : Int32).toInt = 2 := (by decide); have l3 : (3 : Int32).toInt = 3 := (by decide); omega))) ⟨ml_X10_377, ym_X10_leaves, yv_X10_leaves, yi_X10_leaves, yc_X10_leaves⟩ yd_X10_leaves ob_60 (by decide) rfl rfl hl.1 (Nat.le_of_ble_eq_true rfl) ⟨by decide, by decide⟩ ⟨Nat.zero_le _, Nat.zero_le _⟩ dX10_coughing_93 (fun M_28 H locs hp_28 hw => ?_)
                obtain ⟨frM_28, hqM_28⟩ := hp_28
                obtain ⟨iM_28, q_30, q_31, q_32, p0r_27⟩ := hqM_28
                exact hj_96_37 M_28 _ _ _ iM_28 (rq.trans q_30 (rq_qw q_21)) q_31 (((q_32).trans (tY_fr q_22))) (fR.trans frM_28 (fR_of q_21.2.1 fiM_20 q_22)) hw (lv_sub hl [0, 1, 2, 3, 4] rfl)
      refine sb_icmp_ge (tgt := 57) hx hb rfl rfl dX10_coughing_13 (by decide) (fun c_13_6 => ?_) (fun c_13_6 => ?_)
      · exact hj_57_16  _ _ _  hw (lv_sub hl [0, 1, 2, 3, 4] rfl)
      · refine lv_iload hx hb dX10_coughing_16 (lv_at hl 0 rfl) ?_
        refine lv_aload_n hx hb dX10_coughing_18 rfl (lv_at hl 2 rfl) ?_
        refine ti_get (ci := 10) (k := 3) (N := 67) (T := TX10) (v := .ref (A 60 4)) C hw iw_10 rfl ob_60 (by decide) (by decide) fl_X10_13 rfl rfl dX10_coughing_19 ?_
        refine lv_iconst (v := 4) hx hb dX10_coughing_22 (by decide) ?_
        refine ti_iald (ci := 10) (k := 3) (n := 22) C hw ob_60 (by decide) (fun _ _ => rfl) (by unfold vp_in; decide) dX10_coughing_23 ?_
        refine lv_topi (fun x_8 ex_8 => ?_)
        have yx_8 : tY M 60 3 4 = x_8 := ((congrArg _ (by decide)).symm.trans ex_8.symm)
        have zx_8 : (tY M 60 3 4).toInt = x_8.toInt := by rw [yx_8]
        refine sb_icmp_gt (tgt := 57) hx hb rfl rfl dX10_coughing_24 (by decide) (fun c_24_8 => ?_) (fun c_24_8 => ?_)
        · exact hj_57_16  _ _ _  hw (lv_sub hl [0, 1, 2, 3, 4] rfl)
        · refine lv_iload_n hx hb dX10_coughing_27 rfl (lv_at hl 1 rfl) ?_
          refine lv_aload_n hx hb dX10_coughing_28 rfl (lv_at hl 2 rfl) ?_
          refine ti_get (ci := 10) (k := 37) (N := 67) (T := TX10) (v := .ref (A 60 38)) C hw iw_10 rfl ob_60 (by decide) (by decide) fl_X10_78 rfl rfl dX10_coughing_29 ?_
          refine lv_iload_n hx hb dX10_coughing_32 rfl (lv_at hl 3 rfl) ?_
          refine ti_iald (ci := 10) (k := 37) (n := 23) C hw ob_60 (by decide) (fun _ _ => rfl) (by unfold vp_in; decide) dX10_coughing_33 ?_
          refine lv_topi (fun x_10 ex_10 => ?_)
          have yx_10 : tY M 60 37 1 = x_10 := ((congrArg _ (by decide)).symm.trans ex_10.symm)
          refine lv_aload_n hx hb dX10_coughing_34 rfl (lv_at hl 2 rfl) ?_
          refine ti_get (ci := 10) (k := 39) (N := 67) (T := TX10) (v := .ref (A 60 40)) C hw iw_10 rfl ob_60 (by decide) (by decide) fl_X10_84 rfl rfl dX10_coughing_35 ?_
          refine lv_bipush (v := 8) hx hb dX10_coughing_38 (by decide) ?_
          refine lv_iload_n hx hb dX10_coughing_40 rfl (lv_at hl 3 rfl) ?_
          refine lv_imul hx hb dX10_coughing_41 ?_
          refine ti_top (y := 8) (by decide) ?_
          refine lv_iload hx hb dX10_coughing_42 (lv_at hl 0 rfl) ?_
          refine lv_iadd hx hb dX10_coughing_44 ?_
          refine lv_topi (fun x_11 ex_11 => ?_)
          have tx_11 : x_11.toInt = 8 + x_1.toInt := i_add ex_11 (by decide : (8 : Int32).toInt = 8) rfl (by omega) (by omega)
          refine ti_iald (ci := 10) (k := 39) (n := 184) C hw ob_60 (by decide) (fun _ _ => rfl) (vp_in_iff.mpr (by omega)) dX10_coughing_45 ?_
          refine lv_topi (fun x_12 ex_12 => ?_)
          have yx_12 : tY M 60 39 x_11.toNatClampNeg = x_12 := (ex_12.symm)
          have bx_12 : 0 ≤ x_12.toInt ∧ x_12.toInt ≤ 7 := mI_ry (k := 39) (i := x_11.toNatClampNeg) hI yx_12.symm
          refine lv_ishr hx hb dX10_coughing_46 ?_
          refine lv_topi (fun x_13 ex_13 => ?_)
          refine lv_iconst (v := 1) hx hb dX10_coughing_47 (by decide) ?_
          refine lv_iand hx hb dX10_coughing_48 ?_
          refine lv_topi (fun x_14 ex_14 => ?_)
          have bx_14 := i_and 1 ex_14 (by decide) (by decide)
          refine lv_iadd hx hb dX10_coughing_49 ?_
          refine lv_topi (fun x_15 ex_15 => ?_)
          refine lv_istore_n (lv' := [(3, .int x_15), (4, .int x_1), (0, .ref (A 60 0)), (1, .int 1), (2, .int t)]) hx hb dX10_coughing_50 rfl hl (by decide) rfl (fun ls hl => ?_)
          obtain ⟨x_16, ex_16⟩ : ∃ z : Int32, z = x_1 + 1 := ⟨_, rfl⟩
          have tx_16 : x_16.toInt = x_1.toInt + 1 := i_add ex_16 rfl (by decide) (by omega) (by omega)
          refine lv_iinc (v := x_16) (lv' := [(4, .int x_16), (3, .int x_15), (0, .ref (A 60 0)), (1, .int 1), (2, .int t)]) hx hb dX10_coughing_51 hl (k := 1) rfl (by rw [ex_16]; rfl) (by decide) rfl (fun ls hl => ?_)
          refine lv_goto (tgt := 5) hx hb dX10_coughing_54 (by decide) ?_
          exact ih_5 x_16 x_15 _ _ _ (by omega) (by first | omega | decide) (by first | omega | decide) hw (lv_sub hl [0, 1, 2, 3, 4] rfl)
  exact hl_5_4 ((8 - 1 : Int).toNat + 1) 1 0 _ _ _ (Nat.lt_succ_self _) (by have lt0 : (0 : Int32).toInt = 0 := (by decide); have lt1 : (1 : Int32).toInt = 1 := (by decide); first | omega | decide) (by have lt0 : (0 : Int32).toInt = 0 := (by decide); have lt1 : (1 : Int32).toInt = 1 := (by decide); first | omega | decide) hw (lv_sub hl [0, 1, 2, 3, 4] rfl)
set_option maxHeartbeats 4000000 in
set_option maxRecDepth 100000 in
theorem f_X10_passes_1 (l : Launch) (D : va_G) (A : Nat → Nat → Nat) (cy : Nat → ClassId) (hJ : ti_inj ti_LM A) (M : ti_M) (hI : mI Tm M) (hC : mC M 1) (hL : mL M) (mu : Int32) : ti_Kv l yX10_passes cX10_passes 5 6 ti_LM D A cy M [.ref (A 60 0), .int 1, .int mu] (fun M2 => fR 1 M2 M ∧ mI Tm M2 ∧ rq 1 M2 M ∧ mC M2 1) := by
  refine ti_eV yp_X10_passes hJ ti_LM_nd (Nat.le_of_ble_eq_true rfl) ?_
  intro p e s m args below meth c Q H0 C hQ hw ls hl
  have hx := C.1
  have hb := C.2.1
  have hl : lv_has ls 5 [(0, .ref (A 60 0)), (1, .int 1), (2, .int mu)] := hl
  refine lv_aload_n hx hb dX10_passes_0 rfl (lv_at hl 0 rfl) ?_
  refine ti_get (ci := 10) (k := 34) (N := 67) (T := TX10) (v := .ref (A 60 35)) C hw iw_10 rfl ob_60 (by decide) (by decide) fl_X10_69 rfl rfl dX10_passes_1 ?_
  refine lv_iload_n hx hb dX10_passes_4 rfl (lv_at hl 1 rfl) ?_
  refine ti_iald (ci := 10) (k := 34) (n := 23) C hw ob_60 (by decide) (fun _ _ => rfl) (by unfold vp_in; decide) dX10_passes_5 ?_
  refine lv_topi (fun x_1 ex_1 => ?_)
  have yx_1 : tY M 60 34 1 = x_1 := ((congrArg _ (by decide)).symm.trans ex_1.symm)
  have zx_1 : (tY M 60 34 1).toInt = x_1.toInt := by rw [yx_1]
  refine lv_istore_n (lv' := [(3, .int x_1), (0, .ref (A 60 0)), (1, .int 1), (2, .int mu)]) hx hb dX10_passes_6 rfl hl (by decide) rfl (fun ls hl => ?_)
  refine lv_aload_n hx hb dX10_passes_7 rfl (lv_at hl 1 rfl) ?_
  refine lv_iload_n hx hb dX10_passes_8 rfl (lv_at hl 2 rfl) ?_
  refine lv_iload_n hx hb dX10_passes_9 rfl (lv_at hl 0 rfl) ?_
  refine ti_callVv (ci := 10) (av := [.int 1, .int x_1]) C hw (f_X10_arrive_1 l D A cy hJ M hI hC x_1) ⟨ml_X10_382, ym_X10_arrive, yv_X10_arrive, yi_X10_arrive, yc_X10_arrive⟩ yd_X10_arrive ob_60 (by decide) rfl rfl hl.1 (Nat.le_of_ble_eq_true rfl) ⟨by decide, by decide⟩ ⟨Nat.zero_le _, Nat.zero_le _⟩ dX10_passes_10 (fun M_3 H locs hp_3 hw => ?_)
  obtain ⟨frM_3, hqM_3⟩ := hp_3
  obtain ⟨iM_3, q_4, q_5, q_6⟩ := hqM_3
  refine lv_aload_n hx hb dX10_passes_13 rfl (lv_at hl 1 rfl) ?_
  refine lv_iload_n hx hb dX10_passes_14 rfl (lv_at hl 2 rfl) ?_
  refine lv_iload_n hx hb dX10_passes_15 rfl (lv_at hl 0 rfl) ?_
  refine ti_callVv (ci := 10) (av := [.int 1, .int x_1]) C hw (f_X10_coughing_1 l D A cy hJ M_3 iM_3 q_5 (mL_lw (lk_of q_4.1 q_4.2.1).1 hL) x_1) ⟨ml_X10_385, ym_X10_coughing, yv_X10_coughing, yi_X10_coughing, yc_X10_coughing⟩ yd_X10_coughing ob_60 (by decide) rfl rfl hl.1 (Nat.le_of_ble_eq_true rfl) ⟨by decide, by decide⟩ ⟨Nat.zero_le _, Nat.zero_le _⟩ dX10_passes_16 (fun M_8 H locs hp_8 hw => ?_)
  obtain ⟨frM_8, hqM_8⟩ := hp_8
  obtain ⟨iM_8, q_9, q_10, q_11⟩ := hqM_8
  refine lv_aload_n hx hb dX10_passes_19 rfl (lv_at hl 1 rfl) ?_
  refine lv_iload_n hx hb dX10_passes_20 rfl (lv_at hl 2 rfl) ?_
  refine ti_callVv (ci := 10) (av := [.int 1]) C hw (f_X10_pour_1 l D A cy hJ M_8 iM_8 ) ⟨ml_X10_388, ym_X10_pour, yv_X10_pour, yi_X10_pour, yc_X10_pour⟩ yd_X10_pour ob_60 (by decide) rfl rfl hl.1 (Nat.le_of_ble_eq_true rfl) ⟨by decide, by decide⟩ ⟨Nat.zero_le _, Nat.zero_le _⟩ dX10_passes_21 (fun M_13 H locs hp_13 hw => ?_)
  obtain ⟨frM_13, hqM_13⟩ := hp_13
  obtain ⟨iM_13, q_14, q_15⟩ := hqM_13
  refine lv_aload_n hx hb dX10_passes_24 rfl (lv_at hl 1 rfl) ?_
  refine lv_iload_n hx hb dX10_passes_25 rfl (lv_at hl 2 rfl) ?_
  refine lv_iload_n hx hb dX10_passes_26 rfl (lv_at hl 0 rfl) ?_
  refine ti_callVv (ci := 10) (av := [.int 1, .int x_1]) C hw (f_X10_levy_1 l D A cy hJ M_13 iM_13 (mL_lw (lk.trans (lk_of q_14.1 q_14.2.1) (lk.trans (lk_of q_9.1 q_9.2.1) (lk_of q_4.1 q_4.2.1))).1 hL) x_1) ⟨ml_X10_391, ym_X10_levy, yv_X10_levy, yi_X10_levy, yc_X10_levy⟩ yd_X10_levy ob_60 (by decide) rfl rfl hl.1 (Nat.le_of_ble_eq_true rfl) ⟨by decide, by decide⟩ ⟨Nat.zero_le _, Nat.zero_le _⟩ dX10_passes_27 (fun M_17 H locs hp_17 hw => ?_)
  obtain ⟨frM_17, hqM_17⟩ := hp_17
  obtain ⟨iM_17, q_18, q_19⟩ := hqM_17
  refine lv_aload_n hx hb dX10_passes_30 rfl (lv_at hl 1 rfl) ?_
  refine lv_iload_n hx hb dX10_passes_31 rfl (lv_at hl 2 rfl) ?_
  refine lv_iload_n hx hb dX10_passes_32 rfl (lv_at hl 0 rfl) ?_
  refine ti_callVv (ci := 10) (av := [.int 1, .int x_1]) C hw (f_X10_wear_1 l D A cy hJ M_17 iM_17 (mL_lw (lk.trans (lk_of q_18.1 q_18.2.1) (lk.trans (lk_of q_14.1 q_14.2.1) (lk.trans (lk_of q_9.1 q_9.2.1) (lk_of q_4.1 q_4.2.1)))).1 hL) x_1) ⟨ml_X10_394, ym_X10_wear, yv_X10_wear, yi_X10_wear, yc_X10_wear⟩ yd_X10_wear ob_60 (by decide) rfl rfl hl.1 (Nat.le_of_ble_eq_true rfl) ⟨by decide, by decide⟩ ⟨Nat.zero_le _, Nat.zero_le _⟩ dX10_passes_33 (fun M_21 H locs hp_21 hw => ?_)
  obtain ⟨frM_21, hqM_21⟩ := hp_21
  obtain ⟨iM_21, q_22, q_23⟩ := hqM_21
  refine lv_aload_n hx hb dX10_passes_36 rfl (lv_at hl 1 rfl) ?_
  refine ti_get (ci := 10) (k := 38) (N := 67) (T := TX10) (v := .ref (A 60 39)) C hw iw_10 rfl ob_60 (by decide) (by decide) fl_X10_81 rfl rfl dX10_passes_37 ?_
  refine lv_iload_n hx hb dX10_passes_40 rfl (lv_at hl 2 rfl) ?_
  refine ti_iald (ci := 10) (k := 38) (n := 23) C hw ob_60 (by decide) (fun _ _ => rfl) (by unfold vp_in; decide) dX10_passes_41 ?_
  refine lv_topi (fun x_24 ex_24 => ?_)
  have yx_24 : tY M_21 60 38 1 = x_24 := ((congrArg _ (by decide)).symm.trans ex_24.symm)
  have bx_24 : 0 ≤ x_24.toInt ∧ x_24.toInt ≤ 8 := mI_ry (k := 38) (i := 1) iM_21 yx_24.symm
  have zx_24 : (tY M_21 60 38 1).toInt = x_24.toInt := by rw [yx_24]
  have wx_24 : tY M_8 60 38 1 = x_24 := (((cg q_22.2.2.1 1).trans ((cg q_18.2.2.1 1).trans (cg q_14.2.2.1 1)))).symm.trans yx_24
  have zwx_24 : (tY M_8 60 38 1).toInt = x_24.toInt := by rw [wx_24]
  have hj_89_41 : ∀ (M_37 : ti_M) (H : Heap) (locs : List Loc) (ls : Array Slot), (mI Tm M_37) → (rq 1 M_37 M) → (mC M_37 1) → (tY M_37 60 34 = tY M 60 34) → (fR 1 M_37 M) → ti_H ti_LM D A cy H0 M_37 H locs → lv_has ls 5 [(3, .int x_1), (0, .ref (A 60 0)), (1, .int 1), (2, .int mu)] → W p l e (ti_rm 6) s m args below meth c H locs 0 0 Q (F0 m 89 ls []) := by
    intro M_37 H locs ls iM_37 f_38 f_39 f_40 f_41 hw hl
    refine lv_aload_n hx hb dX10_passes_89 rfl (lv_at hl 1 rfl) ?_
    refine ti_get (ci := 10) (k := 38) (N := 67) (T := TX10) (v := .ref (A 60 39)) C hw iw_10 rfl ob_60 (by decide) (by decide) fl_X10_81 rfl rfl dX10_passes_90 ?_
    refine lv_iload_n hx hb dX10_passes_93 rfl (lv_at hl 2 rfl) ?_
    refine ti_iald (ci := 10) (k := 38) (n := 23) C hw ob_60 (by decide) (fun _ _ => rfl) (by unfold vp_in; decide) dX10_passes_94 ?_
    refine lv_topi (fun x_42 ex_42 => ?_)
    have yx_42 : tY M_37 60 38 1 = x_42 := ((congrArg _ (by decide)).symm.trans ex_42.symm)
    have bx_42 : 0 ≤ x_42.toInt ∧ x_42.toInt ≤ 8 := mI_ry (k := 38) (i := 1) iM_37 yx_42.symm
    have zx_42 : (tY M_37 60 38 1).toInt = x_42.toInt := by rw [yx_42]
    refine lv_iconst (v := 1) hx hb dX10_passes_95 (by decide) ?_
    refine lv_isub hx hb dX10_passes_96 ?_
    refine lv_topi (fun x_43 ex_43 => ?_)
    have tx_43 : x_43.toInt = x_42.toInt - 1 := i_sub ex_43 rfl (by decide : (1 : Int32).toInt = 1) (by omega) (by omega)
    refine lv_istore (lv' := [(4, .int x_43), (3, .int x_1), (0, .ref (A 60 0)), (1, .int 1), (2, .int mu)]) hx hb dX10_passes_97 hl (by decide) rfl (fun ls hl => ?_)
    have hl_99_52 : ∀ (n_53 : Nat) (x_44 : Int32) (M_47 : ti_M) (H : Heap) (locs : List Loc) (ls : Array Slot), (x_44.toInt + 1 : Int).toNat < n_53 → ((-1) ≤ x_44.toInt) → (x_44.toInt ≤ 7) → (mI Tm M_47) → (rq 1 M_47 M) → (mC M_47 1) → (tY M_47 60 34 = tY M 60 34) → (fR 1 M_47 M) → (x_44.toInt < (tY M_47 60 38 1).toInt) → ti_H ti_LM D A cy H0 M_47 H locs → lv_has ls 5 [(4, .int x_44), (3, .int x_1), (0, .ref (A 60 0)), (1, .int 1), (2, .int mu)] → W p l e (ti_rm 6) s m args below meth c H locs 0 0 Q (F0 m 99 ls []) := by
      intro n_53
      induction n_53 with
      | zero => intro x_44 M_47 H locs ls hf_53; exact absurd hf_53 (Nat.not_lt_zero _)
      | succ n_53 ih_53 =>
        intro x_44 M_47 H locs ls hf_53 b_45 b_46 iM_47 f_48 f_49 f_50 f_51 j_52 hw hl
        refine lv_iload hx hb dX10_passes_99 (lv_at hl 0 rfl) ?_
        refine lv_iconst (v := 1) hx hb dX10_passes_101 (by decide) ?_
        refine sb_icmp_lt (tgt := 145) hx hb rfl (by decide : (1 : Int32).toInt = 1) dX10_passes_102 (by decide) (fun c_102_53 => ?_) (fun c_102_53 => ?_)
        · refine lv_iload_n hx hb dX10_passes_145 rfl (lv_at hl 4 rfl) ?_
          have hj_197_93 : ∀ (M_89 : ti_M) (H : Heap) (locs : List Loc) (ls : Array Slot), (mI Tm M_89) → (rq 1 M_89 M) → (mC M_89 1) → (tY M_89 60 34 = tY M 60 34) → (fR 1 M_89 M) → ti_H ti_LM D A cy H0 M_89 H locs → lv_has ls 5 [(4, .int x_44), (3, .int x_1), (0, .ref (A 60 0)), (1, .int 1), (2, .int mu)] → W p l e (ti_rm 6) s m args below meth c H locs 0 0 Q (F0 m 197 ls []) := by
            intro M_89 H locs ls iM_89 f_90 f_91 f_92 f_93 hw hl
            refine lv_aload_n hx hb dX10_passes_197 rfl (lv_at hl 2 rfl) ?_
            refine ti_get (ci := 10) (k := 34) (N := 67) (T := TX10) (v := .ref (A 60 35)) C hw iw_10 rfl ob_60 (by decide) (by decide) fl_X10_69 rfl rfl dX10_passes_198 ?_
            refine lv_iload_n hx hb dX10_passes_201 rfl (lv_at hl 3 rfl) ?_
            refine lv_dup2_11 hx hb dX10_passes_202 rfl rfl ?_
            refine ti_iald (ci := 10) (k := 34) (n := 23) C hw ob_60 (by decide) (fun _ _ => rfl) (by unfold vp_in; decide) dX10_passes_203 ?_
            refine ti_top (y := x_1) ((congrArg _ (by decide)).trans ((cg f_92 1).trans yx_1)) ?_
            refine lv_iconst (v := 1) hx hb dX10_passes_204 (by decide) ?_
            refine lv_iadd hx hb dX10_passes_205 ?_
            refine lv_topi (fun x_94 ex_94 => ?_)
            refine ti_iast (ci := 10) (k := 34) (n := 23) C hw ob_60 (by decide) (fun _ _ => rfl) (by unfold vp_in; decide) dX10_passes_206 (fun H locs hw => ?_)
            obtain ⟨M_95, hM_95⟩ : ∃ z : ti_M, z = uY M_89 60 34 (upd (tY M_89 60 34) (1 : Int32).toNatClampNeg x_94) := ⟨_, rfl⟩
            have hw := hw.to hM_95.symm
            have iM_95 : mI Tm M_95 := mI_up (i := 1) iM_89 hM_95 (fun h => absurd rfl h)
            exact hQ _ _ _ _ _ hw (⟨(fR.trans (fR_Y hM_95 (bk_q (z := 1) (by decide) (by decide))) f_93), iM_95, (rq.trans (rq_qw (qw_Y hM_95 (by decide))) f_90), (mC_qw (qw_Y hM_95 (by decide)) f_91)⟩) dX10_passes_207
          refine sb_if_eq (tgt := 197) hx hb rfl dX10_passes_146 (by decide) (fun c_146_71 => ?_) (fun c_146_71 => ?_)
          · exact hj_197_93 M_47 _ _ _ iM_47 f_48 f_49 ((f_50)) f_51 hw (lv_sub hl [0, 1, 2, 3, 4] rfl)
          · refine lv_aload_n hx hb dX10_passes_149 rfl (lv_at hl 2 rfl) ?_
            refine ti_get (ci := 10) (k := 3) (N := 67) (T := TX10) (v := .ref (A 60 4)) C hw iw_10 rfl ob_60 (by decide) (by decide) fl_X10_13 rfl rfl dX10_passes_150 ?_
            refine lv_iconst (v := 5) hx hb dX10_passes_153 (by decide) ?_
            refine ti_iald (ci := 10) (k := 3) (n := 22) C hw ob_60 (by decide) (fun _ _ => rfl) (by unfold vp_in; decide) dX10_passes_154 ?_
            refine lv_topi (fun x_73 ex_73 => ?_)
            have yx_73 : tY M_47 60 3 5 = x_73 := ((congrArg _ (by decide)).symm.trans ex_73.symm)
            have zx_73 : (tY M_47 60 3 5).toInt = x_73.toInt := by rw [yx_73]
            have wx_73 : tY M 60 3 5 = x_73 := ((cg (f_48.1 3 (by decide) (by decide)) 5)).symm.trans yx_73
            have zwx_73 : (tY M 60 3 5).toInt = x_73.toInt := by rw [wx_73]
            refine sb_if_le (tgt := 197) hx hb rfl dX10_passes_155 (by decide) (fun c_155_73 => ?_) (fun c_155_73 => ?_)
            · exact hj_197_93 M_47 _ _ _ iM_47 f_48 f_49 ((f_50)) f_51 hw (lv_sub hl [0, 1, 2, 3, 4] rfl)
            · refine lv_aload_n hx hb dX10_passes_158 rfl (lv_at hl 2 rfl) ?_
              refine lv_iload_n hx hb dX10_passes_159 rfl (lv_at hl 3 rfl) ?_
              refine ti_callVi (ci := 10) (av := [.int 1]) C hw (f_X10_draw_1 l D A cy hJ M_47 iM_47 ) ⟨ml_X10_397, ym_X10_draw, yv_X10_draw, yi_X10_draw, yc_X10_draw⟩ yd_X10_draw ob_60 (by decide) rfl rfl hl.1 (Nat.le_of_ble_eq_true rfl) ⟨by decide, by decide⟩ ⟨Nat.zero_le _, Nat.zero_le _⟩ dX10_passes_160 (fun r_75 M_76 H locs hp_76 hw => ?_)
              obtain ⟨frM_76, hqM_76⟩ := hp_76
              obtain ⟨iM_76, q_77, q_78⟩ := hqM_76
              refine lv_aload_n hx hb dX10_passes_163 rfl (lv_at hl 2 rfl) ?_
              refine ti_get (ci := 10) (k := 3) (N := 67) (T := TX10) (v := .ref (A 60 4)) C hw iw_10 rfl ob_60 (by decide) (by decide) fl_X10_13 rfl rfl dX10_passes_164 ?_
              refine lv_iconst (v := 5) hx hb dX10_passes_167 (by decide) ?_
              refine ti_iald (ci := 10) (k := 3) (n := 22) C hw ob_60 (by decide) (fun _ _ => rfl) (by unfold vp_in; decide) dX10_passes_168 ?_
              refine ti_top (y := x_73) ((congrArg _ (by decide)).trans ((cg (q_77.1 3 (by decide) (by decide)) 5).trans ((cg (f_48.1 3 (by decide) (by decide)) 5).trans wx_73))) ?_
              refine sb_icmp_ge (tgt := 197) hx hb rfl rfl dX10_passes_169 (by decide) (fun c_169_78 => ?_) (fun c_169_78 => ?_)
              · exact hj_197_93 M_76 _ _ _ iM_76 (rq.trans (rq_qw q_77) f_48) (mC_qw q_77 f_49) (((q_78).trans f_50)) (fR.trans frM_76 f_51) hw (lv_sub hl [0, 1, 2, 3, 4] rfl)
              · refine lv_aload_n hx hb dX10_passes_172 rfl (lv_at hl 2 rfl) ?_
                refine ti_get (ci := 10) (k := 38) (N := 67) (T := TX10) (v := .ref (A 60 39)) C hw iw_10 rfl ob_60 (by decide) (by decide) fl_X10_81 rfl rfl dX10_passes_173 ?_
                refine lv_iload_n hx hb dX10_passes_176 rfl (lv_at hl 3 rfl) ?_
                refine ti_iald (ci := 10) (k := 38) (n := 23) C hw ob_60 (by decide) (fun _ _ => rfl) (by unfold vp_in; decide) dX10_passes_177 ?_
                refine lv_topi (fun x_80 ex_80 => ?_)
                have yx_80 : tY M_76 60 38 1 = x_80 := ((congrArg _ (by decide)).symm.trans ex_80.symm)
                have bx_80 : 0 ≤ x_80.toInt ∧ x_80.toInt ≤ 8 := mI_ry (k := 38) (i := 1) iM_76 yx_80.symm
                have zx_80 : (tY M_76 60 38 1).toInt = x_80.toInt := by rw [yx_80]
                have wx_80 : tY M_47 60 38 1 = x_80 := ((cg q_77.2.2.1 1)).symm.trans yx_80
                have zwx_80 : (tY M_47 60 38 1).toInt = x_80.toInt := by rw [wx_80]
                refine lv_iconst (v := 1) hx hb dX10_passes_178 (by decide) ?_
                refine sb_icmp_le (tgt := 197) hx hb rfl (by decide : (1 : Int32).toInt = 1) dX10_passes_179 (by decide) (fun c_179_80 => ?_) (fun c_179_80 => ?_)
                · exact hj_197_93 M_76 _ _ _ iM_76 (rq.trans (rq_qw q_77) f_48) (mC_qw q_77 f_49) (((q_78).trans f_50)) (fR.trans frM_76 f_51) hw (lv_sub hl [0, 1, 2, 3, 4] rfl)
                · refine lv_aload_n hx hb dX10_passes_182 rfl (lv_at hl 2 rfl) ?_
                  refine lv_iload_n hx hb dX10_passes_183 rfl (lv_at hl 3 rfl) ?_
                  refine lv_aload_n hx hb dX10_passes_184 rfl (lv_at hl 2 rfl) ?_
                  refine ti_get (ci := 10) (k := 38) (N := 67) (T := TX10) (v := .ref (A 60 39)) C hw iw_10 rfl ob_60 (by decide) (by decide) fl_X10_81 rfl rfl dX10_passes_185 ?_
                  refine lv_iload_n hx hb dX10_passes_188 rfl (lv_at hl 3 rfl) ?_
                  refine ti_iald (ci := 10) (k := 38) (n := 23) C hw ob_60 (by decide) (fun _ _ => rfl) (by unfold vp_in; decide) dX10_passes_189 ?_
                  refine ti_top (y := x_80) ((congrArg _ (by decide)).trans ((cg q_77.2.2.1 1).trans wx_80)) ?_
                  refine lv_iconst (v := 1) hx hb dX10_passes_190 (by decide) ?_
                  refine lv_isub hx hb dX10_passes_191 ?_
                  refine lv_topi (fun x_82 ex_82 => ?_)
                  have tx_82 : x_82.toInt = x_80.toInt - 1 := i_sub ex_82 rfl (by decide : (1 : Int32).toInt = 1) (by omega) (by omega)
                  refine lv_iconst (v := 3) hx hb dX10_passes_192 (by decide) ?_
                  refine lv_iload_n hx hb dX10_passes_193 rfl (lv_at hl 1 rfl) ?_
                  have lk_85 : (tY M_76 60 38 1).toInt = (tY M_47 60 38 1).toInt := by rw [(cg q_77.2.2.1 1)]
                  refine ti_callVv (ci := 10) (av := [.int 1, .int x_82, .int 3, .int x_1]) C hw (f_X10_leaves_1 l D A cy hJ M_76 iM_76 (mC_qw q_77 f_49) x_82 3 x_1 (by first | omega | decide | (have l0 : (0 : Int32).toInt = 0 := (by decide); have l2 : (2 : Int32).toInt = 2 := (by decide); have l3 : (3 : Int32).toInt = 3 := (by decide); omega)) (by first | omega | decide | (have l0 : (0 : Int32).toInt = 0 := (by decide); have l2 : (2 : Int32).toInt = 2 := (by decide); have l3 : (3 : Int32).toInt = 3 := (by decide); omega)) (by first | omega | decide | (have l0 : (0 : Int32).toInt = 0 := (by decide); have l2 : (2 : Int32).toInt = 2 := (by decide); have l3 : (3 : Int32).toInt = 3 := (by decide); omega))) ⟨ml_X10_377, ym_X10_leaves, yv_X10_leaves, yi_X10_leaves, yc_X10_leaves⟩ yd_X10_leaves ob_60 (by decide) rfl rfl hl.1 (Nat.le_of_ble_eq_true rfl) ⟨by decide, by decide⟩ ⟨Nat.zero_le _, Nat.zero_le _⟩ dX10_passes_194 (fun M_84 H locs hp_84 hw => ?_)
                  obtain ⟨frM_84, hqM_84⟩ := hp_84
                  obtain ⟨iM_84, q_86, q_87, q_88, p0r_83⟩ := hqM_84
                  exact hj_197_93 M_84 _ _ _ iM_84 (rq.trans q_86 (rq.trans (rq_qw q_77) f_48)) q_87 (((q_88).trans ((q_78).trans f_50))) (fR.trans frM_84 (fR.trans frM_76 f_51)) hw (lv_sub hl [0, 1, 2, 3, 4] rfl)
        · refine lv_aload_n hx hb dX10_passes_105 rfl (lv_at hl 2 rfl) ?_
          refine ti_get (ci := 10) (k := 41) (N := 67) (T := TX10) (v := .ref (A 60 42)) C hw iw_10 rfl ob_60 (by decide) (by decide) fl_X10_90 rfl rfl dX10_passes_106 ?_
          refine lv_bipush (v := 8) hx hb dX10_passes_109 (by decide) ?_
          refine lv_iload_n hx hb dX10_passes_111 rfl (lv_at hl 3 rfl) ?_
          refine lv_imul hx hb dX10_passes_112 ?_
          refine ti_top (y := 8) (by decide) ?_
          refine lv_aload_n hx hb dX10_passes_113 rfl (lv_at hl 2 rfl) ?_
          refine ti_get (ci := 10) (k := 39) (N := 67) (T := TX10) (v := .ref (A 60 40)) C hw iw_10 rfl ob_60 (by decide) (by decide) fl_X10_84 rfl rfl dX10_passes_114 ?_
          refine lv_bipush (v := 8) hx hb dX10_passes_117 (by decide) ?_
          refine lv_iload_n hx hb dX10_passes_119 rfl (lv_at hl 3 rfl) ?_
          refine lv_imul hx hb dX10_passes_120 ?_
          refine ti_top (y := 8) (by decide) ?_
          refine lv_iload hx hb dX10_passes_121 (lv_at hl 0 rfl) ?_
          refine lv_iadd hx hb dX10_passes_123 ?_
          refine lv_topi (fun x_55 ex_55 => ?_)
          have tx_55 : x_55.toInt = 8 + x_44.toInt := i_add ex_55 (by decide : (8 : Int32).toInt = 8) rfl (by omega) (by omega)
          refine ti_iald (ci := 10) (k := 39) (n := 184) C hw ob_60 (by decide) (fun _ _ => rfl) (vp_in_iff.mpr (by omega)) dX10_passes_124 ?_
          refine lv_topi (fun x_56 ex_56 => ?_)
          have yx_56 : tY M_47 60 39 x_55.toNatClampNeg = x_56 := (ex_56.symm)
          have bx_56 : 0 ≤ x_56.toInt ∧ x_56.toInt ≤ 7 := mI_ry (k := 39) (i := x_55.toNatClampNeg) iM_47 yx_56.symm
          refine lv_iadd hx hb dX10_passes_125 ?_
          refine lv_topi (fun x_57 ex_57 => ?_)
          have tx_57 : x_57.toInt = 8 + x_56.toInt := i_add ex_57 (by decide : (8 : Int32).toInt = 8) rfl (by omega) (by omega)
          refine ti_iald (ci := 10) (k := 41) (n := 184) C hw ob_60 (by decide) (fun _ _ => rfl) (vp_in_iff.mpr (by omega)) dX10_passes_126 ?_
          refine lv_topi (fun x_58 ex_58 => ?_)
          have yx_58 : tY M_47 60 41 x_57.toNatClampNeg = x_58 := (ex_58.symm)
          have hj_139_70 : ∀ (M_65 : ti_M) (H : Heap) (locs : List Loc) (ls : Array Slot), (mI Tm M_65) → (rq 1 M_65 M) → (mC M_65 1) → (tY M_65 60 34 = tY M 60 34) → (fR 1 M_65 M) → (x_44.toInt ≤ (tY M_65 60 38 1).toInt) → ti_H ti_LM D A cy H0 M_65 H locs → lv_has ls 5 [(4, .int x_44), (3, .int x_1), (0, .ref (A 60 0)), (1, .int 1), (2, .int mu)] → W p l e (ti_rm 6) s m args below meth c H locs 0 0 Q (F0 m 139 ls []) := by
            intro M_65 H locs ls iM_65 f_66 f_67 f_68 f_69 j_70 hw hl
            obtain ⟨x_71, ex_71⟩ : ∃ z : Int32, z = x_44 + (-1) := ⟨_, rfl⟩
            have tx_71 : x_71.toInt = x_44.toInt + (-1) := i_add ex_71 rfl (by decide) (by omega) (by omega)
            refine lv_iinc (v := x_71) (lv' := [(4, .int x_71), (3, .int x_1), (0, .ref (A 60 0)), (1, .int 1), (2, .int mu)]) hx hb dX10_passes_139 hl (k := 0) rfl (by rw [ex_71]; rfl) (by decide) rfl (fun ls hl => ?_)
            refine lv_goto (tgt := 99) hx hb dX10_passes_142 (by decide) ?_
            exact ih_53 x_71 M_65 _ _ _ (by omega) (by first | omega | decide) (by first | omega | decide) iM_65 f_66 f_67 ((f_68)) f_69 (by first | omega | decide) hw (lv_sub hl [0, 1, 2, 3, 4] rfl)
          refine sb_if_gt (tgt := 139) hx hb rfl dX10_passes_127 (by decide) (fun c_127_58 => ?_) (fun c_127_58 => ?_)
          · exact hj_139_70 M_47 _ _ _ iM_47 f_48 f_49 ((f_50)) f_51 (by first | omega | decide) hw (lv_sub hl [0, 1, 2, 3, 4] rfl)
          · refine lv_aload_n hx hb dX10_passes_130 rfl (lv_at hl 2 rfl) ?_
            refine lv_iload_n hx hb dX10_passes_131 rfl (lv_at hl 3 rfl) ?_
            refine lv_iload hx hb dX10_passes_132 (lv_at hl 0 rfl) ?_
            refine lv_iconst (v := 3) hx hb dX10_passes_134 (by decide) ?_
            refine lv_iload_n hx hb dX10_passes_135 rfl (lv_at hl 1 rfl) ?_
            refine ti_callVv (ci := 10) (av := [.int 1, .int x_44, .int 3, .int x_1]) C hw (f_X10_leaves_1 l D A cy hJ M_47 iM_47 f_49 x_44 3 x_1 (by first | omega | decide | (have l0 : (0 : Int32).toInt = 0 := (by decide); have l2 : (2 : Int32).toInt = 2 := (by decide); have l3 : (3 : Int32).toInt = 3 := (by decide); omega)) (by first | omega | decide | (have l0 : (0 : Int32).toInt = 0 := (by decide); have l2 : (2 : Int32).toInt = 2 := (by decide); have l3 : (3 : Int32).toInt = 3 := (by decide); omega)) (by first | omega | decide | (have l0 : (0 : Int32).toInt = 0 := (by decide); have l2 : (2 : Int32).toInt = 2 := (by decide); have l3 : (3 : Int32).toInt = 3 := (by decide); omega))) ⟨ml_X10_377, ym_X10_leaves, yv_X10_leaves, yi_X10_leaves, yc_X10_leaves⟩ yd_X10_leaves ob_60 (by decide) rfl rfl hl.1 (Nat.le_of_ble_eq_true rfl) ⟨by decide, by decide⟩ ⟨Nat.zero_le _, Nat.zero_le _⟩ dX10_passes_136 (fun M_61 H locs hp_61 hw => ?_)
            obtain ⟨frM_61, hqM_61⟩ := hp_61
            obtain ⟨iM_61, q_62, q_63, q_64, p0r_60⟩ := hqM_61
            exact hj_139_70 M_61 _ _ _ iM_61 (rq.trans q_62 f_48) q_63 (((q_64).trans f_50)) (fR.trans frM_61 f_51) (by first | omega | decide) hw (lv_sub hl [0, 1, 2, 3, 4] rfl)
    exact hl_99_52 ((x_43.toInt + 1 : Int).toNat + 1) x_43 M_37 _ _ _ (Nat.lt_succ_self _) (by first | omega | decide) (by first | omega | decide) iM_37 f_38 f_39 ((f_40)) f_41 (by first | omega | decide) hw (lv_sub hl [0, 1, 2, 3, 4] rfl)
  refine sb_if_le (tgt := 89) hx hb rfl dX10_passes_42 (by decide) (fun c_42_24 => ?_) (fun c_42_24 => ?_)
  · exact hj_89_41 M_21 _ _ _ iM_21 (rq.trans (rq_qw q_22) (rq.trans (rq_qw q_18) (rq.trans (rq_qw q_14) (rq.trans q_9 q_4)))) (mC_qw (qw.trans q_22 (qw.trans q_18 q_14)) q_10) (((q_23).trans ((q_19).trans ((q_15).trans ((q_11).trans q_6))))) (fR.trans frM_21 (fR.trans frM_17 (fR.trans frM_13 (fR.trans frM_8 frM_3)))) hw (lv_sub hl [0, 1, 2, 3] rfl)
  · refine lv_aload_n hx hb dX10_passes_45 rfl (lv_at hl 1 rfl) ?_
    refine ti_get (ci := 10) (k := 42) (N := 67) (T := TX10) (v := .ref (A 60 43)) C hw iw_10 rfl ob_60 (by decide) (by decide) fl_X10_93 rfl rfl dX10_passes_46 ?_
    refine lv_bipush (v := 8) hx hb dX10_passes_49 (by decide) ?_
    refine lv_iload_n hx hb dX10_passes_51 rfl (lv_at hl 2 rfl) ?_
    refine lv_imul hx hb dX10_passes_52 ?_
    refine ti_top (y := 8) (by decide) ?_
    refine lv_aload_n hx hb dX10_passes_53 rfl (lv_at hl 1 rfl) ?_
    refine ti_get (ci := 10) (k := 39) (N := 67) (T := TX10) (v := .ref (A 60 40)) C hw iw_10 rfl ob_60 (by decide) (by decide) fl_X10_84 rfl rfl dX10_passes_54 ?_
    refine lv_bipush (v := 8) hx hb dX10_passes_57 (by decide) ?_
    refine lv_iload_n hx hb dX10_passes_59 rfl (lv_at hl 2 rfl) ?_
    refine lv_imul hx hb dX10_passes_60 ?_
    refine ti_top (y := 8) (by decide) ?_
    refine ti_iald (ci := 10) (k := 39) (n := 184) C hw ob_60 (by decide) (fun _ _ => rfl) (by unfold vp_in; decide) dX10_passes_61 ?_
    refine lv_topi (fun x_26 ex_26 => ?_)
    have yx_26 : tY M_21 60 39 8 = x_26 := ((congrArg _ (by decide)).symm.trans ex_26.symm)
    have bx_26 : 0 ≤ x_26.toInt ∧ x_26.toInt ≤ 7 := mI_ry (k := 39) (i := 8) iM_21 yx_26.symm
    have wx_26 : tY M_8 60 39 8 = x_26 := (((cg q_22.2.2.2.1 8).trans ((cg q_18.2.2.2.1 8).trans (cg q_14.2.2.2.1 8)))).symm.trans yx_26
    refine lv_iadd hx hb dX10_passes_62 ?_
    refine lv_topi (fun x_27 ex_27 => ?_)
    have tx_27 : x_27.toInt = 8 + x_26.toInt := i_add ex_27 (by decide : (8 : Int32).toInt = 8) rfl (by omega) (by omega)
    refine ti_iald (ci := 10) (k := 42) (n := 184) C hw ob_60 (by decide) (fun _ _ => rfl) (vp_in_iff.mpr (by omega)) dX10_passes_63 ?_
    refine lv_topi (fun x_28 ex_28 => ?_)
    have yx_28 : tY M_21 60 42 x_27.toNatClampNeg = x_28 := (ex_28.symm)
    refine lv_aload_n hx hb dX10_passes_64 rfl (lv_at hl 1 rfl) ?_
    refine ti_get (ci := 10) (k := 8) (N := 67) (T := TX10) (v := .ref (A 60 9)) C hw iw_10 rfl ob_60 (by decide) (by decide) fl_X10_28 rfl rfl dX10_passes_65 ?_
    refine lv_aload_n hx hb dX10_passes_68 rfl (lv_at hl 1 rfl) ?_
    refine ti_get (ci := 10) (k := 39) (N := 67) (T := TX10) (v := .ref (A 60 40)) C hw iw_10 rfl ob_60 (by decide) (by decide) fl_X10_84 rfl rfl dX10_passes_69 ?_
    refine lv_bipush (v := 8) hx hb dX10_passes_72 (by decide) ?_
    refine lv_iload_n hx hb dX10_passes_74 rfl (lv_at hl 2 rfl) ?_
    refine lv_imul hx hb dX10_passes_75 ?_
    refine ti_top (y := 8) (by decide) ?_
    refine ti_iald (ci := 10) (k := 39) (n := 184) C hw ob_60 (by decide) (fun _ _ => rfl) (by unfold vp_in; decide) dX10_passes_76 ?_
    refine ti_top (y := x_26) ((congrArg _ (by decide)).trans ((cg q_22.2.2.2.1 8).trans ((cg q_18.2.2.2.1 8).trans ((cg q_14.2.2.2.1 8).trans wx_26)))) ?_
    refine ti_iald (ci := 10) (k := 8) (n := 16) C hw ob_60 (by decide) (fun _ _ => rfl) (vp_in_iff.mpr (by omega)) dX10_passes_77 ?_
    refine lv_topi (fun x_29 ex_29 => ?_)
    have yx_29 : tY M_21 60 8 x_26.toNatClampNeg = x_29 := (ex_29.symm)
    have wx_29 : tY M 60 8 x_26.toNatClampNeg = x_29 := (((cg (q_22.1 8 (by decide) (by decide)) x_26.toNatClampNeg).trans ((cg (q_18.1 8 (by decide) (by decide)) x_26.toNatClampNeg).trans ((cg (q_14.1 8 (by decide) (by decide)) x_26.toNatClampNeg).trans ((cg (q_9.1 8 (by decide) (by decide)) x_26.toNatClampNeg).trans (cg (q_4.1 8 (by decide) (by decide)) x_26.toNatClampNeg)))))).symm.trans yx_29
    refine sb_icmp_ne (tgt := 89) hx hb rfl rfl dX10_passes_78 (by decide) (fun c_78_29 => ?_) (fun c_78_29 => ?_)
    · exact hj_89_41 M_21 _ _ _ iM_21 (rq.trans (rq_qw q_22) (rq.trans (rq_qw q_18) (rq.trans (rq_qw q_14) (rq.trans q_9 q_4)))) (mC_qw (qw.trans q_22 (qw.trans q_18 q_14)) q_10) (((q_23).trans ((q_19).trans ((q_15).trans ((q_11).trans q_6))))) (fR.trans frM_21 (fR.trans frM_17 (fR.trans frM_13 (fR.trans frM_8 frM_3)))) hw (lv_sub hl [0, 1, 2, 3] rfl)
    · refine lv_aload_n hx hb dX10_passes_81 rfl (lv_at hl 1 rfl) ?_
      refine lv_iload_n hx hb dX10_passes_82 rfl (lv_at hl 2 rfl) ?_
      refine lv_iconst (v := 0) hx hb dX10_passes_83 (by decide) ?_
      refine lv_iconst (v := 2) hx hb dX10_passes_84 (by decide) ?_
      refine lv_iload_n hx hb dX10_passes_85 rfl (lv_at hl 0 rfl) ?_
      have lk_33 : (tY M_21 60 38 1).toInt = (tY M_8 60 38 1).toInt := by rw [((cg q_22.2.2.1 1).trans ((cg q_18.2.2.1 1).trans (cg q_14.2.2.1 1)))]
      refine ti_callVv (ci := 10) (av := [.int 1, .int 0, .int 2, .int x_1]) C hw (f_X10_leaves_1 l D A cy hJ M_21 iM_21 (mC_qw (qw.trans q_22 (qw.trans q_18 q_14)) q_10) 0 2 x_1 (by first | omega | decide | (have l0 : (0 : Int32).toInt = 0 := (by decide); have l2 : (2 : Int32).toInt = 2 := (by decide); have l3 : (3 : Int32).toInt = 3 := (by decide); omega)) (by first | omega | decide | (have l0 : (0 : Int32).toInt = 0 := (by decide); have l2 : (2 : Int32).toInt = 2 := (by decide); have l3 : (3 : Int32).toInt = 3 := (by decide); omega)) (by first | omega | decide | (have l0 : (0 : Int32).toInt = 0 := (by decide); have l2 : (2 : Int32).toInt = 2 := (by decide); have l3 : (3 : Int32).toInt = 3 := (by decide); omega))) ⟨ml_X10_377, ym_X10_leaves, yv_X10_leaves, yi_X10_leaves, yc_X10_leaves⟩ yd_X10_leaves ob_60 (by decide) rfl rfl hl.1 (Nat.le_of_ble_eq_true rfl) ⟨by decide, by decide⟩ ⟨Nat.zero_le _, Nat.zero_le _⟩ dX10_passes_86 (fun M_32 H locs hp_32 hw => ?_)
      obtain ⟨frM_32, hqM_32⟩ := hp_32
      obtain ⟨iM_32, q_34, q_35, q_36, p0r_31⟩ := hqM_32
      exact hj_89_41 M_32 _ _ _ iM_32 (rq.trans q_34 (rq.trans (rq_qw q_22) (rq.trans (rq_qw q_18) (rq.trans (rq_qw q_14) (rq.trans q_9 q_4))))) q_35 (((q_36).trans ((q_23).trans ((q_19).trans ((q_15).trans ((q_11).trans q_6)))))) (fR.trans frM_32 (fR.trans frM_21 (fR.trans frM_17 (fR.trans frM_13 (fR.trans frM_8 frM_3))))) hw (lv_sub hl [0, 1, 2, 3] rfl)
set_option maxHeartbeats 4000000 in
set_option maxRecDepth 100000 in
theorem f_X10_runs (l : Launch) (D : va_G) (A : Nat → Nat → Nat) (cy : Nat → ClassId) (hJ : ti_inj ti_LM A) (M : ti_M) (hI : mI Tm M) (hC : mC M 1) (hL : mL M) (n : Int32) : ti_Kv l yX10_runs cX10_runs 3 7 ti_LM D A cy M [.ref (A 60 0), .int n] (fun M2 => fR 1 M2 M ∧ mI Tm M2 ∧ rq 1 M2 M ∧ mC M2 1) := by
  refine ti_eV yp_X10_runs hJ ti_LM_nd (Nat.le_of_ble_eq_true rfl) ?_
  intro p e s m args below meth c Q H0 C hQ hw ls hl
  have hx := C.1
  have hb := C.2.1
  have hl : lv_has ls 3 [(0, .ref (A 60 0)), (1, .int n)] := hl
  have hn := n.toInt_lt
  refine lv_iconst (v := 0) hx hb dX10_runs_0 (by decide) ?_
  refine lv_istore_n (lv' := [(2, .int 0), (0, .ref (A 60 0)), (1, .int n)]) hx hb dX10_runs_1 rfl hl (by decide) rfl (fun ls hl => ?_)
  have hl_2_6 : ∀ (n_7 : Nat) (x_1 : Int32) (M_3 : ti_M) (H : Heap) (locs : List Loc) (ls : Array Slot), (n.toInt - x_1.toInt : Int).toNat < n_7 → (0 ≤ x_1.toInt) → (mI Tm M_3) → (rq 1 M_3 M) → (mC M_3 1) → (fR 1 M_3 M) → ti_H ti_LM D A cy H0 M_3 H locs → lv_has ls 3 [(2, .int x_1), (0, .ref (A 60 0)), (1, .int n)] → W p l e (ti_rm 7) s m args below meth c H locs 0 0 Q (F0 m 2 ls []) := by
    intro n_7
    induction n_7 with
    | zero => intro x_1 M_3 H locs ls hf_7; exact absurd hf_7 (Nat.not_lt_zero _)
    | succ n_7 ih_7 =>
      intro x_1 M_3 H locs ls hf_7 b_2 iM_3 f_4 f_5 f_6 hw hl
      refine lv_iload_n hx hb dX10_runs_2 rfl (lv_at hl 0 rfl) ?_
      refine lv_iload_n hx hb dX10_runs_3 rfl (lv_at hl 2 rfl) ?_
      refine sb_icmp_ge (tgt := 19) hx hb rfl rfl dX10_runs_4 (by decide) (fun c_4_7 => ?_) (fun c_4_7 => ?_)
      · exact hQ _ _ _ _ _ hw (⟨f_6, iM_3, f_4, f_5⟩) dX10_runs_19
      · refine lv_aload_n hx hb dX10_runs_7 rfl (lv_at hl 1 rfl) ?_
        refine lv_iconst (v := 1) hx hb dX10_runs_8 (by decide) ?_
        refine lv_iconst (v := 0) hx hb dX10_runs_9 (by decide) ?_
        refine ti_callVv (ci := 10) (av := [.int 1, .int 0]) C hw (f_X10_passes_1 l D A cy hJ M_3 iM_3 f_5 (mL_lw (lk_of f_4.1 f_4.2.1).1 hL) 0) ⟨ml_X10_407, ym_X10_passes, yv_X10_passes, yi_X10_passes, yc_X10_passes⟩ yd_X10_passes ob_60 (by decide) rfl rfl hl.1 (Nat.le_of_ble_eq_true rfl) ⟨by decide, by decide⟩ ⟨Nat.zero_le _, Nat.zero_le _⟩ dX10_runs_10 (fun M_10 H locs hp_10 hw => ?_)
        obtain ⟨frM_10, hqM_10⟩ := hp_10
        obtain ⟨iM_10, q_11, q_12⟩ := hqM_10
        obtain ⟨x_13, ex_13⟩ : ∃ z : Int32, z = x_1 + 1 := ⟨_, rfl⟩
        have lox_13 := x_1.le_toInt
        have hix_13 := x_1.toInt_lt
        have tx_13 : x_13.toInt = x_1.toInt + 1 := i_add ex_13 rfl (by decide) (by omega) (by omega)
        refine lv_iinc (v := x_13) (lv' := [(2, .int x_13), (0, .ref (A 60 0)), (1, .int n)]) hx hb dX10_runs_13 hl (k := 0) rfl (by rw [ex_13]; rfl) (by decide) rfl (fun ls hl => ?_)
        refine lv_goto (tgt := 2) hx hb dX10_runs_16 (by decide) ?_
        exact ih_7 x_13 M_10 _ _ _ (by omega) (by first | omega | decide) iM_10 (rq.trans q_11 f_4) q_12 (fR.trans frM_10 f_6) hw (lv_sub hl [0, 1, 2] rfl)
  exact hl_2_6 ((n.toInt - 0 : Int).toNat + 1) 0 M _ _ _ (Nat.lt_succ_self _) (by have lt0 : (0 : Int32).toInt = 0 := (by decide); first | omega | decide) hI rq.refl hC fR.refl hw (lv_sub hl [0, 1, 2] rfl)
set_option maxHeartbeats 4000000 in
set_option maxRecDepth 100000 in
theorem f_X10_starts_1 (l : Launch) (D : va_G) (A : Nat → Nat → Nat) (cy : Nat → ClassId) (hJ : ti_inj ti_LM A) (M : ti_M) (hI : mI Tm M)  : ti_Kv l yX10_starts cX10_starts 4 0 ti_LM D A cy M [.ref (A 60 0), .int 1] (fun M2 => fR 1 M2 M ∧ mI Tm M2 ∧ rq 1 M2 M ∧ mC M2 1 ∧ mP M2 1) := by
  refine ti_eV yp_X10_starts hJ ti_LM_nd (Nat.le_of_ble_eq_true rfl) ?_
  intro p e s m args below meth c Q H0 C hQ hw ls hl
  have hx := C.1
  have hb := C.2.1
  have hl : lv_has ls 4 [(0, .ref (A 60 0)), (1, .int 1)] := hl
  refine lv_aload_n hx hb dX10_starts_0 rfl (lv_at hl 0 rfl) ?_
  refine ti_get (ci := 10) (k := 34) (N := 67) (T := TX10) (v := .ref (A 60 35)) C hw iw_10 rfl ob_60 (by decide) (by decide) fl_X10_69 rfl rfl dX10_starts_1 ?_
  refine lv_iload_n hx hb dX10_starts_4 rfl (lv_at hl 1 rfl) ?_
  refine lv_iconst (v := 0) hx hb dX10_starts_5 (by decide) ?_
  refine ti_iast (ci := 10) (k := 34) (n := 23) C hw ob_60 (by decide) (fun _ _ => rfl) (by unfold vp_in; decide) dX10_starts_6 (fun H locs hw => ?_)
  obtain ⟨M_1, hM_1⟩ : ∃ z : ti_M, z = uY M 60 34 (upd (tY M 60 34) (1 : Int32).toNatClampNeg 0) := ⟨_, rfl⟩
  have hw := hw.to hM_1.symm
  have iM_1 : mI Tm M_1 := mI_up (i := 1) hI hM_1 (fun h => absurd rfl h)
  refine lv_aload_n hx hb dX10_starts_7 rfl (lv_at hl 0 rfl) ?_
  refine ti_get (ci := 10) (k := 35) (N := 67) (T := TX10) (v := .ref (A 60 36)) C hw iw_10 rfl ob_60 (by decide) (by decide) fl_X10_72 rfl rfl dX10_starts_8 ?_
  refine lv_iload_n hx hb dX10_starts_11 rfl (lv_at hl 1 rfl) ?_
  refine lv_aload_n hx hb dX10_starts_12 rfl (lv_at hl 0 rfl) ?_
  refine ti_get (ci := 10) (k := 3) (N := 67) (T := TX10) (v := .ref (A 60 4)) C hw iw_10 rfl ob_60 (by decide) (by decide) fl_X10_13 rfl rfl dX10_starts_13 ?_
  refine lv_iconst (v := 1) hx hb dX10_starts_16 (by decide) ?_
  refine ti_iald (ci := 10) (k := 3) (n := 22) C hw ob_60 (by decide) (fun _ _ => rfl) (by unfold vp_in; decide) dX10_starts_17 ?_
  refine lv_topi (fun x_2 ex_2 => ?_)
  have yx_2 : tY M_1 60 3 1 = x_2 := ((congrArg _ (by decide)).symm.trans ex_2.symm)
  have zx_2 : (tY M_1 60 3 1).toInt = x_2.toInt := by rw [yx_2]
  have wx_2 : tY M 60 3 1 = x_2 := ((cg (tY_nE hM_1 (nk (by decide))) 1)).symm.trans yx_2
  have zwx_2 : (tY M 60 3 1).toInt = x_2.toInt := by rw [wx_2]
  refine ti_iast (ci := 10) (k := 35) (n := 23) C hw ob_60 (by decide) (fun _ _ => rfl) (by unfold vp_in; decide) dX10_starts_18 (fun H locs hw => ?_)
  obtain ⟨M_3, hM_3⟩ : ∃ z : ti_M, z = uY M_1 60 35 (upd (tY M_1 60 35) (1 : Int32).toNatClampNeg x_2) := ⟨_, rfl⟩
  have hw := hw.to hM_3.symm
  have iM_3 : mI Tm M_3 := mI_up (i := 1) iM_1 hM_3 trivial
  refine lv_aload_n hx hb dX10_starts_19 rfl (lv_at hl 0 rfl) ?_
  refine ti_get (ci := 10) (k := 36) (N := 67) (T := TX10) (v := .ref (A 60 37)) C hw iw_10 rfl ob_60 (by decide) (by decide) fl_X10_75 rfl rfl dX10_starts_20 ?_
  refine lv_iload_n hx hb dX10_starts_23 rfl (lv_at hl 1 rfl) ?_
  refine lv_aload_n hx hb dX10_starts_24 rfl (lv_at hl 0 rfl) ?_
  refine ti_get (ci := 10) (k := 3) (N := 67) (T := TX10) (v := .ref (A 60 4)) C hw iw_10 rfl ob_60 (by decide) (by decide) fl_X10_13 rfl rfl dX10_starts_25 ?_
  refine lv_bipush (v := 6) hx hb dX10_starts_28 (by decide) ?_
  refine ti_iald (ci := 10) (k := 3) (n := 22) C hw ob_60 (by decide) (fun _ _ => rfl) (by unfold vp_in; decide) dX10_starts_30 ?_
  refine lv_topi (fun x_4 ex_4 => ?_)
  have yx_4 : tY M_3 60 3 6 = x_4 := ((congrArg _ (by decide)).symm.trans ex_4.symm)
  have zx_4 : (tY M_3 60 3 6).toInt = x_4.toInt := by rw [yx_4]
  have wx_4 : tY M 60 3 6 = x_4 := (((cg (tY_nE hM_3 (nk (by decide))) 6).trans (cg (tY_nE hM_1 (nk (by decide))) 6))).symm.trans yx_4
  have zwx_4 : (tY M 60 3 6).toInt = x_4.toInt := by rw [wx_4]
  refine ti_iast (ci := 10) (k := 36) (n := 23) C hw ob_60 (by decide) (fun _ _ => rfl) (by unfold vp_in; decide) dX10_starts_31 (fun H locs hw => ?_)
  obtain ⟨M_5, hM_5⟩ : ∃ z : ti_M, z = uY M_3 60 36 (upd (tY M_3 60 36) (1 : Int32).toNatClampNeg x_4) := ⟨_, rfl⟩
  have hw := hw.to hM_5.symm
  have iM_5 : mI Tm M_5 := mI_up (i := 1) iM_3 hM_5 trivial
  refine lv_aload_n hx hb dX10_starts_32 rfl (lv_at hl 0 rfl) ?_
  refine ti_get (ci := 10) (k := 37) (N := 67) (T := TX10) (v := .ref (A 60 38)) C hw iw_10 rfl ob_60 (by decide) (by decide) fl_X10_78 rfl rfl dX10_starts_33 ?_
  refine lv_iload_n hx hb dX10_starts_36 rfl (lv_at hl 1 rfl) ?_
  refine lv_iconst (v := 0) hx hb dX10_starts_37 (by decide) ?_
  refine ti_iast (ci := 10) (k := 37) (n := 23) C hw ob_60 (by decide) (fun _ _ => rfl) (by unfold vp_in; decide) dX10_starts_38 (fun H locs hw => ?_)
  obtain ⟨M_6, hM_6⟩ : ∃ z : ti_M, z = uY M_5 60 37 (upd (tY M_5 60 37) (1 : Int32).toNatClampNeg 0) := ⟨_, rfl⟩
  have hw := hw.to hM_6.symm
  have iM_6 : mI Tm M_6 := mI_up (i := 1) iM_5 hM_6 trivial
  refine lv_aload_n hx hb dX10_starts_39 rfl (lv_at hl 0 rfl) ?_
  refine ti_get (ci := 10) (k := 38) (N := 67) (T := TX10) (v := .ref (A 60 39)) C hw iw_10 rfl ob_60 (by decide) (by decide) fl_X10_81 rfl rfl dX10_starts_40 ?_
  refine lv_iload_n hx hb dX10_starts_43 rfl (lv_at hl 1 rfl) ?_
  refine lv_iconst (v := 0) hx hb dX10_starts_44 (by decide) ?_
  refine ti_iast (ci := 10) (k := 38) (n := 23) C hw ob_60 (by decide) (fun _ _ => rfl) (by unfold vp_in; decide) dX10_starts_45 (fun H locs hw => ?_)
  obtain ⟨M_7, hM_7⟩ : ∃ z : ti_M, z = uY M_6 60 38 (upd (tY M_6 60 38) (1 : Int32).toNatClampNeg 0) := ⟨_, rfl⟩
  have hw := hw.to hM_7.symm
  have iM_7 : mI Tm M_7 := mI_up (i := 1) iM_6 hM_7 (ib_mk (lo := 0) (hi := 8) (by decide) (by decide))
  refine lv_iconst (v := 0) hx hb dX10_starts_46 (by decide) ?_
  refine lv_istore_n (lv' := [(2, .int 0), (0, .ref (A 60 0)), (1, .int 1)]) hx hb dX10_starts_47 rfl hl (by decide) rfl (fun ls hl => ?_)
  have hl_48_14 : ∀ (n_15 : Nat) (x_8 : Int32) (M_11 : ti_M) (H : Heap) (locs : List Loc) (ls : Array Slot), (8 - x_8.toInt : Int).toNat < n_15 → (0 ≤ x_8.toInt) → (x_8.toInt ≤ 8) → (mI Tm M_11) → (lk M_11 M) → (fR 1 M_11 M) → (stq M M_11 1 x_8.toInt) → ti_H ti_LM D A cy H0 M_11 H locs → lv_has ls 4 [(2, .int x_8), (0, .ref (A 60 0)), (1, .int 1)] → W p l e (ti_rm 0) s m args below meth c H locs 0 0 Q (F0 m 48 ls []) := by
    intro n_15
    induction n_15 with
    | zero => intro x_8 M_11 H locs ls hf_15; exact absurd hf_15 (Nat.not_lt_zero _)
    | succ n_15 ih_15 =>
      intro x_8 M_11 H locs ls hf_15 b_9 b_10 iM_11 f_12 f_13 j_14 hw hl
      refine lv_iload_n hx hb dX10_starts_48 rfl (lv_at hl 0 rfl) ?_
      refine lv_aload_n hx hb dX10_starts_49 rfl (lv_at hl 1 rfl) ?_
      refine ti_get (ci := 10) (k := 3) (N := 67) (T := TX10) (v := .ref (A 60 4)) C hw iw_10 rfl ob_60 (by decide) (by decide) fl_X10_13 rfl rfl dX10_starts_50 ?_
      refine lv_iconst (v := 0) hx hb dX10_starts_53 (by decide) ?_
      refine ti_iald (ci := 10) (k := 3) (n := 22) C hw ob_60 (by decide) (fun _ _ => rfl) (by unfold vp_in; decide) dX10_starts_54 ?_
      refine lv_topi (fun x_16 ex_16 => ?_)
      have yx_16 : tY M_11 60 3 0 = x_16 := ((congrArg _ (by decide)).symm.trans ex_16.symm)
      have bx_16 : 0 ≤ x_16.toInt ∧ x_16.toInt ≤ 8 := mI_rn (i := 0) iM_11 yx_16.symm (fun _ h => h)
      have zx_16 : (tY M_11 60 3 0).toInt = x_16.toInt := by rw [yx_16]
      have wx_16 : tY M 60 3 0 = x_16 := ((cg (f_12.1 3 (by decide) (by decide)) 0)).symm.trans yx_16
      have zwx_16 : (tY M 60 3 0).toInt = x_16.toInt := by rw [wx_16]
      refine sb_icmp_ge (tgt := 150) hx hb rfl rfl dX10_starts_55 (by decide) (fun c_55_16 => ?_) (fun c_55_16 => ?_)
      · refine lv_iconst (v := 0) hx hb dX10_starts_150 (by decide) ?_
        refine lv_istore_n (lv' := [(2, .int 0), (0, .ref (A 60 0)), (1, .int 1)]) hx hb dX10_starts_151 rfl hl (by decide) rfl (fun ls hl => ?_)
        have hl_152_38 : ∀ (n_39 : Nat) (x_32 : Int32) (M_35 : ti_M) (H : Heap) (locs : List Loc) (ls : Array Slot), (3 - x_32.toInt : Int).toNat < n_39 → (0 ≤ x_32.toInt) → (x_32.toInt ≤ 3) → (mI Tm M_35) → (lk M_35 M) → (fR 1 M_35 M) → (stq M M_35 1 (tY M 60 3 0).toInt) → ti_H ti_LM D A cy H0 M_35 H locs → lv_has ls 4 [(2, .int x_32), (0, .ref (A 60 0)), (1, .int 1)] → W p l e (ti_rm 0) s m args below meth c H locs 0 0 Q (F0 m 152 ls []) := by
          intro n_39
          induction n_39 with
          | zero => intro x_32 M_35 H locs ls hf_39; exact absurd hf_39 (Nat.not_lt_zero _)
          | succ n_39 ih_39 =>
            intro x_32 M_35 H locs ls hf_39 b_33 b_34 iM_35 f_36 f_37 j_38 hw hl
            refine lv_iload_n hx hb dX10_starts_152 rfl (lv_at hl 0 rfl) ?_
            refine lv_iconst (v := 3) hx hb dX10_starts_153 (by decide) ?_
            refine sb_icmp_ge (tgt := 182) hx hb rfl (by decide : (3 : Int32).toInt = 3) dX10_starts_154 (by decide) (fun c_154_39 => ?_) (fun c_154_39 => ?_)
            · have jj := q_start hI j_38 f_36
              exact hQ _ _ _ _ _ hw (⟨f_37, iM_35, jj.1, jj.2.1, jj.2.2⟩) dX10_starts_182
            · refine lv_aload_n hx hb dX10_starts_157 rfl (lv_at hl 1 rfl) ?_
              refine ti_get (ci := 10) (k := 49) (N := 67) (T := TX10) (v := .ref (A 60 50)) C hw iw_10 rfl ob_60 (by decide) (by decide) fl_X10_114 rfl rfl dX10_starts_158 ?_
              refine lv_iconst (v := 3) hx hb dX10_starts_161 (by decide) ?_
              refine lv_iload_n hx hb dX10_starts_162 rfl (lv_at hl 2 rfl) ?_
              refine lv_imul hx hb dX10_starts_163 ?_
              refine ti_top (y := 3) (by decide) ?_
              refine lv_iload_n hx hb dX10_starts_164 rfl (lv_at hl 0 rfl) ?_
              refine lv_iadd hx hb dX10_starts_165 ?_
              refine lv_topi (fun x_41 ex_41 => ?_)
              have tx_41 : x_41.toInt = 3 + x_32.toInt := i_add ex_41 (by decide : (3 : Int32).toInt = 3) rfl (by omega) (by omega)
              refine lv_aload_n hx hb dX10_starts_166 rfl (lv_at hl 1 rfl) ?_
              refine ti_get (ci := 10) (k := 3) (N := 67) (T := TX10) (v := .ref (A 60 4)) C hw iw_10 rfl ob_60 (by decide) (by decide) fl_X10_13 rfl rfl dX10_starts_167 ?_
              refine lv_bipush (v := 8) hx hb dX10_starts_170 (by decide) ?_
              refine lv_iload_n hx hb dX10_starts_172 rfl (lv_at hl 0 rfl) ?_
              refine lv_iadd hx hb dX10_starts_173 ?_
              refine lv_topi (fun x_42 ex_42 => ?_)
              have tx_42 : x_42.toInt = 8 + x_32.toInt := i_add ex_42 (by decide : (8 : Int32).toInt = 8) rfl (by omega) (by omega)
              refine ti_iald (ci := 10) (k := 3) (n := 22) C hw ob_60 (by decide) (fun _ _ => rfl) (vp_in_iff.mpr (by omega)) dX10_starts_174 ?_
              refine lv_topi (fun x_43 ex_43 => ?_)
              have yx_43 : tY M_35 60 3 x_42.toNatClampNeg = x_43 := (ex_43.symm)
              have bx_43 : 0 ≤ x_43.toInt ∧ x_43.toInt ≤ 7 := mI_rn (i := x_42.toNatClampNeg) iM_35 yx_43.symm (fun _ h => mN_p (by show 8 ≤ (x_42).toInt.toNat; omega) (by show (x_42).toInt.toNat ≤ 10; omega) h)
              have zx_43 : (tY M_35 60 3 x_42.toNatClampNeg).toInt = x_43.toInt := by rw [yx_43]
              have wx_43 : tY M 60 3 x_42.toNatClampNeg = x_43 := ((cg (f_36.1 3 (by decide) (by decide)) x_42.toNatClampNeg)).symm.trans yx_43
              have zwx_43 : (tY M 60 3 x_42.toNatClampNeg).toInt = x_43.toInt := by rw [wx_43]
              refine ti_iast (ci := 10) (k := 49) (n := 69) C hw ob_60 (by decide) (fun _ _ => rfl) (vp_in_iff.mpr (by omega)) dX10_starts_175 (fun H locs hw => ?_)
              obtain ⟨M_44, hM_44⟩ : ∃ z : ti_M, z = uY M_35 60 49 (upd (tY M_35 60 49) (x_41 : Int32).toNatClampNeg x_43) := ⟨_, rfl⟩
              have hw := hw.to hM_44.symm
              have iM_44 : mI Tm M_44 := mI_up (i := x_41.toNatClampNeg) iM_35 hM_44 (ib_mk (lo := 0) (hi := 7) (by omega) (by omega))
              obtain ⟨x_45, ex_45⟩ : ∃ z : Int32, z = x_32 + 1 := ⟨_, rfl⟩
              have tx_45 : x_45.toInt = x_32.toInt + 1 := i_add ex_45 rfl (by decide) (by omega) (by omega)
              refine lv_iinc (v := x_45) (lv' := [(2, .int x_45), (0, .ref (A 60 0)), (1, .int 1)]) hx hb dX10_starts_176 hl (k := 0) rfl (by rw [ex_45]; rfl) (by decide) rfl (fun ls hl => ?_)
              refine lv_goto (tgt := 152) hx hb dX10_starts_179 (by decide) ?_
              exact ih_39 x_45 M_44 _ _ _ (by omega) (by first | omega | decide) (by first | omega | decide) iM_44 (lk.trans (lk_Y hM_44 (by decide)) f_36) (fR.trans (fR_Y hM_44 (bk_p (z := x_41) (by omega))) f_37) (stq_qw j_38 (qw_Y hM_44 (by decide))) hw (lv_sub hl [0, 1, 2] rfl)
        exact hl_152_38 ((3 - 0 : Int).toNat + 1) 0 M_11 _ _ _ (Nat.lt_succ_self _) (by have lt0 : (0 : Int32).toInt = 0 := (by decide); first | omega | decide) (by have lt0 : (0 : Int32).toInt = 0 := (by decide); first | omega | decide) iM_11 f_12 f_13 (stq_le j_14 (by omega)) hw (lv_sub hl [0, 1, 2] rfl)
      · refine lv_bipush (v := 8) hx hb dX10_starts_58 (by decide) ?_
        refine lv_iload_n hx hb dX10_starts_60 rfl (lv_at hl 2 rfl) ?_
        refine lv_imul hx hb dX10_starts_61 ?_
        refine ti_top (y := 8) (by decide) ?_
        refine lv_iload_n hx hb dX10_starts_62 rfl (lv_at hl 0 rfl) ?_
        refine lv_iadd hx hb dX10_starts_63 ?_
        refine lv_topi (fun x_18 ex_18 => ?_)
        have tx_18 : x_18.toInt = 8 + x_8.toInt := i_add ex_18 (by decide : (8 : Int32).toInt = 8) rfl (by omega) (by omega)
        refine lv_istore_n (lv' := [(3, .int x_18), (2, .int x_8), (0, .ref (A 60 0)), (1, .int 1)]) hx hb dX10_starts_64 rfl hl (by decide) rfl (fun ls hl => ?_)
        refine lv_aload_n hx hb dX10_starts_65 rfl (lv_at hl 2 rfl) ?_
        refine ti_get (ci := 10) (k := 40) (N := 67) (T := TX10) (v := .ref (A 60 41)) C hw iw_10 rfl ob_60 (by decide) (by decide) fl_X10_87 rfl rfl dX10_starts_66 ?_
        refine lv_iload_n hx hb dX10_starts_69 rfl (lv_at hl 0 rfl) ?_
        refine lv_iconst (v := 0) hx hb dX10_starts_70 (by decide) ?_
        refine ti_iast (ci := 10) (k := 40) (n := 184) C hw ob_60 (by decide) (fun _ _ => rfl) (vp_in_iff.mpr (by omega)) dX10_starts_71 (fun H locs hw => ?_)
        obtain ⟨M_19, hM_19⟩ : ∃ z : ti_M, z = uY M_11 60 40 (upd (tY M_11 60 40) (x_18 : Int32).toNatClampNeg 0) := ⟨_, rfl⟩
        have hw := hw.to hM_19.symm
        have iM_19 : mI Tm M_19 := mI_up (i := x_18.toNatClampNeg) iM_11 hM_19 trivial
        refine lv_aload_n hx hb dX10_starts_72 rfl (lv_at hl 2 rfl) ?_
        refine ti_get (ci := 10) (k := 41) (N := 67) (T := TX10) (v := .ref (A 60 42)) C hw iw_10 rfl ob_60 (by decide) (by decide) fl_X10_90 rfl rfl dX10_starts_73 ?_
        refine lv_iload_n hx hb dX10_starts_76 rfl (lv_at hl 0 rfl) ?_
        refine lv_aload_n hx hb dX10_starts_77 rfl (lv_at hl 2 rfl) ?_
        refine ti_get (ci := 10) (k := 7) (N := 67) (T := TX10) (v := .ref (A 60 8)) C hw iw_10 rfl ob_60 (by decide) (by decide) fl_X10_25 rfl rfl dX10_starts_78 ?_
        refine lv_iload_n hx hb dX10_starts_81 rfl (lv_at hl 1 rfl) ?_
        refine ti_iald (ci := 10) (k := 7) (n := 16) C hw ob_60 (by decide) (fun _ _ => rfl) (vp_in_iff.mpr (by omega)) dX10_starts_82 ?_
        refine lv_topi (fun x_20 ex_20 => ?_)
        have yx_20 : tY M_19 60 7 x_8.toNatClampNeg = x_20 := (ex_20.symm)
        have wx_20 : tY M 60 7 x_8.toNatClampNeg = x_20 := (((cg (tY_nE hM_19 (nk (by decide))) x_8.toNatClampNeg).trans (cg (f_12.1 7 (by decide) (by decide)) x_8.toNatClampNeg))).symm.trans yx_20
        refine ti_iast (ci := 10) (k := 41) (n := 184) C hw ob_60 (by decide) (fun _ _ => rfl) (vp_in_iff.mpr (by omega)) dX10_starts_83 (fun H locs hw => ?_)
        obtain ⟨M_21, hM_21⟩ : ∃ z : ti_M, z = uY M_19 60 41 (upd (tY M_19 60 41) (x_18 : Int32).toNatClampNeg x_20) := ⟨_, rfl⟩
        have hw := hw.to hM_21.symm
        have iM_21 : mI Tm M_21 := mI_up (i := x_18.toNatClampNeg) iM_19 hM_21 trivial
        refine lv_aload_n hx hb dX10_starts_84 rfl (lv_at hl 2 rfl) ?_
        refine ti_get (ci := 10) (k := 42) (N := 67) (T := TX10) (v := .ref (A 60 43)) C hw iw_10 rfl ob_60 (by decide) (by decide) fl_X10_93 rfl rfl dX10_starts_85 ?_
        refine lv_iload_n hx hb dX10_starts_88 rfl (lv_at hl 0 rfl) ?_
        refine lv_iconst (v := 0) hx hb dX10_starts_89 (by decide) ?_
        refine ti_iast (ci := 10) (k := 42) (n := 184) C hw ob_60 (by decide) (fun _ _ => rfl) (vp_in_iff.mpr (by omega)) dX10_starts_90 (fun H locs hw => ?_)
        obtain ⟨M_22, hM_22⟩ : ∃ z : ti_M, z = uY M_21 60 42 (upd (tY M_21 60 42) (x_18 : Int32).toNatClampNeg 0) := ⟨_, rfl⟩
        have hw := hw.to hM_22.symm
        have iM_22 : mI Tm M_22 := mI_up (i := x_18.toNatClampNeg) iM_21 hM_22 trivial
        refine lv_aload_n hx hb dX10_starts_91 rfl (lv_at hl 2 rfl) ?_
        refine ti_get (ci := 10) (k := 43) (N := 67) (T := TX10) (v := .ref (A 60 44)) C hw iw_10 rfl ob_60 (by decide) (by decide) fl_X10_96 rfl rfl dX10_starts_92 ?_
        refine lv_iload_n hx hb dX10_starts_95 rfl (lv_at hl 0 rfl) ?_
        refine lv_aload_n hx hb dX10_starts_96 rfl (lv_at hl 2 rfl) ?_
        refine ti_get (ci := 10) (k := 9) (N := 67) (T := TX10) (v := .ref (A 60 10)) C hw iw_10 rfl ob_60 (by decide) (by decide) fl_X10_31 rfl rfl dX10_starts_97 ?_
        refine lv_iload_n hx hb dX10_starts_100 rfl (lv_at hl 1 rfl) ?_
        refine ti_iald (ci := 10) (k := 9) (n := 16) C hw ob_60 (by decide) (fun _ _ => rfl) (vp_in_iff.mpr (by omega)) dX10_starts_101 ?_
        refine lv_topi (fun x_23 ex_23 => ?_)
        have yx_23 : tY M_22 60 9 x_8.toNatClampNeg = x_23 := (ex_23.symm)
        have wx_23 : tY M 60 9 x_8.toNatClampNeg = x_23 := (((cg (tY_nE hM_22 (nk (by decide))) x_8.toNatClampNeg).trans ((cg (tY_nE hM_21 (nk (by decide))) x_8.toNatClampNeg).trans ((cg (tY_nE hM_19 (nk (by decide))) x_8.toNatClampNeg).trans (cg (f_12.1 9 (by decide) (by decide)) x_8.toNatClampNeg))))).symm.trans yx_23
        refine ti_iast (ci := 10) (k := 43) (n := 184) C hw ob_60 (by decide) (fun _ _ => rfl) (vp_in_iff.mpr (by omega)) dX10_starts_102 (fun H locs hw => ?_)
        obtain ⟨M_24, hM_24⟩ : ∃ z : ti_M, z = uY M_22 60 43 (upd (tY M_22 60 43) (x_18 : Int32).toNatClampNeg x_23) := ⟨_, rfl⟩
        have hw := hw.to hM_24.symm
        have iM_24 : mI Tm M_24 := mI_up (i := x_18.toNatClampNeg) iM_22 hM_24 trivial
        refine lv_aload_n hx hb dX10_starts_103 rfl (lv_at hl 2 rfl) ?_
        refine ti_get (ci := 10) (k := 44) (N := 67) (T := TX10) (v := .ref (A 60 45)) C hw iw_10 rfl ob_60 (by decide) (by decide) fl_X10_99 rfl rfl dX10_starts_104 ?_
        refine lv_iload_n hx hb dX10_starts_107 rfl (lv_at hl 0 rfl) ?_
        refine lv_aload_n hx hb dX10_starts_108 rfl (lv_at hl 2 rfl) ?_
        refine ti_get (ci := 10) (k := 11) (N := 67) (T := TX10) (v := .ref (A 60 12)) C hw iw_10 rfl ob_60 (by decide) (by decide) fl_X10_37 rfl rfl dX10_starts_109 ?_
        refine lv_iload_n hx hb dX10_starts_112 rfl (lv_at hl 1 rfl) ?_
        refine ti_iald (ci := 10) (k := 11) (n := 16) C hw ob_60 (by decide) (fun _ _ => rfl) (vp_in_iff.mpr (by omega)) dX10_starts_113 ?_
        refine lv_topi (fun x_25 ex_25 => ?_)
        have yx_25 : tY M_24 60 11 x_8.toNatClampNeg = x_25 := (ex_25.symm)
        have wx_25 : tY M 60 11 x_8.toNatClampNeg = x_25 := (((cg (tY_nE hM_24 (nk (by decide))) x_8.toNatClampNeg).trans ((cg (tY_nE hM_22 (nk (by decide))) x_8.toNatClampNeg).trans ((cg (tY_nE hM_21 (nk (by decide))) x_8.toNatClampNeg).trans ((cg (tY_nE hM_19 (nk (by decide))) x_8.toNatClampNeg).trans (cg (f_12.1 11 (by decide) (by decide)) x_8.toNatClampNeg)))))).symm.trans yx_25
        refine ti_iast (ci := 10) (k := 44) (n := 184) C hw ob_60 (by decide) (fun _ _ => rfl) (vp_in_iff.mpr (by omega)) dX10_starts_114 (fun H locs hw => ?_)
        obtain ⟨M_26, hM_26⟩ : ∃ z : ti_M, z = uY M_24 60 44 (upd (tY M_24 60 44) (x_18 : Int32).toNatClampNeg x_25) := ⟨_, rfl⟩
        have hw := hw.to hM_26.symm
        have iM_26 : mI Tm M_26 := mI_up (i := x_18.toNatClampNeg) iM_24 hM_26 trivial
        refine lv_aload_n hx hb dX10_starts_115 rfl (lv_at hl 2 rfl) ?_
        refine ti_get (ci := 10) (k := 45) (N := 67) (T := TX10) (v := .ref (A 60 46)) C hw iw_10 rfl ob_60 (by decide) (by decide) fl_X10_102 rfl rfl dX10_starts_116 ?_
        refine lv_iload_n hx hb dX10_starts_119 rfl (lv_at hl 0 rfl) ?_
        refine lv_iconst (v := 0) hx hb dX10_starts_120 (by decide) ?_
        refine ti_iast (ci := 10) (k := 45) (n := 184) C hw ob_60 (by decide) (fun _ _ => rfl) (vp_in_iff.mpr (by omega)) dX10_starts_121 (fun H locs hw => ?_)
        obtain ⟨M_27, hM_27⟩ : ∃ z : ti_M, z = uY M_26 60 45 (upd (tY M_26 60 45) (x_18 : Int32).toNatClampNeg 0) := ⟨_, rfl⟩
        have hw := hw.to hM_27.symm
        have iM_27 : mI Tm M_27 := mI_up (i := x_18.toNatClampNeg) iM_26 hM_27 trivial
        refine lv_aload_n hx hb dX10_starts_122 rfl (lv_at hl 2 rfl) ?_
        refine ti_get (ci := 10) (k := 46) (N := 67) (T := TX10) (v := .ref (A 60 47)) C hw iw_10 rfl ob_60 (by decide) (by decide) fl_X10_105 rfl rfl dX10_starts_123 ?_
        refine lv_iload_n hx hb dX10_starts_126 rfl (lv_at hl 0 rfl) ?_
        refine lv_iconst (v := 0) hx hb dX10_starts_127 (by decide) ?_
        refine ti_iast (ci := 10) (k := 46) (n := 184) C hw ob_60 (by decide) (fun _ _ => rfl) (vp_in_iff.mpr (by omega)) dX10_starts_128 (fun H locs hw => ?_)
        obtain ⟨M_28, hM_28⟩ : ∃ z : ti_M, z = uY M_27 60 46 (upd (tY M_27 60 46) (x_18 : Int32).toNatClampNeg 0) := ⟨_, rfl⟩
        have hw := hw.to hM_28.symm
        have iM_28 : mI Tm M_28 := mI_up (i := x_18.toNatClampNeg) iM_27 hM_28 trivial
        refine lv_aload_n hx hb dX10_starts_129 rfl (lv_at hl 2 rfl) ?_
        refine ti_get (ci := 10) (k := 47) (N := 67) (T := TX10) (v := .ref (A 60 48)) C hw iw_10 rfl ob_60 (by decide) (by decide) fl_X10_108 rfl rfl dX10_starts_130 ?_
        refine lv_iload_n hx hb dX10_starts_133 rfl (lv_at hl 0 rfl) ?_
        refine lv_iconst (v := 0) hx hb dX10_starts_134 (by decide) ?_
        refine ti_iast (ci := 10) (k := 47) (n := 184) C hw ob_60 (by decide) (fun _ _ => rfl) (vp_in_iff.mpr (by omega)) dX10_starts_135 (fun H locs hw => ?_)
        obtain ⟨M_29, hM_29⟩ : ∃ z : ti_M, z = uY M_28 60 47 (upd (tY M_28 60 47) (x_18 : Int32).toNatClampNeg 0) := ⟨_, rfl⟩
        have hw := hw.to hM_29.symm
        have iM_29 : mI Tm M_29 := mI_up (i := x_18.toNatClampNeg) iM_28 hM_29 trivial
        refine lv_aload_n hx hb dX10_starts_136 rfl (lv_at hl 2 rfl) ?_
        refine ti_get (ci := 10) (k := 48) (N := 67) (T := TX10) (v := .ref (A 60 49)) C hw iw_10 rfl ob_60 (by decide) (by decide) fl_X10_111 rfl rfl dX10_starts_137 ?_
        refine lv_iload_n hx hb dX10_starts_140 rfl (lv_at hl 0 rfl) ?_
        refine lv_bipush (v := (-2)) hx hb dX10_starts_141 (by decide) ?_
        refine ti_iast (ci := 10) (k := 48) (n := 184) C hw ob_60 (by decide) (fun _ _ => rfl) (vp_in_iff.mpr (by omega)) dX10_starts_143 (fun H locs hw => ?_)
        obtain ⟨M_30, hM_30⟩ : ∃ z : ti_M, z = uY M_29 60 48 (upd (tY M_29 60 48) (x_18 : Int32).toNatClampNeg (-2)) := ⟨_, rfl⟩
        have hw := hw.to hM_30.symm
        have iM_30 : mI Tm M_30 := mI_up (i := x_18.toNatClampNeg) iM_29 hM_30 trivial
        obtain ⟨x_31, ex_31⟩ : ∃ z : Int32, z = x_8 + 1 := ⟨_, rfl⟩
        have tx_31 : x_31.toInt = x_8.toInt + 1 := i_add ex_31 rfl (by decide) (by omega) (by omega)
        refine lv_iinc (v := x_31) (lv' := [(2, .int x_31), (3, .int x_18), (0, .ref (A 60 0)), (1, .int 1)]) hx hb dX10_starts_144 hl (k := 1) rfl (by rw [ex_31]; rfl) (by decide) rfl (fun ls hl => ?_)
        refine lv_goto (tgt := 48) hx hb dX10_starts_147 (by decide) ?_
        exact ih_15 x_31 M_30 _ _ _ (by omega) (by first | omega | decide) (by first | omega | decide) iM_30 (lk.trans (lk_Y hM_30 (by decide)) (lk.trans (lk_Y hM_29 (by decide)) (lk.trans (lk_Y hM_28 (by decide)) (lk.trans (lk_Y hM_27 (by decide)) (lk.trans (lk_Y hM_26 (by decide)) (lk.trans (lk_Y hM_24 (by decide)) (lk.trans (lk_Y hM_22 (by decide)) (lk.trans (lk_Y hM_21 (by decide)) (lk.trans (lk_Y hM_19 (by decide)) f_12))))))))) (fR.trans (fR_Y hM_30 (bk_m (z := x_18) (by omega) (by decide))) (fR.trans (fR_Y hM_29 (bk_m (z := x_18) (by omega) (by decide))) (fR.trans (fR_Y hM_28 (bk_m (z := x_18) (by omega) (by decide))) (fR.trans (fR_Y hM_27 (bk_m (z := x_18) (by omega) (by decide))) (fR.trans (fR_Y hM_26 (bk_m (z := x_18) (by omega) (by decide))) (fR.trans (fR_Y hM_24 (bk_m (z := x_18) (by omega) (by decide))) (fR.trans (fR_Y hM_22 (bk_m (z := x_18) (by omega) (by decide))) (fR.trans (fR_Y hM_21 (bk_m (z := x_18) (by omega) (by decide))) (fR.trans (fR_Y hM_19 (bk_m (z := x_18) (by omega) (by decide))) f_13))))))))) (stq_s j_14 hM_19 (qw.trans (qw_Y hM_30 (by decide)) (qw.trans (qw_Y hM_29 (by decide)) (qw.trans (qw_Y hM_28 (by decide)) (qw.trans (qw_Y hM_27 (by decide)) (qw.trans (qw_Y hM_26 (by decide)) (qw.trans (qw_Y hM_24 (by decide)) (qw.trans (qw_Y hM_22 (by decide)) (qw_Y hM_21 (by decide))))))))) (by show ((x_18.toInt.toNat : Nat) : Int) = _; omega) (by omega) (by omega) (by omega)) hw (lv_sub hl [0, 2, 3] rfl)
  exact hl_48_14 ((8 - 0 : Int).toNat + 1) 0 M_7 _ _ _ (Nat.lt_succ_self _) (by have lt0 : (0 : Int32).toInt = 0 := (by decide); first | omega | decide) (by have lt0 : (0 : Int32).toInt = 0 := (by decide); first | omega | decide) iM_7 (lk.trans (lk_Y hM_7 (by decide)) (lk.trans (lk_Y hM_6 (by decide)) (lk.trans (lk_Y hM_5 (by decide)) (lk.trans (lk_Y hM_3 (by decide)) (lk_Y hM_1 (by decide)))))) (fR.trans (fR_Y hM_7 (bk_q (z := 1) (by decide) (by decide))) (fR.trans (fR_Y hM_6 (bk_q (z := 1) (by decide) (by decide))) (fR.trans (fR_Y hM_5 (bk_q (z := 1) (by decide) (by decide))) (fR.trans (fR_Y hM_3 (bk_q (z := 1) (by decide) (by decide))) (fR_Y hM_1 (bk_q (z := 1) (by decide) (by decide))))))) (stq_0 (qw.trans (qw_Y hM_6 (by decide)) (qw.trans (qw_Y hM_5 (by decide)) (qw.trans (qw_Y hM_3 (by decide)) (qw_Y hM_1 (by decide))))) hM_7 (by decide)) hw (lv_sub hl [0, 1, 2] rfl)
set_option maxHeartbeats 4000000 in
set_option maxRecDepth 100000 in
theorem f_X10_copies (l : Launch) (D : va_G) (A : Nat → Nat → Nat) (cy : Nat → ClassId) (hJ : ti_inj ti_LM A) (M : ti_M) (hI : mI Tm M) (to as : Int32) (h1 : 0 ≤ to.toInt) (h2 : to.toInt ≤ 22) (h3 : 0 ≤ as.toInt) (h4 : as.toInt ≤ 22) (h5 : as.toInt ≠ 1) (h6 : to.toInt ≠ as.toInt) : ti_Kv l yX10_copies cX10_copies 6 0 ti_LM D A cy M [.ref (A 60 0), .int to, .int as] (fun M2 => fR to.toInt.toNat M2 M ∧ mI Tm M2 ∧ lk M2 M ∧ cq to.toNatClampNeg as.toNatClampNeg M2 M) := by
  refine ti_eV yp_X10_copies hJ ti_LM_nd (Nat.le_of_ble_eq_true rfl) ?_
  intro p e s m args below meth c Q H0 C hQ hw ls hl
  have hx := C.1
  have hb := C.2.1
  have hl : lv_has ls 6 [(0, .ref (A 60 0)), (1, .int to), (2, .int as)] := hl
  refine lv_aload_n hx hb dX10_copies_0 rfl (lv_at hl 0 rfl) ?_
  refine ti_get (ci := 10) (k := 34) (N := 67) (T := TX10) (v := .ref (A 60 35)) C hw iw_10 rfl ob_60 (by decide) (by decide) fl_X10_69 rfl rfl dX10_copies_1 ?_
  refine lv_iload_n hx hb dX10_copies_4 rfl (lv_at hl 1 rfl) ?_
  refine lv_aload_n hx hb dX10_copies_5 rfl (lv_at hl 0 rfl) ?_
  refine ti_get (ci := 10) (k := 34) (N := 67) (T := TX10) (v := .ref (A 60 35)) C hw iw_10 rfl ob_60 (by decide) (by decide) fl_X10_69 rfl rfl dX10_copies_6 ?_
  refine lv_iload_n hx hb dX10_copies_9 rfl (lv_at hl 2 rfl) ?_
  refine ti_iald (ci := 10) (k := 34) (n := 23) C hw ob_60 (by decide) (fun _ _ => rfl) (vp_in_iff.mpr (by omega)) dX10_copies_10 ?_
  refine lv_topi (fun x_1 ex_1 => ?_)
  have yx_1 : tY M 60 34 as.toNatClampNeg = x_1 := (ex_1.symm)
  have bx_1 : 0 ≤ x_1.toInt ∧ x_1.toInt ≤ 120 := mI_ry (k := 34) (i := as.toNatClampNeg) hI yx_1.symm (by show as.toInt.toNat ≠ 1; omega)
  have zx_1 : (tY M 60 34 as.toNatClampNeg).toInt = x_1.toInt := by rw [yx_1]
  refine ti_iast (ci := 10) (k := 34) (n := 23) C hw ob_60 (by decide) (fun _ _ => rfl) (vp_in_iff.mpr (by omega)) dX10_copies_11 (fun H locs hw => ?_)
  obtain ⟨M_2, hM_2⟩ : ∃ z : ti_M, z = uY M 60 34 (upd (tY M 60 34) (to : Int32).toNatClampNeg x_1) := ⟨_, rfl⟩
  have hw := hw.to hM_2.symm
  have iM_2 : mI Tm M_2 := mI_up (i := to.toNatClampNeg) hI hM_2 (fun _ => (ib_mk (lo := 0) (hi := 120) (by omega) (by omega)))
  refine lv_aload_n hx hb dX10_copies_12 rfl (lv_at hl 0 rfl) ?_
  refine ti_get (ci := 10) (k := 35) (N := 67) (T := TX10) (v := .ref (A 60 36)) C hw iw_10 rfl ob_60 (by decide) (by decide) fl_X10_72 rfl rfl dX10_copies_13 ?_
  refine lv_iload_n hx hb dX10_copies_16 rfl (lv_at hl 1 rfl) ?_
  refine lv_aload_n hx hb dX10_copies_17 rfl (lv_at hl 0 rfl) ?_
  refine ti_get (ci := 10) (k := 35) (N := 67) (T := TX10) (v := .ref (A 60 36)) C hw iw_10 rfl ob_60 (by decide) (by decide) fl_X10_72 rfl rfl dX10_copies_18 ?_
  refine lv_iload_n hx hb dX10_copies_21 rfl (lv_at hl 2 rfl) ?_
  refine ti_iald (ci := 10) (k := 35) (n := 23) C hw ob_60 (by decide) (fun _ _ => rfl) (vp_in_iff.mpr (by omega)) dX10_copies_22 ?_
  refine lv_topi (fun x_3 ex_3 => ?_)
  have yx_3 : tY M_2 60 35 as.toNatClampNeg = x_3 := (ex_3.symm)
  have wx_3 : tY M 60 35 as.toNatClampNeg = x_3 := ((cg (tY_nE hM_2 (nk (by decide))) as.toNatClampNeg)).symm.trans yx_3
  refine ti_iast (ci := 10) (k := 35) (n := 23) C hw ob_60 (by decide) (fun _ _ => rfl) (vp_in_iff.mpr (by omega)) dX10_copies_23 (fun H locs hw => ?_)
  obtain ⟨M_4, hM_4⟩ : ∃ z : ti_M, z = uY M_2 60 35 (upd (tY M_2 60 35) (to : Int32).toNatClampNeg x_3) := ⟨_, rfl⟩
  have hw := hw.to hM_4.symm
  have iM_4 : mI Tm M_4 := mI_up (i := to.toNatClampNeg) iM_2 hM_4 trivial
  refine lv_aload_n hx hb dX10_copies_24 rfl (lv_at hl 0 rfl) ?_
  refine ti_get (ci := 10) (k := 36) (N := 67) (T := TX10) (v := .ref (A 60 37)) C hw iw_10 rfl ob_60 (by decide) (by decide) fl_X10_75 rfl rfl dX10_copies_25 ?_
  refine lv_iload_n hx hb dX10_copies_28 rfl (lv_at hl 1 rfl) ?_
  refine lv_aload_n hx hb dX10_copies_29 rfl (lv_at hl 0 rfl) ?_
  refine ti_get (ci := 10) (k := 36) (N := 67) (T := TX10) (v := .ref (A 60 37)) C hw iw_10 rfl ob_60 (by decide) (by decide) fl_X10_75 rfl rfl dX10_copies_30 ?_
  refine lv_iload_n hx hb dX10_copies_33 rfl (lv_at hl 2 rfl) ?_
  refine ti_iald (ci := 10) (k := 36) (n := 23) C hw ob_60 (by decide) (fun _ _ => rfl) (vp_in_iff.mpr (by omega)) dX10_copies_34 ?_
  refine lv_topi (fun x_5 ex_5 => ?_)
  have yx_5 : tY M_4 60 36 as.toNatClampNeg = x_5 := (ex_5.symm)
  have wx_5 : tY M 60 36 as.toNatClampNeg = x_5 := (((cg (tY_nE hM_4 (nk (by decide))) as.toNatClampNeg).trans (cg (tY_nE hM_2 (nk (by decide))) as.toNatClampNeg))).symm.trans yx_5
  refine ti_iast (ci := 10) (k := 36) (n := 23) C hw ob_60 (by decide) (fun _ _ => rfl) (vp_in_iff.mpr (by omega)) dX10_copies_35 (fun H locs hw => ?_)
  obtain ⟨M_6, hM_6⟩ : ∃ z : ti_M, z = uY M_4 60 36 (upd (tY M_4 60 36) (to : Int32).toNatClampNeg x_5) := ⟨_, rfl⟩
  have hw := hw.to hM_6.symm
  have iM_6 : mI Tm M_6 := mI_up (i := to.toNatClampNeg) iM_4 hM_6 trivial
  refine lv_aload_n hx hb dX10_copies_36 rfl (lv_at hl 0 rfl) ?_
  refine ti_get (ci := 10) (k := 37) (N := 67) (T := TX10) (v := .ref (A 60 38)) C hw iw_10 rfl ob_60 (by decide) (by decide) fl_X10_78 rfl rfl dX10_copies_37 ?_
  refine lv_iload_n hx hb dX10_copies_40 rfl (lv_at hl 1 rfl) ?_
  refine lv_aload_n hx hb dX10_copies_41 rfl (lv_at hl 0 rfl) ?_
  refine ti_get (ci := 10) (k := 37) (N := 67) (T := TX10) (v := .ref (A 60 38)) C hw iw_10 rfl ob_60 (by decide) (by decide) fl_X10_78 rfl rfl dX10_copies_42 ?_
  refine lv_iload_n hx hb dX10_copies_45 rfl (lv_at hl 2 rfl) ?_
  refine ti_iald (ci := 10) (k := 37) (n := 23) C hw ob_60 (by decide) (fun _ _ => rfl) (vp_in_iff.mpr (by omega)) dX10_copies_46 ?_
  refine lv_topi (fun x_7 ex_7 => ?_)
  have yx_7 : tY M_6 60 37 as.toNatClampNeg = x_7 := (ex_7.symm)
  have wx_7 : tY M 60 37 as.toNatClampNeg = x_7 := (((cg (tY_nE hM_6 (nk (by decide))) as.toNatClampNeg).trans ((cg (tY_nE hM_4 (nk (by decide))) as.toNatClampNeg).trans (cg (tY_nE hM_2 (nk (by decide))) as.toNatClampNeg)))).symm.trans yx_7
  refine ti_iast (ci := 10) (k := 37) (n := 23) C hw ob_60 (by decide) (fun _ _ => rfl) (vp_in_iff.mpr (by omega)) dX10_copies_47 (fun H locs hw => ?_)
  obtain ⟨M_8, hM_8⟩ : ∃ z : ti_M, z = uY M_6 60 37 (upd (tY M_6 60 37) (to : Int32).toNatClampNeg x_7) := ⟨_, rfl⟩
  have hw := hw.to hM_8.symm
  have iM_8 : mI Tm M_8 := mI_up (i := to.toNatClampNeg) iM_6 hM_8 trivial
  refine lv_aload_n hx hb dX10_copies_48 rfl (lv_at hl 0 rfl) ?_
  refine ti_get (ci := 10) (k := 38) (N := 67) (T := TX10) (v := .ref (A 60 39)) C hw iw_10 rfl ob_60 (by decide) (by decide) fl_X10_81 rfl rfl dX10_copies_49 ?_
  refine lv_iload_n hx hb dX10_copies_52 rfl (lv_at hl 1 rfl) ?_
  refine lv_aload_n hx hb dX10_copies_53 rfl (lv_at hl 0 rfl) ?_
  refine ti_get (ci := 10) (k := 38) (N := 67) (T := TX10) (v := .ref (A 60 39)) C hw iw_10 rfl ob_60 (by decide) (by decide) fl_X10_81 rfl rfl dX10_copies_54 ?_
  refine lv_iload_n hx hb dX10_copies_57 rfl (lv_at hl 2 rfl) ?_
  refine ti_iald (ci := 10) (k := 38) (n := 23) C hw ob_60 (by decide) (fun _ _ => rfl) (vp_in_iff.mpr (by omega)) dX10_copies_58 ?_
  refine lv_topi (fun x_9 ex_9 => ?_)
  have yx_9 : tY M_8 60 38 as.toNatClampNeg = x_9 := (ex_9.symm)
  have bx_9 : 0 ≤ x_9.toInt ∧ x_9.toInt ≤ 8 := mI_ry (k := 38) (i := as.toNatClampNeg) iM_8 yx_9.symm
  have zx_9 : (tY M_8 60 38 as.toNatClampNeg).toInt = x_9.toInt := by rw [yx_9]
  have wx_9 : tY M 60 38 as.toNatClampNeg = x_9 := (((cg (tY_nE hM_8 (nk (by decide))) as.toNatClampNeg).trans ((cg (tY_nE hM_6 (nk (by decide))) as.toNatClampNeg).trans ((cg (tY_nE hM_4 (nk (by decide))) as.toNatClampNeg).trans (cg (tY_nE hM_2 (nk (by decide))) as.toNatClampNeg))))).symm.trans yx_9
  have zwx_9 : (tY M 60 38 as.toNatClampNeg).toInt = x_9.toInt := by rw [wx_9]
  refine ti_iast (ci := 10) (k := 38) (n := 23) C hw ob_60 (by decide) (fun _ _ => rfl) (vp_in_iff.mpr (by omega)) dX10_copies_59 (fun H locs hw => ?_)
  obtain ⟨M_10, hM_10⟩ : ∃ z : ti_M, z = uY M_8 60 38 (upd (tY M_8 60 38) (to : Int32).toNatClampNeg x_9) := ⟨_, rfl⟩
  have hw := hw.to hM_10.symm
  have iM_10 : mI Tm M_10 := mI_up (i := to.toNatClampNeg) iM_8 hM_10 (ib_mk (lo := 0) (hi := 8) (by omega) (by omega))
  refine lv_iconst (v := 0) hx hb dX10_copies_60 (by decide) ?_
  refine lv_istore_n (lv' := [(3, .int 0), (0, .ref (A 60 0)), (1, .int to), (2, .int as)]) hx hb dX10_copies_61 rfl hl (by decide) rfl (fun ls hl => ?_)
  have hl_62_17 : ∀ (n_18 : Nat) (x_11 : Int32) (M_14 : ti_M) (H : Heap) (locs : List Loc) (ls : Array Slot), (8 - x_11.toInt : Int).toNat < n_18 → (0 ≤ x_11.toInt) → (x_11.toInt ≤ 8) → (mI Tm M_14) → (lk M_14 M) → (fR to.toInt.toNat M_14 M) → (cpq M M_14 to.toNatClampNeg as.toNatClampNeg x_11.toInt) → ti_H ti_LM D A cy H0 M_14 H locs → lv_has ls 6 [(3, .int x_11), (0, .ref (A 60 0)), (1, .int to), (2, .int as)] → W p l e (ti_rm 0) s m args below meth c H locs 0 0 Q (F0 m 62 ls []) := by
    intro n_18
    induction n_18 with
    | zero => intro x_11 M_14 H locs ls hf_18; exact absurd hf_18 (Nat.not_lt_zero _)
    | succ n_18 ih_18 =>
      intro x_11 M_14 H locs ls hf_18 b_12 b_13 iM_14 f_15 f_16 j_17 hw hl
      refine lv_iload_n hx hb dX10_copies_62 rfl (lv_at hl 0 rfl) ?_
      refine lv_bipush (v := 8) hx hb dX10_copies_63 (by decide) ?_
      refine sb_icmp_ge (tgt := 230) hx hb rfl (by decide : (8 : Int32).toInt = 8) dX10_copies_65 (by decide) (fun c_65_18 => ?_) (fun c_65_18 => ?_)
      · refine lv_iconst (v := 0) hx hb dX10_copies_230 (by decide) ?_
        refine lv_istore_n (lv' := [(3, .int 0), (0, .ref (A 60 0)), (1, .int to), (2, .int as)]) hx hb dX10_copies_231 rfl hl (by decide) rfl (fun ls hl => ?_)
        have hl_232_51 : ∀ (n_52 : Nat) (x_45 : Int32) (M_48 : ti_M) (H : Heap) (locs : List Loc) (ls : Array Slot), (3 - x_45.toInt : Int).toNat < n_52 → (0 ≤ x_45.toInt) → (x_45.toInt ≤ 3) → (mI Tm M_48) → (lk M_48 M) → (fR to.toInt.toNat M_48 M) → (cpq M M_48 to.toNatClampNeg as.toNatClampNeg 8) → ti_H ti_LM D A cy H0 M_48 H locs → lv_has ls 6 [(3, .int x_45), (0, .ref (A 60 0)), (1, .int to), (2, .int as)] → W p l e (ti_rm 0) s m args below meth c H locs 0 0 Q (F0 m 232 ls []) := by
          intro n_52
          induction n_52 with
          | zero => intro x_45 M_48 H locs ls hf_52; exact absurd hf_52 (Nat.not_lt_zero _)
          | succ n_52 ih_52 =>
            intro x_45 M_48 H locs ls hf_52 b_46 b_47 iM_48 f_49 f_50 j_51 hw hl
            refine lv_iload_n hx hb dX10_copies_232 rfl (lv_at hl 0 rfl) ?_
            refine lv_iconst (v := 3) hx hb dX10_copies_233 (by decide) ?_
            refine sb_icmp_ge (tgt := 263) hx hb rfl (by decide : (3 : Int32).toInt = 3) dX10_copies_234 (by decide) (fun c_234_52 => ?_) (fun c_234_52 => ?_)
            · exact hQ _ _ _ _ _ hw (⟨f_50, iM_48, f_49, q_copy hI j_51 f_49⟩) dX10_copies_263
            · refine lv_aload_n hx hb dX10_copies_237 rfl (lv_at hl 1 rfl) ?_
              refine ti_get (ci := 10) (k := 49) (N := 67) (T := TX10) (v := .ref (A 60 50)) C hw iw_10 rfl ob_60 (by decide) (by decide) fl_X10_114 rfl rfl dX10_copies_238 ?_
              refine lv_iconst (v := 3) hx hb dX10_copies_241 (by decide) ?_
              refine lv_iload_n hx hb dX10_copies_242 rfl (lv_at hl 2 rfl) ?_
              refine lv_imul hx hb dX10_copies_243 ?_
              refine lv_topi (fun x_54 ex_54 => ?_)
              have tx_54 : x_54.toInt = 3 * to.toInt := i_mul ex_54 (by decide : (3 : Int32).toInt = 3) rfl (by omega) (by omega)
              refine lv_iload_n hx hb dX10_copies_244 rfl (lv_at hl 0 rfl) ?_
              refine lv_iadd hx hb dX10_copies_245 ?_
              refine lv_topi (fun x_55 ex_55 => ?_)
              have tx_55 : x_55.toInt = x_54.toInt + x_45.toInt := i_add ex_55 rfl rfl (by omega) (by omega)
              refine lv_aload_n hx hb dX10_copies_246 rfl (lv_at hl 1 rfl) ?_
              refine ti_get (ci := 10) (k := 49) (N := 67) (T := TX10) (v := .ref (A 60 50)) C hw iw_10 rfl ob_60 (by decide) (by decide) fl_X10_114 rfl rfl dX10_copies_247 ?_
              refine lv_iconst (v := 3) hx hb dX10_copies_250 (by decide) ?_
              refine lv_iload_n hx hb dX10_copies_251 rfl (lv_at hl 3 rfl) ?_
              refine lv_imul hx hb dX10_copies_252 ?_
              refine lv_topi (fun x_56 ex_56 => ?_)
              have tx_56 : x_56.toInt = 3 * as.toInt := i_mul ex_56 (by decide : (3 : Int32).toInt = 3) rfl (by omega) (by omega)
              refine lv_iload_n hx hb dX10_copies_253 rfl (lv_at hl 0 rfl) ?_
              refine lv_iadd hx hb dX10_copies_254 ?_
              refine lv_topi (fun x_57 ex_57 => ?_)
              have tx_57 : x_57.toInt = x_56.toInt + x_45.toInt := i_add ex_57 rfl rfl (by omega) (by omega)
              refine ti_iald (ci := 10) (k := 49) (n := 69) C hw ob_60 (by decide) (fun _ _ => rfl) (vp_in_iff.mpr (by omega)) dX10_copies_255 ?_
              refine lv_topi (fun x_58 ex_58 => ?_)
              have yx_58 : tY M_48 60 49 x_57.toNatClampNeg = x_58 := (ex_58.symm)
              have bx_58 : 0 ≤ x_58.toInt ∧ x_58.toInt ≤ 7 := mI_ry (k := 49) (i := x_57.toNatClampNeg) iM_48 yx_58.symm
              refine ti_iast (ci := 10) (k := 49) (n := 69) C hw ob_60 (by decide) (fun _ _ => rfl) (vp_in_iff.mpr (by omega)) dX10_copies_256 (fun H locs hw => ?_)
              obtain ⟨M_59, hM_59⟩ : ∃ z : ti_M, z = uY M_48 60 49 (upd (tY M_48 60 49) (x_55 : Int32).toNatClampNeg x_58) := ⟨_, rfl⟩
              have hw := hw.to hM_59.symm
              have iM_59 : mI Tm M_59 := mI_up (i := x_55.toNatClampNeg) iM_48 hM_59 (ib_mk (lo := 0) (hi := 7) (by omega) (by omega))
              obtain ⟨x_60, ex_60⟩ : ∃ z : Int32, z = x_45 + 1 := ⟨_, rfl⟩
              have tx_60 : x_60.toInt = x_45.toInt + 1 := i_add ex_60 rfl (by decide) (by omega) (by omega)
              refine lv_iinc (v := x_60) (lv' := [(3, .int x_60), (0, .ref (A 60 0)), (1, .int to), (2, .int as)]) hx hb dX10_copies_257 hl (k := 0) rfl (by rw [ex_60]; rfl) (by decide) rfl (fun ls hl => ?_)
              refine lv_goto (tgt := 232) hx hb dX10_copies_260 (by decide) ?_
              exact ih_52 x_60 M_59 _ _ _ (by omega) (by first | omega | decide) (by first | omega | decide) iM_59 (lk.trans (lk_Y hM_59 (by decide)) f_49) (fR.trans (fR_Y hM_59 (bk_p (z := x_55) (by omega))) f_50) (cpq_qw j_51 (qw_Y hM_59 (by decide))) hw (lv_sub hl [0, 1, 2, 3] rfl)
        exact hl_232_51 ((3 - 0 : Int).toNat + 1) 0 M_14 _ _ _ (Nat.lt_succ_self _) (by have lt0 : (0 : Int32).toInt = 0 := (by decide); first | omega | decide) (by have lt0 : (0 : Int32).toInt = 0 := (by decide); first | omega | decide) iM_14 f_15 f_16 (by have h := j_17; rwa [show x_11.toInt = 8 by omega] at h) hw (lv_sub hl [0, 1, 2, 3] rfl)
      · refine lv_bipush (v := 8) hx hb dX10_copies_68 (by decide) ?_
        refine lv_iload_n hx hb dX10_copies_70 rfl (lv_at hl 2 rfl) ?_
        refine lv_imul hx hb dX10_copies_71 ?_
        refine lv_topi (fun x_20 ex_20 => ?_)
        have tx_20 : x_20.toInt = 8 * to.toInt := i_mul ex_20 (by decide : (8 : Int32).toInt = 8) rfl (by omega) (by omega)
        refine lv_iload_n hx hb dX10_copies_72 rfl (lv_at hl 0 rfl) ?_
        refine lv_iadd hx hb dX10_copies_73 ?_
        refine lv_topi (fun x_21 ex_21 => ?_)
        have tx_21 : x_21.toInt = x_20.toInt + x_11.toInt := i_add ex_21 rfl rfl (by omega) (by omega)
        refine lv_istore (lv' := [(4, .int x_21), (3, .int x_11), (0, .ref (A 60 0)), (1, .int to), (2, .int as)]) hx hb dX10_copies_74 hl (by decide) rfl (fun ls hl => ?_)
        refine lv_bipush (v := 8) hx hb dX10_copies_76 (by decide) ?_
        refine lv_iload_n hx hb dX10_copies_78 rfl (lv_at hl 4 rfl) ?_
        refine lv_imul hx hb dX10_copies_79 ?_
        refine lv_topi (fun x_22 ex_22 => ?_)
        have tx_22 : x_22.toInt = 8 * as.toInt := i_mul ex_22 (by decide : (8 : Int32).toInt = 8) rfl (by omega) (by omega)
        refine lv_iload_n hx hb dX10_copies_80 rfl (lv_at hl 1 rfl) ?_
        refine lv_iadd hx hb dX10_copies_81 ?_
        refine lv_topi (fun x_23 ex_23 => ?_)
        have tx_23 : x_23.toInt = x_22.toInt + x_11.toInt := i_add ex_23 rfl rfl (by omega) (by omega)
        refine lv_istore (lv' := [(5, .int x_23), (4, .int x_21), (3, .int x_11), (0, .ref (A 60 0)), (1, .int to), (2, .int as)]) hx hb dX10_copies_82 hl (by decide) rfl (fun ls hl => ?_)
        refine lv_aload_n hx hb dX10_copies_84 rfl (lv_at hl 3 rfl) ?_
        refine ti_get (ci := 10) (k := 39) (N := 67) (T := TX10) (v := .ref (A 60 40)) C hw iw_10 rfl ob_60 (by decide) (by decide) fl_X10_84 rfl rfl dX10_copies_85 ?_
        refine lv_iload hx hb dX10_copies_88 (lv_at hl 1 rfl) ?_
        refine lv_aload_n hx hb dX10_copies_90 rfl (lv_at hl 3 rfl) ?_
        refine ti_get (ci := 10) (k := 39) (N := 67) (T := TX10) (v := .ref (A 60 40)) C hw iw_10 rfl ob_60 (by decide) (by decide) fl_X10_84 rfl rfl dX10_copies_91 ?_
        refine lv_iload hx hb dX10_copies_94 (lv_at hl 0 rfl) ?_
        refine ti_iald (ci := 10) (k := 39) (n := 184) C hw ob_60 (by decide) (fun _ _ => rfl) (vp_in_iff.mpr (by omega)) dX10_copies_96 ?_
        refine lv_topi (fun x_24 ex_24 => ?_)
        have yx_24 : tY M_14 60 39 x_23.toNatClampNeg = x_24 := (ex_24.symm)
        have bx_24 : 0 ≤ x_24.toInt ∧ x_24.toInt ≤ 7 := mI_ry (k := 39) (i := x_23.toNatClampNeg) iM_14 yx_24.symm
        refine ti_iast (ci := 10) (k := 39) (n := 184) C hw ob_60 (by decide) (fun _ _ => rfl) (vp_in_iff.mpr (by omega)) dX10_copies_97 (fun H locs hw => ?_)
        obtain ⟨M_25, hM_25⟩ : ∃ z : ti_M, z = uY M_14 60 39 (upd (tY M_14 60 39) (x_21 : Int32).toNatClampNeg x_24) := ⟨_, rfl⟩
        have hw := hw.to hM_25.symm
        have iM_25 : mI Tm M_25 := mI_up (i := x_21.toNatClampNeg) iM_14 hM_25 (ib_mk (lo := 0) (hi := 7) (by omega) (by omega))
        refine lv_aload_n hx hb dX10_copies_98 rfl (lv_at hl 3 rfl) ?_
        refine ti_get (ci := 10) (k := 40) (N := 67) (T := TX10) (v := .ref (A 60 41)) C hw iw_10 rfl ob_60 (by decide) (by decide) fl_X10_87 rfl rfl dX10_copies_99 ?_
        refine lv_iload hx hb dX10_copies_102 (lv_at hl 1 rfl) ?_
        refine lv_aload_n hx hb dX10_copies_104 rfl (lv_at hl 3 rfl) ?_
        refine ti_get (ci := 10) (k := 40) (N := 67) (T := TX10) (v := .ref (A 60 41)) C hw iw_10 rfl ob_60 (by decide) (by decide) fl_X10_87 rfl rfl dX10_copies_105 ?_
        refine lv_iload hx hb dX10_copies_108 (lv_at hl 0 rfl) ?_
        refine ti_iald (ci := 10) (k := 40) (n := 184) C hw ob_60 (by decide) (fun _ _ => rfl) (vp_in_iff.mpr (by omega)) dX10_copies_110 ?_
        refine lv_topi (fun x_26 ex_26 => ?_)
        have yx_26 : tY M_25 60 40 x_23.toNatClampNeg = x_26 := (ex_26.symm)
        have zx_26 : (tY M_25 60 40 x_23.toNatClampNeg).toInt = x_26.toInt := by rw [yx_26]
        have wx_26 : tY M_14 60 40 x_23.toNatClampNeg = x_26 := ((cg (tY_nE hM_25 (nk (by decide))) x_23.toNatClampNeg)).symm.trans yx_26
        have zwx_26 : (tY M_14 60 40 x_23.toNatClampNeg).toInt = x_26.toInt := by rw [wx_26]
        refine ti_iast (ci := 10) (k := 40) (n := 184) C hw ob_60 (by decide) (fun _ _ => rfl) (vp_in_iff.mpr (by omega)) dX10_copies_111 (fun H locs hw => ?_)
        obtain ⟨M_27, hM_27⟩ : ∃ z : ti_M, z = uY M_25 60 40 (upd (tY M_25 60 40) (x_21 : Int32).toNatClampNeg x_26) := ⟨_, rfl⟩
        have hw := hw.to hM_27.symm
        have iM_27 : mI Tm M_27 := mI_up (i := x_21.toNatClampNeg) iM_25 hM_27 trivial
        refine lv_aload_n hx hb dX10_copies_112 rfl (lv_at hl 3 rfl) ?_
        refine ti_get (ci := 10) (k := 41) (N := 67) (T := TX10) (v := .ref (A 60 42)) C hw iw_10 rfl ob_60 (by decide) (by decide) fl_X10_90 rfl rfl dX10_copies_113 ?_
        refine lv_iload hx hb dX10_copies_116 (lv_at hl 1 rfl) ?_
        refine lv_aload_n hx hb dX10_copies_118 rfl (lv_at hl 3 rfl) ?_
        refine ti_get (ci := 10) (k := 41) (N := 67) (T := TX10) (v := .ref (A 60 42)) C hw iw_10 rfl ob_60 (by decide) (by decide) fl_X10_90 rfl rfl dX10_copies_119 ?_
        refine lv_iload hx hb dX10_copies_122 (lv_at hl 0 rfl) ?_
        refine ti_iald (ci := 10) (k := 41) (n := 184) C hw ob_60 (by decide) (fun _ _ => rfl) (vp_in_iff.mpr (by omega)) dX10_copies_124 ?_
        refine lv_topi (fun x_28 ex_28 => ?_)
        have yx_28 : tY M_27 60 41 x_23.toNatClampNeg = x_28 := (ex_28.symm)
        have wx_28 : tY M_14 60 41 x_23.toNatClampNeg = x_28 := (((cg (tY_nE hM_27 (nk (by decide))) x_23.toNatClampNeg).trans (cg (tY_nE hM_25 (nk (by decide))) x_23.toNatClampNeg))).symm.trans yx_28
        refine ti_iast (ci := 10) (k := 41) (n := 184) C hw ob_60 (by decide) (fun _ _ => rfl) (vp_in_iff.mpr (by omega)) dX10_copies_125 (fun H locs hw => ?_)
        obtain ⟨M_29, hM_29⟩ : ∃ z : ti_M, z = uY M_27 60 41 (upd (tY M_27 60 41) (x_21 : Int32).toNatClampNeg x_28) := ⟨_, rfl⟩
        have hw := hw.to hM_29.symm
        have iM_29 : mI Tm M_29 := mI_up (i := x_21.toNatClampNeg) iM_27 hM_29 trivial
        refine lv_aload_n hx hb dX10_copies_126 rfl (lv_at hl 3 rfl) ?_
        refine ti_get (ci := 10) (k := 42) (N := 67) (T := TX10) (v := .ref (A 60 43)) C hw iw_10 rfl ob_60 (by decide) (by decide) fl_X10_93 rfl rfl dX10_copies_127 ?_
        refine lv_iload hx hb dX10_copies_130 (lv_at hl 1 rfl) ?_
        refine lv_aload_n hx hb dX10_copies_132 rfl (lv_at hl 3 rfl) ?_
        refine ti_get (ci := 10) (k := 42) (N := 67) (T := TX10) (v := .ref (A 60 43)) C hw iw_10 rfl ob_60 (by decide) (by decide) fl_X10_93 rfl rfl dX10_copies_133 ?_
        refine lv_iload hx hb dX10_copies_136 (lv_at hl 0 rfl) ?_
        refine ti_iald (ci := 10) (k := 42) (n := 184) C hw ob_60 (by decide) (fun _ _ => rfl) (vp_in_iff.mpr (by omega)) dX10_copies_138 ?_
        refine lv_topi (fun x_30 ex_30 => ?_)
        have yx_30 : tY M_29 60 42 x_23.toNatClampNeg = x_30 := (ex_30.symm)
        have wx_30 : tY M_14 60 42 x_23.toNatClampNeg = x_30 := (((cg (tY_nE hM_29 (nk (by decide))) x_23.toNatClampNeg).trans ((cg (tY_nE hM_27 (nk (by decide))) x_23.toNatClampNeg).trans (cg (tY_nE hM_25 (nk (by decide))) x_23.toNatClampNeg)))).symm.trans yx_30
        refine ti_iast (ci := 10) (k := 42) (n := 184) C hw ob_60 (by decide) (fun _ _ => rfl) (vp_in_iff.mpr (by omega)) dX10_copies_139 (fun H locs hw => ?_)
        obtain ⟨M_31, hM_31⟩ : ∃ z : ti_M, z = uY M_29 60 42 (upd (tY M_29 60 42) (x_21 : Int32).toNatClampNeg x_30) := ⟨_, rfl⟩
        have hw := hw.to hM_31.symm
        have iM_31 : mI Tm M_31 := mI_up (i := x_21.toNatClampNeg) iM_29 hM_31 trivial
        refine lv_aload_n hx hb dX10_copies_140 rfl (lv_at hl 3 rfl) ?_
        refine ti_get (ci := 10) (k := 43) (N := 67) (T := TX10) (v := .ref (A 60 44)) C hw iw_10 rfl ob_60 (by decide) (by decide) fl_X10_96 rfl rfl dX10_copies_141 ?_
        refine lv_iload hx hb dX10_copies_144 (lv_at hl 1 rfl) ?_
        refine lv_aload_n hx hb dX10_copies_146 rfl (lv_at hl 3 rfl) ?_
        refine ti_get (ci := 10) (k := 43) (N := 67) (T := TX10) (v := .ref (A 60 44)) C hw iw_10 rfl ob_60 (by decide) (by decide) fl_X10_96 rfl rfl dX10_copies_147 ?_
        refine lv_iload hx hb dX10_copies_150 (lv_at hl 0 rfl) ?_
        refine ti_iald (ci := 10) (k := 43) (n := 184) C hw ob_60 (by decide) (fun _ _ => rfl) (vp_in_iff.mpr (by omega)) dX10_copies_152 ?_
        refine lv_topi (fun x_32 ex_32 => ?_)
        have yx_32 : tY M_31 60 43 x_23.toNatClampNeg = x_32 := (ex_32.symm)
        have wx_32 : tY M_14 60 43 x_23.toNatClampNeg = x_32 := (((cg (tY_nE hM_31 (nk (by decide))) x_23.toNatClampNeg).trans ((cg (tY_nE hM_29 (nk (by decide))) x_23.toNatClampNeg).trans ((cg (tY_nE hM_27 (nk (by decide))) x_23.toNatClampNeg).trans (cg (tY_nE hM_25 (nk (by decide))) x_23.toNatClampNeg))))).symm.trans yx_32
        refine ti_iast (ci := 10) (k := 43) (n := 184) C hw ob_60 (by decide) (fun _ _ => rfl) (vp_in_iff.mpr (by omega)) dX10_copies_153 (fun H locs hw => ?_)
        obtain ⟨M_33, hM_33⟩ : ∃ z : ti_M, z = uY M_31 60 43 (upd (tY M_31 60 43) (x_21 : Int32).toNatClampNeg x_32) := ⟨_, rfl⟩
        have hw := hw.to hM_33.symm
        have iM_33 : mI Tm M_33 := mI_up (i := x_21.toNatClampNeg) iM_31 hM_33 trivial
        refine lv_aload_n hx hb dX10_copies_154 rfl (lv_at hl 3 rfl) ?_
        refine ti_get (ci := 10) (k := 44) (N := 67) (T := TX10) (v := .ref (A 60 45)) C hw iw_10 rfl ob_60 (by decide) (by decide) fl_X10_99 rfl rfl dX10_copies_155 ?_
        refine lv_iload hx hb dX10_copies_158 (lv_at hl 1 rfl) ?_
        refine lv_aload_n hx hb dX10_copies_160 rfl (lv_at hl 3 rfl) ?_
        refine ti_get (ci := 10) (k := 44) (N := 67) (T := TX10) (v := .ref (A 60 45)) C hw iw_10 rfl ob_60 (by decide) (by decide) fl_X10_99 rfl rfl dX10_copies_161 ?_
        refine lv_iload hx hb dX10_copies_164 (lv_at hl 0 rfl) ?_
        refine ti_iald (ci := 10) (k := 44) (n := 184) C hw ob_60 (by decide) (fun _ _ => rfl) (vp_in_iff.mpr (by omega)) dX10_copies_166 ?_
        refine lv_topi (fun x_34 ex_34 => ?_)
        have yx_34 : tY M_33 60 44 x_23.toNatClampNeg = x_34 := (ex_34.symm)
        have wx_34 : tY M_14 60 44 x_23.toNatClampNeg = x_34 := (((cg (tY_nE hM_33 (nk (by decide))) x_23.toNatClampNeg).trans ((cg (tY_nE hM_31 (nk (by decide))) x_23.toNatClampNeg).trans ((cg (tY_nE hM_29 (nk (by decide))) x_23.toNatClampNeg).trans ((cg (tY_nE hM_27 (nk (by decide))) x_23.toNatClampNeg).trans (cg (tY_nE hM_25 (nk (by decide))) x_23.toNatClampNeg)))))).symm.trans yx_34
        refine ti_iast (ci := 10) (k := 44) (n := 184) C hw ob_60 (by decide) (fun _ _ => rfl) (vp_in_iff.mpr (by omega)) dX10_copies_167 (fun H locs hw => ?_)
        obtain ⟨M_35, hM_35⟩ : ∃ z : ti_M, z = uY M_33 60 44 (upd (tY M_33 60 44) (x_21 : Int32).toNatClampNeg x_34) := ⟨_, rfl⟩
        have hw := hw.to hM_35.symm
        have iM_35 : mI Tm M_35 := mI_up (i := x_21.toNatClampNeg) iM_33 hM_35 trivial
        refine lv_aload_n hx hb dX10_copies_168 rfl (lv_at hl 3 rfl) ?_
        refine ti_get (ci := 10) (k := 45) (N := 67) (T := TX10) (v := .ref (A 60 46)) C hw iw_10 rfl ob_60 (by decide) (by decide) fl_X10_102 rfl rfl dX10_copies_169 ?_
        refine lv_iload hx hb dX10_copies_172 (lv_at hl 1 rfl) ?_
        refine lv_aload_n hx hb dX10_copies_174 rfl (lv_at hl 3 rfl) ?_
        refine ti_get (ci := 10) (k := 45) (N := 67) (T := TX10) (v := .ref (A 60 46)) C hw iw_10 rfl ob_60 (by decide) (by decide) fl_X10_102 rfl rfl dX10_copies_175 ?_
        refine lv_iload hx hb dX10_copies_178 (lv_at hl 0 rfl) ?_
        refine ti_iald (ci := 10) (k := 45) (n := 184) C hw ob_60 (by decide) (fun _ _ => rfl) (vp_in_iff.mpr (by omega)) dX10_copies_180 ?_
        refine lv_topi (fun x_36 ex_36 => ?_)
        have yx_36 : tY M_35 60 45 x_23.toNatClampNeg = x_36 := (ex_36.symm)
        have wx_36 : tY M_14 60 45 x_23.toNatClampNeg = x_36 := (((cg (tY_nE hM_35 (nk (by decide))) x_23.toNatClampNeg).trans ((cg (tY_nE hM_33 (nk (by decide))) x_23.toNatClampNeg).trans ((cg (tY_nE hM_31 (nk (by decide))) x_23.toNatClampNeg).trans ((cg (tY_nE hM_29 (nk (by decide))) x_23.toNatClampNeg).trans ((cg (tY_nE hM_27 (nk (by decide))) x_23.toNatClampNeg).trans (cg (tY_nE hM_25 (nk (by decide))) x_23.toNatClampNeg))))))).symm.trans yx_36
        refine ti_iast (ci := 10) (k := 45) (n := 184) C hw ob_60 (by decide) (fun _ _ => rfl) (vp_in_iff.mpr (by omega)) dX10_copies_181 (fun H locs hw => ?_)
        obtain ⟨M_37, hM_37⟩ : ∃ z : ti_M, z = uY M_35 60 45 (upd (tY M_35 60 45) (x_21 : Int32).toNatClampNeg x_36) := ⟨_, rfl⟩
        have hw := hw.to hM_37.symm
        have iM_37 : mI Tm M_37 := mI_up (i := x_21.toNatClampNeg) iM_35 hM_37 trivial
        refine lv_aload_n hx hb dX10_copies_182 rfl (lv_at hl 3 rfl) ?_
        refine ti_get (ci := 10) (k := 46) (N := 67) (T := TX10) (v := .ref (A 60 47)) C hw iw_10 rfl ob_60 (by decide) (by decide) fl_X10_105 rfl rfl dX10_copies_183 ?_
        refine lv_iload hx hb dX10_copies_186 (lv_at hl 1 rfl) ?_
        refine lv_aload_n hx hb dX10_copies_188 rfl (lv_at hl 3 rfl) ?_
        refine ti_get (ci := 10) (k := 46) (N := 67) (T := TX10) (v := .ref (A 60 47)) C hw iw_10 rfl ob_60 (by decide) (by decide) fl_X10_105 rfl rfl dX10_copies_189 ?_
        refine lv_iload hx hb dX10_copies_192 (lv_at hl 0 rfl) ?_
        refine ti_iald (ci := 10) (k := 46) (n := 184) C hw ob_60 (by decide) (fun _ _ => rfl) (vp_in_iff.mpr (by omega)) dX10_copies_194 ?_
        refine lv_topi (fun x_38 ex_38 => ?_)
        have yx_38 : tY M_37 60 46 x_23.toNatClampNeg = x_38 := (ex_38.symm)
        have wx_38 : tY M_14 60 46 x_23.toNatClampNeg = x_38 := (((cg (tY_nE hM_37 (nk (by decide))) x_23.toNatClampNeg).trans ((cg (tY_nE hM_35 (nk (by decide))) x_23.toNatClampNeg).trans ((cg (tY_nE hM_33 (nk (by decide))) x_23.toNatClampNeg).trans ((cg (tY_nE hM_31 (nk (by decide))) x_23.toNatClampNeg).trans ((cg (tY_nE hM_29 (nk (by decide))) x_23.toNatClampNeg).trans ((cg (tY_nE hM_27 (nk (by decide))) x_23.toNatClampNeg).trans (cg (tY_nE hM_25 (nk (by decide))) x_23.toNatClampNeg)))))))).symm.trans yx_38
        refine ti_iast (ci := 10) (k := 46) (n := 184) C hw ob_60 (by decide) (fun _ _ => rfl) (vp_in_iff.mpr (by omega)) dX10_copies_195 (fun H locs hw => ?_)
        obtain ⟨M_39, hM_39⟩ : ∃ z : ti_M, z = uY M_37 60 46 (upd (tY M_37 60 46) (x_21 : Int32).toNatClampNeg x_38) := ⟨_, rfl⟩
        have hw := hw.to hM_39.symm
        have iM_39 : mI Tm M_39 := mI_up (i := x_21.toNatClampNeg) iM_37 hM_39 trivial
        refine lv_aload_n hx hb dX10_copies_196 rfl (lv_at hl 3 rfl) ?_
        refine ti_get (ci := 10) (k := 47) (N := 67) (T := TX10) (v := .ref (A 60 48)) C hw iw_10 rfl ob_60 (by decide) (by decide) fl_X10_108 rfl rfl dX10_copies_197 ?_
        refine lv_iload hx hb dX10_copies_200 (lv_at hl 1 rfl) ?_
        refine lv_aload_n hx hb dX10_copies_202 rfl (lv_at hl 3 rfl) ?_
        refine ti_get (ci := 10) (k := 47) (N := 67) (T := TX10) (v := .ref (A 60 48)) C hw iw_10 rfl ob_60 (by decide) (by decide) fl_X10_108 rfl rfl dX10_copies_203 ?_
        refine lv_iload hx hb dX10_copies_206 (lv_at hl 0 rfl) ?_
        refine ti_iald (ci := 10) (k := 47) (n := 184) C hw ob_60 (by decide) (fun _ _ => rfl) (vp_in_iff.mpr (by omega)) dX10_copies_208 ?_
        refine lv_topi (fun x_40 ex_40 => ?_)
        have yx_40 : tY M_39 60 47 x_23.toNatClampNeg = x_40 := (ex_40.symm)
        have wx_40 : tY M_14 60 47 x_23.toNatClampNeg = x_40 := (((cg (tY_nE hM_39 (nk (by decide))) x_23.toNatClampNeg).trans ((cg (tY_nE hM_37 (nk (by decide))) x_23.toNatClampNeg).trans ((cg (tY_nE hM_35 (nk (by decide))) x_23.toNatClampNeg).trans ((cg (tY_nE hM_33 (nk (by decide))) x_23.toNatClampNeg).trans ((cg (tY_nE hM_31 (nk (by decide))) x_23.toNatClampNeg).trans ((cg (tY_nE hM_29 (nk (by decide))) x_23.toNatClampNeg).trans ((cg (tY_nE hM_27 (nk (by decide))) x_23.toNatClampNeg).trans (cg (tY_nE hM_25 (nk (by decide))) x_23.toNatClampNeg))))))))).symm.trans yx_40
        refine ti_iast (ci := 10) (k := 47) (n := 184) C hw ob_60 (by decide) (fun _ _ => rfl) (vp_in_iff.mpr (by omega)) dX10_copies_209 (fun H locs hw => ?_)
        obtain ⟨M_41, hM_41⟩ : ∃ z : ti_M, z = uY M_39 60 47 (upd (tY M_39 60 47) (x_21 : Int32).toNatClampNeg x_40) := ⟨_, rfl⟩
        have hw := hw.to hM_41.symm
        have iM_41 : mI Tm M_41 := mI_up (i := x_21.toNatClampNeg) iM_39 hM_41 trivial
        refine lv_aload_n hx hb dX10_copies_210 rfl (lv_at hl 3 rfl) ?_
        refine ti_get (ci := 10) (k := 48) (N := 67) (T := TX10) (v := .ref (A 60 49)) C hw iw_10 rfl ob_60 (by decide) (by decide) fl_X10_111 rfl rfl dX10_copies_211 ?_
        refine lv_iload hx hb dX10_copies_214 (lv_at hl 1 rfl) ?_
        refine lv_aload_n hx hb dX10_copies_216 rfl (lv_at hl 3 rfl) ?_
        refine ti_get (ci := 10) (k := 48) (N := 67) (T := TX10) (v := .ref (A 60 49)) C hw iw_10 rfl ob_60 (by decide) (by decide) fl_X10_111 rfl rfl dX10_copies_217 ?_
        refine lv_iload hx hb dX10_copies_220 (lv_at hl 0 rfl) ?_
        refine ti_iald (ci := 10) (k := 48) (n := 184) C hw ob_60 (by decide) (fun _ _ => rfl) (vp_in_iff.mpr (by omega)) dX10_copies_222 ?_
        refine lv_topi (fun x_42 ex_42 => ?_)
        have yx_42 : tY M_41 60 48 x_23.toNatClampNeg = x_42 := (ex_42.symm)
        have wx_42 : tY M_14 60 48 x_23.toNatClampNeg = x_42 := (((cg (tY_nE hM_41 (nk (by decide))) x_23.toNatClampNeg).trans ((cg (tY_nE hM_39 (nk (by decide))) x_23.toNatClampNeg).trans ((cg (tY_nE hM_37 (nk (by decide))) x_23.toNatClampNeg).trans ((cg (tY_nE hM_35 (nk (by decide))) x_23.toNatClampNeg).trans ((cg (tY_nE hM_33 (nk (by decide))) x_23.toNatClampNeg).trans ((cg (tY_nE hM_31 (nk (by decide))) x_23.toNatClampNeg).trans ((cg (tY_nE hM_29 (nk (by decide))) x_23.toNatClampNeg).trans ((cg (tY_nE hM_27 (nk (by decide))) x_23.toNatClampNeg).trans (cg (tY_nE hM_25 (nk (by decide))) x_23.toNatClampNeg)))))))))).symm.trans yx_42
        refine ti_iast (ci := 10) (k := 48) (n := 184) C hw ob_60 (by decide) (fun _ _ => rfl) (vp_in_iff.mpr (by omega)) dX10_copies_223 (fun H locs hw => ?_)
        obtain ⟨M_43, hM_43⟩ : ∃ z : ti_M, z = uY M_41 60 48 (upd (tY M_41 60 48) (x_21 : Int32).toNatClampNeg x_42) := ⟨_, rfl⟩
        have hw := hw.to hM_43.symm
        have iM_43 : mI Tm M_43 := mI_up (i := x_21.toNatClampNeg) iM_41 hM_43 trivial
        obtain ⟨x_44, ex_44⟩ : ∃ z : Int32, z = x_11 + 1 := ⟨_, rfl⟩
        have tx_44 : x_44.toInt = x_11.toInt + 1 := i_add ex_44 rfl (by decide) (by omega) (by omega)
        refine lv_iinc (v := x_44) (lv' := [(3, .int x_44), (5, .int x_23), (4, .int x_21), (0, .ref (A 60 0)), (1, .int to), (2, .int as)]) hx hb dX10_copies_224 hl (k := 2) rfl (by rw [ex_44]; rfl) (by decide) rfl (fun ls hl => ?_)
        refine lv_goto (tgt := 62) hx hb dX10_copies_227 (by decide) ?_
        exact ih_18 x_44 M_43 _ _ _ (by omega) (by first | omega | decide) (by first | omega | decide) iM_43 (lk.trans (lk_Y hM_43 (by decide)) (lk.trans (lk_Y hM_41 (by decide)) (lk.trans (lk_Y hM_39 (by decide)) (lk.trans (lk_Y hM_37 (by decide)) (lk.trans (lk_Y hM_35 (by decide)) (lk.trans (lk_Y hM_33 (by decide)) (lk.trans (lk_Y hM_31 (by decide)) (lk.trans (lk_Y hM_29 (by decide)) (lk.trans (lk_Y hM_27 (by decide)) (lk.trans (lk_Y hM_25 (by decide)) f_15)))))))))) (fR.trans (fR_Y hM_43 (bk_m (z := x_21) (by omega) (by decide))) (fR.trans (fR_Y hM_41 (bk_m (z := x_21) (by omega) (by decide))) (fR.trans (fR_Y hM_39 (bk_m (z := x_21) (by omega) (by decide))) (fR.trans (fR_Y hM_37 (bk_m (z := x_21) (by omega) (by decide))) (fR.trans (fR_Y hM_35 (bk_m (z := x_21) (by omega) (by decide))) (fR.trans (fR_Y hM_33 (bk_m (z := x_21) (by omega) (by decide))) (fR.trans (fR_Y hM_31 (bk_m (z := x_21) (by omega) (by decide))) (fR.trans (fR_Y hM_29 (bk_m (z := x_21) (by omega) (by decide))) (fR.trans (fR_Y hM_27 (bk_m (z := x_21) (by omega) (by decide))) (fR.trans (fR_Y hM_25 (bk_m (z := x_21) (by omega) (by decide))) f_16)))))))))) (cpq_s j_17 hM_25 yx_24 hM_27 yx_26 (qw.trans (qw_Y hM_43 (by decide)) (qw.trans (qw_Y hM_41 (by decide)) (qw.trans (qw_Y hM_39 (by decide)) (qw.trans (qw_Y hM_37 (by decide)) (qw.trans (qw_Y hM_35 (by decide)) (qw.trans (qw_Y hM_33 (by decide)) (qw.trans (qw_Y hM_31 (by decide)) (qw_Y hM_29 (by decide))))))))) (by show ((x_21.toInt.toNat : Nat) : Int) = 8 * ((to.toInt.toNat : Nat) : Int) + _; omega) (by show ((x_23.toInt.toNat : Nat) : Int) = 8 * ((as.toInt.toNat : Nat) : Int) + _; omega) (by show to.toInt.toNat ≠ as.toInt.toNat; omega) (by omega) (by omega) (by omega)) hw (lv_sub hl [0, 3, 4, 5] rfl)
  exact hl_62_17 ((8 - 0 : Int).toNat + 1) 0 M_10 _ _ _ (Nat.lt_succ_self _) (by have lt0 : (0 : Int32).toInt = 0 := (by decide); first | omega | decide) (by have lt0 : (0 : Int32).toInt = 0 := (by decide); first | omega | decide) iM_10 (lk.trans (lk_Y hM_10 (by decide)) (lk.trans (lk_Y hM_8 (by decide)) (lk.trans (lk_Y hM_6 (by decide)) (lk.trans (lk_Y hM_4 (by decide)) (lk_Y hM_2 (by decide)))))) (fR.trans (fR_Y hM_10 (bk_q (z := to) (by omega) (by decide))) (fR.trans (fR_Y hM_8 (bk_q (z := to) (by omega) (by decide))) (fR.trans (fR_Y hM_6 (bk_q (z := to) (by omega) (by decide))) (fR.trans (fR_Y hM_4 (bk_q (z := to) (by omega) (by decide))) (fR_Y hM_2 (bk_q (z := to) (by omega) (by decide))))))) (cpq_0 (qw.trans (qw_Y hM_8 (by decide)) (qw.trans (qw_Y hM_6 (by decide)) (qw.trans (qw_Y hM_4 (by decide)) (qw_Y hM_2 (by decide))))) hM_10 rfl rfl (wx_9)) hw (lv_sub hl [0, 1, 2, 3] rfl)
set_option maxHeartbeats 4000000 in
set_option maxRecDepth 100000 in
theorem f_X10_lays (l : Launch) (D : va_G) (A : Nat → Nat → Nat) (cy : Nat → ClassId) (hJ : ti_inj ti_LM A) (M : ti_M) (hI : mI Tm M) (hC : mC M 0) (hP : mP M 0) : ti_Kv l yX10_lays cX10_lays 1 1 ti_LM D A cy M [.ref (A 60 0)] (fun M2 => fR 1 M2 M ∧ mI Tm M2 ∧ rq 1 M2 M ∧ mC M2 1 ∧ mP M2 1 ∧ (∀ j : Nat, j < 8 → tY M2 60 40 (8 + j) = tY M 60 40 j) ∧ (∀ j : Nat, j < 8 → tY M2 60 40 j = tY M 60 40 j) ∧ tY M2 60 38 1 = tY M 60 38 0) := by
  refine ti_eV yp_X10_lays hJ ti_LM_nd (Nat.le_of_ble_eq_true rfl) ?_
  intro p e s m args below meth c Q H0 C hQ hw ls hl
  have hx := C.1
  have hb := C.2.1
  have hl : lv_has ls 1 [(0, .ref (A 60 0))] := hl
  refine lv_aload_n hx hb dX10_lays_0 rfl (lv_at hl 0 rfl) ?_
  refine lv_iconst (v := 1) hx hb dX10_lays_1 (by decide) ?_
  refine lv_iconst (v := 0) hx hb dX10_lays_2 (by decide) ?_
  refine ti_callVv (ci := 10) (av := [.int 1, .int 0]) C hw (f_X10_copies l D A cy hJ M hI 1 0 (by first | omega | decide | (have l0 : (0 : Int32).toInt = 0 := (by decide); have l2 : (2 : Int32).toInt = 2 := (by decide); have l3 : (3 : Int32).toInt = 3 := (by decide); omega)) (by first | omega | decide | (have l0 : (0 : Int32).toInt = 0 := (by decide); have l2 : (2 : Int32).toInt = 2 := (by decide); have l3 : (3 : Int32).toInt = 3 := (by decide); omega)) (by first | omega | decide | (have l0 : (0 : Int32).toInt = 0 := (by decide); have l2 : (2 : Int32).toInt = 2 := (by decide); have l3 : (3 : Int32).toInt = 3 := (by decide); omega)) (by first | omega | decide | (have l0 : (0 : Int32).toInt = 0 := (by decide); have l2 : (2 : Int32).toInt = 2 := (by decide); have l3 : (3 : Int32).toInt = 3 := (by decide); omega)) (by first | omega | decide | (have l0 : (0 : Int32).toInt = 0 := (by decide); have l2 : (2 : Int32).toInt = 2 := (by decide); have l3 : (3 : Int32).toInt = 3 := (by decide); omega)) (by first | omega | decide | (have l0 : (0 : Int32).toInt = 0 := (by decide); have l2 : (2 : Int32).toInt = 2 := (by decide); have l3 : (3 : Int32).toInt = 3 := (by decide); omega))) ⟨ml_X10_404, ym_X10_copies, yv_X10_copies, yi_X10_copies, yc_X10_copies⟩ yd_X10_copies ob_60 (by decide) rfl rfl hl.1 (Nat.le_of_ble_eq_true rfl) ⟨by decide, by decide⟩ ⟨Nat.zero_le _, Nat.zero_le _⟩ dX10_lays_3 (fun M_2 H locs hp_2 hw => ?_)
  obtain ⟨frM_2, hqM_2⟩ := hp_2
  have frM_2 := fR_1 frM_2
  obtain ⟨iM_2, q_3, q_4⟩ := hqM_2
  have q_4n : cq 1 0 M_2 M := by rw [show (1 : Int32).toNatClampNeg = 1 from by decide] at q_4; rw [show (0 : Int32).toNatClampNeg = 0 from by decide] at q_4; exact q_4
  refine lv_aload_n hx hb dX10_lays_6 rfl (lv_at hl 0 rfl) ?_
  refine ti_get (ci := 10) (k := 37) (N := 67) (T := TX10) (v := .ref (A 60 38)) C hw iw_10 rfl ob_60 (by decide) (by decide) fl_X10_78 rfl rfl dX10_lays_7 ?_
  refine lv_iconst (v := 1) hx hb dX10_lays_10 (by decide) ?_
  refine lv_iconst (v := 0) hx hb dX10_lays_11 (by decide) ?_
  refine ti_iast (ci := 10) (k := 37) (n := 23) C hw ob_60 (by decide) (fun _ _ => rfl) (by unfold vp_in; decide) dX10_lays_12 (fun H locs hw => ?_)
  obtain ⟨M_5, hM_5⟩ : ∃ z : ti_M, z = uY M_2 60 37 (upd (tY M_2 60 37) (1 : Int32).toNatClampNeg 0) := ⟨_, rfl⟩
  have hw := hw.to hM_5.symm
  have iM_5 : mI Tm M_5 := mI_up (i := 1) iM_2 hM_5 trivial
  have jj := lays_rq q_3 q_4n hC hP
  exact hQ _ _ _ _ _ hw (⟨(fR.trans (fR_Y hM_5 (bk_q (z := 1) (by decide) (by decide))) frM_2), iM_5, rq.trans (rq_qw ((qw_Y hM_5 (by decide)))) jj.1, mC_qw ((qw_Y hM_5 (by decide))) jj.2.1, mP_qw ((qw_Y hM_5 (by decide))) jj.2.2.1, fun j hj => (cg ((qw_Y hM_5 (by decide))).2.2.2.2 _).trans (jj.2.2.2.1 j hj), fun j hj => (cg ((qw_Y hM_5 (by decide))).2.2.2.2 _).trans (jj.2.2.2.2.1 j hj), (cg ((qw_Y hM_5 (by decide))).2.2.1 1).trans jj.2.2.2.2.2⟩) dX10_lays_13
set_option maxHeartbeats 4000000 in
set_option maxRecDepth 100000 in
theorem f_X10_fault (l : Launch) (D : va_G) (A : Nat → Nat → Nat) (cy : Nat → ClassId) (hJ : ti_inj ti_LM A) (M : ti_M) (hI : mI Tm M) (hF : mF Tm M) (z1 : Int32) : ti_Ki l yX10_fault cX10_fault 2 (some .int) 0 ti_LM D A cy M [.ref (A 60 0), .int z1] (fun r M2 => fR 1 M2 M ∧ mF Tm M2 ∧ tI M2 60 2 = tI M 60 2 ∧ lw M2 M) := by
  refine ti_eI yp_X10_fault hJ ti_LM_nd (Nat.le_of_ble_eq_true rfl) ?_
  intro p e s m args below meth c Q H0 C hQ hw ls hl
  have hx := C.1
  have hb := C.2.1
  have hl : lv_has ls 2 [(0, .ref (A 60 0)), (1, .int z1)] := hl
  have hL : mL M := hF.2.1
  have hC0 : mC M 0 := hF.2.2.1.1
  have hP0 : mP M 0 := hF.2.2.1.2
  refine lv_aload_n hx hb dX10_fault_0 rfl (lv_at hl 0 rfl) ?_
  refine lv_iconst (v := 0) hx hb dX10_fault_1 (by decide) ?_
  refine ti_putI (ci := 10) (k := 0) (N := 67) (T := TX10) C hw iw_10 tyX10 tyX10_ok nmX10 rfl ob_60 (by decide) (by decide) fl_X10_154 rfl rfl rfl rfl (fn_10 A _) fs_10_0 dX10_fault_2 (fun H locs hw => ?_)
  obtain ⟨M_1, hM_1⟩ : ∃ z : ti_M, z = uI M 60 0 0 := ⟨_, rfl⟩
  have hw := hw.to hM_1.symm
  have iM_1 : mI Tm M_1 := mI_uI hI hM_1 (by decide) (by decide) trivial
  refine lv_iload_n hx hb dX10_fault_5 rfl (lv_at hl 1 rfl) ?_
  refine sb_if_ne (tgt := 16) hx hb rfl dX10_fault_6 (by decide) (fun c_6_1 => ?_) (fun c_6_1 => ?_)
  · refine lv_iload_n hx hb dX10_fault_16 rfl (lv_at hl 1 rfl) ?_
    refine lv_iconst (v := 1) hx hb dX10_fault_17 (by decide) ?_
    refine sb_icmp_ne (tgt := 28) hx hb rfl (by decide : (1 : Int32).toInt = 1) dX10_fault_18 (by decide) (fun c_18_3 => ?_) (fun c_18_3 => ?_)
    · refine lv_iconst (v := (-1)) hx hb dX10_fault_28 (by decide) ?_
      exact hQ _ _ _ _ _ _ hw rfl (⟨(fR_I hM_1 (by decide)), mF_qw hF iM_1 (qw_I hM_1 (by decide)), (qw_I hM_1 (by decide)).2.1.1, (qw_I hM_1 (by decide)).1⟩) dX10_fault_29
    · refine lv_aload_n hx hb dX10_fault_21 rfl (lv_at hl 0 rfl) ?_
      refine ti_get (ci := 10) (k := 28) (N := 67) (T := TX10) C hw iw_10 rfl ob_60 (by decide) (by decide) fl_X10_58 rfl rfl dX10_fault_22 ?_
      refine lv_topi (fun x_5 ex_5 => ?_)
      refine lv_goto (tgt := 29) hx hb dX10_fault_25 (by decide) ?_
      exact hQ _ _ _ _ _ _ hw rfl (⟨(fR_I hM_1 (by decide)), mF_qw hF iM_1 (qw_I hM_1 (by decide)), (qw_I hM_1 (by decide)).2.1.1, (qw_I hM_1 (by decide)).1⟩) dX10_fault_29
  · refine lv_aload_n hx hb dX10_fault_9 rfl (lv_at hl 0 rfl) ?_
    refine ti_get (ci := 10) (k := 27) (N := 67) (T := TX10) C hw iw_10 rfl ob_60 (by decide) (by decide) fl_X10_303 rfl rfl dX10_fault_10 ?_
    refine lv_topi (fun x_3 ex_3 => ?_)
    refine lv_goto (tgt := 29) hx hb dX10_fault_13 (by decide) ?_
    exact hQ _ _ _ _ _ _ hw rfl (⟨(fR_I hM_1 (by decide)), mF_qw hF iM_1 (qw_I hM_1 (by decide)), (qw_I hM_1 (by decide)).2.1.1, (qw_I hM_1 (by decide)).1⟩) dX10_fault_29
set_option maxHeartbeats 4000000 in
set_option maxRecDepth 100000 in
theorem f_X10_named (l : Launch) (D : va_G) (A : Nat → Nat → Nat) (cy : Nat → ClassId) (hJ : ti_inj ti_LM A) (M : ti_M) (hI : mI Tm M) (hF : mF Tm M) (z1 : Int32) : ti_Ki l yX10_named cX10_named 2 (some .int) 1 ti_LM D A cy M [.ref (A 60 0), .int z1] (fun r M2 => fR 1 M2 M ∧ mF Tm M2 ∧ tI M2 60 2 = tI M 60 2 ∧ lw M2 M) := by
  refine ti_eI yp_X10_named hJ ti_LM_nd (Nat.le_of_ble_eq_true rfl) ?_
  intro p e s m args below meth c Q H0 C hQ hw ls hl
  have hx := C.1
  have hb := C.2.1
  have hl : lv_has ls 2 [(0, .ref (A 60 0)), (1, .int z1)] := hl
  have hL : mL M := hF.2.1
  have hC0 : mC M 0 := hF.2.2.1.1
  have hP0 : mP M 0 := hF.2.2.1.2
  refine lv_aload_n hx hb dX10_named_0 rfl (lv_at hl 0 rfl) ?_
  refine lv_iconst (v := 0) hx hb dX10_named_1 (by decide) ?_
  refine ti_putI (ci := 10) (k := 0) (N := 67) (T := TX10) C hw iw_10 tyX10 tyX10_ok nmX10 rfl ob_60 (by decide) (by decide) fl_X10_154 rfl rfl rfl rfl (fn_10 A _) fs_10_0 dX10_named_2 (fun H locs hw => ?_)
  obtain ⟨M_1, hM_1⟩ : ∃ z : ti_M, z = uI M 60 0 0 := ⟨_, rfl⟩
  have hw := hw.to hM_1.symm
  have iM_1 : mI Tm M_1 := mI_uI hI hM_1 (by decide) (by decide) trivial
  refine lv_aload_n hx hb dX10_named_5 rfl (lv_at hl 0 rfl) ?_
  refine ti_get (ci := 10) (k := 4) (N := 67) (T := TX10) (v := .ref (A 60 5)) C hw iw_10 rfl ob_60 (by decide) (by decide) fl_X10_16 rfl rfl dX10_named_6 ?_
  refine lv_iconst (v := 0) hx hb dX10_named_9 (by decide) ?_
  refine lv_aload_n hx hb dX10_named_10 rfl (lv_at hl 0 rfl) ?_
  refine ti_get (ci := 10) (k := 3) (N := 67) (T := TX10) (v := .ref (A 60 4)) C hw iw_10 rfl ob_60 (by decide) (by decide) fl_X10_13 rfl rfl dX10_named_11 ?_
  refine lv_iconst (v := 0) hx hb dX10_named_14 (by decide) ?_
  refine ti_iald (ci := 10) (k := 3) (n := 22) C hw ob_60 (by decide) (fun _ _ => rfl) (by unfold vp_in; decide) dX10_named_15 ?_
  refine lv_topi (fun x_2 ex_2 => ?_)
  have yx_2 : tY M_1 60 3 0 = x_2 := ((congrArg _ (by decide)).symm.trans ex_2.symm)
  have bx_2 : 0 ≤ x_2.toInt ∧ x_2.toInt ≤ 8 := mI_rn (i := 0) iM_1 yx_2.symm (fun _ h => h)
  have zx_2 : (tY M_1 60 3 0).toInt = x_2.toInt := by rw [yx_2]
  have wx_2 : tY M 60 3 0 = x_2 := ((cg (tY_uIE hM_1) 0)).symm.trans yx_2
  have zwx_2 : (tY M 60 3 0).toInt = x_2.toInt := by rw [wx_2]
  refine lv_iload_n hx hb dX10_named_16 rfl (lv_at hl 1 rfl) ?_
  refine ti_callSi (av := [.ref (A 60 5), .int 0, .int x_2, .int z1]) C hw (s_X10_found_0 l D A cy hJ M_1 iM_1 x_2 z1 (by first | omega | decide) (by first | omega | decide)) ⟨ml_X10_220, ys_X10_found, yi_X10_found, yc_X10_found⟩ yd_X10_found rfl hl.1 (Nat.le_of_ble_eq_true rfl) ⟨by decide, by decide⟩ ⟨Nat.zero_le _, Nat.zero_le _⟩ dX10_named_17 (fun r_3 M_4 H locs hp_4 hw => ?_)
  obtain ⟨hm, b0r_3, b1r_3⟩ := hp_4
  have hw := hw.to hm
  exact hQ _ _ _ _ _ _ hw rfl (⟨(fR_I hM_1 (by decide)), mF_qw hF iM_1 (qw_I hM_1 (by decide)), (qw_I hM_1 (by decide)).2.1.1, (qw_I hM_1 (by decide)).1⟩) dX10_named_20
set_option maxHeartbeats 4000000 in
set_option maxRecDepth 100000 in
theorem f_X10_law (l : Launch) (D : va_G) (A : Nat → Nat → Nat) (cy : Nat → ClassId) (hJ : ti_inj ti_LM A) (M : ti_M) (hI : mI Tm M) (hF : mF Tm M) (z1 : Int32) (z2 : Int32) : ti_Kl l yX10_law cX10_law 3 (some .long) 3 ti_LM D A cy M [.ref (A 60 0), .int z1, .int z2] (fun r M2 => fR 1 M2 M ∧ mF Tm M2 ∧ tI M2 60 2 = tI M 60 2 ∧ lw M2 M) := by
  refine ti_eL yp_X10_law hJ ti_LM_nd (Nat.le_of_ble_eq_true rfl) ?_
  intro p e s m args below meth c Q H0 C hQ hw ls hl
  have hx := C.1
  have hb := C.2.1
  have hl : lv_has ls 3 [(0, .ref (A 60 0)), (1, .int z1), (2, .int z2)] := hl
  have hL : mL M := hF.2.1
  have hC0 : mC M 0 := hF.2.2.1.1
  have hP0 : mP M 0 := hF.2.2.1.2
  refine lv_aload_n hx hb dX10_law_0 rfl (lv_at hl 0 rfl) ?_
  refine lv_iconst (v := 0) hx hb dX10_law_1 (by decide) ?_
  refine ti_putI (ci := 10) (k := 0) (N := 67) (T := TX10) C hw iw_10 tyX10 tyX10_ok nmX10 rfl ob_60 (by decide) (by decide) fl_X10_154 rfl rfl rfl rfl (fn_10 A _) fs_10_0 dX10_law_2 (fun H locs hw => ?_)
  obtain ⟨M_1, hM_1⟩ : ∃ z : ti_M, z = uI M 60 0 0 := ⟨_, rfl⟩
  have hw := hw.to hM_1.symm
  have iM_1 : mI Tm M_1 := mI_uI hI hM_1 (by decide) (by decide) trivial
  refine lv_iload_n hx hb dX10_law_5 rfl (lv_at hl 1 rfl) ?_
  have hj_47_15 : ∀  (H : Heap) (locs : List Loc) (ls : Array Slot), ti_H ti_LM D A cy H0 M_1 H locs → lv_has ls 3 [(0, .ref (A 60 0)), (1, .int z1), (2, .int z2)] → W p l e (ti_rm 3) s m args below meth c H locs 0 0 Q (F0 m 47 ls []) := by
    intro  H locs ls  hw hl
    refine lv_ldc2 (v := (-9223372036854775808)) hx hb C.2.2.2.1 (C.2.2.1 _ cn_X10_428) dX10_law_47 ?_
    exact hQ _ _ _ _ _ _ hw (⟨(fR_I hM_1 (by decide)), mF_qw hF iM_1 (qw_I hM_1 (by decide)), (qw_I hM_1 (by decide)).2.1.1, (qw_I hM_1 (by decide)).1⟩) dX10_law_50
  refine sb_if_lt (tgt := 47) hx hb rfl dX10_law_6 (by decide) (fun c_6_1 => ?_) (fun c_6_1 => ?_)
  · exact hj_47_15  _ _ _  hw (lv_sub hl [0, 1, 2] rfl)
  · refine lv_iload_n hx hb dX10_law_9 rfl (lv_at hl 1 rfl) ?_
    refine lv_iconst (v := 2) hx hb dX10_law_10 (by decide) ?_
    refine sb_icmp_gt (tgt := 47) hx hb rfl (by decide : (2 : Int32).toInt = 2) dX10_law_11 (by decide) (fun c_11_2 => ?_) (fun c_11_2 => ?_)
    · exact hj_47_15  _ _ _  hw (lv_sub hl [0, 1, 2] rfl)
    · refine lv_aload_n hx hb dX10_law_14 rfl (lv_at hl 0 rfl) ?_
      refine lv_iload_n hx hb dX10_law_15 rfl (lv_at hl 1 rfl) ?_
      refine ti_callVi (ci := 10) (av := [.int z1]) C hw (s_X10_hasLaw l D A cy hJ M_1 iM_1 z1 (by first | omega | decide) (by first | omega | decide)) ⟨ml_X10_340, ym_X10_hasLaw, yv_X10_hasLaw, yi_X10_hasLaw, yc_X10_hasLaw⟩ yd_X10_hasLaw ob_60 (by decide) rfl rfl hl.1 (Nat.le_of_ble_eq_true rfl) ⟨by decide, by decide⟩ ⟨Nat.zero_le _, Nat.zero_le _⟩ dX10_law_16 (fun r_4 M_5 H locs hp_5 hw => ?_)
      have hm := hp_5
      have hw := hw.to hm
      refine sb_if_eq (tgt := 47) hx hb rfl dX10_law_19 (by decide) (fun c_19_5 => ?_) (fun c_19_5 => ?_)
      · exact hj_47_15  _ _ _  hw (lv_sub hl [0, 1, 2] rfl)
      · refine lv_iload_n hx hb dX10_law_22 rfl (lv_at hl 1 rfl) ?_
        refine lv_iconst (v := 2) hx hb dX10_law_23 (by decide) ?_
        have hj_51_16 : ∀  (H : Heap) (locs : List Loc) (ls : Array Slot), (z1.toInt = 2 ∨ (0 ≤ z2.toInt ∧ z2.toInt ≤ 7)) → ti_H ti_LM D A cy H0 M_1 H locs → lv_has ls 3 [(0, .ref (A 60 0)), (1, .int z1), (2, .int z2)] → W p l e (ti_rm 3) s m args below meth c H locs 0 0 Q (F0 m 51 ls []) := by
          intro  H locs ls j_16 hw hl
          refine lv_iload_n hx hb dX10_law_51 rfl (lv_at hl 1 rfl) ?_
          refine lv_iconst (v := 2) hx hb dX10_law_52 (by decide) ?_
          have hj_100_40 : ∀ (M_38 : ti_M) (H : Heap) (locs : List Loc) (ls : Array Slot), (mI Tm M_38) → (qw M_38 M) → (fR 1 M_38 M) → ti_H ti_LM D A cy H0 M_38 H locs → lv_has ls 3 [(0, .ref (A 60 0)), (1, .int z1), (2, .int z2)] → W p l e (ti_rm 3) s m args below meth c H locs 0 0 Q (F0 m 100 ls []) := by
            intro M_38 H locs ls iM_38 f_39 f_40 hw hl
            refine lv_aload_n hx hb dX10_law_100 rfl (lv_at hl 0 rfl) ?_
            refine lv_iload_n hx hb dX10_law_101 rfl (lv_at hl 1 rfl) ?_
            refine ti_callVi (ci := 10) (av := [.int z1]) C hw (f_X10_goes l D A cy hJ M_38 iM_38 (mL_lw (lk_of f_39.1 f_39.2.1).1 hL) z1 (by first | omega | decide) (by first | omega | decide)) ⟨ml_X10_343, ym_X10_goes, yv_X10_goes, yi_X10_goes, yc_X10_goes⟩ yd_X10_goes ob_60 (by decide) rfl rfl hl.1 (Nat.le_of_ble_eq_true rfl) ⟨by decide, by decide⟩ ⟨Nat.zero_le _, Nat.zero_le _⟩ dX10_law_102 (fun r_41 M_42 H locs hp_42 hw => ?_)
            obtain ⟨fiM_42, hqM_42⟩ := hp_42
            obtain ⟨iM_42, q_43, q_44, b0r_41, b1r_41⟩ := hqM_42
            refine sb_if_eq (tgt := 117) hx hb rfl dX10_law_105 (by decide) (fun c_105_44 => ?_) (fun c_105_44 => ?_)
            · refine lv_ldc2 (v := (-9223372036854775808)) hx hb C.2.2.2.1 (C.2.2.1 _ cn_X10_428) dX10_law_117 ?_
              exact hQ _ _ _ _ _ _ hw (⟨(fR.trans (fR_of q_43.2.1 fiM_42 q_44) f_40), mF_qw hF iM_42 (qw.trans q_43 f_39), (qw.trans q_43 f_39).2.1.1, (qw.trans q_43 f_39).1⟩) dX10_law_120
            · refine lv_aload_n hx hb dX10_law_108 rfl (lv_at hl 0 rfl) ?_
              refine ti_get (ci := 10) (k := 32) (N := 67) (T := TX10) (v := .ref (A 60 33)) C hw iw_10 rfl ob_60 (by decide) (by decide) fl_X10_66 rfl rfl dX10_law_109 ?_
              refine lv_iconst (v := 0) hx hb dX10_law_112 (by decide) ?_
              refine ti_lald (ci := 10) (k := 32) (n := 64) C hw ob_60 (by decide) (fun _ _ => rfl) (by unfold vp_in; decide) dX10_law_113 ?_
              refine lv_topl (fun x_46 ex_46 => ?_)
              refine lv_goto (tgt := 120) hx hb dX10_law_114 (by decide) ?_
              exact hQ _ _ _ _ _ _ hw (⟨(fR.trans (fR_of q_43.2.1 fiM_42 q_44) f_40), mF_qw hF iM_42 (qw.trans q_43 f_39), (qw.trans q_43 f_39).2.1.1, (qw.trans q_43 f_39).1⟩) dX10_law_120
          refine sb_icmp_ne (tgt := 82) hx hb rfl (by decide : (2 : Int32).toInt = 2) dX10_law_53 (by decide) (fun c_53_16 => ?_) (fun c_53_16 => ?_)
          · refine lv_aload_n hx hb dX10_law_82 rfl (lv_at hl 0 rfl) ?_
            refine lv_iconst (v := 0) hx hb dX10_law_83 (by decide) ?_
            refine lv_iload_n hx hb dX10_law_84 rfl (lv_at hl 2 rfl) ?_
            refine lv_aload_n hx hb dX10_law_85 rfl (lv_at hl 0 rfl) ?_
            refine lv_iconst (v := 0) hx hb dX10_law_86 (by decide) ?_
            refine lv_iload_n hx hb dX10_law_87 rfl (lv_at hl 2 rfl) ?_
            refine ti_callVi (ci := 10) (av := [.int 0, .int z2]) C hw (s_X10_placeOf_0 l D A cy hJ M_1 iM_1 z2) ⟨ml_X10_411, ym_X10_placeOf, yv_X10_placeOf, yi_X10_placeOf, yc_X10_placeOf⟩ yd_X10_placeOf ob_60 (by decide) rfl rfl hl.1 (Nat.le_of_ble_eq_true rfl) ⟨by decide, by decide⟩ ⟨Nat.zero_le _, Nat.zero_le _⟩ dX10_law_88 (fun r_25 M_26 H locs hp_26 hw => ?_)
            obtain ⟨hm, hz⟩ := hp_26
            have hw := hw.to hm
            rcases hz with ⟨rfl, z1_27⟩ | ⟨z1_27, z2_27, z3_27, z4_27⟩
            · refine lv_aload_n hx hb dX10_law_91 rfl (lv_at hl 0 rfl) ?_
              refine ti_get (ci := 10) (k := 34) (N := 67) (T := TX10) (v := .ref (A 60 35)) C hw iw_10 rfl ob_60 (by decide) (by decide) fl_X10_69 rfl rfl dX10_law_92 ?_
              refine lv_iconst (v := 0) hx hb dX10_law_95 (by decide) ?_
              refine ti_iald (ci := 10) (k := 34) (n := 23) C hw ob_60 (by decide) (fun _ _ => rfl) (by unfold vp_in; decide) dX10_law_96 ?_
              refine lv_topi (fun x_28 ex_28 => ?_)
              have yx_28 : tY M_1 60 34 0 = x_28 := ((congrArg _ (by decide)).symm.trans ex_28.symm)
              have bx_28 : 0 ≤ x_28.toInt ∧ x_28.toInt ≤ 120 := mI_ry (k := 34) (i := 0) iM_1 yx_28.symm (by decide)
              have zx_28 : (tY M_1 60 34 0).toInt = x_28.toInt := by rw [yx_28]
              have wx_28 : tY M 60 34 0 = x_28 := ((cg (tY_uIE hM_1) 0)).symm.trans yx_28
              have zwx_28 : (tY M 60 34 0).toInt = x_28.toInt := by rw [wx_28]
              refine ti_callVv (ci := 10) (av := [.int 0, .int z2, .int (-1), .int x_28]) C hw (f_X10_calls_0 l D A cy hJ M_1 iM_1 z2 (-1) x_28 (by first | omega | decide) (by first | omega | decide)) ⟨ml_X10_363, ym_X10_calls, yv_X10_calls, yi_X10_calls, yc_X10_calls⟩ yd_X10_calls ob_60 (by decide) rfl rfl hl.1 (Nat.le_of_ble_eq_true rfl) ⟨by decide, by decide⟩ ⟨Nat.zero_le _, Nat.zero_le _⟩ dX10_law_97 (fun M_30 H locs hp_30 hw => ?_)
              obtain ⟨fiM_30, hqM_30⟩ := hp_30
              obtain ⟨iM_30, q_31, q_32⟩ := hqM_30
              exact hj_100_40 M_30 _ _ _ iM_30 (qw.trans q_31 (qw_I hM_1 (by decide))) (fR.trans (fR_of q_31.2.1 fiM_30 q_32) (fR_I hM_1 (by decide))) hw (lv_sub hl [0, 1, 2] rfl)
            · refine lv_aload_n hx hb dX10_law_91 rfl (lv_at hl 0 rfl) ?_
              refine ti_get (ci := 10) (k := 34) (N := 67) (T := TX10) (v := .ref (A 60 35)) C hw iw_10 rfl ob_60 (by decide) (by decide) fl_X10_69 rfl rfl dX10_law_92 ?_
              refine lv_iconst (v := 0) hx hb dX10_law_95 (by decide) ?_
              refine ti_iald (ci := 10) (k := 34) (n := 23) C hw ob_60 (by decide) (fun _ _ => rfl) (by unfold vp_in; decide) dX10_law_96 ?_
              refine lv_topi (fun x_33 ex_33 => ?_)
              have yx_33 : tY M_1 60 34 0 = x_33 := ((congrArg _ (by decide)).symm.trans ex_33.symm)
              have bx_33 : 0 ≤ x_33.toInt ∧ x_33.toInt ≤ 120 := mI_ry (k := 34) (i := 0) iM_1 yx_33.symm (by decide)
              have zx_33 : (tY M_1 60 34 0).toInt = x_33.toInt := by rw [yx_33]
              have wx_33 : tY M 60 34 0 = x_33 := ((cg (tY_uIE hM_1) 0)).symm.trans yx_33
              have zwx_33 : (tY M 60 34 0).toInt = x_33.toInt := by rw [wx_33]
              refine ti_callVv (ci := 10) (av := [.int 0, .int z2, .int r_25, .int x_33]) C hw (f_X10_calls_0 l D A cy hJ M_1 iM_1 z2 r_25 x_33 (by first | omega | decide) (by first | omega | decide)) ⟨ml_X10_363, ym_X10_calls, yv_X10_calls, yi_X10_calls, yc_X10_calls⟩ yd_X10_calls ob_60 (by decide) rfl rfl hl.1 (Nat.le_of_ble_eq_true rfl) ⟨by decide, by decide⟩ ⟨Nat.zero_le _, Nat.zero_le _⟩ dX10_law_97 (fun M_35 H locs hp_35 hw => ?_)
              obtain ⟨fiM_35, hqM_35⟩ := hp_35
              obtain ⟨iM_35, q_36, q_37⟩ := hqM_35
              exact hj_100_40 M_35 _ _ _ iM_35 (qw.trans q_36 (qw_I hM_1 (by decide))) (fR.trans (fR_of q_36.2.1 fiM_35 q_37) (fR_I hM_1 (by decide))) hw (lv_sub hl [0, 1, 2] rfl)
          · refine lv_aload_n hx hb dX10_law_56 rfl (lv_at hl 0 rfl) ?_
            refine lv_iconst (v := 0) hx hb dX10_law_57 (by decide) ?_
            refine lv_aload_n hx hb dX10_law_58 rfl (lv_at hl 0 rfl) ?_
            refine ti_get (ci := 10) (k := 39) (N := 67) (T := TX10) (v := .ref (A 60 40)) C hw iw_10 rfl ob_60 (by decide) (by decide) fl_X10_84 rfl rfl dX10_law_59 ?_
            refine lv_iconst (v := 0) hx hb dX10_law_62 (by decide) ?_
            refine ti_iald (ci := 10) (k := 39) (n := 184) C hw ob_60 (by decide) (fun _ _ => rfl) (by unfold vp_in; decide) dX10_law_63 ?_
            refine lv_topi (fun x_18 ex_18 => ?_)
            have yx_18 : tY M_1 60 39 0 = x_18 := ((congrArg _ (by decide)).symm.trans ex_18.symm)
            have bx_18 : 0 ≤ x_18.toInt ∧ x_18.toInt ≤ 7 := mI_ry (k := 39) (i := 0) iM_1 yx_18.symm
            have wx_18 : tY M 60 39 0 = x_18 := ((cg (tY_uIE hM_1) 0)).symm.trans yx_18
            refine lv_aload_n hx hb dX10_law_64 rfl (lv_at hl 0 rfl) ?_
            refine ti_get (ci := 10) (k := 38) (N := 67) (T := TX10) (v := .ref (A 60 39)) C hw iw_10 rfl ob_60 (by decide) (by decide) fl_X10_81 rfl rfl dX10_law_65 ?_
            refine lv_iconst (v := 0) hx hb dX10_law_68 (by decide) ?_
            refine ti_iald (ci := 10) (k := 38) (n := 23) C hw ob_60 (by decide) (fun _ _ => rfl) (by unfold vp_in; decide) dX10_law_69 ?_
            refine lv_topi (fun x_19 ex_19 => ?_)
            have yx_19 : tY M_1 60 38 0 = x_19 := ((congrArg _ (by decide)).symm.trans ex_19.symm)
            have bx_19 : 0 ≤ x_19.toInt ∧ x_19.toInt ≤ 8 := mI_ry (k := 38) (i := 0) iM_1 yx_19.symm
            have zx_19 : (tY M_1 60 38 0).toInt = x_19.toInt := by rw [yx_19]
            have wx_19 : tY M 60 38 0 = x_19 := ((cg (tY_uIE hM_1) 0)).symm.trans yx_19
            have zwx_19 : (tY M 60 38 0).toInt = x_19.toInt := by rw [wx_19]
            refine lv_aload_n hx hb dX10_law_70 rfl (lv_at hl 0 rfl) ?_
            refine ti_get (ci := 10) (k := 34) (N := 67) (T := TX10) (v := .ref (A 60 35)) C hw iw_10 rfl ob_60 (by decide) (by decide) fl_X10_69 rfl rfl dX10_law_71 ?_
            refine lv_iconst (v := 0) hx hb dX10_law_74 (by decide) ?_
            refine ti_iald (ci := 10) (k := 34) (n := 23) C hw ob_60 (by decide) (fun _ _ => rfl) (by unfold vp_in; decide) dX10_law_75 ?_
            refine lv_topi (fun x_20 ex_20 => ?_)
            have yx_20 : tY M_1 60 34 0 = x_20 := ((congrArg _ (by decide)).symm.trans ex_20.symm)
            have bx_20 : 0 ≤ x_20.toInt ∧ x_20.toInt ≤ 120 := mI_ry (k := 34) (i := 0) iM_1 yx_20.symm (by decide)
            have zx_20 : (tY M_1 60 34 0).toInt = x_20.toInt := by rw [yx_20]
            have wx_20 : tY M 60 34 0 = x_20 := ((cg (tY_uIE hM_1) 0)).symm.trans yx_20
            have zwx_20 : (tY M 60 34 0).toInt = x_20.toInt := by rw [wx_20]
            refine ti_callVv (ci := 10) (av := [.int 0, .int x_18, .int x_19, .int x_20]) C hw (f_X10_calls_0 l D A cy hJ M_1 iM_1 x_18 x_19 x_20 (by first | omega | decide) (by first | omega | decide)) ⟨ml_X10_363, ym_X10_calls, yv_X10_calls, yi_X10_calls, yc_X10_calls⟩ yd_X10_calls ob_60 (by decide) rfl rfl hl.1 (Nat.le_of_ble_eq_true rfl) ⟨by decide, by decide⟩ ⟨Nat.zero_le _, Nat.zero_le _⟩ dX10_law_76 (fun M_22 H locs hp_22 hw => ?_)
            obtain ⟨fiM_22, hqM_22⟩ := hp_22
            obtain ⟨iM_22, q_23, q_24⟩ := hqM_22
            refine lv_goto (tgt := 100) hx hb dX10_law_79 (by decide) ?_
            exact hj_100_40 M_22 _ _ _ iM_22 (qw.trans q_23 (qw_I hM_1 (by decide))) (fR.trans (fR_of q_23.2.1 fiM_22 q_24) (fR_I hM_1 (by decide))) hw (lv_sub hl [0, 1, 2] rfl)
        refine sb_icmp_ne (tgt := 39) hx hb rfl (by decide : (2 : Int32).toInt = 2) dX10_law_24 (by decide) (fun c_24_6 => ?_) (fun c_24_6 => ?_)
        · refine lv_aload_n hx hb dX10_law_39 rfl (lv_at hl 0 rfl) ?_
          refine lv_iload_n hx hb dX10_law_40 rfl (lv_at hl 2 rfl) ?_
          refine ti_callVi (ci := 10) (av := [.int z2]) C hw (s_X10_isIn l D A cy hJ M_1 iM_1 z2) ⟨ml_X10_423, ym_X10_isIn, yv_X10_isIn, yi_X10_isIn, yc_X10_isIn⟩ yd_X10_isIn ob_60 (by decide) rfl rfl hl.1 (Nat.le_of_ble_eq_true rfl) ⟨by decide, by decide⟩ ⟨Nat.zero_le _, Nat.zero_le _⟩ dX10_law_41 (fun r_10 M_11 H locs hp_11 hw => ?_)
          obtain ⟨hm, hz⟩ := hp_11
          have hw := hw.to hm
          have lk_13 : (tY M_1 60 3 0).toInt = (tY M 60 3 0).toInt := by rw [(cg (tY_uIE hM_1) 0)]
          rcases hz with ⟨rfl, d0_12, d1_12, d2_12, d3_12⟩ | rfl
          · refine sb_if_ne (tgt := 51) hx hb (by decide : (1 : Int32).toInt = 1) dX10_law_44 (by decide) (fun c_44_13 => ?_) (fun h => absurd h (by decide))
            exact hj_51_16  _ _ _ (by first | omega | decide) hw (lv_sub hl [0, 1, 2] rfl)
          · refine sb_if_ne (tgt := 51) hx hb (by decide : (0 : Int32).toInt = 0) dX10_law_44 (by decide) (fun h => absurd h (by decide)) (fun c_44_14 => ?_)
            exact hj_47_15  _ _ _  hw (lv_sub hl [0, 1, 2] rfl)
        · refine lv_aload_n hx hb dX10_law_27 rfl (lv_at hl 0 rfl) ?_
          refine ti_get (ci := 10) (k := 38) (N := 67) (T := TX10) (v := .ref (A 60 39)) C hw iw_10 rfl ob_60 (by decide) (by decide) fl_X10_81 rfl rfl dX10_law_28 ?_
          refine lv_iconst (v := 0) hx hb dX10_law_31 (by decide) ?_
          refine ti_iald (ci := 10) (k := 38) (n := 23) C hw ob_60 (by decide) (fun _ _ => rfl) (by unfold vp_in; decide) dX10_law_32 ?_
          refine lv_topi (fun x_8 ex_8 => ?_)
          have yx_8 : tY M_1 60 38 0 = x_8 := ((congrArg _ (by decide)).symm.trans ex_8.symm)
          have bx_8 : 0 ≤ x_8.toInt ∧ x_8.toInt ≤ 8 := mI_ry (k := 38) (i := 0) iM_1 yx_8.symm
          have zx_8 : (tY M_1 60 38 0).toInt = x_8.toInt := by rw [yx_8]
          have wx_8 : tY M 60 38 0 = x_8 := ((cg (tY_uIE hM_1) 0)).symm.trans yx_8
          have zwx_8 : (tY M 60 38 0).toInt = x_8.toInt := by rw [wx_8]
          refine sb_if_ne (tgt := 51) hx hb rfl dX10_law_33 (by decide) (fun c_33_8 => ?_) (fun c_33_8 => ?_)
          · exact hj_51_16  _ _ _ (by first | omega | decide) hw (lv_sub hl [0, 1, 2] rfl)
          · refine lv_goto (tgt := 47) hx hb dX10_law_36 (by decide) ?_
            exact hj_47_15  _ _ _  hw (lv_sub hl [0, 1, 2] rfl)
set_option maxHeartbeats 4000000 in
set_option maxRecDepth 100000 in
theorem f_X10_ruled (l : Launch) (D : va_G) (A : Nat → Nat → Nat) (cy : Nat → ClassId) (hJ : ti_inj ti_LM A) (M : ti_M) (hI : mI Tm M) (hF : mF Tm M) (z1 : Int32) (z2 : Int32) : ti_Ki l yX10_ruled cX10_ruled 5 (some .int) 1 ti_LM D A cy M [.ref (A 60 0), .int z1, .int z2] (fun r M2 => fR 1 M2 M ∧ mF Tm M2 ∧ tI M2 60 2 = tI M 60 2 ∧ lw M2 M) := by
  refine ti_eI yp_X10_ruled hJ ti_LM_nd (Nat.le_of_ble_eq_true rfl) ?_
  intro p e s m args below meth c Q H0 C hQ hw ls hl
  have hx := C.1
  have hb := C.2.1
  have hl : lv_has ls 5 [(0, .ref (A 60 0)), (1, .int z1), (2, .int z2)] := hl
  have hL : mL M := hF.2.1
  have hC0 : mC M 0 := hF.2.2.1.1
  have hP0 : mP M 0 := hF.2.2.1.2
  refine lv_aload_n hx hb dX10_ruled_0 rfl (lv_at hl 0 rfl) ?_
  refine lv_iconst (v := 0) hx hb dX10_ruled_1 (by decide) ?_
  refine ti_putI (ci := 10) (k := 0) (N := 67) (T := TX10) C hw iw_10 tyX10 tyX10_ok nmX10 rfl ob_60 (by decide) (by decide) fl_X10_154 rfl rfl rfl rfl (fn_10 A _) fs_10_0 dX10_ruled_2 (fun H locs hw => ?_)
  obtain ⟨M_1, hM_1⟩ : ∃ z : ti_M, z = uI M 60 0 0 := ⟨_, rfl⟩
  have hw := hw.to hM_1.symm
  have iM_1 : mI Tm M_1 := mI_uI hI hM_1 (by decide) (by decide) trivial
  refine lv_aload_n hx hb dX10_ruled_5 rfl (lv_at hl 0 rfl) ?_
  refine lv_iload_n hx hb dX10_ruled_6 rfl (lv_at hl 1 rfl) ?_
  refine ti_callVi (ci := 10) (av := [.int z1]) C hw (s_X10_isMan l D A cy hJ M_1 iM_1 z1) ⟨ml_X10_356, ym_X10_isMan, yv_X10_isMan, yi_X10_isMan, yc_X10_isMan⟩ yd_X10_isMan ob_60 (by decide) rfl rfl hl.1 (Nat.le_of_ble_eq_true rfl) ⟨by decide, by decide⟩ ⟨Nat.zero_le _, Nat.zero_le _⟩ dX10_ruled_7 (fun r_2 M_3 H locs hp_3 hw => ?_)
  obtain ⟨hm, hz⟩ := hp_3
  have hw := hw.to hm
  have lk_5 : (tY M_1 60 3 0).toInt = (tY M 60 3 0).toInt := by rw [(cg (tY_uIE hM_1) 0)]
  have hj_20_12 : ∀  (H : Heap) (locs : List Loc) (ls : Array Slot), ti_H ti_LM D A cy H0 M_1 H locs → lv_has ls 5 [(0, .ref (A 60 0)), (1, .int z1), (2, .int z2)] → W p l e (ti_rm 1) s m args below meth c H locs 0 0 Q (F0 m 20 ls []) := by
    intro  H locs ls  hw hl
    refine lv_iconst (v := (-1)) hx hb dX10_ruled_20 (by decide) ?_
    exact hQ _ _ _ _ _ _ hw rfl (⟨(fR_I hM_1 (by decide)), mF_qw hF iM_1 (qw_I hM_1 (by decide)), (qw_I hM_1 (by decide)).2.1.1, (qw_I hM_1 (by decide)).1⟩) dX10_ruled_21
  rcases hz with ⟨rfl, d0_4, d1_4, d2_4⟩ | rfl
  · refine sb_if_eq (tgt := 20) hx hb (by decide : (1 : Int32).toInt = 1) dX10_ruled_10 (by decide) (fun h => absurd h (by decide)) (fun c_10_5 => ?_)
    refine lv_iload_n hx hb dX10_ruled_13 rfl (lv_at hl 2 rfl) ?_
    refine ti_callSi (av := [.int z2]) C hw (s_X10_isPower l D A cy hJ M_1 iM_1 z2) ⟨ml_X10_420, ys_X10_isPower, yi_X10_isPower, yc_X10_isPower⟩ yd_X10_isPower rfl hl.1 (Nat.le_of_ble_eq_true rfl) ⟨by decide, by decide⟩ ⟨Nat.zero_le _, Nat.zero_le _⟩ dX10_ruled_14 (fun r_8 M_9 H locs hp_9 hw => ?_)
    obtain ⟨hm, hz⟩ := hp_9
    have hw := hw.to hm
    rcases hz with ⟨rfl, d0_10, d1_10⟩ | rfl
    · refine sb_if_ne (tgt := 22) hx hb (by decide : (1 : Int32).toInt = 1) dX10_ruled_17 (by decide) (fun c_17_10 => ?_) (fun h => absurd h (by decide))
      refine lv_iconst (v := 0) hx hb dX10_ruled_22 (by decide) ?_
      refine lv_istore_n (lv' := [(3, .int 0), (0, .ref (A 60 0)), (1, .int z1), (2, .int z2)]) hx hb dX10_ruled_23 rfl hl (by decide) rfl (fun ls hl => ?_)
      refine lv_iconst (v := 0) hx hb dX10_ruled_24 (by decide) ?_
      refine lv_istore (lv' := [(4, .int 0), (3, .int 0), (0, .ref (A 60 0)), (1, .int z1), (2, .int z2)]) hx hb dX10_ruled_25 hl (by decide) rfl (fun ls hl => ?_)
      have hl_27_16 : ∀ (n_17 : Nat) (x_13 : Int32) (x_16 : Int32) (H : Heap) (locs : List Loc) (ls : Array Slot), (120 - x_13.toInt : Int).toNat < n_17 → (0 ≤ x_13.toInt) → (x_13.toInt ≤ 120) → ti_H ti_LM D A cy H0 M_1 H locs → lv_has ls 5 [(4, .int x_13), (3, .int x_16), (0, .ref (A 60 0)), (1, .int z1), (2, .int z2)] → W p l e (ti_rm 1) s m args below meth c H locs 0 0 Q (F0 m 27 ls []) := by
        intro n_17
        induction n_17 with
        | zero => intro x_13 x_16 H locs ls hf_17; exact absurd hf_17 (Nat.not_lt_zero _)
        | succ n_17 ih_17 =>
          intro x_13 x_16 H locs ls hf_17 b_14 b_15 hw hl
          refine lv_iload hx hb dX10_ruled_27 (lv_at hl 0 rfl) ?_
          refine lv_aload_n hx hb dX10_ruled_29 rfl (lv_at hl 2 rfl) ?_
          refine ti_get (ci := 10) (k := 34) (N := 67) (T := TX10) (v := .ref (A 60 35)) C hw iw_10 rfl ob_60 (by decide) (by decide) fl_X10_69 rfl rfl dX10_ruled_30 ?_
          refine lv_iconst (v := 0) hx hb dX10_ruled_33 (by decide) ?_
          refine ti_iald (ci := 10) (k := 34) (n := 23) C hw ob_60 (by decide) (fun _ _ => rfl) (by unfold vp_in; decide) dX10_ruled_34 ?_
          refine lv_topi (fun x_18 ex_18 => ?_)
          have yx_18 : tY M_1 60 34 0 = x_18 := ((congrArg _ (by decide)).symm.trans ex_18.symm)
          have bx_18 : 0 ≤ x_18.toInt ∧ x_18.toInt ≤ 120 := mI_ry (k := 34) (i := 0) iM_1 yx_18.symm (by decide)
          have zx_18 : (tY M_1 60 34 0).toInt = x_18.toInt := by rw [yx_18]
          have wx_18 : tY M 60 34 0 = x_18 := ((cg (tY_uIE hM_1) 0)).symm.trans yx_18
          have zwx_18 : (tY M 60 34 0).toInt = x_18.toInt := by rw [wx_18]
          refine sb_icmp_ge (tgt := 67) hx hb rfl rfl dX10_ruled_35 (by decide) (fun c_35_18 => ?_) (fun c_35_18 => ?_)
          · refine lv_iload_n hx hb dX10_ruled_67 rfl (lv_at hl 1 rfl) ?_
            exact hQ _ _ _ _ _ _ hw rfl (⟨(fR_I hM_1 (by decide)), mF_qw hF iM_1 (qw_I hM_1 (by decide)), (qw_I hM_1 (by decide)).2.1.1, (qw_I hM_1 (by decide)).1⟩) dX10_ruled_68
          · refine lv_iload_n hx hb dX10_ruled_38 rfl (lv_at hl 1 rfl) ?_
            refine lv_aload_n hx hb dX10_ruled_39 rfl (lv_at hl 2 rfl) ?_
            refine ti_get (ci := 10) (k := 50) (N := 67) (T := TX10) (v := .ref (A 60 51)) C hw iw_10 rfl ob_60 (by decide) (by decide) fl_X10_117 rfl rfl dX10_ruled_40 ?_
            refine lv_iconst (v := 3) hx hb dX10_ruled_43 (by decide) ?_
            refine lv_iload hx hb dX10_ruled_44 (lv_at hl 0 rfl) ?_
            refine lv_imul hx hb dX10_ruled_46 ?_
            refine lv_topi (fun x_20 ex_20 => ?_)
            have lox_20x_13 := x_13.le_toInt
            have hix_20x_13 := x_13.toInt_lt
            have tx_20 : x_20.toInt = 3 * x_13.toInt := i_mul ex_20 (by decide : (3 : Int32).toInt = 3) rfl (by omega) (by omega)
            refine lv_iload_n hx hb dX10_ruled_47 rfl (lv_at hl 4 rfl) ?_
            refine lv_iadd hx hb dX10_ruled_48 ?_
            refine lv_topi (fun x_21 ex_21 => ?_)
            have lox_21x_20 := x_20.le_toInt
            have hix_21x_20 := x_20.toInt_lt
            have lox_21z2 := z2.le_toInt
            have hix_21z2 := z2.toInt_lt
            have tx_21 : x_21.toInt = x_20.toInt + z2.toInt := i_add ex_21 rfl rfl (by omega) (by omega)
            refine ti_iald (ci := 10) (k := 50) (n := 720) C hw ob_60 (by decide) (fun _ _ => rfl) (vp_in_iff.mpr (by omega)) dX10_ruled_49 ?_
            refine lv_topi (fun x_22 ex_22 => ?_)
            have yx_22 : tY M_1 60 50 x_21.toNatClampNeg = x_22 := (ex_22.symm)
            have wx_22 : tY M 60 50 x_21.toNatClampNeg = x_22 := ((cg (tY_uIE hM_1) x_21.toNatClampNeg)).symm.trans yx_22
            refine lv_iload_n hx hb dX10_ruled_50 rfl (lv_at hl 3 rfl) ?_
            have hj_59_26 : ∀ (x_24 : Int32) (H : Heap) (locs : List Loc) (ls : Array Slot), (0 ≤ x_24.toInt) → (x_24.toInt ≤ 1) → ti_H ti_LM D A cy H0 M_1 H locs → lv_has ls 5 [(4, .int x_13), (3, .int x_16), (0, .ref (A 60 0)), (1, .int z1), (2, .int z2)] → W p l e (ti_rm 1) s m args below meth c H locs 0 0 Q (F0 m 59 ls [.int x_24, .int x_16]) := by
              intro x_24 H locs ls b_25 b_26 hw hl
              refine lv_iadd hx hb dX10_ruled_59 ?_
              refine lv_topi (fun x_27 ex_27 => ?_)
              refine lv_istore_n (lv' := [(3, .int x_27), (4, .int x_13), (0, .ref (A 60 0)), (1, .int z1), (2, .int z2)]) hx hb dX10_ruled_60 rfl hl (by decide) rfl (fun ls hl => ?_)
              obtain ⟨x_28, ex_28⟩ : ∃ z : Int32, z = x_13 + 1 := ⟨_, rfl⟩
              have tx_28 : x_28.toInt = x_13.toInt + 1 := i_add ex_28 rfl (by decide) (by omega) (by omega)
              refine lv_iinc (v := x_28) (lv' := [(4, .int x_28), (3, .int x_27), (0, .ref (A 60 0)), (1, .int z1), (2, .int z2)]) hx hb dX10_ruled_61 hl (k := 1) rfl (by rw [ex_28]; rfl) (by decide) rfl (fun ls hl => ?_)
              refine lv_goto (tgt := 27) hx hb dX10_ruled_64 (by decide) ?_
              exact ih_17 x_28 x_27 _ _ _ (by omega) (by first | omega | decide) (by first | omega | decide) hw (lv_sub hl [0, 1, 2, 3, 4] rfl)
            refine sb_icmp_ne (tgt := 58) hx hb rfl rfl dX10_ruled_51 (by decide) (fun c_51_22 => ?_) (fun c_51_22 => ?_)
            · refine lv_iconst (v := 0) hx hb dX10_ruled_58 (by decide) ?_
              exact hj_59_26 0 _ _ _ (by have lt0 : (0 : Int32).toInt = 0 := (by decide); first | omega | decide) (by have lt0 : (0 : Int32).toInt = 0 := (by decide); first | omega | decide) hw (lv_sub hl [0, 1, 2, 3, 4] rfl)
            · refine lv_iconst (v := 1) hx hb dX10_ruled_54 (by decide) ?_
              refine lv_goto (tgt := 59) hx hb dX10_ruled_55 (by decide) ?_
              exact hj_59_26 1 _ _ _ (by have lt0 : (1 : Int32).toInt = 1 := (by decide); first | omega | decide) (by have lt0 : (1 : Int32).toInt = 1 := (by decide); first | omega | decide) hw (lv_sub hl [0, 1, 2, 3, 4] rfl)
      exact hl_27_16 ((120 - 0 : Int).toNat + 1) 0 0 _ _ _ (Nat.lt_succ_self _) (by have lt0 : (0 : Int32).toInt = 0 := (by decide); first | omega | decide) (by have lt0 : (0 : Int32).toInt = 0 := (by decide); first | omega | decide) hw (lv_sub hl [0, 1, 2, 3, 4] rfl)
    · refine sb_if_ne (tgt := 22) hx hb (by decide : (0 : Int32).toInt = 0) dX10_ruled_17 (by decide) (fun h => absurd h (by decide)) (fun c_17_11 => ?_)
      exact hj_20_12  _ _ _  hw (lv_sub hl [0, 1, 2] rfl)
  · refine sb_if_eq (tgt := 20) hx hb (by decide : (0 : Int32).toInt = 0) dX10_ruled_10 (by decide) (fun c_10_6 => ?_) (fun h => absurd h (by decide))
    exact hj_20_12  _ _ _  hw (lv_sub hl [0, 1, 2] rfl)
set_option maxHeartbeats 4000000 in
set_option maxRecDepth 100000 in
theorem f_X10_decree (l : Launch) (D : va_G) (A : Nat → Nat → Nat) (cy : Nat → ClassId) (hJ : ti_inj ti_LM A) (M : ti_M) (hI : mI Tm M) (hF : mF Tm M) (z1 : Int32) (z2 : Int32) (z3 : Int32) : ti_Ki l yX10_decree cX10_decree 11 (some .int) 1 ti_LM D A cy M [.ref (A 60 0), .int z1, .int z2, .int z3] (fun r M2 => fR 1 M2 M ∧ mF Tm M2 ∧ tI M2 60 2 = tI M 60 2 ∧ lw M2 M) := by
  refine ti_eI yp_X10_decree hJ ti_LM_nd (Nat.le_of_ble_eq_true rfl) ?_
  intro p e s m args below meth c Q H0 C hQ hw ls hl
  have hx := C.1
  have hb := C.2.1
  have hl : lv_has ls 11 [(0, .ref (A 60 0)), (1, .int z1), (2, .int z2), (3, .int z3)] := hl
  have hL : mL M := hF.2.1
  have hC0 : mC M 0 := hF.2.2.1.1
  have hP0 : mP M 0 := hF.2.2.1.2
  refine lv_aload_n hx hb dX10_decree_0 rfl (lv_at hl 0 rfl) ?_
  refine lv_iconst (v := 0) hx hb dX10_decree_1 (by decide) ?_
  refine ti_putI (ci := 10) (k := 0) (N := 67) (T := TX10) C hw iw_10 tyX10 tyX10_ok nmX10 rfl ob_60 (by decide) (by decide) fl_X10_154 rfl rfl rfl rfl (fn_10 A _) fs_10_0 dX10_decree_2 (fun H locs hw => ?_)
  obtain ⟨M_1, hM_1⟩ : ∃ z : ti_M, z = uI M 60 0 0 := ⟨_, rfl⟩
  have hw := hw.to hM_1.symm
  have iM_1 : mI Tm M_1 := mI_uI hI hM_1 (by decide) (by decide) trivial
  refine lv_iload_n hx hb dX10_decree_5 rfl (lv_at hl 1 rfl) ?_
  refine lv_iconst (v := 1) hx hb dX10_decree_6 (by decide) ?_
  have hj_34_7 : ∀  (H : Heap) (locs : List Loc) (ls : Array Slot), ti_H ti_LM D A cy H0 M_1 H locs → lv_has ls 11 [(0, .ref (A 60 0)), (1, .int z1), (2, .int z2), (3, .int z3)] → W p l e (ti_rm 1) s m args below meth c H locs 0 0 Q (F0 m 34 ls []) := by
    intro  H locs ls  hw hl
    refine lv_iconst (v := (-1)) hx hb dX10_decree_34 (by decide) ?_
    exact hQ _ _ _ _ _ _ hw rfl (⟨(fR_I hM_1 (by decide)), mF_qw hF iM_1 (qw_I hM_1 (by decide)), (qw_I hM_1 (by decide)).2.1.1, (qw_I hM_1 (by decide)).1⟩) dX10_decree_35
  refine sb_icmp_lt (tgt := 34) hx hb rfl (by decide : (1 : Int32).toInt = 1) dX10_decree_7 (by decide) (fun c_7_1 => ?_) (fun c_7_1 => ?_)
  · exact hj_34_7  _ _ _  hw (lv_sub hl [0, 1, 2, 3] rfl)
  · refine lv_iload_n hx hb dX10_decree_10 rfl (lv_at hl 1 rfl) ?_
    refine lv_bipush (v := 8) hx hb dX10_decree_11 (by decide) ?_
    refine sb_icmp_gt (tgt := 34) hx hb rfl (by decide : (8 : Int32).toInt = 8) dX10_decree_13 (by decide) (fun c_13_2 => ?_) (fun c_13_2 => ?_)
    · exact hj_34_7  _ _ _  hw (lv_sub hl [0, 1, 2, 3] rfl)
    · refine lv_iload_n hx hb dX10_decree_16 rfl (lv_at hl 2 rfl) ?_
      refine sb_if_lt (tgt := 34) hx hb rfl dX10_decree_17 (by decide) (fun c_17_3 => ?_) (fun c_17_3 => ?_)
      · exact hj_34_7  _ _ _  hw (lv_sub hl [0, 1, 2, 3] rfl)
      · refine lv_iload_n hx hb dX10_decree_20 rfl (lv_at hl 2 rfl) ?_
        refine lv_iload_n hx hb dX10_decree_21 rfl (lv_at hl 1 rfl) ?_
        refine sb_icmp_gt (tgt := 34) hx hb rfl rfl dX10_decree_22 (by decide) (fun c_22_4 => ?_) (fun c_22_4 => ?_)
        · exact hj_34_7  _ _ _  hw (lv_sub hl [0, 1, 2, 3] rfl)
        · refine lv_iload_n hx hb dX10_decree_25 rfl (lv_at hl 3 rfl) ?_
          refine sb_if_lt (tgt := 34) hx hb rfl dX10_decree_26 (by decide) (fun c_26_5 => ?_) (fun c_26_5 => ?_)
          · exact hj_34_7  _ _ _  hw (lv_sub hl [0, 1, 2, 3] rfl)
          · refine lv_iload_n hx hb dX10_decree_29 rfl (lv_at hl 3 rfl) ?_
            refine lv_iconst (v := 1) hx hb dX10_decree_30 (by decide) ?_
            refine sb_icmp_le (tgt := 36) hx hb rfl (by decide : (1 : Int32).toInt = 1) dX10_decree_31 (by decide) (fun c_31_6 => ?_) (fun c_31_6 => ?_)
            · refine lv_iconst (v := 0) hx hb dX10_decree_36 (by decide) ?_
              refine lv_istore (lv' := [(4, .int 0), (0, .ref (A 60 0)), (1, .int z1), (2, .int z2), (3, .int z3)]) hx hb dX10_decree_37 hl (by decide) rfl (fun ls hl => ?_)
              refine lv_iconst (v := 0) hx hb dX10_decree_39 (by decide) ?_
              refine lv_istore (lv' := [(5, .int 0), (4, .int 0), (0, .ref (A 60 0)), (1, .int z1), (2, .int z2), (3, .int z3)]) hx hb dX10_decree_40 hl (by decide) rfl (fun ls hl => ?_)
              refine lv_iconst (v := 0) hx hb dX10_decree_42 (by decide) ?_
              refine lv_istore (lv' := [(6, .int 0), (5, .int 0), (4, .int 0), (0, .ref (A 60 0)), (1, .int z1), (2, .int z2), (3, .int z3)]) hx hb dX10_decree_43 hl (by decide) rfl (fun ls hl => ?_)
              have hl_45_12 : ∀ (n_13 : Nat) (x_8 : Int32) (x_11 : Int32) (x_12 : Int32) (H : Heap) (locs : List Loc) (ls : Array Slot), (8 - x_8.toInt : Int).toNat < n_13 → (0 ≤ x_8.toInt) → (x_8.toInt ≤ 8) → ti_H ti_LM D A cy H0 M_1 H locs → lv_has ls 11 [(6, .int x_8), (5, .int x_11), (4, .int x_12), (0, .ref (A 60 0)), (1, .int z1), (2, .int z2), (3, .int z3)] → W p l e (ti_rm 1) s m args below meth c H locs 0 0 Q (F0 m 45 ls []) := by
                intro n_13
                induction n_13 with
                | zero => intro x_8 x_11 x_12 H locs ls hf_13; exact absurd hf_13 (Nat.not_lt_zero _)
                | succ n_13 ih_13 =>
                  intro x_8 x_11 x_12 H locs ls hf_13 b_9 b_10 hw hl
                  refine lv_iload hx hb dX10_decree_45 (lv_at hl 0 rfl) ?_
                  refine lv_iload_n hx hb dX10_decree_47 rfl (lv_at hl 4 rfl) ?_
                  have hj_104_25 : ∀  (H : Heap) (locs : List Loc) (ls : Array Slot), ti_H ti_LM D A cy H0 M_1 H locs → lv_has ls 11 [(6, .int x_8), (5, .int x_11), (4, .int x_12), (0, .ref (A 60 0)), (1, .int z1), (2, .int z2), (3, .int z3)] → W p l e (ti_rm 1) s m args below meth c H locs 0 0 Q (F0 m 104 ls []) := by
                    intro  H locs ls  hw hl
                    refine lv_iconst (v := (-1)) hx hb dX10_decree_104 (by decide) ?_
                    refine lv_istore (lv' := [(6, .int (-1)), (5, .int x_11), (4, .int x_12), (0, .ref (A 60 0)), (1, .int z1), (2, .int z2), (3, .int z3)]) hx hb dX10_decree_105 hl (by decide) rfl (fun ls hl => ?_)
                    refine lv_iconst (v := 0) hx hb dX10_decree_107 (by decide) ?_
                    refine lv_istore (lv' := [(7, .int 0), (6, .int (-1)), (5, .int x_11), (4, .int x_12), (0, .ref (A 60 0)), (1, .int z1), (2, .int z2), (3, .int z3)]) hx hb dX10_decree_108 hl (by decide) rfl (fun ls hl => ?_)
                    refine lv_iconst (v := 0) hx hb dX10_decree_110 (by decide) ?_
                    refine lv_istore (lv' := [(8, .int 0), (7, .int 0), (6, .int (-1)), (5, .int x_11), (4, .int x_12), (0, .ref (A 60 0)), (1, .int z1), (2, .int z2), (3, .int z3)]) hx hb dX10_decree_111 hl (by decide) rfl (fun ls hl => ?_)
                    have hl_113_33 : ∀ (n_34 : Nat) (x_26 : Int32) (x_29 : Int32) (x_30 : Int32) (M_31 : ti_M) (H : Heap) (locs : List Loc) (ls : Array Slot), (256 - x_26.toInt : Int).toNat < n_34 → (0 ≤ x_26.toInt) → (x_26.toInt ≤ 256) → (mI Tm M_31) → (qw M_31 M) → (fR 1 M_31 M) → ti_H ti_LM D A cy H0 M_31 H locs → lv_has ls 11 [(8, .int x_26), (7, .int x_29), (6, .int x_30), (5, .int x_11), (4, .int x_12), (0, .ref (A 60 0)), (1, .int z1), (2, .int z2), (3, .int z3)] → W p l e (ti_rm 1) s m args below meth c H locs 0 0 Q (F0 m 113 ls []) := by
                      intro n_34
                      induction n_34 with
                      | zero => intro x_26 x_29 x_30 M_31 H locs ls hf_34; exact absurd hf_34 (Nat.not_lt_zero _)
                      | succ n_34 ih_34 =>
                        intro x_26 x_29 x_30 M_31 H locs ls hf_34 b_27 b_28 iM_31 f_32 f_33 hw hl
                        refine lv_iload hx hb dX10_decree_113 (lv_at hl 0 rfl) ?_
                        refine lv_sipush (v := 256) hx hb dX10_decree_115 (by decide) ?_
                        refine sb_icmp_ge (tgt := 226) hx hb rfl (by decide : (256 : Int32).toInt = 256) dX10_decree_118 (by decide) (fun c_118_34 => ?_) (fun c_118_34 => ?_)
                        · refine lv_iload hx hb dX10_decree_226 (lv_at hl 2 rfl) ?_
                          refine lv_iconst (v := (-1)) hx hb dX10_decree_228 (by decide) ?_
                          refine sb_icmp_ne (tgt := 237) hx hb rfl (by decide : ((-1) : Int32).toInt = (-1)) dX10_decree_229 (by decide) (fun c_229_61 => ?_) (fun c_229_61 => ?_)
                          · refine lv_iload_n hx hb dX10_decree_237 rfl (lv_at hl 8 rfl) ?_
                            refine sb_if_ne (tgt := 246) hx hb rfl dX10_decree_238 (by decide) (fun c_238_62 => ?_) (fun c_238_62 => ?_)
                            · refine lv_iload hx hb dX10_decree_246 (lv_at hl 2 rfl) ?_
                              exact hQ _ _ _ _ _ _ hw rfl (⟨f_33, mF_qw hF iM_31 f_32, f_32.2.1.1, f_32.1⟩) dX10_decree_248
                            · refine lv_iload hx hb dX10_decree_241 (lv_at hl 1 rfl) ?_
                              refine lv_goto (tgt := 248) hx hb dX10_decree_243 (by decide) ?_
                              exact hQ _ _ _ _ _ _ hw rfl (⟨f_33, mF_qw hF iM_31 f_32, f_32.2.1.1, f_32.1⟩) dX10_decree_248
                          · refine lv_bipush (v := (-2)) hx hb dX10_decree_232 (by decide) ?_
                            refine lv_goto (tgt := 248) hx hb dX10_decree_234 (by decide) ?_
                            exact hQ _ _ _ _ _ _ hw rfl (⟨f_33, mF_qw hF iM_31 f_32, f_32.2.1.1, f_32.1⟩) dX10_decree_248
                        · refine lv_iload hx hb dX10_decree_121 (lv_at hl 0 rfl) ?_
                          refine lv_iload hx hb dX10_decree_123 (lv_at hl 4 rfl) ?_
                          refine lv_iconst (v := (-1)) hx hb dX10_decree_125 (by decide) ?_
                          refine lv_ixor hx hb dX10_decree_126 ?_
                          refine lv_topi (fun x_36 ex_36 => ?_)
                          refine lv_iand hx hb dX10_decree_127 ?_
                          refine lv_topi (fun x_37 ex_37 => ?_)
                          have hj_220_60 : ∀ (x_59 : Int32) (x_60 : Int32) (H : Heap) (locs : List Loc) (ls : Array Slot), ti_H ti_LM D A cy H0 M_31 H locs → lv_has ls 11 [(8, .int x_26), (7, .int x_59), (6, .int x_60), (5, .int x_11), (4, .int x_12), (0, .ref (A 60 0)), (1, .int z1), (2, .int z2), (3, .int z3)] → W p l e (ti_rm 1) s m args below meth c H locs 0 0 Q (F0 m 220 ls []) := by
                            intro x_59 x_60 H locs ls  hw hl
                            obtain ⟨x_61, ex_61⟩ : ∃ z : Int32, z = x_26 + 1 := ⟨_, rfl⟩
                            have tx_61 : x_61.toInt = x_26.toInt + 1 := i_add ex_61 rfl (by decide) (by omega) (by omega)
                            refine lv_iinc (v := x_61) (lv' := [(8, .int x_61), (7, .int x_59), (6, .int x_60), (5, .int x_11), (4, .int x_12), (0, .ref (A 60 0)), (1, .int z1), (2, .int z2), (3, .int z3)]) hx hb dX10_decree_220 hl (k := 0) rfl (by rw [ex_61]; rfl) (by decide) rfl (fun ls hl => ?_)
                            refine lv_goto (tgt := 113) hx hb dX10_decree_223 (by decide) ?_
                            exact ih_34 x_61 x_59 x_60 M_31 _ _ _ (by omega) (by first | omega | decide) (by first | omega | decide) iM_31 f_32 f_33 hw (lv_sub hl [0, 1, 2, 3, 4, 5, 6, 7, 8] rfl)
                          refine sb_if_ne (tgt := 220) hx hb rfl dX10_decree_128 (by decide) (fun c_128_37 => ?_) (fun c_128_37 => ?_)
                          · exact hj_220_60 x_29 x_30 _ _ _  hw (lv_sub hl [0, 1, 2, 3, 4, 5, 6, 7, 8] rfl)
                          · refine lv_iload hx hb dX10_decree_131 (lv_at hl 3 rfl) ?_
                            refine lv_iload hx hb dX10_decree_133 (lv_at hl 0 rfl) ?_
                            refine ti_callSi (av := [.int x_26]) C hw (s_X10_bitsOf l D A cy hJ M_31 iM_31 x_26) ⟨ml_X10_448, ys_X10_bitsOf, yi_X10_bitsOf, yc_X10_bitsOf⟩ yd_X10_bitsOf rfl hl.1 (Nat.le_of_ble_eq_true rfl) ⟨by decide, by decide⟩ ⟨Nat.zero_le _, Nat.zero_le _⟩ dX10_decree_135 (fun r_39 M_40 H locs hp_40 hw => ?_)
                            have hm := hp_40
                            have hw := hw.to hm
                            refine lv_iadd hx hb dX10_decree_138 ?_
                            refine lv_topi (fun x_41 ex_41 => ?_)
                            refine lv_iload_n hx hb dX10_decree_139 rfl (lv_at hl 7 rfl) ?_
                            refine sb_icmp_ge (tgt := 146) hx hb rfl rfl dX10_decree_140 (by decide) (fun c_140_41 => ?_) (fun c_140_41 => ?_)
                            · refine lv_iconst (v := 0) hx hb dX10_decree_146 (by decide) ?_
                              refine lv_istore (lv' := [(9, .int 0), (8, .int x_26), (7, .int x_29), (6, .int x_30), (5, .int x_11), (4, .int x_12), (0, .ref (A 60 0)), (1, .int z1), (2, .int z2), (3, .int z3)]) hx hb dX10_decree_147 hl (by decide) rfl (fun ls hl => ?_)
                              refine lv_iconst (v := 0) hx hb dX10_decree_149 (by decide) ?_
                              refine lv_istore (lv' := [(10, .int 0), (9, .int 0), (8, .int x_26), (7, .int x_29), (6, .int x_30), (5, .int x_11), (4, .int x_12), (0, .ref (A 60 0)), (1, .int z1), (2, .int z2), (3, .int z3)]) hx hb dX10_decree_150 hl (by decide) rfl (fun ls hl => ?_)
                              have hl_152_46 : ∀ (n_47 : Nat) (x_43 : Int32) (x_46 : Int32) (H : Heap) (locs : List Loc) (ls : Array Slot), (8 - x_43.toInt : Int).toNat < n_47 → (0 ≤ x_43.toInt) → (x_43.toInt ≤ 8) → ti_H ti_LM D A cy H0 M_31 H locs → lv_has ls 11 [(10, .int x_43), (9, .int x_46), (8, .int x_26), (7, .int x_29), (6, .int x_30), (5, .int x_11), (4, .int x_12), (0, .ref (A 60 0)), (1, .int z1), (2, .int z2), (3, .int z3)] → W p l e (ti_rm 1) s m args below meth c H locs 0 0 Q (F0 m 152 ls []) := by
                                intro n_47
                                induction n_47 with
                                | zero => intro x_43 x_46 H locs ls hf_47; exact absurd hf_47 (Nat.not_lt_zero _)
                                | succ n_47 ih_47 =>
                                  intro x_43 x_46 H locs ls hf_47 b_44 b_45 hw hl
                                  refine lv_iload hx hb dX10_decree_152 (lv_at hl 0 rfl) ?_
                                  refine lv_aload_n hx hb dX10_decree_154 rfl (lv_at hl 7 rfl) ?_
                                  refine ti_get (ci := 10) (k := 3) (N := 67) (T := TX10) (v := .ref (A 60 4)) C hw iw_10 rfl ob_60 (by decide) (by decide) fl_X10_13 rfl rfl dX10_decree_155 ?_
                                  refine lv_iconst (v := 0) hx hb dX10_decree_158 (by decide) ?_
                                  refine ti_iald (ci := 10) (k := 3) (n := 22) C hw ob_60 (by decide) (fun _ _ => rfl) (by unfold vp_in; decide) dX10_decree_159 ?_
                                  refine lv_topi (fun x_48 ex_48 => ?_)
                                  have yx_48 : tY M_31 60 3 0 = x_48 := ((congrArg _ (by decide)).symm.trans ex_48.symm)
                                  have bx_48 : 0 ≤ x_48.toInt ∧ x_48.toInt ≤ 8 := mI_rn (i := 0) iM_31 yx_48.symm (fun _ h => h)
                                  have zx_48 : (tY M_31 60 3 0).toInt = x_48.toInt := by rw [yx_48]
                                  have wx_48 : tY M 60 3 0 = x_48 := ((cg (f_32.1 3 (by decide) (by decide)) 0)).symm.trans yx_48
                                  have zwx_48 : (tY M 60 3 0).toInt = x_48.toInt := by rw [wx_48]
                                  refine sb_icmp_ge (tgt := 196) hx hb rfl rfl dX10_decree_160 (by decide) (fun c_160_48 => ?_) (fun c_160_48 => ?_)
                                  · refine lv_iload hx hb dX10_decree_196 (lv_at hl 4 rfl) ?_
                                    refine lv_iconst (v := (-1)) hx hb dX10_decree_198 (by decide) ?_
                                    have hj_212_58 : ∀  (H : Heap) (locs : List Loc) (ls : Array Slot), ti_H ti_LM D A cy H0 M_31 H locs → lv_has ls 11 [(10, .int x_43), (9, .int x_46), (8, .int x_26), (7, .int x_29), (6, .int x_30), (5, .int x_11), (4, .int x_12), (0, .ref (A 60 0)), (1, .int z1), (2, .int z2), (3, .int z3)] → W p l e (ti_rm 1) s m args below meth c H locs 0 0 Q (F0 m 212 ls []) := by
                                      intro  H locs ls  hw hl
                                      refine lv_iload hx hb dX10_decree_212 (lv_at hl 2 rfl) ?_
                                      refine lv_istore (lv' := [(6, .int x_26), (10, .int x_43), (9, .int x_46), (8, .int x_26), (7, .int x_29), (5, .int x_11), (4, .int x_12), (0, .ref (A 60 0)), (1, .int z1), (2, .int z2), (3, .int z3)]) hx hb dX10_decree_214 hl (by decide) rfl (fun ls hl => ?_)
                                      refine lv_iload hx hb dX10_decree_216 (lv_at hl 2 rfl) ?_
                                      refine lv_istore (lv' := [(7, .int x_46), (6, .int x_26), (10, .int x_43), (9, .int x_46), (8, .int x_26), (5, .int x_11), (4, .int x_12), (0, .ref (A 60 0)), (1, .int z1), (2, .int z2), (3, .int z3)]) hx hb dX10_decree_218 hl (by decide) rfl (fun ls hl => ?_)
                                      exact hj_220_60 x_46 x_26 _ _ _  hw (lv_sub hl [4, 0, 1, 5, 6, 7, 8, 9, 10] rfl)
                                    refine sb_icmp_eq (tgt := 212) hx hb rfl (by decide : ((-1) : Int32).toInt = (-1)) dX10_decree_199 (by decide) (fun c_199_56 => ?_) (fun c_199_56 => ?_)
                                    · exact hj_212_58  _ _ _  hw (lv_sub hl [0, 1, 2, 3, 4, 5, 6, 7, 8, 9, 10] rfl)
                                    · refine lv_iload hx hb dX10_decree_202 (lv_at hl 1 rfl) ?_
                                      refine lv_iload hx hb dX10_decree_204 (lv_at hl 3 rfl) ?_
                                      refine sb_icmp_lt (tgt := 212) hx hb rfl rfl dX10_decree_206 (by decide) (fun c_206_57 => ?_) (fun c_206_57 => ?_)
                                      · exact hj_212_58  _ _ _  hw (lv_sub hl [0, 1, 2, 3, 4, 5, 6, 7, 8, 9, 10] rfl)
                                      · refine lv_goto (tgt := 220) hx hb dX10_decree_209 (by decide) ?_
                                        exact hj_220_60 x_29 x_30 _ _ _  hw (lv_sub hl [2, 3, 4, 5, 6, 7, 8, 9, 10] rfl)
                                  · refine lv_iload hx hb dX10_decree_163 (lv_at hl 1 rfl) ?_
                                    refine lv_iload hx hb dX10_decree_165 (lv_at hl 2 rfl) ?_
                                    refine lv_iload hx hb dX10_decree_167 (lv_at hl 0 rfl) ?_
                                    refine lv_ishr hx hb dX10_decree_169 ?_
                                    refine lv_topi (fun x_50 ex_50 => ?_)
                                    refine lv_iconst (v := 1) hx hb dX10_decree_170 (by decide) ?_
                                    refine lv_iand hx hb dX10_decree_171 ?_
                                    refine lv_topi (fun x_51 ex_51 => ?_)
                                    have bx_51 := i_and 1 ex_51 (by decide) (by decide)
                                    refine lv_iconst (v := 1) hx hb dX10_decree_172 (by decide) ?_
                                    have hj_187_54 : ∀ (x_54 : Int32) (H : Heap) (locs : List Loc) (ls : Array Slot), ti_H ti_LM D A cy H0 M_31 H locs → lv_has ls 11 [(10, .int x_43), (9, .int x_46), (8, .int x_26), (7, .int x_29), (6, .int x_30), (5, .int x_11), (4, .int x_12), (0, .ref (A 60 0)), (1, .int z1), (2, .int z2), (3, .int z3)] → W p l e (ti_rm 1) s m args below meth c H locs 0 0 Q (F0 m 187 ls [.int x_54, .int x_46]) := by
                                      intro x_54 H locs ls  hw hl
                                      refine lv_iadd hx hb dX10_decree_187 ?_
                                      refine lv_topi (fun x_55 ex_55 => ?_)
                                      refine lv_istore (lv' := [(9, .int x_55), (10, .int x_43), (8, .int x_26), (7, .int x_29), (6, .int x_30), (5, .int x_11), (4, .int x_12), (0, .ref (A 60 0)), (1, .int z1), (2, .int z2), (3, .int z3)]) hx hb dX10_decree_188 hl (by decide) rfl (fun ls hl => ?_)
                                      obtain ⟨x_56, ex_56⟩ : ∃ z : Int32, z = x_43 + 1 := ⟨_, rfl⟩
                                      have tx_56 : x_56.toInt = x_43.toInt + 1 := i_add ex_56 rfl (by decide) (by omega) (by omega)
                                      refine lv_iinc (v := x_56) (lv' := [(10, .int x_56), (9, .int x_55), (8, .int x_26), (7, .int x_29), (6, .int x_30), (5, .int x_11), (4, .int x_12), (0, .ref (A 60 0)), (1, .int z1), (2, .int z2), (3, .int z3)]) hx hb dX10_decree_190 hl (k := 1) rfl (by rw [ex_56]; rfl) (by decide) rfl (fun ls hl => ?_)
                                      refine lv_goto (tgt := 152) hx hb dX10_decree_193 (by decide) ?_
                                      exact ih_47 x_56 x_55 _ _ _ (by omega) (by first | omega | decide) (by first | omega | decide) hw (lv_sub hl [0, 1, 2, 3, 4, 5, 6, 7, 8, 9, 10] rfl)
                                    refine sb_icmp_ne (tgt := 186) hx hb rfl (by decide : (1 : Int32).toInt = 1) dX10_decree_173 (by decide) (fun c_173_51 => ?_) (fun c_173_51 => ?_)
                                    · refine lv_iconst (v := 0) hx hb dX10_decree_186 (by decide) ?_
                                      exact hj_187_54 0 _ _ _  hw (lv_sub hl [0, 1, 2, 3, 4, 5, 6, 7, 8, 9, 10] rfl)
                                    · refine lv_aload_n hx hb dX10_decree_176 rfl (lv_at hl 7 rfl) ?_
                                      refine ti_get (ci := 10) (k := 10) (N := 67) (T := TX10) (v := .ref (A 60 11)) C hw iw_10 rfl ob_60 (by decide) (by decide) fl_X10_34 rfl rfl dX10_decree_177 ?_
                                      refine lv_iload hx hb dX10_decree_180 (lv_at hl 0 rfl) ?_
                                      refine ti_iald (ci := 10) (k := 10) (n := 16) C hw ob_60 (by decide) (fun _ _ => rfl) (vp_in_iff.mpr (by omega)) dX10_decree_182 ?_
                                      refine lv_topi (fun x_53 ex_53 => ?_)
                                      have yx_53 : tY M_31 60 10 x_43.toNatClampNeg = x_53 := (ex_53.symm)
                                      have wx_53 : tY M 60 10 x_43.toNatClampNeg = x_53 := ((cg (f_32.1 10 (by decide) (by decide)) x_43.toNatClampNeg)).symm.trans yx_53
                                      refine lv_goto (tgt := 187) hx hb dX10_decree_183 (by decide) ?_
                                      exact hj_187_54 x_53 _ _ _  hw (lv_sub hl [0, 1, 2, 3, 4, 5, 6, 7, 8, 9, 10] rfl)
                              exact hl_152_46 ((8 - 0 : Int).toNat + 1) 0 0 _ _ _ (Nat.lt_succ_self _) (by have lt0 : (0 : Int32).toInt = 0 := (by decide); first | omega | decide) (by have lt0 : (0 : Int32).toInt = 0 := (by decide); first | omega | decide) hw (lv_sub hl [0, 1, 2, 3, 4, 5, 6, 7, 8, 9, 10] rfl)
                            · refine lv_goto (tgt := 220) hx hb dX10_decree_143 (by decide) ?_
                              exact hj_220_60 x_29 x_30 _ _ _  hw (lv_sub hl [0, 1, 2, 3, 4, 5, 6, 7, 8] rfl)
                    exact hl_113_33 ((256 - 0 : Int).toNat + 1) 0 0 (-1) M_1 _ _ _ (Nat.lt_succ_self _) (by have lt0 : ((-1) : Int32).toInt = (-1) := (by decide); have lt1 : (0 : Int32).toInt = 0 := (by decide); first | omega | decide) (by have lt0 : ((-1) : Int32).toInt = (-1) := (by decide); have lt1 : (0 : Int32).toInt = 0 := (by decide); first | omega | decide) iM_1 (qw_I hM_1 (by decide)) (fR_I hM_1 (by decide)) hw (lv_sub hl [0, 1, 2, 3, 4, 5, 6, 7, 8] rfl)
                  refine sb_icmp_ge (tgt := 104) hx hb rfl rfl dX10_decree_48 (by decide) (fun c_48_13 => ?_) (fun c_48_13 => ?_)
                  · exact hj_104_25  _ _ _  hw (lv_sub hl [0, 1, 2, 3, 4, 5, 6] rfl)
                  · refine lv_iload hx hb dX10_decree_51 (lv_at hl 0 rfl) ?_
                    refine lv_aload_n hx hb dX10_decree_53 rfl (lv_at hl 3 rfl) ?_
                    refine ti_get (ci := 10) (k := 38) (N := 67) (T := TX10) (v := .ref (A 60 39)) C hw iw_10 rfl ob_60 (by decide) (by decide) fl_X10_81 rfl rfl dX10_decree_54 ?_
                    refine lv_iconst (v := 0) hx hb dX10_decree_57 (by decide) ?_
                    refine ti_iald (ci := 10) (k := 38) (n := 23) C hw ob_60 (by decide) (fun _ _ => rfl) (by unfold vp_in; decide) dX10_decree_58 ?_
                    refine lv_topi (fun x_15 ex_15 => ?_)
                    have yx_15 : tY M_1 60 38 0 = x_15 := ((congrArg _ (by decide)).symm.trans ex_15.symm)
                    have bx_15 : 0 ≤ x_15.toInt ∧ x_15.toInt ≤ 8 := mI_ry (k := 38) (i := 0) iM_1 yx_15.symm
                    have zx_15 : (tY M_1 60 38 0).toInt = x_15.toInt := by rw [yx_15]
                    have wx_15 : tY M 60 38 0 = x_15 := ((cg (tY_uIE hM_1) 0)).symm.trans yx_15
                    have zwx_15 : (tY M 60 38 0).toInt = x_15.toInt := by rw [wx_15]
                    refine sb_icmp_ge (tgt := 104) hx hb rfl rfl dX10_decree_59 (by decide) (fun c_59_15 => ?_) (fun c_59_15 => ?_)
                    · exact hj_104_25  _ _ _  hw (lv_sub hl [0, 1, 2, 3, 4, 5, 6] rfl)
                    · refine lv_aload_n hx hb dX10_decree_62 rfl (lv_at hl 3 rfl) ?_
                      refine ti_get (ci := 10) (k := 12) (N := 67) (T := TX10) (v := .ref (A 60 13)) C hw iw_10 rfl ob_60 (by decide) (by decide) fl_X10_40 rfl rfl dX10_decree_63 ?_
                      refine lv_aload_n hx hb dX10_decree_66 rfl (lv_at hl 3 rfl) ?_
                      refine ti_get (ci := 10) (k := 39) (N := 67) (T := TX10) (v := .ref (A 60 40)) C hw iw_10 rfl ob_60 (by decide) (by decide) fl_X10_84 rfl rfl dX10_decree_67 ?_
                      refine lv_iload hx hb dX10_decree_70 (lv_at hl 0 rfl) ?_
                      refine ti_iald (ci := 10) (k := 39) (n := 184) C hw ob_60 (by decide) (fun _ _ => rfl) (vp_in_iff.mpr (by omega)) dX10_decree_72 ?_
                      refine lv_topi (fun x_17 ex_17 => ?_)
                      have yx_17 : tY M_1 60 39 x_8.toNatClampNeg = x_17 := (ex_17.symm)
                      have bx_17 : 0 ≤ x_17.toInt ∧ x_17.toInt ≤ 7 := mI_ry (k := 39) (i := x_8.toNatClampNeg) iM_1 yx_17.symm
                      have wx_17 : tY M 60 39 x_8.toNatClampNeg = x_17 := ((cg (tY_uIE hM_1) x_8.toNatClampNeg)).symm.trans yx_17
                      refine ti_iald (ci := 10) (k := 12) (n := 16) C hw ob_60 (by decide) (fun _ _ => rfl) (vp_in_iff.mpr (by omega)) dX10_decree_73 ?_
                      refine lv_topi (fun x_18 ex_18 => ?_)
                      have yx_18 : tY M_1 60 12 x_17.toNatClampNeg = x_18 := (ex_18.symm)
                      have wx_18 : tY M 60 12 x_17.toNatClampNeg = x_18 := ((cg (tY_uIE hM_1) x_17.toNatClampNeg)).symm.trans yx_18
                      refine lv_iconst (v := 1) hx hb dX10_decree_74 (by decide) ?_
                      have hj_98_24 : ∀ (x_23 : Int32) (x_24 : Int32) (H : Heap) (locs : List Loc) (ls : Array Slot), ti_H ti_LM D A cy H0 M_1 H locs → lv_has ls 11 [(5, .int x_23), (6, .int x_8), (4, .int x_24), (0, .ref (A 60 0)), (1, .int z1), (2, .int z2), (3, .int z3)] → W p l e (ti_rm 1) s m args below meth c H locs 0 0 Q (F0 m 98 ls []) := by
                        intro x_23 x_24 H locs ls  hw hl
                        obtain ⟨x_25, ex_25⟩ : ∃ z : Int32, z = x_8 + 1 := ⟨_, rfl⟩
                        have tx_25 : x_25.toInt = x_8.toInt + 1 := i_add ex_25 rfl (by decide) (by omega) (by omega)
                        refine lv_iinc (v := x_25) (lv' := [(6, .int x_25), (5, .int x_23), (4, .int x_24), (0, .ref (A 60 0)), (1, .int z1), (2, .int z2), (3, .int z3)]) hx hb dX10_decree_98 hl (k := 1) rfl (by rw [ex_25]; rfl) (by decide) rfl (fun ls hl => ?_)
                        refine lv_goto (tgt := 45) hx hb dX10_decree_101 (by decide) ?_
                        exact ih_13 x_25 x_23 x_24 _ _ _ (by omega) (by first | omega | decide) (by first | omega | decide) hw (lv_sub hl [0, 1, 2, 3, 4, 5, 6] rfl)
                      refine sb_icmp_ne (tgt := 84) hx hb rfl (by decide : (1 : Int32).toInt = 1) dX10_decree_75 (by decide) (fun c_75_18 => ?_) (fun c_75_18 => ?_)
                      · refine lv_iload hx hb dX10_decree_84 (lv_at hl 2 rfl) ?_
                        refine lv_iconst (v := 1) hx hb dX10_decree_86 (by decide) ?_
                        refine lv_aload_n hx hb dX10_decree_87 rfl (lv_at hl 3 rfl) ?_
                        refine ti_get (ci := 10) (k := 39) (N := 67) (T := TX10) (v := .ref (A 60 40)) C hw iw_10 rfl ob_60 (by decide) (by decide) fl_X10_84 rfl rfl dX10_decree_88 ?_
                        refine lv_iload hx hb dX10_decree_91 (lv_at hl 0 rfl) ?_
                        refine ti_iald (ci := 10) (k := 39) (n := 184) C hw ob_60 (by decide) (fun _ _ => rfl) (vp_in_iff.mpr (by omega)) dX10_decree_93 ?_
                        refine ti_top (y := x_17) (((cg (tY_uIE hM_1) x_8.toNatClampNeg).trans wx_17)) ?_
                        refine lv_ishl hx hb dX10_decree_94 ?_
                        refine lv_topi (fun x_21 ex_21 => ?_)
                        refine lv_ior hx hb dX10_decree_95 ?_
                        refine lv_topi (fun x_22 ex_22 => ?_)
                        refine lv_istore (lv' := [(4, .int x_22), (6, .int x_8), (5, .int x_11), (0, .ref (A 60 0)), (1, .int z1), (2, .int z2), (3, .int z3)]) hx hb dX10_decree_96 hl (by decide) rfl (fun ls hl => ?_)
                        exact hj_98_24 x_11 x_22 _ _ _  hw (lv_sub hl [2, 1, 0, 3, 4, 5, 6] rfl)
                      · obtain ⟨x_20, ex_20⟩ : ∃ z : Int32, z = x_11 + 1 := ⟨_, rfl⟩
                        refine lv_iinc (v := x_20) (lv' := [(5, .int x_20), (6, .int x_8), (4, .int x_12), (0, .ref (A 60 0)), (1, .int z1), (2, .int z2), (3, .int z3)]) hx hb dX10_decree_78 hl (k := 1) rfl (by rw [ex_20]; rfl) (by decide) rfl (fun ls hl => ?_)
                        refine lv_goto (tgt := 98) hx hb dX10_decree_81 (by decide) ?_
                        exact hj_98_24 x_20 x_12 _ _ _  hw (lv_sub hl [0, 1, 2, 3, 4, 5, 6] rfl)
              exact hl_45_12 ((8 - 0 : Int).toNat + 1) 0 0 0 _ _ _ (Nat.lt_succ_self _) (by have lt0 : (0 : Int32).toInt = 0 := (by decide); first | omega | decide) (by have lt0 : (0 : Int32).toInt = 0 := (by decide); first | omega | decide) hw (lv_sub hl [0, 1, 2, 3, 4, 5, 6] rfl)
            · exact hj_34_7  _ _ _  hw (lv_sub hl [0, 1, 2, 3] rfl)
set_option maxHeartbeats 4000000 in
set_option maxRecDepth 100000 in
theorem f_X10_coup (l : Launch) (D : va_G) (A : Nat → Nat → Nat) (cy : Nat → ClassId) (hJ : ti_inj ti_LM A) (M : ti_M) (hI : mI Tm M) (hF : mF Tm M) : ti_Ki l yX10_coup cX10_coup 4 (some .int) 5 ti_LM D A cy M [.ref (A 60 0)] (fun r M2 => fR 1 M2 M ∧ mF Tm M2 ∧ tI M2 60 2 = tI M 60 2 ∧ lw M2 M) := by
  refine ti_eI yp_X10_coup hJ ti_LM_nd (Nat.le_of_ble_eq_true rfl) ?_
  intro p e s m args below meth c Q H0 C hQ hw ls hl
  have hx := C.1
  have hb := C.2.1
  have hl : lv_has ls 4 [(0, .ref (A 60 0))] := hl
  have hL : mL M := hF.2.1
  have hC0 : mC M 0 := hF.2.2.1.1
  have hP0 : mP M 0 := hF.2.2.1.2
  refine lv_aload_n hx hb dX10_coup_0 rfl (lv_at hl 0 rfl) ?_
  refine lv_iconst (v := 0) hx hb dX10_coup_1 (by decide) ?_
  refine ti_putI (ci := 10) (k := 0) (N := 67) (T := TX10) C hw iw_10 tyX10 tyX10_ok nmX10 rfl ob_60 (by decide) (by decide) fl_X10_154 rfl rfl rfl rfl (fn_10 A _) fs_10_0 dX10_coup_2 (fun H locs hw => ?_)
  obtain ⟨M_1, hM_1⟩ : ∃ z : ti_M, z = uI M 60 0 0 := ⟨_, rfl⟩
  have hw := hw.to hM_1.symm
  have iM_1 : mI Tm M_1 := mI_uI hI hM_1 (by decide) (by decide) trivial
  refine lv_aload_n hx hb dX10_coup_5 rfl (lv_at hl 0 rfl) ?_
  refine ti_get (ci := 10) (k := 38) (N := 67) (T := TX10) (v := .ref (A 60 39)) C hw iw_10 rfl ob_60 (by decide) (by decide) fl_X10_81 rfl rfl dX10_coup_6 ?_
  refine lv_iconst (v := 0) hx hb dX10_coup_9 (by decide) ?_
  refine ti_iald (ci := 10) (k := 38) (n := 23) C hw ob_60 (by decide) (fun _ _ => rfl) (by unfold vp_in; decide) dX10_coup_10 ?_
  refine lv_topi (fun x_2 ex_2 => ?_)
  have yx_2 : tY M_1 60 38 0 = x_2 := ((congrArg _ (by decide)).symm.trans ex_2.symm)
  have bx_2 : 0 ≤ x_2.toInt ∧ x_2.toInt ≤ 8 := mI_ry (k := 38) (i := 0) iM_1 yx_2.symm
  have zx_2 : (tY M_1 60 38 0).toInt = x_2.toInt := by rw [yx_2]
  have wx_2 : tY M 60 38 0 = x_2 := ((cg (tY_uIE hM_1) 0)).symm.trans yx_2
  have zwx_2 : (tY M 60 38 0).toInt = x_2.toInt := by rw [wx_2]
  refine sb_if_ne (tgt := 16) hx hb rfl dX10_coup_11 (by decide) (fun c_11_2 => ?_) (fun c_11_2 => ?_)
  · refine lv_aload_n hx hb dX10_coup_16 rfl (lv_at hl 0 rfl) ?_
    refine lv_iconst (v := 0) hx hb dX10_coup_17 (by decide) ?_
    refine lv_aload_n hx hb dX10_coup_18 rfl (lv_at hl 0 rfl) ?_
    refine ti_get (ci := 10) (k := 34) (N := 67) (T := TX10) (v := .ref (A 60 35)) C hw iw_10 rfl ob_60 (by decide) (by decide) fl_X10_69 rfl rfl dX10_coup_19 ?_
    refine lv_iconst (v := 0) hx hb dX10_coup_22 (by decide) ?_
    refine ti_iald (ci := 10) (k := 34) (n := 23) C hw ob_60 (by decide) (fun _ _ => rfl) (by unfold vp_in; decide) dX10_coup_23 ?_
    refine lv_topi (fun x_4 ex_4 => ?_)
    have yx_4 : tY M_1 60 34 0 = x_4 := ((congrArg _ (by decide)).symm.trans ex_4.symm)
    have bx_4 : 0 ≤ x_4.toInt ∧ x_4.toInt ≤ 120 := mI_ry (k := 34) (i := 0) iM_1 yx_4.symm (by decide)
    have zx_4 : (tY M_1 60 34 0).toInt = x_4.toInt := by rw [yx_4]
    have wx_4 : tY M 60 34 0 = x_4 := ((cg (tY_uIE hM_1) 0)).symm.trans yx_4
    have zwx_4 : (tY M 60 34 0).toInt = x_4.toInt := by rw [wx_4]
    refine ti_callVi (ci := 10) (av := [.int 0, .int x_4]) C hw (f_X10_needOf_0 l D A cy hJ M_1 iM_1 (mL_lw (lk_I hM_1 (by decide)).1 hL) x_4) ⟨ml_X10_371, ym_X10_needOf, yv_X10_needOf, yi_X10_needOf, yc_X10_needOf⟩ yd_X10_needOf ob_60 (by decide) rfl rfl hl.1 (Nat.le_of_ble_eq_true rfl) ⟨by decide, by decide⟩ ⟨Nat.zero_le _, Nat.zero_le _⟩ dX10_coup_24 (fun r_5 M_6 H locs hp_6 hw => ?_)
    obtain ⟨fiM_6, hqM_6⟩ := hp_6
    obtain ⟨iM_6, q_7, q_8⟩ := hqM_6
    refine lv_istore_n (lv' := [(1, .int r_5), (0, .ref (A 60 0))]) hx hb dX10_coup_27 rfl hl (by decide) rfl (fun ls hl => ?_)
    refine lv_aload_n hx hb dX10_coup_28 rfl (lv_at hl 1 rfl) ?_
    refine lv_iconst (v := 0) hx hb dX10_coup_29 (by decide) ?_
    refine ti_callVi (ci := 10) (av := [.int 0]) C hw (s_X10_isGuarded_0 l D A cy hJ M_6 iM_6 ) ⟨ml_X10_374, ym_X10_isGuarded, yv_X10_isGuarded, yi_X10_isGuarded, yc_X10_isGuarded⟩ yd_X10_isGuarded ob_60 (by decide) rfl rfl hl.1 (Nat.le_of_ble_eq_true rfl) ⟨by decide, by decide⟩ ⟨Nat.zero_le _, Nat.zero_le _⟩ dX10_coup_30 (fun r_9 M_10 H locs hp_10 hw => ?_)
    obtain ⟨hm, b0r_9, b1r_9⟩ := hp_10
    have hw := hw.to hm
    have hj_58_15 : ∀  (H : Heap) (locs : List Loc) (ls : Array Slot), ti_H ti_LM D A cy H0 M_6 H locs → lv_has ls 4 [(1, .int r_5), (0, .ref (A 60 0))] → W p l e (ti_rm 5) s m args below meth c H locs 0 0 Q (F0 m 58 ls []) := by
      intro  H locs ls  hw hl
      refine lv_bipush (v := (-2)) hx hb dX10_coup_58 (by decide) ?_
      exact hQ _ _ _ _ _ _ hw rfl (⟨(fR.trans (fR_of q_7.2.1 fiM_6 q_8) (fR_I hM_1 (by decide))), mF_qw hF iM_6 (qw.trans q_7 (qw_I hM_1 (by decide))), (qw.trans q_7 (qw_I hM_1 (by decide))).2.1.1, (qw.trans q_7 (qw_I hM_1 (by decide))).1⟩) dX10_coup_60
    refine sb_if_ne (tgt := 58) hx hb rfl dX10_coup_33 (by decide) (fun c_33_10 => ?_) (fun c_33_10 => ?_)
    · exact hj_58_15  _ _ _  hw (lv_sub hl [0, 1] rfl)
    · refine lv_iload_n hx hb dX10_coup_36 rfl (lv_at hl 0 rfl) ?_
      refine lv_aload_n hx hb dX10_coup_37 rfl (lv_at hl 1 rfl) ?_
      refine ti_get (ci := 10) (k := 3) (N := 67) (T := TX10) (v := .ref (A 60 4)) C hw iw_10 rfl ob_60 (by decide) (by decide) fl_X10_13 rfl rfl dX10_coup_38 ?_
      refine lv_iconst (v := 4) hx hb dX10_coup_41 (by decide) ?_
      refine ti_iald (ci := 10) (k := 3) (n := 22) C hw ob_60 (by decide) (fun _ _ => rfl) (by unfold vp_in; decide) dX10_coup_42 ?_
      refine lv_topi (fun x_12 ex_12 => ?_)
      have yx_12 : tY M_6 60 3 4 = x_12 := ((congrArg _ (by decide)).symm.trans ex_12.symm)
      have zx_12 : (tY M_6 60 3 4).toInt = x_12.toInt := by rw [yx_12]
      have wx_12 : tY M 60 3 4 = x_12 := (((cg (tY_fr q_8) 4).trans (cg (tY_uIE hM_1) 4))).symm.trans yx_12
      have zwx_12 : (tY M 60 3 4).toInt = x_12.toInt := by rw [wx_12]
      refine sb_icmp_gt (tgt := 58) hx hb rfl rfl dX10_coup_43 (by decide) (fun c_43_12 => ?_) (fun c_43_12 => ?_)
      · exact hj_58_15  _ _ _  hw (lv_sub hl [0, 1] rfl)
      · refine lv_iload_n hx hb dX10_coup_46 rfl (lv_at hl 0 rfl) ?_
        refine lv_aload_n hx hb dX10_coup_47 rfl (lv_at hl 1 rfl) ?_
        refine ti_get (ci := 10) (k := 38) (N := 67) (T := TX10) (v := .ref (A 60 39)) C hw iw_10 rfl ob_60 (by decide) (by decide) fl_X10_81 rfl rfl dX10_coup_48 ?_
        refine lv_iconst (v := 0) hx hb dX10_coup_51 (by decide) ?_
        refine ti_iald (ci := 10) (k := 38) (n := 23) C hw ob_60 (by decide) (fun _ _ => rfl) (by unfold vp_in; decide) dX10_coup_52 ?_
        refine ti_top (y := x_2) ((congrArg _ (by decide)).trans ((cg (tY_fr q_8) 0).trans ((cg (tY_uIE hM_1) 0).trans wx_2))) ?_
        refine lv_iconst (v := 1) hx hb dX10_coup_53 (by decide) ?_
        refine lv_isub hx hb dX10_coup_54 ?_
        refine lv_topi (fun x_14 ex_14 => ?_)
        have tx_14 : x_14.toInt = x_2.toInt - 1 := i_sub ex_14 rfl (by decide : (1 : Int32).toInt = 1) (by omega) (by omega)
        refine sb_icmp_le (tgt := 61) hx hb rfl rfl dX10_coup_55 (by decide) (fun c_55_14 => ?_) (fun c_55_14 => ?_)
        · refine lv_iconst (v := 0) hx hb dX10_coup_61 (by decide) ?_
          refine lv_istore_n (lv' := [(2, .int 0), (1, .int r_5), (0, .ref (A 60 0))]) hx hb dX10_coup_62 rfl hl (by decide) rfl (fun ls hl => ?_)
          refine lv_iconst (v := 1) hx hb dX10_coup_63 (by decide) ?_
          refine lv_istore_n (lv' := [(3, .int 1), (2, .int 0), (1, .int r_5), (0, .ref (A 60 0))]) hx hb dX10_coup_64 rfl hl (by decide) rfl (fun ls hl => ?_)
          have hl_65_19 : ∀ (n_20 : Nat) (x_16 : Int32) (x_19 : Int32) (H : Heap) (locs : List Loc) (ls : Array Slot), (8 - x_16.toInt : Int).toNat < n_20 → (1 ≤ x_16.toInt) → (x_16.toInt ≤ 8) → ti_H ti_LM D A cy H0 M_6 H locs → lv_has ls 4 [(3, .int x_16), (2, .int x_19), (1, .int r_5), (0, .ref (A 60 0))] → W p l e (ti_rm 5) s m args below meth c H locs 0 0 Q (F0 m 65 ls []) := by
            intro n_20
            induction n_20 with
            | zero => intro x_16 x_19 H locs ls hf_20; exact absurd hf_20 (Nat.not_lt_zero _)
            | succ n_20 ih_20 =>
              intro x_16 x_19 H locs ls hf_20 b_17 b_18 hw hl
              refine lv_iload_n hx hb dX10_coup_65 rfl (lv_at hl 0 rfl) ?_
              refine lv_iload_n hx hb dX10_coup_66 rfl (lv_at hl 2 rfl) ?_
              refine sb_icmp_gt (tgt := 87) hx hb rfl rfl dX10_coup_67 (by decide) (fun c_67_20 => ?_) (fun c_67_20 => ?_)
              · refine lv_iload_n hx hb dX10_coup_87 rfl (lv_at hl 1 rfl) ?_
                exact hQ _ _ _ _ _ _ hw rfl (⟨(fR.trans (fR_of q_7.2.1 fiM_6 q_8) (fR_I hM_1 (by decide))), mF_qw hF iM_6 (qw.trans q_7 (qw_I hM_1 (by decide))), (qw.trans q_7 (qw_I hM_1 (by decide))).2.1.1, (qw.trans q_7 (qw_I hM_1 (by decide))).1⟩) dX10_coup_88
              · refine lv_iload_n hx hb dX10_coup_70 rfl (lv_at hl 1 rfl) ?_
                refine lv_iconst (v := 1) hx hb dX10_coup_71 (by decide) ?_
                refine lv_aload_n hx hb dX10_coup_72 rfl (lv_at hl 3 rfl) ?_
                refine ti_get (ci := 10) (k := 39) (N := 67) (T := TX10) (v := .ref (A 60 40)) C hw iw_10 rfl ob_60 (by decide) (by decide) fl_X10_84 rfl rfl dX10_coup_73 ?_
                refine lv_iload_n hx hb dX10_coup_76 rfl (lv_at hl 0 rfl) ?_
                refine ti_iald (ci := 10) (k := 39) (n := 184) C hw ob_60 (by decide) (fun _ _ => rfl) (vp_in_iff.mpr (by omega)) dX10_coup_77 ?_
                refine lv_topi (fun x_22 ex_22 => ?_)
                have yx_22 : tY M_6 60 39 x_16.toNatClampNeg = x_22 := (ex_22.symm)
                have bx_22 : 0 ≤ x_22.toInt ∧ x_22.toInt ≤ 7 := mI_ry (k := 39) (i := x_16.toNatClampNeg) iM_6 yx_22.symm
                have wx_22 : tY M 60 39 x_16.toNatClampNeg = x_22 := (((cg (tY_fr q_8) x_16.toNatClampNeg).trans (cg (tY_uIE hM_1) x_16.toNatClampNeg))).symm.trans yx_22
                refine lv_ishl hx hb dX10_coup_78 ?_
                refine lv_topi (fun x_23 ex_23 => ?_)
                refine lv_ior hx hb dX10_coup_79 ?_
                refine lv_topi (fun x_24 ex_24 => ?_)
                refine lv_istore_n (lv' := [(2, .int x_24), (3, .int x_16), (1, .int r_5), (0, .ref (A 60 0))]) hx hb dX10_coup_80 rfl hl (by decide) rfl (fun ls hl => ?_)
                obtain ⟨x_25, ex_25⟩ : ∃ z : Int32, z = x_16 + 1 := ⟨_, rfl⟩
                have tx_25 : x_25.toInt = x_16.toInt + 1 := i_add ex_25 rfl (by decide) (by omega) (by omega)
                refine lv_iinc (v := x_25) (lv' := [(3, .int x_25), (2, .int x_24), (1, .int r_5), (0, .ref (A 60 0))]) hx hb dX10_coup_81 hl (k := 1) rfl (by rw [ex_25]; rfl) (by decide) rfl (fun ls hl => ?_)
                refine lv_goto (tgt := 65) hx hb dX10_coup_84 (by decide) ?_
                exact ih_20 x_25 x_24 _ _ _ (by omega) (by first | omega | decide) (by first | omega | decide) hw (lv_sub hl [0, 1, 2, 3] rfl)
          exact hl_65_19 ((8 - 1 : Int).toNat + 1) 1 0 _ _ _ (Nat.lt_succ_self _) (by have lt0 : (0 : Int32).toInt = 0 := (by decide); have lt1 : (1 : Int32).toInt = 1 := (by decide); first | omega | decide) (by have lt0 : (0 : Int32).toInt = 0 := (by decide); have lt1 : (1 : Int32).toInt = 1 := (by decide); first | omega | decide) hw (lv_sub hl [0, 1, 2, 3] rfl)
        · exact hj_58_15  _ _ _  hw (lv_sub hl [0, 1] rfl)
  · refine lv_iconst (v := (-1)) hx hb dX10_coup_14 (by decide) ?_
    exact hQ _ _ _ _ _ _ hw rfl (⟨(fR_I hM_1 (by decide)), mF_qw hF iM_1 (qw_I hM_1 (by decide)), (qw_I hM_1 (by decide)).2.1.1, (qw_I hM_1 (by decide)).1⟩) dX10_coup_15
set_option maxHeartbeats 4000000 in
set_option maxRecDepth 100000 in
theorem f_X10_count (l : Launch) (D : va_G) (A : Nat → Nat → Nat) (cy : Nat → ClassId) (hJ : ti_inj ti_LM A) (M : ti_M) (hI : mI Tm M) (hF : mF Tm M) (z1 : Int32) : ti_Ki l yX10_count cX10_count 4 (some .int) 2 ti_LM D A cy M [.ref (A 60 0), .int z1] (fun r M2 => fR 1 M2 M ∧ mF Tm M2 ∧ tI M2 60 2 = tI M 60 2 ∧ lw M2 M) := by
  refine ti_eI yp_X10_count hJ ti_LM_nd (Nat.le_of_ble_eq_true rfl) ?_
  intro p e s m args below meth c Q H0 C hQ hw ls hl
  have hx := C.1
  have hb := C.2.1
  have hl : lv_has ls 4 [(0, .ref (A 60 0)), (1, .int z1)] := hl
  have hL : mL M := hF.2.1
  have hC0 : mC M 0 := hF.2.2.1.1
  have hP0 : mP M 0 := hF.2.2.1.2
  refine lv_aload_n hx hb dX10_count_0 rfl (lv_at hl 0 rfl) ?_
  refine lv_iconst (v := 0) hx hb dX10_count_1 (by decide) ?_
  refine ti_putI (ci := 10) (k := 0) (N := 67) (T := TX10) C hw iw_10 tyX10 tyX10_ok nmX10 rfl ob_60 (by decide) (by decide) fl_X10_154 rfl rfl rfl rfl (fn_10 A _) fs_10_0 dX10_count_2 (fun H locs hw => ?_)
  obtain ⟨M_1, hM_1⟩ : ∃ z : ti_M, z = uI M 60 0 0 := ⟨_, rfl⟩
  have hw := hw.to hM_1.symm
  have iM_1 : mI Tm M_1 := mI_uI hI hM_1 (by decide) (by decide) trivial
  refine lv_iconst (v := 0) hx hb dX10_count_5 (by decide) ?_
  refine lv_istore_n (lv' := [(2, .int 0), (0, .ref (A 60 0)), (1, .int z1)]) hx hb dX10_count_6 rfl hl (by decide) rfl (fun ls hl => ?_)
  refine lv_iload_n hx hb dX10_count_7 rfl (lv_at hl 2 rfl) ?_
  by_cases s_2_0 : z1 = 0
  · refine lv_tableIn (tgt := 84) (off := 76) hx hb dX10_count_8 (by rw [s_2_0]; decide) (by rw [s_2_0]; decide) (by rw [s_2_0]; decide) (by decide) ?_
    refine lv_aload_n hx hb dX10_count_84 rfl (lv_at hl 1 rfl) ?_
    refine ti_get (ci := 10) (k := 3) (N := 67) (T := TX10) (v := .ref (A 60 4)) C hw iw_10 rfl ob_60 (by decide) (by decide) fl_X10_13 rfl rfl dX10_count_85 ?_
    refine lv_iconst (v := 0) hx hb dX10_count_88 (by decide) ?_
    refine ti_iald (ci := 10) (k := 3) (n := 22) C hw ob_60 (by decide) (fun _ _ => rfl) (by unfold vp_in; decide) dX10_count_89 ?_
    refine lv_topi (fun x_3 ex_3 => ?_)
    have yx_3 : tY M_1 60 3 0 = x_3 := ((congrArg _ (by decide)).symm.trans ex_3.symm)
    have bx_3 : 0 ≤ x_3.toInt ∧ x_3.toInt ≤ 8 := mI_rn (i := 0) iM_1 yx_3.symm (fun _ h => h)
    have zx_3 : (tY M_1 60 3 0).toInt = x_3.toInt := by rw [yx_3]
    have wx_3 : tY M 60 3 0 = x_3 := ((cg (tY_uIE hM_1) 0)).symm.trans yx_3
    have zwx_3 : (tY M 60 3 0).toInt = x_3.toInt := by rw [wx_3]
    exact hQ _ _ _ _ _ _ hw rfl (⟨(fR_I hM_1 (by decide)), mF_qw hF iM_1 (qw_I hM_1 (by decide)), (qw_I hM_1 (by decide)).2.1.1, (qw_I hM_1 (by decide)).1⟩) dX10_count_90
  · by_cases s_2_1 : z1 = 1
    · refine lv_tableIn (tgt := 91) (off := 83) hx hb dX10_count_8 (by rw [s_2_1]; decide) (by rw [s_2_1]; decide) (by rw [s_2_1]; decide) (by decide) ?_
      refine lv_aload_n hx hb dX10_count_91 rfl (lv_at hl 1 rfl) ?_
      refine ti_get (ci := 10) (k := 3) (N := 67) (T := TX10) (v := .ref (A 60 4)) C hw iw_10 rfl ob_60 (by decide) (by decide) fl_X10_13 rfl rfl dX10_count_92 ?_
      refine lv_bipush (v := 7) hx hb dX10_count_95 (by decide) ?_
      refine ti_iald (ci := 10) (k := 3) (n := 22) C hw ob_60 (by decide) (fun _ _ => rfl) (by unfold vp_in; decide) dX10_count_97 ?_
      refine lv_topi (fun x_4 ex_4 => ?_)
      have yx_4 : tY M_1 60 3 7 = x_4 := ((congrArg _ (by decide)).symm.trans ex_4.symm)
      have bx_4 : 0 ≤ x_4.toInt ∧ x_4.toInt ≤ 64 := mI_rn (i := 7) iM_1 yx_4.symm (fun _ h => h)
      have zx_4 : (tY M_1 60 3 7).toInt = x_4.toInt := by rw [yx_4]
      have wx_4 : tY M 60 3 7 = x_4 := ((cg (tY_uIE hM_1) 7)).symm.trans yx_4
      have zwx_4 : (tY M 60 3 7).toInt = x_4.toInt := by rw [wx_4]
      exact hQ _ _ _ _ _ _ hw rfl (⟨(fR_I hM_1 (by decide)), mF_qw hF iM_1 (qw_I hM_1 (by decide)), (qw_I hM_1 (by decide)).2.1.1, (qw_I hM_1 (by decide)).1⟩) dX10_count_98
    · by_cases s_2_2 : z1 = 2
      · refine lv_tableIn (tgt := 99) (off := 91) hx hb dX10_count_8 (by rw [s_2_2]; decide) (by rw [s_2_2]; decide) (by rw [s_2_2]; decide) (by decide) ?_
        refine lv_aload_n hx hb dX10_count_99 rfl (lv_at hl 1 rfl) ?_
        refine ti_get (ci := 10) (k := 34) (N := 67) (T := TX10) (v := .ref (A 60 35)) C hw iw_10 rfl ob_60 (by decide) (by decide) fl_X10_69 rfl rfl dX10_count_100 ?_
        refine lv_iconst (v := 0) hx hb dX10_count_103 (by decide) ?_
        refine ti_iald (ci := 10) (k := 34) (n := 23) C hw ob_60 (by decide) (fun _ _ => rfl) (by unfold vp_in; decide) dX10_count_104 ?_
        refine lv_topi (fun x_5 ex_5 => ?_)
        have yx_5 : tY M_1 60 34 0 = x_5 := ((congrArg _ (by decide)).symm.trans ex_5.symm)
        have bx_5 : 0 ≤ x_5.toInt ∧ x_5.toInt ≤ 120 := mI_ry (k := 34) (i := 0) iM_1 yx_5.symm (by decide)
        have zx_5 : (tY M_1 60 34 0).toInt = x_5.toInt := by rw [yx_5]
        have wx_5 : tY M 60 34 0 = x_5 := ((cg (tY_uIE hM_1) 0)).symm.trans yx_5
        have zwx_5 : (tY M 60 34 0).toInt = x_5.toInt := by rw [wx_5]
        exact hQ _ _ _ _ _ _ hw rfl (⟨(fR_I hM_1 (by decide)), mF_qw hF iM_1 (qw_I hM_1 (by decide)), (qw_I hM_1 (by decide)).2.1.1, (qw_I hM_1 (by decide)).1⟩) dX10_count_105
      · by_cases s_2_3 : z1 = 3
        · refine lv_tableIn (tgt := 106) (off := 98) hx hb dX10_count_8 (by rw [s_2_3]; decide) (by rw [s_2_3]; decide) (by rw [s_2_3]; decide) (by decide) ?_
          refine lv_aload_n hx hb dX10_count_106 rfl (lv_at hl 1 rfl) ?_
          refine ti_get (ci := 10) (k := 38) (N := 67) (T := TX10) (v := .ref (A 60 39)) C hw iw_10 rfl ob_60 (by decide) (by decide) fl_X10_81 rfl rfl dX10_count_107 ?_
          refine lv_iconst (v := 0) hx hb dX10_count_110 (by decide) ?_
          refine ti_iald (ci := 10) (k := 38) (n := 23) C hw ob_60 (by decide) (fun _ _ => rfl) (by unfold vp_in; decide) dX10_count_111 ?_
          refine lv_topi (fun x_6 ex_6 => ?_)
          have yx_6 : tY M_1 60 38 0 = x_6 := ((congrArg _ (by decide)).symm.trans ex_6.symm)
          have bx_6 : 0 ≤ x_6.toInt ∧ x_6.toInt ≤ 8 := mI_ry (k := 38) (i := 0) iM_1 yx_6.symm
          have zx_6 : (tY M_1 60 38 0).toInt = x_6.toInt := by rw [yx_6]
          have wx_6 : tY M 60 38 0 = x_6 := ((cg (tY_uIE hM_1) 0)).symm.trans yx_6
          have zwx_6 : (tY M 60 38 0).toInt = x_6.toInt := by rw [wx_6]
          exact hQ _ _ _ _ _ _ hw rfl (⟨(fR_I hM_1 (by decide)), mF_qw hF iM_1 (qw_I hM_1 (by decide)), (qw_I hM_1 (by decide)).2.1.1, (qw_I hM_1 (by decide)).1⟩) dX10_count_112
        · by_cases s_2_4 : z1 = 4
          · refine lv_tableIn (tgt := 113) (off := 105) hx hb dX10_count_8 (by rw [s_2_4]; decide) (by rw [s_2_4]; decide) (by rw [s_2_4]; decide) (by decide) ?_
            refine lv_aload_n hx hb dX10_count_113 rfl (lv_at hl 1 rfl) ?_
            refine lv_iconst (v := 0) hx hb dX10_count_114 (by decide) ?_
            refine ti_callVi (ci := 10) (av := [.int 0]) C hw (s_X10_servedMany_0 l D A cy hJ M_1 iM_1 ) ⟨ml_X10_491, ym_X10_servedMany, yv_X10_servedMany, yi_X10_servedMany, yc_X10_servedMany⟩ yd_X10_servedMany ob_60 (by decide) rfl rfl hl.1 (Nat.le_of_ble_eq_true rfl) ⟨by decide, by decide⟩ ⟨Nat.zero_le _, Nat.zero_le _⟩ dX10_count_115 (fun r_7 M_8 H locs hp_8 hw => ?_)
            have hm := hp_8
            have hw := hw.to hm
            exact hQ _ _ _ _ _ _ hw rfl (⟨(fR_I hM_1 (by decide)), mF_qw hF iM_1 (qw_I hM_1 (by decide)), (qw_I hM_1 (by decide)).2.1.1, (qw_I hM_1 (by decide)).1⟩) dX10_count_118
          · by_cases s_2_5 : z1 = 5
            · refine lv_tableIn (tgt := 119) (off := 111) hx hb dX10_count_8 (by rw [s_2_5]; decide) (by rw [s_2_5]; decide) (by rw [s_2_5]; decide) (by decide) ?_
              refine lv_aload_n hx hb dX10_count_119 rfl (lv_at hl 1 rfl) ?_
              refine lv_iconst (v := 0) hx hb dX10_count_120 (by decide) ?_
              refine lv_iconst (v := 3) hx hb dX10_count_121 (by decide) ?_
              refine ti_callVi (ci := 10) (av := [.int 0, .int 3]) C hw (s_X10_howMany_0 l D A cy hJ M_1 iM_1 3) ⟨ml_X10_494, ym_X10_howMany, yv_X10_howMany, yi_X10_howMany, yc_X10_howMany⟩ yd_X10_howMany ob_60 (by decide) rfl rfl hl.1 (Nat.le_of_ble_eq_true rfl) ⟨by decide, by decide⟩ ⟨Nat.zero_le _, Nat.zero_le _⟩ dX10_count_122 (fun r_9 M_10 H locs hp_10 hw => ?_)
              have hm := hp_10
              have hw := hw.to hm
              exact hQ _ _ _ _ _ _ hw rfl (⟨(fR_I hM_1 (by decide)), mF_qw hF iM_1 (qw_I hM_1 (by decide)), (qw_I hM_1 (by decide)).2.1.1, (qw_I hM_1 (by decide)).1⟩) dX10_count_125
            · by_cases s_2_6 : z1 = 6
              · refine lv_tableIn (tgt := 126) (off := 118) hx hb dX10_count_8 (by rw [s_2_6]; decide) (by rw [s_2_6]; decide) (by rw [s_2_6]; decide) (by decide) ?_
                refine lv_aload_n hx hb dX10_count_126 rfl (lv_at hl 1 rfl) ?_
                refine ti_get (ci := 10) (k := 35) (N := 67) (T := TX10) (v := .ref (A 60 36)) C hw iw_10 rfl ob_60 (by decide) (by decide) fl_X10_72 rfl rfl dX10_count_127 ?_
                refine lv_iconst (v := 0) hx hb dX10_count_130 (by decide) ?_
                refine ti_iald (ci := 10) (k := 35) (n := 23) C hw ob_60 (by decide) (fun _ _ => rfl) (by unfold vp_in; decide) dX10_count_131 ?_
                refine lv_topi (fun x_11 ex_11 => ?_)
                have yx_11 : tY M_1 60 35 0 = x_11 := ((congrArg _ (by decide)).symm.trans ex_11.symm)
                have wx_11 : tY M 60 35 0 = x_11 := ((cg (tY_uIE hM_1) 0)).symm.trans yx_11
                exact hQ _ _ _ _ _ _ hw rfl (⟨(fR_I hM_1 (by decide)), mF_qw hF iM_1 (qw_I hM_1 (by decide)), (qw_I hM_1 (by decide)).2.1.1, (qw_I hM_1 (by decide)).1⟩) dX10_count_132
              · by_cases s_2_7 : z1 = 7
                · refine lv_tableIn (tgt := 133) (off := 125) hx hb dX10_count_8 (by rw [s_2_7]; decide) (by rw [s_2_7]; decide) (by rw [s_2_7]; decide) (by decide) ?_
                  refine lv_iconst (v := 0) hx hb dX10_count_133 (by decide) ?_
                  refine lv_istore_n (lv' := [(3, .int 0), (2, .int 0), (0, .ref (A 60 0)), (1, .int z1)]) hx hb dX10_count_134 rfl hl (by decide) rfl (fun ls hl => ?_)
                  have hl_135_15 : ∀ (n_16 : Nat) (x_12 : Int32) (x_15 : Int32) (H : Heap) (locs : List Loc) (ls : Array Slot), (8 - x_12.toInt : Int).toNat < n_16 → (0 ≤ x_12.toInt) → (x_12.toInt ≤ 8) → ti_H ti_LM D A cy H0 M_1 H locs → lv_has ls 4 [(3, .int x_12), (2, .int x_15), (0, .ref (A 60 0)), (1, .int z1)] → W p l e (ti_rm 2) s m args below meth c H locs 0 0 Q (F0 m 135 ls []) := by
                    intro n_16
                    induction n_16 with
                    | zero => intro x_12 x_15 H locs ls hf_16; exact absurd hf_16 (Nat.not_lt_zero _)
                    | succ n_16 ih_16 =>
                      intro x_12 x_15 H locs ls hf_16 b_13 b_14 hw hl
                      refine lv_iload_n hx hb dX10_count_135 rfl (lv_at hl 0 rfl) ?_
                      refine lv_aload_n hx hb dX10_count_136 rfl (lv_at hl 2 rfl) ?_
                      refine ti_get (ci := 10) (k := 3) (N := 67) (T := TX10) (v := .ref (A 60 4)) C hw iw_10 rfl ob_60 (by decide) (by decide) fl_X10_13 rfl rfl dX10_count_137 ?_
                      refine lv_iconst (v := 0) hx hb dX10_count_140 (by decide) ?_
                      refine ti_iald (ci := 10) (k := 3) (n := 22) C hw ob_60 (by decide) (fun _ _ => rfl) (by unfold vp_in; decide) dX10_count_141 ?_
                      refine lv_topi (fun x_17 ex_17 => ?_)
                      have yx_17 : tY M_1 60 3 0 = x_17 := ((congrArg _ (by decide)).symm.trans ex_17.symm)
                      have bx_17 : 0 ≤ x_17.toInt ∧ x_17.toInt ≤ 8 := mI_rn (i := 0) iM_1 yx_17.symm (fun _ h => h)
                      have zx_17 : (tY M_1 60 3 0).toInt = x_17.toInt := by rw [yx_17]
                      have wx_17 : tY M 60 3 0 = x_17 := ((cg (tY_uIE hM_1) 0)).symm.trans yx_17
                      have zwx_17 : (tY M 60 3 0).toInt = x_17.toInt := by rw [wx_17]
                      refine sb_icmp_ge (tgt := 160) hx hb rfl rfl dX10_count_142 (by decide) (fun c_142_17 => ?_) (fun c_142_17 => ?_)
                      · refine lv_iload_n hx hb dX10_count_160 rfl (lv_at hl 1 rfl) ?_
                        exact hQ _ _ _ _ _ _ hw rfl (⟨(fR_I hM_1 (by decide)), mF_qw hF iM_1 (qw_I hM_1 (by decide)), (qw_I hM_1 (by decide)).2.1.1, (qw_I hM_1 (by decide)).1⟩) dX10_count_161
                      · refine lv_iload_n hx hb dX10_count_145 rfl (lv_at hl 1 rfl) ?_
                        refine lv_aload_n hx hb dX10_count_146 rfl (lv_at hl 2 rfl) ?_
                        refine ti_get (ci := 10) (k := 43) (N := 67) (T := TX10) (v := .ref (A 60 44)) C hw iw_10 rfl ob_60 (by decide) (by decide) fl_X10_96 rfl rfl dX10_count_147 ?_
                        refine lv_iload_n hx hb dX10_count_150 rfl (lv_at hl 0 rfl) ?_
                        refine ti_iald (ci := 10) (k := 43) (n := 184) C hw ob_60 (by decide) (fun _ _ => rfl) (vp_in_iff.mpr (by omega)) dX10_count_151 ?_
                        refine lv_topi (fun x_19 ex_19 => ?_)
                        have yx_19 : tY M_1 60 43 x_12.toNatClampNeg = x_19 := (ex_19.symm)
                        have wx_19 : tY M 60 43 x_12.toNatClampNeg = x_19 := ((cg (tY_uIE hM_1) x_12.toNatClampNeg)).symm.trans yx_19
                        refine lv_iadd hx hb dX10_count_152 ?_
                        refine lv_topi (fun x_20 ex_20 => ?_)
                        refine lv_istore_n (lv' := [(2, .int x_20), (3, .int x_12), (0, .ref (A 60 0)), (1, .int z1)]) hx hb dX10_count_153 rfl hl (by decide) rfl (fun ls hl => ?_)
                        obtain ⟨x_21, ex_21⟩ : ∃ z : Int32, z = x_12 + 1 := ⟨_, rfl⟩
                        have tx_21 : x_21.toInt = x_12.toInt + 1 := i_add ex_21 rfl (by decide) (by omega) (by omega)
                        refine lv_iinc (v := x_21) (lv' := [(3, .int x_21), (2, .int x_20), (0, .ref (A 60 0)), (1, .int z1)]) hx hb dX10_count_154 hl (k := 1) rfl (by rw [ex_21]; rfl) (by decide) rfl (fun ls hl => ?_)
                        refine lv_goto (tgt := 135) hx hb dX10_count_157 (by decide) ?_
                        exact ih_16 x_21 x_20 _ _ _ (by omega) (by first | omega | decide) (by first | omega | decide) hw (lv_sub hl [0, 1, 2, 3] rfl)
                  exact hl_135_15 ((8 - 0 : Int).toNat + 1) 0 0 _ _ _ (Nat.lt_succ_self _) (by have lt0 : (0 : Int32).toInt = 0 := (by decide); first | omega | decide) (by have lt0 : (0 : Int32).toInt = 0 := (by decide); first | omega | decide) hw (lv_sub hl [0, 1, 2, 3] rfl)
                · by_cases s_2_8 : z1 = 8
                  · refine lv_tableIn (tgt := 162) (off := 154) hx hb dX10_count_8 (by rw [s_2_8]; decide) (by rw [s_2_8]; decide) (by rw [s_2_8]; decide) (by decide) ?_
                    refine lv_aload_n hx hb dX10_count_162 rfl (lv_at hl 1 rfl) ?_
                    refine ti_get (ci := 10) (k := 58) (N := 67) (T := TX10) C hw iw_10 rfl ob_60 (by decide) (by decide) fl_X10_310 rfl rfl dX10_count_163 ?_
                    refine lv_topi (fun x_22 ex_22 => ?_)
                    have bx_22 : 0 ≤ x_22.toInt ∧ x_22.toInt ≤ 24 := mI_rd iM_1 ex_22
                    have ux_22 : (tI M_1 60 58).toInt = x_22.toInt := by rw [ex_22]
                    exact hQ _ _ _ _ _ _ hw rfl (⟨(fR_I hM_1 (by decide)), mF_qw hF iM_1 (qw_I hM_1 (by decide)), (qw_I hM_1 (by decide)).2.1.1, (qw_I hM_1 (by decide)).1⟩) dX10_count_166
                  · by_cases s_2_9 : z1 = 9
                    · refine lv_tableIn (tgt := 167) (off := 159) hx hb dX10_count_8 (by rw [s_2_9]; decide) (by rw [s_2_9]; decide) (by rw [s_2_9]; decide) (by decide) ?_
                      refine lv_aload_n hx hb dX10_count_167 rfl (lv_at hl 1 rfl) ?_
                      refine ti_callVi (ci := 10) (av := []) C hw (s_X10_knownMany l D A cy hJ M_1 iM_1 ) ⟨ml_X10_474, ym_X10_knownMany, yv_X10_knownMany, yi_X10_knownMany, yc_X10_knownMany⟩ yd_X10_knownMany ob_60 (by decide) rfl rfl hl.1 (Nat.le_of_ble_eq_true rfl) ⟨by decide, by decide⟩ ⟨Nat.zero_le _, Nat.zero_le _⟩ dX10_count_168 (fun r_23 M_24 H locs hp_24 hw => ?_)
                      obtain ⟨hm, b0r_23, b1r_23⟩ := hp_24
                      have hw := hw.to hm
                      exact hQ _ _ _ _ _ _ hw rfl (⟨(fR_I hM_1 (by decide)), mF_qw hF iM_1 (qw_I hM_1 (by decide)), (qw_I hM_1 (by decide)).2.1.1, (qw_I hM_1 (by decide)).1⟩) dX10_count_171
                    · by_cases s_2_10 : z1 = 10
                      · refine lv_tableIn (tgt := 172) (off := 164) hx hb dX10_count_8 (by rw [s_2_10]; decide) (by rw [s_2_10]; decide) (by rw [s_2_10]; decide) (by decide) ?_
                        refine lv_aload_n hx hb dX10_count_172 rfl (lv_at hl 1 rfl) ?_
                        refine ti_get (ci := 10) (k := 52) (N := 67) (T := TX10) C hw iw_10 rfl ob_60 (by decide) (by decide) fl_X10_317 rfl rfl dX10_count_173 ?_
                        refine lv_topi (fun x_25 ex_25 => ?_)
                        have bx_25 : 0 ≤ x_25.toInt ∧ x_25.toInt ≤ 20 := mI_rd iM_1 ex_25
                        have ux_25 : (tI M_1 60 52).toInt = x_25.toInt := by rw [ex_25]
                        exact hQ _ _ _ _ _ _ hw rfl (⟨(fR_I hM_1 (by decide)), mF_qw hF iM_1 (qw_I hM_1 (by decide)), (qw_I hM_1 (by decide)).2.1.1, (qw_I hM_1 (by decide)).1⟩) dX10_count_176
                      · by_cases s_2_11 : z1 = 11
                        · refine lv_tableIn (tgt := 177) (off := 169) hx hb dX10_count_8 (by rw [s_2_11]; decide) (by rw [s_2_11]; decide) (by rw [s_2_11]; decide) (by decide) ?_
                          refine lv_aload_n hx hb dX10_count_177 rfl (lv_at hl 1 rfl) ?_
                          refine ti_get (ci := 10) (k := 49) (N := 67) (T := TX10) (v := .ref (A 60 50)) C hw iw_10 rfl ob_60 (by decide) (by decide) fl_X10_114 rfl rfl dX10_count_178 ?_
                          refine lv_iconst (v := 0) hx hb dX10_count_181 (by decide) ?_
                          refine ti_iald (ci := 10) (k := 49) (n := 69) C hw ob_60 (by decide) (fun _ _ => rfl) (by unfold vp_in; decide) dX10_count_182 ?_
                          refine lv_topi (fun x_26 ex_26 => ?_)
                          have yx_26 : tY M_1 60 49 0 = x_26 := ((congrArg _ (by decide)).symm.trans ex_26.symm)
                          have bx_26 : 0 ≤ x_26.toInt ∧ x_26.toInt ≤ 7 := mI_ry (k := 49) (i := 0) iM_1 yx_26.symm
                          have wx_26 : tY M 60 49 0 = x_26 := ((cg (tY_uIE hM_1) 0)).symm.trans yx_26
                          exact hQ _ _ _ _ _ _ hw rfl (⟨(fR_I hM_1 (by decide)), mF_qw hF iM_1 (qw_I hM_1 (by decide)), (qw_I hM_1 (by decide)).2.1.1, (qw_I hM_1 (by decide)).1⟩) dX10_count_183
                        · by_cases s_2_12 : z1 = 12
                          · refine lv_tableIn (tgt := 184) (off := 176) hx hb dX10_count_8 (by rw [s_2_12]; decide) (by rw [s_2_12]; decide) (by rw [s_2_12]; decide) (by decide) ?_
                            refine lv_aload_n hx hb dX10_count_184 rfl (lv_at hl 1 rfl) ?_
                            refine ti_get (ci := 10) (k := 49) (N := 67) (T := TX10) (v := .ref (A 60 50)) C hw iw_10 rfl ob_60 (by decide) (by decide) fl_X10_114 rfl rfl dX10_count_185 ?_
                            refine lv_iconst (v := 1) hx hb dX10_count_188 (by decide) ?_
                            refine ti_iald (ci := 10) (k := 49) (n := 69) C hw ob_60 (by decide) (fun _ _ => rfl) (by unfold vp_in; decide) dX10_count_189 ?_
                            refine lv_topi (fun x_27 ex_27 => ?_)
                            have yx_27 : tY M_1 60 49 1 = x_27 := ((congrArg _ (by decide)).symm.trans ex_27.symm)
                            have bx_27 : 0 ≤ x_27.toInt ∧ x_27.toInt ≤ 7 := mI_ry (k := 49) (i := 1) iM_1 yx_27.symm
                            have wx_27 : tY M 60 49 1 = x_27 := ((cg (tY_uIE hM_1) 1)).symm.trans yx_27
                            exact hQ _ _ _ _ _ _ hw rfl (⟨(fR_I hM_1 (by decide)), mF_qw hF iM_1 (qw_I hM_1 (by decide)), (qw_I hM_1 (by decide)).2.1.1, (qw_I hM_1 (by decide)).1⟩) dX10_count_190
                          · by_cases s_2_13 : z1 = 13
                            · refine lv_tableIn (tgt := 191) (off := 183) hx hb dX10_count_8 (by rw [s_2_13]; decide) (by rw [s_2_13]; decide) (by rw [s_2_13]; decide) (by decide) ?_
                              refine lv_aload_n hx hb dX10_count_191 rfl (lv_at hl 1 rfl) ?_
                              refine ti_get (ci := 10) (k := 49) (N := 67) (T := TX10) (v := .ref (A 60 50)) C hw iw_10 rfl ob_60 (by decide) (by decide) fl_X10_114 rfl rfl dX10_count_192 ?_
                              refine lv_iconst (v := 2) hx hb dX10_count_195 (by decide) ?_
                              refine ti_iald (ci := 10) (k := 49) (n := 69) C hw ob_60 (by decide) (fun _ _ => rfl) (by unfold vp_in; decide) dX10_count_196 ?_
                              refine lv_topi (fun x_28 ex_28 => ?_)
                              have yx_28 : tY M_1 60 49 2 = x_28 := ((congrArg _ (by decide)).symm.trans ex_28.symm)
                              have bx_28 : 0 ≤ x_28.toInt ∧ x_28.toInt ≤ 7 := mI_ry (k := 49) (i := 2) iM_1 yx_28.symm
                              have wx_28 : tY M 60 49 2 = x_28 := ((cg (tY_uIE hM_1) 2)).symm.trans yx_28
                              exact hQ _ _ _ _ _ _ hw rfl (⟨(fR_I hM_1 (by decide)), mF_qw hF iM_1 (qw_I hM_1 (by decide)), (qw_I hM_1 (by decide)).2.1.1, (qw_I hM_1 (by decide)).1⟩) dX10_count_197
                            · by_cases s_2_14 : z1 = 14
                              · refine lv_tableIn (tgt := 198) (off := 190) hx hb dX10_count_8 (by rw [s_2_14]; decide) (by rw [s_2_14]; decide) (by rw [s_2_14]; decide) (by decide) ?_
                                refine lv_aload_n hx hb dX10_count_198 rfl (lv_at hl 1 rfl) ?_
                                refine ti_get (ci := 10) (k := 37) (N := 67) (T := TX10) (v := .ref (A 60 38)) C hw iw_10 rfl ob_60 (by decide) (by decide) fl_X10_78 rfl rfl dX10_count_199 ?_
                                refine lv_iconst (v := 0) hx hb dX10_count_202 (by decide) ?_
                                refine ti_iald (ci := 10) (k := 37) (n := 23) C hw ob_60 (by decide) (fun _ _ => rfl) (by unfold vp_in; decide) dX10_count_203 ?_
                                refine lv_topi (fun x_29 ex_29 => ?_)
                                have yx_29 : tY M_1 60 37 0 = x_29 := ((congrArg _ (by decide)).symm.trans ex_29.symm)
                                have wx_29 : tY M 60 37 0 = x_29 := ((cg (tY_uIE hM_1) 0)).symm.trans yx_29
                                refine ti_callSi (av := [.int x_29]) C hw (s_X10_bitsOf l D A cy hJ M_1 iM_1 x_29) ⟨ml_X10_448, ys_X10_bitsOf, yi_X10_bitsOf, yc_X10_bitsOf⟩ yd_X10_bitsOf rfl hl.1 (Nat.le_of_ble_eq_true rfl) ⟨by decide, by decide⟩ ⟨Nat.zero_le _, Nat.zero_le _⟩ dX10_count_204 (fun r_30 M_31 H locs hp_31 hw => ?_)
                                have hm := hp_31
                                have hw := hw.to hm
                                exact hQ _ _ _ _ _ _ hw rfl (⟨(fR_I hM_1 (by decide)), mF_qw hF iM_1 (qw_I hM_1 (by decide)), (qw_I hM_1 (by decide)).2.1.1, (qw_I hM_1 (by decide)).1⟩) dX10_count_207
                              · refine lv_tableOut (tgt := 208) hx hb dX10_count_8 (ti_out (lo := 0) (hi := 14) z1 (fun v h1 h2 => by rcases (show v = 0 ∨ v = 1 ∨ v = 2 ∨ v = 3 ∨ v = 4 ∨ v = 5 ∨ v = 6 ∨ v = 7 ∨ v = 8 ∨ v = 9 ∨ v = 10 ∨ v = 11 ∨ v = 12 ∨ v = 13 ∨ v = 14 by omega) with rfl | rfl | rfl | rfl | rfl | rfl | rfl | rfl | rfl | rfl | rfl | rfl | rfl | rfl | rfl <;> first | exact ti_nev 0 s_2_0 (by decide) | exact ti_nev 1 s_2_1 (by decide) | exact ti_nev 2 s_2_2 (by decide) | exact ti_nev 3 s_2_3 (by decide) | exact ti_nev 4 s_2_4 (by decide) | exact ti_nev 5 s_2_5 (by decide) | exact ti_nev 6 s_2_6 (by decide) | exact ti_nev 7 s_2_7 (by decide) | exact ti_nev 8 s_2_8 (by decide) | exact ti_nev 9 s_2_9 (by decide) | exact ti_nev 10 s_2_10 (by decide) | exact ti_nev 11 s_2_11 (by decide) | exact ti_nev 12 s_2_12 (by decide) | exact ti_nev 13 s_2_13 (by decide) | exact ti_nev 14 s_2_14 (by decide))) (by decide) ?_
                                refine lv_iconst (v := (-1)) hx hb dX10_count_208 (by decide) ?_
                                exact hQ _ _ _ _ _ _ hw rfl (⟨(fR_I hM_1 (by decide)), mF_qw hF iM_1 (qw_I hM_1 (by decide)), (qw_I hM_1 (by decide)).2.1.1, (qw_I hM_1 (by decide)).1⟩) dX10_count_209
set_option maxHeartbeats 4000000 in
set_option maxRecDepth 100000 in
theorem f_X10_served (l : Launch) (D : va_G) (A : Nat → Nat → Nat) (cy : Nat → ClassId) (hJ : ti_inj ti_LM A) (M : ti_M) (hI : mI Tm M) (hF : mF Tm M) (z1 : Int32) : ti_Ki l yX10_served cX10_served 2 (some .int) 8 ti_LM D A cy M [.ref (A 60 0), .int z1] (fun r M2 => fR 1 M2 M ∧ mF Tm M2 ∧ tI M2 60 2 = tI M 60 2 ∧ lw M2 M) := by
  refine ti_eI yp_X10_served hJ ti_LM_nd (Nat.le_of_ble_eq_true rfl) ?_
  intro p e s m args below meth c Q H0 C hQ hw ls hl
  have hx := C.1
  have hb := C.2.1
  have hl : lv_has ls 2 [(0, .ref (A 60 0)), (1, .int z1)] := hl
  have hL : mL M := hF.2.1
  have hC0 : mC M 0 := hF.2.2.1.1
  have hP0 : mP M 0 := hF.2.2.1.2
  refine lv_aload_n hx hb dX10_served_0 rfl (lv_at hl 0 rfl) ?_
  refine lv_iconst (v := 0) hx hb dX10_served_1 (by decide) ?_
  refine ti_putI (ci := 10) (k := 0) (N := 67) (T := TX10) C hw iw_10 tyX10 tyX10_ok nmX10 rfl ob_60 (by decide) (by decide) fl_X10_154 rfl rfl rfl rfl (fn_10 A _) fs_10_0 dX10_served_2 (fun H locs hw => ?_)
  obtain ⟨M_1, hM_1⟩ : ∃ z : ti_M, z = uI M 60 0 0 := ⟨_, rfl⟩
  have hw := hw.to hM_1.symm
  have iM_1 : mI Tm M_1 := mI_uI hI hM_1 (by decide) (by decide) trivial
  refine lv_aload_n hx hb dX10_served_5 rfl (lv_at hl 0 rfl) ?_
  refine lv_iload_n hx hb dX10_served_6 rfl (lv_at hl 1 rfl) ?_
  refine ti_callVi (ci := 10) (av := [.int z1]) C hw (s_X10_isMan l D A cy hJ M_1 iM_1 z1) ⟨ml_X10_356, ym_X10_isMan, yv_X10_isMan, yi_X10_isMan, yc_X10_isMan⟩ yd_X10_isMan ob_60 (by decide) rfl rfl hl.1 (Nat.le_of_ble_eq_true rfl) ⟨by decide, by decide⟩ ⟨Nat.zero_le _, Nat.zero_le _⟩ dX10_served_7 (fun r_2 M_3 H locs hp_3 hw => ?_)
  obtain ⟨hm, hz⟩ := hp_3
  have hw := hw.to hm
  have lk_5 : (tY M_1 60 3 0).toInt = (tY M 60 3 0).toInt := by rw [(cg (tY_uIE hM_1) 0)]
  rcases hz with ⟨rfl, d0_4, d1_4, d2_4⟩ | rfl
  · refine sb_if_ne (tgt := 15) hx hb (by decide : (1 : Int32).toInt = 1) dX10_served_10 (by decide) (fun c_10_5 => ?_) (fun h => absurd h (by decide))
    refine lv_aload_n hx hb dX10_served_15 rfl (lv_at hl 0 rfl) ?_
    refine ti_callVv (ci := 10) (av := []) C hw (f_X10_lays l D A cy hJ M_1 iM_1 (((rw1_qw (qw_I hM_1 (by decide))).2.2.1 0 (by decide)).1 hC0) (((rw1_qw (qw_I hM_1 (by decide))).2.2.1 0 (by decide)).2 hP0)) ⟨ml_X10_442, ym_X10_lays, yv_X10_lays, yi_X10_lays, yc_X10_lays⟩ yd_X10_lays ob_60 (by decide) rfl rfl hl.1 (Nat.le_of_ble_eq_true rfl) ⟨by decide, by decide⟩ ⟨Nat.zero_le _, Nat.zero_le _⟩ dX10_served_16 (fun M_9 H locs hp_9 hw => ?_)
    obtain ⟨frM_9, hqM_9⟩ := hp_9
    obtain ⟨iM_9, q_10, q_11, q_12, q_13, q_14, q_15⟩ := hqM_9
    refine lv_aload_n hx hb dX10_served_19 rfl (lv_at hl 0 rfl) ?_
    refine lv_aload_n hx hb dX10_served_20 rfl (lv_at hl 0 rfl) ?_
    refine ti_callVi (ci := 10) (av := []) C hw (s_X10_minutesLeft l D A cy hJ M_9 iM_9 ) ⟨ml_X10_430, ym_X10_minutesLeft, yv_X10_minutesLeft, yi_X10_minutesLeft, yc_X10_minutesLeft⟩ yd_X10_minutesLeft ob_60 (by decide) rfl rfl hl.1 (Nat.le_of_ble_eq_true rfl) ⟨by decide, by decide⟩ ⟨Nat.zero_le _, Nat.zero_le _⟩ dX10_served_21 (fun r_16 M_17 H locs hp_17 hw => ?_)
    obtain ⟨hm, b0r_16, b1r_16, p0r_16⟩ := hp_17
    have hw := hw.to hm
    refine ti_callVv (ci := 10) (av := [.int r_16]) C hw (f_X10_runs l D A cy hJ M_9 iM_9 q_11 (mL_lw (lk.trans (lk_of q_10.1 q_10.2.1) (lk_I hM_1 (by decide))).1 hL) r_16) ⟨ml_X10_445, ym_X10_runs, yv_X10_runs, yi_X10_runs, yc_X10_runs⟩ yd_X10_runs ob_60 (by decide) rfl rfl hl.1 (Nat.le_of_ble_eq_true rfl) ⟨by decide, by decide⟩ ⟨Nat.zero_le _, Nat.zero_le _⟩ dX10_served_24 (fun M_19 H locs hp_19 hw => ?_)
    obtain ⟨frM_19, hqM_19⟩ := hp_19
    obtain ⟨iM_19, q_20, q_21⟩ := hqM_19
    refine lv_aload_n hx hb dX10_served_27 rfl (lv_at hl 0 rfl) ?_
    refine ti_get (ci := 10) (k := 48) (N := 67) (T := TX10) (v := .ref (A 60 49)) C hw iw_10 rfl ob_60 (by decide) (by decide) fl_X10_111 rfl rfl dX10_served_28 ?_
    refine lv_bipush (v := 8) hx hb dX10_served_31 (by decide) ?_
    refine lv_iload_n hx hb dX10_served_33 rfl (lv_at hl 1 rfl) ?_
    refine lv_iadd hx hb dX10_served_34 ?_
    refine lv_topi (fun x_22 ex_22 => ?_)
    have lox_22z1 := z1.le_toInt
    have hix_22z1 := z1.toInt_lt
    have tx_22 : x_22.toInt = 8 + z1.toInt := i_add ex_22 (by decide : (8 : Int32).toInt = 8) rfl (by omega) (by omega)
    refine ti_iald (ci := 10) (k := 48) (n := 184) C hw ob_60 (by decide) (fun _ _ => rfl) (vp_in_iff.mpr (by omega)) dX10_served_35 ?_
    refine lv_topi (fun x_23 ex_23 => ?_)
    have yx_23 : tY M_19 60 48 x_22.toNatClampNeg = x_23 := (ex_23.symm)
    exact hQ _ _ _ _ _ _ hw rfl (⟨(fR.trans frM_19 (fR.trans frM_9 (fR_I hM_1 (by decide)))), mF_rw hF iM_19 (rw1.trans (rw1_rq q_20) (rw1.trans (rw1_rq q_10) (rw1_qw (qw_I hM_1 (by decide))))), (rw1.trans (rw1_rq q_20) (rw1.trans (rw1_rq q_10) (rw1_qw (qw_I hM_1 (by decide))))).2.1.1, (rw1.trans (rw1_rq q_20) (rw1.trans (rw1_rq q_10) (rw1_qw (qw_I hM_1 (by decide))))).1⟩) dX10_served_36
  · refine sb_if_ne (tgt := 15) hx hb (by decide : (0 : Int32).toInt = 0) dX10_served_10 (by decide) (fun h => absurd h (by decide)) (fun c_10_6 => ?_)
    refine lv_iconst (v := (-1)) hx hb dX10_served_13 (by decide) ?_
    exact hQ _ _ _ _ _ _ hw rfl (⟨(fR_I hM_1 (by decide)), mF_rw hF iM_1 (rw1_qw (qw_I hM_1 (by decide))), (rw1_qw (qw_I hM_1 (by decide))).2.1.1, (rw1_qw (qw_I hM_1 (by decide))).1⟩) dX10_served_14
set_option maxHeartbeats 4000000 in
set_option maxRecDepth 100000 in
theorem f_X10_coming (l : Launch) (D : va_G) (A : Nat → Nat → Nat) (cy : Nat → ClassId) (hJ : ti_inj ti_LM A) (M : ti_M) (hI : mI Tm M) (hF : mF Tm M) (z1 : Int32) (z2 : Int32) (z3 : Int32) : ti_Ki l yX10_coming cX10_coming 5 (some .int) 8 ti_LM D A cy M [.ref (A 60 0), .int z1, .int z2, .int z3] (fun r M2 => fR 1 M2 M ∧ mF Tm M2 ∧ tI M2 60 2 = tI M 60 2 ∧ lw M2 M) := by
  refine ti_eI yp_X10_coming hJ ti_LM_nd (Nat.le_of_ble_eq_true rfl) ?_
  intro p e s m args below meth c Q H0 C hQ hw ls hl
  have hx := C.1
  have hb := C.2.1
  have hl : lv_has ls 5 [(0, .ref (A 60 0)), (1, .int z1), (2, .int z2), (3, .int z3)] := hl
  have hL : mL M := hF.2.1
  have hC0 : mC M 0 := hF.2.2.1.1
  have hP0 : mP M 0 := hF.2.2.1.2
  refine lv_aload_n hx hb dX10_coming_0 rfl (lv_at hl 0 rfl) ?_
  refine lv_iconst (v := 0) hx hb dX10_coming_1 (by decide) ?_
  refine ti_putI (ci := 10) (k := 0) (N := 67) (T := TX10) C hw iw_10 tyX10 tyX10_ok nmX10 rfl ob_60 (by decide) (by decide) fl_X10_154 rfl rfl rfl rfl (fn_10 A _) fs_10_0 dX10_coming_2 (fun H locs hw => ?_)
  obtain ⟨M_1, hM_1⟩ : ∃ z : ti_M, z = uI M 60 0 0 := ⟨_, rfl⟩
  have hw := hw.to hM_1.symm
  have iM_1 : mI Tm M_1 := mI_uI hI hM_1 (by decide) (by decide) trivial
  refine lv_aload_n hx hb dX10_coming_5 rfl (lv_at hl 0 rfl) ?_
  refine lv_iload_n hx hb dX10_coming_6 rfl (lv_at hl 1 rfl) ?_
  refine ti_callVi (ci := 10) (av := [.int z1]) C hw (s_X10_isToCome l D A cy hJ M_1 iM_1 z1) ⟨ml_X10_433, ym_X10_isToCome, yv_X10_isToCome, yi_X10_isToCome, yc_X10_isToCome⟩ yd_X10_isToCome ob_60 (by decide) rfl rfl hl.1 (Nat.le_of_ble_eq_true rfl) ⟨by decide, by decide⟩ ⟨Nat.zero_le _, Nat.zero_le _⟩ dX10_coming_7 (fun r_2 M_3 H locs hp_3 hw => ?_)
  obtain ⟨hm, hz⟩ := hp_3
  have hw := hw.to hm
  have lk_5 : (tY M_1 60 3 0).toInt = (tY M 60 3 0).toInt := by rw [(cg (tY_uIE hM_1) 0)]
  have hj_36_15 : ∀  (H : Heap) (locs : List Loc) (ls : Array Slot), ti_H ti_LM D A cy H0 M_1 H locs → lv_has ls 5 [(0, .ref (A 60 0)), (1, .int z1), (2, .int z2), (3, .int z3)] → W p l e (ti_rm 8) s m args below meth c H locs 0 0 Q (F0 m 36 ls []) := by
    intro  H locs ls  hw hl
    refine lv_iconst (v := (-1)) hx hb dX10_coming_36 (by decide) ?_
    exact hQ _ _ _ _ _ _ hw rfl (⟨(fR_I hM_1 (by decide)), mF_rw hF iM_1 (rw1_qw (qw_I hM_1 (by decide))), (rw1_qw (qw_I hM_1 (by decide))).2.1.1, (rw1_qw (qw_I hM_1 (by decide))).1⟩) dX10_coming_37
  rcases hz with ⟨rfl, d0_4, d1_4, d2_4, d3_4⟩ | rfl
  · refine sb_if_eq (tgt := 36) hx hb (by decide : (1 : Int32).toInt = 1) dX10_coming_10 (by decide) (fun h => absurd h (by decide)) (fun c_10_5 => ?_)
    refine lv_iload_n hx hb dX10_coming_13 rfl (lv_at hl 2 rfl) ?_
    refine ti_callSi (av := [.int z2]) C hw (s_X10_isPlace l D A cy hJ M_1 iM_1 z2) ⟨ml_X10_414, ys_X10_isPlace, yi_X10_isPlace, yc_X10_isPlace⟩ yd_X10_isPlace rfl hl.1 (Nat.le_of_ble_eq_true rfl) ⟨by decide, by decide⟩ ⟨Nat.zero_le _, Nat.zero_le _⟩ dX10_coming_14 (fun r_8 M_9 H locs hp_9 hw => ?_)
    obtain ⟨hm, hz⟩ := hp_9
    have hw := hw.to hm
    rcases hz with ⟨rfl, d0_10, d1_10⟩ | rfl
    · refine sb_if_eq (tgt := 36) hx hb (by decide : (1 : Int32).toInt = 1) dX10_coming_17 (by decide) (fun h => absurd h (by decide)) (fun c_17_10 => ?_)
      refine lv_iload_n hx hb dX10_coming_20 rfl (lv_at hl 3 rfl) ?_
      refine lv_aload_n hx hb dX10_coming_21 rfl (lv_at hl 0 rfl) ?_
      refine ti_get (ci := 10) (k := 34) (N := 67) (T := TX10) (v := .ref (A 60 35)) C hw iw_10 rfl ob_60 (by decide) (by decide) fl_X10_69 rfl rfl dX10_coming_22 ?_
      refine lv_iconst (v := 0) hx hb dX10_coming_25 (by decide) ?_
      refine ti_iald (ci := 10) (k := 34) (n := 23) C hw ob_60 (by decide) (fun _ _ => rfl) (by unfold vp_in; decide) dX10_coming_26 ?_
      refine lv_topi (fun x_13 ex_13 => ?_)
      have yx_13 : tY M_1 60 34 0 = x_13 := ((congrArg _ (by decide)).symm.trans ex_13.symm)
      have bx_13 : 0 ≤ x_13.toInt ∧ x_13.toInt ≤ 120 := mI_ry (k := 34) (i := 0) iM_1 yx_13.symm (by decide)
      have zx_13 : (tY M_1 60 34 0).toInt = x_13.toInt := by rw [yx_13]
      have wx_13 : tY M 60 34 0 = x_13 := ((cg (tY_uIE hM_1) 0)).symm.trans yx_13
      have zwx_13 : (tY M 60 34 0).toInt = x_13.toInt := by rw [wx_13]
      refine sb_icmp_lt (tgt := 36) hx hb rfl rfl dX10_coming_27 (by decide) (fun c_27_13 => ?_) (fun c_27_13 => ?_)
      · exact hj_36_15  _ _ _  hw (lv_sub hl [0, 1, 2, 3] rfl)
      · refine lv_iload_n hx hb dX10_coming_30 rfl (lv_at hl 3 rfl) ?_
        refine lv_bipush (v := 120) hx hb dX10_coming_31 (by decide) ?_
        refine sb_icmp_lt (tgt := 38) hx hb rfl (by decide : (120 : Int32).toInt = 120) dX10_coming_33 (by decide) (fun c_33_14 => ?_) (fun c_33_14 => ?_)
        · refine lv_aload_n hx hb dX10_coming_38 rfl (lv_at hl 0 rfl) ?_
          refine ti_get (ci := 10) (k := 34) (N := 67) (T := TX10) (v := .ref (A 60 35)) C hw iw_10 rfl ob_60 (by decide) (by decide) fl_X10_69 rfl rfl dX10_coming_39 ?_
          refine lv_iconst (v := 0) hx hb dX10_coming_42 (by decide) ?_
          refine ti_iald (ci := 10) (k := 34) (n := 23) C hw ob_60 (by decide) (fun _ _ => rfl) (by unfold vp_in; decide) dX10_coming_43 ?_
          refine ti_top (y := x_13) ((congrArg _ (by decide)).trans ((cg (tY_uIE hM_1) 0).trans wx_13)) ?_
          refine lv_istore (lv' := [(4, .int x_13), (0, .ref (A 60 0)), (1, .int z1), (2, .int z2), (3, .int z3)]) hx hb dX10_coming_44 hl (by decide) rfl (fun ls hl => ?_)
          have hl_46_21 : ∀ (n_22 : Nat) (x_16 : Int32) (M_19 : ti_M) (H : Heap) (locs : List Loc) (ls : Array Slot), (120 - x_16.toInt : Int).toNat < n_22 → (0 ≤ x_16.toInt) → (x_16.toInt ≤ 120) → (mI Tm M_19) → (rw1 M_19 M) → (fR 1 M_19 M) → ti_H ti_LM D A cy H0 M_19 H locs → lv_has ls 5 [(4, .int x_16), (0, .ref (A 60 0)), (1, .int z1), (2, .int z2), (3, .int z3)] → W p l e (ti_rm 8) s m args below meth c H locs 0 0 Q (F0 m 46 ls []) := by
            intro n_22
            induction n_22 with
            | zero => intro x_16 M_19 H locs ls hf_22; exact absurd hf_22 (Nat.not_lt_zero _)
            | succ n_22 ih_22 =>
              intro x_16 M_19 H locs ls hf_22 b_17 b_18 iM_19 f_20 f_21 hw hl
              refine lv_iload hx hb dX10_coming_46 (lv_at hl 0 rfl) ?_
              refine lv_iload_n hx hb dX10_coming_48 rfl (lv_at hl 4 rfl) ?_
              refine sb_icmp_gt (tgt := 100) hx hb rfl rfl dX10_coming_49 (by decide) (fun c_49_22 => ?_) (fun c_49_22 => ?_)
              · refine lv_bipush (v := (-2)) hx hb dX10_coming_100 (by decide) ?_
                exact hQ _ _ _ _ _ _ hw rfl (⟨f_21, mF_rw hF iM_19 f_20, f_20.2.1.1, f_20.1⟩) dX10_coming_102
              · refine lv_aload_n hx hb dX10_coming_52 rfl (lv_at hl 1 rfl) ?_
                refine ti_callVv (ci := 10) (av := []) C hw (f_X10_lays l D A cy hJ M_19 iM_19 ((f_20.2.2.1 0 (by decide)).1 hC0) ((f_20.2.2.1 0 (by decide)).2 hP0)) ⟨ml_X10_442, ym_X10_lays, yv_X10_lays, yi_X10_lays, yc_X10_lays⟩ yd_X10_lays ob_60 (by decide) rfl rfl hl.1 (Nat.le_of_ble_eq_true rfl) ⟨by decide, by decide⟩ ⟨Nat.zero_le _, Nat.zero_le _⟩ dX10_coming_53 (fun M_25 H locs hp_25 hw => ?_)
                obtain ⟨frM_25, hqM_25⟩ := hp_25
                obtain ⟨iM_25, q_26, q_27, q_28, q_29, q_30, q_31⟩ := hqM_25
                refine lv_aload_n hx hb dX10_coming_56 rfl (lv_at hl 1 rfl) ?_
                refine ti_get (ci := 10) (k := 44) (N := 67) (T := TX10) (v := .ref (A 60 45)) C hw iw_10 rfl ob_60 (by decide) (by decide) fl_X10_99 rfl rfl dX10_coming_57 ?_
                refine lv_bipush (v := 8) hx hb dX10_coming_60 (by decide) ?_
                refine lv_iload_n hx hb dX10_coming_62 rfl (lv_at hl 2 rfl) ?_
                refine lv_iadd hx hb dX10_coming_63 ?_
                refine lv_topi (fun x_32 ex_32 => ?_)
                have lox_32z1 := z1.le_toInt
                have hix_32z1 := z1.toInt_lt
                have tx_32 : x_32.toInt = 8 + z1.toInt := i_add ex_32 (by decide : (8 : Int32).toInt = 8) rfl (by omega) (by omega)
                refine lv_iload hx hb dX10_coming_64 (lv_at hl 0 rfl) ?_
                refine ti_iast (ci := 10) (k := 44) (n := 184) C hw ob_60 (by decide) (fun _ _ => rfl) (vp_in_iff.mpr (by omega)) dX10_coming_66 (fun H locs hw => ?_)
                obtain ⟨M_33, hM_33⟩ : ∃ z : ti_M, z = uY M_25 60 44 (upd (tY M_25 60 44) (x_32 : Int32).toNatClampNeg x_16) := ⟨_, rfl⟩
                have hw := hw.to hM_33.symm
                have iM_33 : mI Tm M_33 := mI_up (i := x_32.toNatClampNeg) iM_25 hM_33 trivial
                refine lv_aload_n hx hb dX10_coming_67 rfl (lv_at hl 1 rfl) ?_
                refine lv_iload_n hx hb dX10_coming_68 rfl (lv_at hl 4 rfl) ?_
                refine lv_iconst (v := 1) hx hb dX10_coming_69 (by decide) ?_
                refine lv_iadd hx hb dX10_coming_70 ?_
                refine lv_topi (fun x_34 ex_34 => ?_)
                refine lv_aload_n hx hb dX10_coming_71 rfl (lv_at hl 1 rfl) ?_
                refine ti_get (ci := 10) (k := 34) (N := 67) (T := TX10) (v := .ref (A 60 35)) C hw iw_10 rfl ob_60 (by decide) (by decide) fl_X10_69 rfl rfl dX10_coming_72 ?_
                refine lv_iconst (v := 0) hx hb dX10_coming_75 (by decide) ?_
                refine ti_iald (ci := 10) (k := 34) (n := 23) C hw ob_60 (by decide) (fun _ _ => rfl) (by unfold vp_in; decide) dX10_coming_76 ?_
                refine lv_topi (fun x_35 ex_35 => ?_)
                have yx_35 : tY M_33 60 34 0 = x_35 := ((congrArg _ (by decide)).symm.trans ex_35.symm)
                have bx_35 : 0 ≤ x_35.toInt ∧ x_35.toInt ≤ 120 := mI_ry (k := 34) (i := 0) iM_33 yx_35.symm (by decide)
                have zx_35 : (tY M_33 60 34 0).toInt = x_35.toInt := by rw [yx_35]
                have wx_35 : tY M_25 60 34 0 = x_35 := ((cg (tY_nE hM_33 (nk (by decide))) 0)).symm.trans yx_35
                have zwx_35 : (tY M_25 60 34 0).toInt = x_35.toInt := by rw [wx_35]
                refine lv_isub hx hb dX10_coming_77 ?_
                refine lv_topi (fun x_36 ex_36 => ?_)
                refine ti_callVv (ci := 10) (av := [.int x_36]) C hw (f_X10_runs l D A cy hJ M_33 iM_33 (mC_qw (qw_Y hM_33 (by decide)) q_27) (mL_lw (lk.trans (lk_Y hM_33 (by decide)) (lk.trans (lk_of q_26.1 q_26.2.1) (lk_of f_20.1 f_20.2.1))).1 hL) x_36) ⟨ml_X10_445, ym_X10_runs, yv_X10_runs, yi_X10_runs, yc_X10_runs⟩ yd_X10_runs ob_60 (by decide) rfl rfl hl.1 (Nat.le_of_ble_eq_true rfl) ⟨by decide, by decide⟩ ⟨Nat.zero_le _, Nat.zero_le _⟩ dX10_coming_78 (fun M_38 H locs hp_38 hw => ?_)
                obtain ⟨frM_38, hqM_38⟩ := hp_38
                obtain ⟨iM_38, q_39, q_40⟩ := hqM_38
                refine lv_aload_n hx hb dX10_coming_81 rfl (lv_at hl 1 rfl) ?_
                refine lv_iconst (v := 1) hx hb dX10_coming_82 (by decide) ?_
                refine lv_iload_n hx hb dX10_coming_83 rfl (lv_at hl 3 rfl) ?_
                refine ti_callVi (ci := 10) (av := [.int 1, .int z2]) C hw (s_X10_standsAt_1 l D A cy hJ M_38 iM_38 z2 (by first | omega | decide) (by first | omega | decide)) ⟨ml_X10_417, ym_X10_standsAt, yv_X10_standsAt, yi_X10_standsAt, yc_X10_standsAt⟩ yd_X10_standsAt ob_60 (by decide) rfl rfl hl.1 (Nat.le_of_ble_eq_true rfl) ⟨by decide, by decide⟩ ⟨Nat.zero_le _, Nat.zero_le _⟩ dX10_coming_84 (fun r_41 M_42 H locs hp_42 hw => ?_)
                obtain ⟨hm, b0r_41, b1r_41⟩ := hp_42
                have hw := hw.to hm
                refine lv_iload_n hx hb dX10_coming_87 rfl (lv_at hl 2 rfl) ?_
                refine sb_icmp_ne (tgt := 94) hx hb rfl rfl dX10_coming_88 (by decide) (fun c_88_42 => ?_) (fun c_88_42 => ?_)
                · obtain ⟨x_44, ex_44⟩ : ∃ z : Int32, z = x_16 + 1 := ⟨_, rfl⟩
                  have tx_44 : x_44.toInt = x_16.toInt + 1 := i_add ex_44 rfl (by decide) (by omega) (by omega)
                  refine lv_iinc (v := x_44) (lv' := [(4, .int x_44), (0, .ref (A 60 0)), (1, .int z1), (2, .int z2), (3, .int z3)]) hx hb dX10_coming_94 hl (k := 0) rfl (by rw [ex_44]; rfl) (by decide) rfl (fun ls hl => ?_)
                  refine lv_goto (tgt := 46) hx hb dX10_coming_97 (by decide) ?_
                  exact ih_22 x_44 M_38 _ _ _ (by omega) (by first | omega | decide) (by first | omega | decide) iM_38 (rw1.trans (rw1_rq q_39) (rw1.trans (rw1_qw (qw_Y hM_33 (by decide))) (rw1.trans (rw1_rq q_26) f_20))) (fR.trans frM_38 (fR.trans (fR_Y hM_33 (bk_m (z := x_32) (by omega) (by decide))) (fR.trans frM_25 f_21))) hw (lv_sub hl [0, 1, 2, 3, 4] rfl)
                · refine lv_iload hx hb dX10_coming_91 (lv_at hl 0 rfl) ?_
                  exact hQ _ _ _ _ _ _ hw rfl (⟨(fR.trans frM_38 (fR.trans (fR_Y hM_33 (bk_m (z := x_32) (by omega) (by decide))) (fR.trans frM_25 f_21))), mF_rw hF iM_38 (rw1.trans (rw1_rq q_39) (rw1.trans (rw1_qw (qw_Y hM_33 (by decide))) (rw1.trans (rw1_rq q_26) f_20))), (rw1.trans (rw1_rq q_39) (rw1.trans (rw1_qw (qw_Y hM_33 (by decide))) (rw1.trans (rw1_rq q_26) f_20))).2.1.1, (rw1.trans (rw1_rq q_39) (rw1.trans (rw1_qw (qw_Y hM_33 (by decide))) (rw1.trans (rw1_rq q_26) f_20))).1⟩) dX10_coming_93
          exact hl_46_21 ((120 - x_13.toInt : Int).toNat + 1) x_13 M_1 _ _ _ (Nat.lt_succ_self _) (by first | omega | decide) (by first | omega | decide) iM_1 (rw1_qw (qw_I hM_1 (by decide))) (fR_I hM_1 (by decide)) hw (lv_sub hl [0, 1, 2, 3, 4] rfl)
        · exact hj_36_15  _ _ _  hw (lv_sub hl [0, 1, 2, 3] rfl)
    · refine sb_if_eq (tgt := 36) hx hb (by decide : (0 : Int32).toInt = 0) dX10_coming_17 (by decide) (fun c_17_11 => ?_) (fun h => absurd h (by decide))
      exact hj_36_15  _ _ _  hw (lv_sub hl [0, 1, 2, 3] rfl)
  · refine sb_if_eq (tgt := 36) hx hb (by decide : (0 : Int32).toInt = 0) dX10_coming_10 (by decide) (fun c_10_6 => ?_) (fun h => absurd h (by decide))
    exact hj_36_15  _ _ _  hw (lv_sub hl [0, 1, 2, 3] rfl)
set_option maxHeartbeats 4000000 in
set_option maxRecDepth 100000 in
theorem f_X10_best (l : Launch) (D : va_G) (A : Nat → Nat → Nat) (cy : Nat → ClassId) (hJ : ti_inj ti_LM A) (M : ti_M) (hI : mI Tm M) (hF : mF Tm M) (z1 : Int32) (z2 : Int32) (z3 : Int32) (z4 : Int32) : ti_Ki l yX10_best cX10_best 10 (some .int) 7 ti_LM D A cy M [.ref (A 60 0), .int z1, .int z2, .int z3, .int z4] (fun r M2 => fR 1 M2 M ∧ mF Tm M2 ∧ tI M2 60 2 = tI M 60 2 ∧ lw M2 M) := by
  refine ti_eI yp_X10_best hJ ti_LM_nd (Nat.le_of_ble_eq_true rfl) ?_
  intro p e s m args below meth c Q H0 C hQ hw ls hl
  have hx := C.1
  have hb := C.2.1
  have hl : lv_has ls 10 [(0, .ref (A 60 0)), (1, .int z1), (2, .int z2), (3, .int z3), (4, .int z4)] := hl
  have hL : mL M := hF.2.1
  have hC0 : mC M 0 := hF.2.2.1.1
  have hP0 : mP M 0 := hF.2.2.1.2
  refine lv_aload_n hx hb dX10_best_0 rfl (lv_at hl 0 rfl) ?_
  refine lv_iconst (v := 0) hx hb dX10_best_1 (by decide) ?_
  refine ti_putI (ci := 10) (k := 0) (N := 67) (T := TX10) C hw iw_10 tyX10 tyX10_ok nmX10 rfl ob_60 (by decide) (by decide) fl_X10_154 rfl rfl rfl rfl (fn_10 A _) fs_10_0 dX10_best_2 (fun H locs hw => ?_)
  obtain ⟨M_1, hM_1⟩ : ∃ z : ti_M, z = uI M 60 0 0 := ⟨_, rfl⟩
  have hw := hw.to hM_1.symm
  have iM_1 : mI Tm M_1 := mI_uI hI hM_1 (by decide) (by decide) trivial
  refine lv_iload_n hx hb dX10_best_5 rfl (lv_at hl 1 rfl) ?_
  refine ti_callSi (av := [.int z1]) C hw (s_X10_isPower l D A cy hJ M_1 iM_1 z1) ⟨ml_X10_420, ys_X10_isPower, yi_X10_isPower, yc_X10_isPower⟩ yd_X10_isPower rfl hl.1 (Nat.le_of_ble_eq_true rfl) ⟨by decide, by decide⟩ ⟨Nat.zero_le _, Nat.zero_le _⟩ dX10_best_6 (fun r_2 M_3 H locs hp_3 hw => ?_)
  obtain ⟨hm, hz⟩ := hp_3
  have hw := hw.to hm
  have hj_39_19 : ∀  (H : Heap) (locs : List Loc) (ls : Array Slot), ti_H ti_LM D A cy H0 M_1 H locs → lv_has ls 10 [(0, .ref (A 60 0)), (1, .int z1), (2, .int z2), (3, .int z3), (4, .int z4)] → W p l e (ti_rm 7) s m args below meth c H locs 0 0 Q (F0 m 39 ls []) := by
    intro  H locs ls  hw hl
    refine lv_iconst (v := (-1)) hx hb dX10_best_39 (by decide) ?_
    exact hQ _ _ _ _ _ _ hw rfl (⟨(fR_I hM_1 (by decide)), mF_rw hF iM_1 (rw1_qw (qw_I hM_1 (by decide))), (rw1_qw (qw_I hM_1 (by decide))).2.1.1, (rw1_qw (qw_I hM_1 (by decide))).1⟩) dX10_best_40
  rcases hz with ⟨rfl, d0_4, d1_4⟩ | rfl
  · refine sb_if_eq (tgt := 39) hx hb (by decide : (1 : Int32).toInt = 1) dX10_best_9 (by decide) (fun h => absurd h (by decide)) (fun c_9_4 => ?_)
    refine lv_aload_n hx hb dX10_best_12 rfl (lv_at hl 0 rfl) ?_
    refine lv_iload_n hx hb dX10_best_13 rfl (lv_at hl 2 rfl) ?_
    refine ti_callVi (ci := 10) (av := [.int z2]) C hw (s_X10_isMan l D A cy hJ M_1 iM_1 z2) ⟨ml_X10_356, ym_X10_isMan, yv_X10_isMan, yi_X10_isMan, yc_X10_isMan⟩ yd_X10_isMan ob_60 (by decide) rfl rfl hl.1 (Nat.le_of_ble_eq_true rfl) ⟨by decide, by decide⟩ ⟨Nat.zero_le _, Nat.zero_le _⟩ dX10_best_14 (fun r_7 M_8 H locs hp_8 hw => ?_)
    obtain ⟨hm, hz⟩ := hp_8
    have hw := hw.to hm
    have lk_10 : (tY M_1 60 3 0).toInt = (tY M 60 3 0).toInt := by rw [(cg (tY_uIE hM_1) 0)]
    rcases hz with ⟨rfl, d0_9, d1_9, d2_9⟩ | rfl
    · refine sb_if_eq (tgt := 39) hx hb (by decide : (1 : Int32).toInt = 1) dX10_best_17 (by decide) (fun h => absurd h (by decide)) (fun c_17_10 => ?_)
      refine lv_aload_n hx hb dX10_best_20 rfl (lv_at hl 0 rfl) ?_
      refine lv_iload_n hx hb dX10_best_21 rfl (lv_at hl 3 rfl) ?_
      refine ti_callVi (ci := 10) (av := [.int z3]) C hw (s_X10_isLong l D A cy hJ M_1 iM_1 z3) ⟨ml_X10_461, ym_X10_isLong, yv_X10_isLong, yi_X10_isLong, yc_X10_isLong⟩ yd_X10_isLong ob_60 (by decide) rfl rfl hl.1 (Nat.le_of_ble_eq_true rfl) ⟨by decide, by decide⟩ ⟨Nat.zero_le _, Nat.zero_le _⟩ dX10_best_22 (fun r_13 M_14 H locs hp_14 hw => ?_)
      obtain ⟨hm, hz⟩ := hp_14
      have hw := hw.to hm
      rcases hz with ⟨rfl, d0_15, d1_15⟩ | rfl
      · refine sb_if_eq (tgt := 39) hx hb (by decide : (1 : Int32).toInt = 1) dX10_best_25 (by decide) (fun h => absurd h (by decide)) (fun c_25_15 => ?_)
        refine lv_iload hx hb dX10_best_28 (lv_at hl 4 rfl) ?_
        refine sb_if_lt (tgt := 39) hx hb rfl dX10_best_30 (by decide) (fun c_30_17 => ?_) (fun c_30_17 => ?_)
        · exact hj_39_19  _ _ _  hw (lv_sub hl [0, 1, 2, 3, 4] rfl)
        · refine lv_iload hx hb dX10_best_33 (lv_at hl 4 rfl) ?_
          refine lv_iconst (v := 1) hx hb dX10_best_35 (by decide) ?_
          refine sb_icmp_le (tgt := 41) hx hb rfl (by decide : (1 : Int32).toInt = 1) dX10_best_36 (by decide) (fun c_36_18 => ?_) (fun c_36_18 => ?_)
          · refine lv_iconst (v := (-1)) hx hb dX10_best_41 (by decide) ?_
            refine lv_istore (lv' := [(5, .int (-1)), (0, .ref (A 60 0)), (1, .int z1), (2, .int z2), (3, .int z3), (4, .int z4)]) hx hb dX10_best_42 hl (by decide) rfl (fun ls hl => ?_)
            refine lv_iconst (v := 0) hx hb dX10_best_44 (by decide) ?_
            refine lv_istore (lv' := [(6, .int 0), (5, .int (-1)), (0, .ref (A 60 0)), (1, .int z1), (2, .int z2), (3, .int z3), (4, .int z4)]) hx hb dX10_best_45 hl (by decide) rfl (fun ls hl => ?_)
            refine lv_iconst (v := 0) hx hb dX10_best_47 (by decide) ?_
            refine lv_istore (lv' := [(7, .int 0), (6, .int 0), (5, .int (-1)), (0, .ref (A 60 0)), (1, .int z1), (2, .int z2), (3, .int z3), (4, .int z4)]) hx hb dX10_best_48 hl (by decide) rfl (fun ls hl => ?_)
            have hl_50_27 : ∀ (n_28 : Nat) (x_20 : Int32) (x_23 : Int32) (x_24 : Int32) (M_25 : ti_M) (H : Heap) (locs : List Loc) (ls : Array Slot), (8 - x_20.toInt : Int).toNat < n_28 → (0 ≤ x_20.toInt) → (x_20.toInt ≤ 8) → (mI Tm M_25) → (rw1 M_25 M) → (fR 1 M_25 M) → ti_H ti_LM D A cy H0 M_25 H locs → lv_has ls 10 [(7, .int x_20), (6, .int x_23), (5, .int x_24), (0, .ref (A 60 0)), (1, .int z1), (2, .int z2), (3, .int z3), (4, .int z4)] → W p l e (ti_rm 7) s m args below meth c H locs 0 0 Q (F0 m 50 ls []) := by
              intro n_28
              induction n_28 with
              | zero => intro x_20 x_23 x_24 M_25 H locs ls hf_28; exact absurd hf_28 (Nat.not_lt_zero _)
              | succ n_28 ih_28 =>
                intro x_20 x_23 x_24 M_25 H locs ls hf_28 b_21 b_22 iM_25 f_26 f_27 hw hl
                refine lv_iload hx hb dX10_best_50 (lv_at hl 0 rfl) ?_
                refine lv_bipush (v := 8) hx hb dX10_best_52 (by decide) ?_
                refine sb_icmp_ge (tgt := 146) hx hb rfl (by decide : (8 : Int32).toInt = 8) dX10_best_54 (by decide) (fun c_54_28 => ?_) (fun c_54_28 => ?_)
                · refine lv_iload hx hb dX10_best_146 (lv_at hl 7 rfl) ?_
                  refine sb_if_ne (tgt := 156) hx hb rfl dX10_best_148 (by decide) (fun c_148_66 => ?_) (fun c_148_66 => ?_)
                  · refine lv_iload hx hb dX10_best_156 (lv_at hl 1 rfl) ?_
                    exact hQ _ _ _ _ _ _ hw rfl (⟨f_27, mF_rw hF iM_25 f_26, f_26.2.1.1, f_26.1⟩) dX10_best_158
                  · refine lv_iload hx hb dX10_best_151 (lv_at hl 2 rfl) ?_
                    refine lv_goto (tgt := 158) hx hb dX10_best_153 (by decide) ?_
                    exact hQ _ _ _ _ _ _ hw rfl (⟨f_27, mF_rw hF iM_25 f_26, f_26.2.1.1, f_26.1⟩) dX10_best_158
                · refine lv_aload_n hx hb dX10_best_57 rfl (lv_at hl 3 rfl) ?_
                  refine ti_callVv (ci := 10) (av := []) C hw (f_X10_lays l D A cy hJ M_25 iM_25 ((f_26.2.2.1 0 (by decide)).1 hC0) ((f_26.2.2.1 0 (by decide)).2 hP0)) ⟨ml_X10_442, ym_X10_lays, yv_X10_lays, yi_X10_lays, yc_X10_lays⟩ yd_X10_lays ob_60 (by decide) rfl rfl hl.1 (Nat.le_of_ble_eq_true rfl) ⟨by decide, by decide⟩ ⟨Nat.zero_le _, Nat.zero_le _⟩ dX10_best_58 (fun M_31 H locs hp_31 hw => ?_)
                  obtain ⟨frM_31, hqM_31⟩ := hp_31
                  obtain ⟨iM_31, q_32, q_33, q_34, q_35, q_36, q_37⟩ := hqM_31
                  refine lv_aload_n hx hb dX10_best_61 rfl (lv_at hl 3 rfl) ?_
                  refine ti_get (ci := 10) (k := 49) (N := 67) (T := TX10) (v := .ref (A 60 50)) C hw iw_10 rfl ob_60 (by decide) (by decide) fl_X10_114 rfl rfl dX10_best_62 ?_
                  refine lv_iconst (v := 3) hx hb dX10_best_65 (by decide) ?_
                  refine lv_iload_n hx hb dX10_best_66 rfl (lv_at hl 4 rfl) ?_
                  refine lv_iadd hx hb dX10_best_67 ?_
                  refine lv_topi (fun x_38 ex_38 => ?_)
                  have lox_38z1 := z1.le_toInt
                  have hix_38z1 := z1.toInt_lt
                  have tx_38 : x_38.toInt = 3 + z1.toInt := i_add ex_38 (by decide : (3 : Int32).toInt = 3) rfl (by omega) (by omega)
                  refine lv_iload hx hb dX10_best_68 (lv_at hl 0 rfl) ?_
                  refine ti_iast (ci := 10) (k := 49) (n := 69) C hw ob_60 (by decide) (fun _ _ => rfl) (vp_in_iff.mpr (by omega)) dX10_best_70 (fun H locs hw => ?_)
                  obtain ⟨M_39, hM_39⟩ : ∃ z : ti_M, z = uY M_31 60 49 (upd (tY M_31 60 49) (x_38 : Int32).toNatClampNeg x_20) := ⟨_, rfl⟩
                  have hw := hw.to hM_39.symm
                  have iM_39 : mI Tm M_39 := mI_up (i := x_38.toNatClampNeg) iM_31 hM_39 (ib_mk (lo := 0) (hi := 7) (by omega) (by omega))
                  refine lv_iconst (v := 0) hx hb dX10_best_71 (by decide) ?_
                  refine lv_istore (lv' := [(8, .int 0), (7, .int x_20), (6, .int x_23), (5, .int x_24), (0, .ref (A 60 0)), (1, .int z1), (2, .int z2), (3, .int z3), (4, .int z4)]) hx hb dX10_best_72 hl (by decide) rfl (fun ls hl => ?_)
                  refine lv_iconst (v := 0) hx hb dX10_best_74 (by decide) ?_
                  refine lv_istore (lv' := [(9, .int 0), (8, .int 0), (7, .int x_20), (6, .int x_23), (5, .int x_24), (0, .ref (A 60 0)), (1, .int z1), (2, .int z2), (3, .int z3), (4, .int z4)]) hx hb dX10_best_75 hl (by decide) rfl (fun ls hl => ?_)
                  have hl_77_47 : ∀ (n_48 : Nat) (x_40 : Int32) (x_43 : Int32) (M_44 : ti_M) (H : Heap) (locs : List Loc) (ls : Array Slot), (60 - x_40.toInt : Int).toNat < n_48 → (0 ≤ x_40.toInt) → (x_40.toInt ≤ 60) → (mI Tm M_44) → (rw1 M_44 M) → (fR 1 M_44 M) → (mC M_44 1) → ti_H ti_LM D A cy H0 M_44 H locs → lv_has ls 10 [(9, .int x_40), (8, .int x_43), (7, .int x_20), (6, .int x_23), (5, .int x_24), (0, .ref (A 60 0)), (1, .int z1), (2, .int z2), (3, .int z3), (4, .int z4)] → W p l e (ti_rm 7) s m args below meth c H locs 0 0 Q (F0 m 77 ls []) := by
                    intro n_48
                    induction n_48 with
                    | zero => intro x_40 x_43 M_44 H locs ls hf_48; exact absurd hf_48 (Nat.not_lt_zero _)
                    | succ n_48 ih_48 =>
                      intro x_40 x_43 M_44 H locs ls hf_48 b_41 b_42 iM_44 f_45 f_46 f_47 hw hl
                      refine lv_iload hx hb dX10_best_77 (lv_at hl 0 rfl) ?_
                      refine lv_iload_n hx hb dX10_best_79 rfl (lv_at hl 8 rfl) ?_
                      refine sb_icmp_ge (tgt := 116) hx hb rfl rfl dX10_best_80 (by decide) (fun c_80_48 => ?_) (fun c_80_48 => ?_)
                      · refine lv_iload hx hb dX10_best_116 (lv_at hl 4 rfl) ?_
                        refine lv_iconst (v := (-1)) hx hb dX10_best_118 (by decide) ?_
                        have hj_140_65 : ∀ (x_64 : Int32) (x_65 : Int32) (H : Heap) (locs : List Loc) (ls : Array Slot), ti_H ti_LM D A cy H0 M_44 H locs → lv_has ls 10 [(9, .int x_40), (8, .int x_43), (7, .int x_20), (6, .int x_64), (5, .int x_65), (0, .ref (A 60 0)), (1, .int z1), (2, .int z2), (3, .int z3), (4, .int z4)] → W p l e (ti_rm 7) s m args below meth c H locs 0 0 Q (F0 m 140 ls []) := by
                          intro x_64 x_65 H locs ls  hw hl
                          obtain ⟨x_66, ex_66⟩ : ∃ z : Int32, z = x_20 + 1 := ⟨_, rfl⟩
                          have tx_66 : x_66.toInt = x_20.toInt + 1 := i_add ex_66 rfl (by decide) (by omega) (by omega)
                          refine lv_iinc (v := x_66) (lv' := [(7, .int x_66), (9, .int x_40), (8, .int x_43), (6, .int x_64), (5, .int x_65), (0, .ref (A 60 0)), (1, .int z1), (2, .int z2), (3, .int z3), (4, .int z4)]) hx hb dX10_best_140 hl (k := 2) rfl (by rw [ex_66]; rfl) (by decide) rfl (fun ls hl => ?_)
                          refine lv_goto (tgt := 50) hx hb dX10_best_143 (by decide) ?_
                          exact ih_28 x_66 x_64 x_65 M_44 _ _ _ (by omega) (by first | omega | decide) (by first | omega | decide) iM_44 f_45 f_46 hw (lv_sub hl [0, 3, 4, 5, 6, 7, 8, 9] rfl)
                        have hj_132_63 : ∀  (H : Heap) (locs : List Loc) (ls : Array Slot), ti_H ti_LM D A cy H0 M_44 H locs → lv_has ls 10 [(9, .int x_40), (8, .int x_43), (7, .int x_20), (6, .int x_23), (5, .int x_24), (0, .ref (A 60 0)), (1, .int z1), (2, .int z2), (3, .int z3), (4, .int z4)] → W p l e (ti_rm 7) s m args below meth c H locs 0 0 Q (F0 m 132 ls []) := by
                          intro  H locs ls  hw hl
                          refine lv_iload hx hb dX10_best_132 (lv_at hl 2 rfl) ?_
                          refine lv_istore (lv' := [(5, .int x_20), (9, .int x_40), (8, .int x_43), (7, .int x_20), (6, .int x_23), (0, .ref (A 60 0)), (1, .int z1), (2, .int z2), (3, .int z3), (4, .int z4)]) hx hb dX10_best_134 hl (by decide) rfl (fun ls hl => ?_)
                          refine lv_iload hx hb dX10_best_136 (lv_at hl 2 rfl) ?_
                          refine lv_istore (lv' := [(6, .int x_43), (5, .int x_20), (9, .int x_40), (8, .int x_43), (7, .int x_20), (0, .ref (A 60 0)), (1, .int z1), (2, .int z2), (3, .int z3), (4, .int z4)]) hx hb dX10_best_138 hl (by decide) rfl (fun ls hl => ?_)
                          exact hj_140_65 x_43 x_20 _ _ _  hw (lv_sub hl [2, 3, 4, 0, 1, 5, 6, 7, 8, 9] rfl)
                        refine sb_icmp_eq (tgt := 132) hx hb rfl (by decide : ((-1) : Int32).toInt = (-1)) dX10_best_119 (by decide) (fun c_119_61 => ?_) (fun c_119_61 => ?_)
                        · exact hj_132_63  _ _ _  hw (lv_sub hl [0, 1, 2, 3, 4, 5, 6, 7, 8, 9] rfl)
                        · refine lv_iload hx hb dX10_best_122 (lv_at hl 1 rfl) ?_
                          refine lv_iload hx hb dX10_best_124 (lv_at hl 3 rfl) ?_
                          refine sb_icmp_gt (tgt := 132) hx hb rfl rfl dX10_best_126 (by decide) (fun c_126_62 => ?_) (fun c_126_62 => ?_)
                          · exact hj_132_63  _ _ _  hw (lv_sub hl [0, 1, 2, 3, 4, 5, 6, 7, 8, 9] rfl)
                          · refine lv_goto (tgt := 140) hx hb dX10_best_129 (by decide) ?_
                            exact hj_140_65 x_23 x_24 _ _ _  hw (lv_sub hl [0, 1, 2, 3, 4, 5, 6, 7, 8, 9] rfl)
                      · refine lv_aload_n hx hb dX10_best_83 rfl (lv_at hl 5 rfl) ?_
                        refine lv_iconst (v := 1) hx hb dX10_best_84 (by decide) ?_
                        refine lv_iconst (v := 0) hx hb dX10_best_85 (by decide) ?_
                        refine ti_callVv (ci := 10) (av := [.int 1, .int 0]) C hw (f_X10_passes_1 l D A cy hJ M_44 iM_44 f_47 (mL_lw (lk_of f_45.1 f_45.2.1).1 hL) 0) ⟨ml_X10_407, ym_X10_passes, yv_X10_passes, yi_X10_passes, yc_X10_passes⟩ yd_X10_passes ob_60 (by decide) rfl rfl hl.1 (Nat.le_of_ble_eq_true rfl) ⟨by decide, by decide⟩ ⟨Nat.zero_le _, Nat.zero_le _⟩ dX10_best_86 (fun M_51 H locs hp_51 hw => ?_)
                        obtain ⟨frM_51, hqM_51⟩ := hp_51
                        obtain ⟨iM_51, q_52, q_53⟩ := hqM_51
                        refine lv_iload hx hb dX10_best_89 (lv_at hl 1 rfl) ?_
                        refine lv_aload_n hx hb dX10_best_91 rfl (lv_at hl 5 rfl) ?_
                        refine lv_iconst (v := 1) hx hb dX10_best_92 (by decide) ?_
                        refine lv_iload hx hb dX10_best_93 (lv_at hl 2 rfl) ?_
                        refine ti_callVi (ci := 10) (av := [.int 1, .int x_20]) C hw (s_X10_standsAt_1 l D A cy hJ M_51 iM_51 x_20 (by first | omega | decide) (by first | omega | decide)) ⟨ml_X10_417, ym_X10_standsAt, yv_X10_standsAt, yi_X10_standsAt, yc_X10_standsAt⟩ yd_X10_standsAt ob_60 (by decide) rfl rfl hl.1 (Nat.le_of_ble_eq_true rfl) ⟨by decide, by decide⟩ ⟨Nat.zero_le _, Nat.zero_le _⟩ dX10_best_95 (fun r_54 M_55 H locs hp_55 hw => ?_)
                        obtain ⟨hm, b0r_54, b1r_54⟩ := hp_55
                        have hw := hw.to hm
                        refine lv_iload_n hx hb dX10_best_98 rfl (lv_at hl 7 rfl) ?_
                        have hj_107_59 : ∀ (x_57 : Int32) (H : Heap) (locs : List Loc) (ls : Array Slot), (0 ≤ x_57.toInt) → (x_57.toInt ≤ 1) → ti_H ti_LM D A cy H0 M_51 H locs → lv_has ls 10 [(9, .int x_40), (8, .int x_43), (7, .int x_20), (6, .int x_23), (5, .int x_24), (0, .ref (A 60 0)), (1, .int z1), (2, .int z2), (3, .int z3), (4, .int z4)] → W p l e (ti_rm 7) s m args below meth c H locs 0 0 Q (F0 m 107 ls [.int x_57, .int x_43]) := by
                          intro x_57 H locs ls b_58 b_59 hw hl
                          refine lv_iadd hx hb dX10_best_107 ?_
                          refine lv_topi (fun x_60 ex_60 => ?_)
                          refine lv_istore (lv' := [(8, .int x_60), (9, .int x_40), (7, .int x_20), (6, .int x_23), (5, .int x_24), (0, .ref (A 60 0)), (1, .int z1), (2, .int z2), (3, .int z3), (4, .int z4)]) hx hb dX10_best_108 hl (by decide) rfl (fun ls hl => ?_)
                          obtain ⟨x_61, ex_61⟩ : ∃ z : Int32, z = x_40 + 1 := ⟨_, rfl⟩
                          have tx_61 : x_61.toInt = x_40.toInt + 1 := i_add ex_61 rfl (by decide) (by omega) (by omega)
                          refine lv_iinc (v := x_61) (lv' := [(9, .int x_61), (8, .int x_60), (7, .int x_20), (6, .int x_23), (5, .int x_24), (0, .ref (A 60 0)), (1, .int z1), (2, .int z2), (3, .int z3), (4, .int z4)]) hx hb dX10_best_110 hl (k := 1) rfl (by rw [ex_61]; rfl) (by decide) rfl (fun ls hl => ?_)
                          refine lv_goto (tgt := 77) hx hb dX10_best_113 (by decide) ?_
                          exact ih_48 x_61 x_60 M_51 _ _ _ (by omega) (by first | omega | decide) (by first | omega | decide) iM_51 (rw1.trans (rw1_rq q_52) f_45) (fR.trans frM_51 f_46) q_53 hw (lv_sub hl [0, 1, 2, 3, 4, 5, 6, 7, 8, 9] rfl)
                        refine sb_icmp_ne (tgt := 106) hx hb rfl rfl dX10_best_99 (by decide) (fun c_99_55 => ?_) (fun c_99_55 => ?_)
                        · refine lv_iconst (v := 0) hx hb dX10_best_106 (by decide) ?_
                          exact hj_107_59 0 _ _ _ (by have lt0 : (0 : Int32).toInt = 0 := (by decide); first | omega | decide) (by have lt0 : (0 : Int32).toInt = 0 := (by decide); first | omega | decide) hw (lv_sub hl [0, 1, 2, 3, 4, 5, 6, 7, 8, 9] rfl)
                        · refine lv_iconst (v := 1) hx hb dX10_best_102 (by decide) ?_
                          refine lv_goto (tgt := 107) hx hb dX10_best_103 (by decide) ?_
                          exact hj_107_59 1 _ _ _ (by have lt0 : (1 : Int32).toInt = 1 := (by decide); first | omega | decide) (by have lt0 : (1 : Int32).toInt = 1 := (by decide); first | omega | decide) hw (lv_sub hl [0, 1, 2, 3, 4, 5, 6, 7, 8, 9] rfl)
                  exact hl_77_47 ((60 - 0 : Int).toNat + 1) 0 0 M_39 _ _ _ (Nat.lt_succ_self _) (by have lt0 : (0 : Int32).toInt = 0 := (by decide); first | omega | decide) (by have lt0 : (0 : Int32).toInt = 0 := (by decide); first | omega | decide) iM_39 (rw1.trans (rw1_qw (qw_Y hM_39 (by decide))) (rw1.trans (rw1_rq q_32) f_26)) (fR.trans (fR_Y hM_39 (bk_p (z := x_38) (by omega))) (fR.trans frM_31 f_27)) (mC_qw (qw_Y hM_39 (by decide)) q_33) hw (lv_sub hl [0, 1, 2, 3, 4, 5, 6, 7, 8, 9] rfl)
            exact hl_50_27 ((8 - 0 : Int).toNat + 1) 0 0 (-1) M_1 _ _ _ (Nat.lt_succ_self _) (by have lt0 : ((-1) : Int32).toInt = (-1) := (by decide); have lt1 : (0 : Int32).toInt = 0 := (by decide); first | omega | decide) (by have lt0 : ((-1) : Int32).toInt = (-1) := (by decide); have lt1 : (0 : Int32).toInt = 0 := (by decide); first | omega | decide) iM_1 (rw1_qw (qw_I hM_1 (by decide))) (fR_I hM_1 (by decide)) hw (lv_sub hl [0, 1, 2, 3, 4, 5, 6, 7] rfl)
          · exact hj_39_19  _ _ _  hw (lv_sub hl [0, 1, 2, 3, 4] rfl)
      · refine sb_if_eq (tgt := 39) hx hb (by decide : (0 : Int32).toInt = 0) dX10_best_25 (by decide) (fun c_25_16 => ?_) (fun h => absurd h (by decide))
        exact hj_39_19  _ _ _  hw (lv_sub hl [0, 1, 2, 3, 4] rfl)
    · refine sb_if_eq (tgt := 39) hx hb (by decide : (0 : Int32).toInt = 0) dX10_best_17 (by decide) (fun c_17_11 => ?_) (fun h => absurd h (by decide))
      exact hj_39_19  _ _ _  hw (lv_sub hl [0, 1, 2, 3, 4] rfl)
  · refine sb_if_eq (tgt := 39) hx hb (by decide : (0 : Int32).toInt = 0) dX10_best_9 (by decide) (fun c_9_5 => ?_) (fun h => absurd h (by decide))
    exact hj_39_19  _ _ _  hw (lv_sub hl [0, 1, 2, 3, 4] rfl)
set_option maxHeartbeats 4000000 in
set_option maxRecDepth 100000 in
theorem f_X10_fairest (l : Launch) (D : va_G) (A : Nat → Nat → Nat) (cy : Nat → ClassId) (hJ : ti_inj ti_LM A) (M : ti_M) (hI : mI Tm M) (hF : mF Tm M) (z1 : Int32) (z2 : Int32) (z3 : Int32) : ti_Ki l yX10_fairest cX10_fairest 9 (some .int) 7 ti_LM D A cy M [.ref (A 60 0), .int z1, .int z2, .int z3] (fun r M2 => fR 1 M2 M ∧ mF Tm M2 ∧ tI M2 60 2 = tI M 60 2 ∧ lw M2 M) := by
  refine ti_eI yp_X10_fairest hJ ti_LM_nd (Nat.le_of_ble_eq_true rfl) ?_
  intro p e s m args below meth c Q H0 C hQ hw ls hl
  have hx := C.1
  have hb := C.2.1
  have hl : lv_has ls 9 [(0, .ref (A 60 0)), (1, .int z1), (2, .int z2), (3, .int z3)] := hl
  have hL : mL M := hF.2.1
  have hC0 : mC M 0 := hF.2.2.1.1
  have hP0 : mP M 0 := hF.2.2.1.2
  refine lv_aload_n hx hb dX10_fairest_0 rfl (lv_at hl 0 rfl) ?_
  refine lv_iconst (v := 0) hx hb dX10_fairest_1 (by decide) ?_
  refine ti_putI (ci := 10) (k := 0) (N := 67) (T := TX10) C hw iw_10 tyX10 tyX10_ok nmX10 rfl ob_60 (by decide) (by decide) fl_X10_154 rfl rfl rfl rfl (fn_10 A _) fs_10_0 dX10_fairest_2 (fun H locs hw => ?_)
  obtain ⟨M_1, hM_1⟩ : ∃ z : ti_M, z = uI M 60 0 0 := ⟨_, rfl⟩
  have hw := hw.to hM_1.symm
  have iM_1 : mI Tm M_1 := mI_uI hI hM_1 (by decide) (by decide) trivial
  refine lv_iload_n hx hb dX10_fairest_5 rfl (lv_at hl 1 rfl) ?_
  refine ti_callSi (av := [.int z1]) C hw (s_X10_isPower l D A cy hJ M_1 iM_1 z1) ⟨ml_X10_420, ys_X10_isPower, yi_X10_isPower, yc_X10_isPower⟩ yd_X10_isPower rfl hl.1 (Nat.le_of_ble_eq_true rfl) ⟨by decide, by decide⟩ ⟨Nat.zero_le _, Nat.zero_le _⟩ dX10_fairest_6 (fun r_2 M_3 H locs hp_3 hw => ?_)
  obtain ⟨hm, hz⟩ := hp_3
  have hw := hw.to hm
  have hj_29_13 : ∀  (H : Heap) (locs : List Loc) (ls : Array Slot), ti_H ti_LM D A cy H0 M_1 H locs → lv_has ls 9 [(0, .ref (A 60 0)), (1, .int z1), (2, .int z2), (3, .int z3)] → W p l e (ti_rm 7) s m args below meth c H locs 0 0 Q (F0 m 29 ls []) := by
    intro  H locs ls  hw hl
    refine lv_iconst (v := (-1)) hx hb dX10_fairest_29 (by decide) ?_
    exact hQ _ _ _ _ _ _ hw rfl (⟨(fR_I hM_1 (by decide)), mF_rw hF iM_1 (rw1_qw (qw_I hM_1 (by decide))), (rw1_qw (qw_I hM_1 (by decide))).2.1.1, (rw1_qw (qw_I hM_1 (by decide))).1⟩) dX10_fairest_30
  rcases hz with ⟨rfl, d0_4, d1_4⟩ | rfl
  · refine sb_if_eq (tgt := 29) hx hb (by decide : (1 : Int32).toInt = 1) dX10_fairest_9 (by decide) (fun h => absurd h (by decide)) (fun c_9_4 => ?_)
    refine lv_aload_n hx hb dX10_fairest_12 rfl (lv_at hl 0 rfl) ?_
    refine lv_iload_n hx hb dX10_fairest_13 rfl (lv_at hl 2 rfl) ?_
    refine ti_callVi (ci := 10) (av := [.int z2]) C hw (s_X10_isLong l D A cy hJ M_1 iM_1 z2) ⟨ml_X10_461, ym_X10_isLong, yv_X10_isLong, yi_X10_isLong, yc_X10_isLong⟩ yd_X10_isLong ob_60 (by decide) rfl rfl hl.1 (Nat.le_of_ble_eq_true rfl) ⟨by decide, by decide⟩ ⟨Nat.zero_le _, Nat.zero_le _⟩ dX10_fairest_14 (fun r_7 M_8 H locs hp_8 hw => ?_)
    obtain ⟨hm, hz⟩ := hp_8
    have hw := hw.to hm
    rcases hz with ⟨rfl, d0_9, d1_9⟩ | rfl
    · refine sb_if_eq (tgt := 29) hx hb (by decide : (1 : Int32).toInt = 1) dX10_fairest_17 (by decide) (fun h => absurd h (by decide)) (fun c_17_9 => ?_)
      refine lv_iload_n hx hb dX10_fairest_20 rfl (lv_at hl 3 rfl) ?_
      refine sb_if_lt (tgt := 29) hx hb rfl dX10_fairest_21 (by decide) (fun c_21_11 => ?_) (fun c_21_11 => ?_)
      · exact hj_29_13  _ _ _  hw (lv_sub hl [0, 1, 2, 3] rfl)
      · refine lv_iload_n hx hb dX10_fairest_24 rfl (lv_at hl 3 rfl) ?_
        refine lv_iconst (v := 1) hx hb dX10_fairest_25 (by decide) ?_
        refine sb_icmp_le (tgt := 31) hx hb rfl (by decide : (1 : Int32).toInt = 1) dX10_fairest_26 (by decide) (fun c_26_12 => ?_) (fun c_26_12 => ?_)
        · refine lv_iconst (v := (-1)) hx hb dX10_fairest_31 (by decide) ?_
          refine lv_istore (lv' := [(4, .int (-1)), (0, .ref (A 60 0)), (1, .int z1), (2, .int z2), (3, .int z3)]) hx hb dX10_fairest_32 hl (by decide) rfl (fun ls hl => ?_)
          refine lv_iconst (v := 0) hx hb dX10_fairest_34 (by decide) ?_
          refine lv_istore (lv' := [(5, .int 0), (4, .int (-1)), (0, .ref (A 60 0)), (1, .int z1), (2, .int z2), (3, .int z3)]) hx hb dX10_fairest_35 hl (by decide) rfl (fun ls hl => ?_)
          refine lv_iconst (v := 0) hx hb dX10_fairest_37 (by decide) ?_
          refine lv_istore (lv' := [(6, .int 0), (5, .int 0), (4, .int (-1)), (0, .ref (A 60 0)), (1, .int z1), (2, .int z2), (3, .int z3)]) hx hb dX10_fairest_38 hl (by decide) rfl (fun ls hl => ?_)
          have hl_40_21 : ∀ (n_22 : Nat) (x_14 : Int32) (x_17 : Int32) (x_18 : Int32) (M_19 : ti_M) (H : Heap) (locs : List Loc) (ls : Array Slot), (8 - x_14.toInt : Int).toNat < n_22 → (0 ≤ x_14.toInt) → (x_14.toInt ≤ 8) → (mI Tm M_19) → (rw1 M_19 M) → (fR 1 M_19 M) → ti_H ti_LM D A cy H0 M_19 H locs → lv_has ls 9 [(6, .int x_14), (5, .int x_17), (4, .int x_18), (0, .ref (A 60 0)), (1, .int z1), (2, .int z2), (3, .int z3)] → W p l e (ti_rm 7) s m args below meth c H locs 0 0 Q (F0 m 40 ls []) := by
            intro n_22
            induction n_22 with
            | zero => intro x_14 x_17 x_18 M_19 H locs ls hf_22; exact absurd hf_22 (Nat.not_lt_zero _)
            | succ n_22 ih_22 =>
              intro x_14 x_17 x_18 M_19 H locs ls hf_22 b_15 b_16 iM_19 f_20 f_21 hw hl
              refine lv_iload hx hb dX10_fairest_40 (lv_at hl 0 rfl) ?_
              refine lv_bipush (v := 8) hx hb dX10_fairest_42 (by decide) ?_
              refine sb_icmp_ge (tgt := 145) hx hb rfl (by decide : (8 : Int32).toInt = 8) dX10_fairest_44 (by decide) (fun c_44_22 => ?_) (fun c_44_22 => ?_)
              · refine lv_iload_n hx hb dX10_fairest_145 rfl (lv_at hl 6 rfl) ?_
                refine sb_if_ne (tgt := 154) hx hb rfl dX10_fairest_146 (by decide) (fun c_146_65 => ?_) (fun c_146_65 => ?_)
                · refine lv_iload hx hb dX10_fairest_154 (lv_at hl 1 rfl) ?_
                  exact hQ _ _ _ _ _ _ hw rfl (⟨f_21, mF_rw hF iM_19 f_20, f_20.2.1.1, f_20.1⟩) dX10_fairest_156
                · refine lv_iload hx hb dX10_fairest_149 (lv_at hl 2 rfl) ?_
                  refine lv_goto (tgt := 156) hx hb dX10_fairest_151 (by decide) ?_
                  exact hQ _ _ _ _ _ _ hw rfl (⟨f_21, mF_rw hF iM_19 f_20, f_20.2.1.1, f_20.1⟩) dX10_fairest_156
              · refine lv_aload_n hx hb dX10_fairest_47 rfl (lv_at hl 3 rfl) ?_
                refine ti_callVv (ci := 10) (av := []) C hw (f_X10_lays l D A cy hJ M_19 iM_19 ((f_20.2.2.1 0 (by decide)).1 hC0) ((f_20.2.2.1 0 (by decide)).2 hP0)) ⟨ml_X10_442, ym_X10_lays, yv_X10_lays, yi_X10_lays, yc_X10_lays⟩ yd_X10_lays ob_60 (by decide) rfl rfl hl.1 (Nat.le_of_ble_eq_true rfl) ⟨by decide, by decide⟩ ⟨Nat.zero_le _, Nat.zero_le _⟩ dX10_fairest_48 (fun M_25 H locs hp_25 hw => ?_)
                obtain ⟨frM_25, hqM_25⟩ := hp_25
                obtain ⟨iM_25, q_26, q_27, q_28, q_29, q_30, q_31⟩ := hqM_25
                refine lv_aload_n hx hb dX10_fairest_51 rfl (lv_at hl 3 rfl) ?_
                refine ti_get (ci := 10) (k := 49) (N := 67) (T := TX10) (v := .ref (A 60 50)) C hw iw_10 rfl ob_60 (by decide) (by decide) fl_X10_114 rfl rfl dX10_fairest_52 ?_
                refine lv_iconst (v := 3) hx hb dX10_fairest_55 (by decide) ?_
                refine lv_iload_n hx hb dX10_fairest_56 rfl (lv_at hl 4 rfl) ?_
                refine lv_iadd hx hb dX10_fairest_57 ?_
                refine lv_topi (fun x_32 ex_32 => ?_)
                have lox_32z1 := z1.le_toInt
                have hix_32z1 := z1.toInt_lt
                have tx_32 : x_32.toInt = 3 + z1.toInt := i_add ex_32 (by decide : (3 : Int32).toInt = 3) rfl (by omega) (by omega)
                refine lv_iload hx hb dX10_fairest_58 (lv_at hl 0 rfl) ?_
                refine ti_iast (ci := 10) (k := 49) (n := 69) C hw ob_60 (by decide) (fun _ _ => rfl) (vp_in_iff.mpr (by omega)) dX10_fairest_60 (fun H locs hw => ?_)
                obtain ⟨M_33, hM_33⟩ : ∃ z : ti_M, z = uY M_25 60 49 (upd (tY M_25 60 49) (x_32 : Int32).toNatClampNeg x_14) := ⟨_, rfl⟩
                have hw := hw.to hM_33.symm
                have iM_33 : mI Tm M_33 := mI_up (i := x_32.toNatClampNeg) iM_25 hM_33 (ib_mk (lo := 0) (hi := 7) (by omega) (by omega))
                refine lv_iconst (v := 0) hx hb dX10_fairest_61 (by decide) ?_
                refine lv_istore (lv' := [(7, .int 0), (6, .int x_14), (5, .int x_17), (4, .int x_18), (0, .ref (A 60 0)), (1, .int z1), (2, .int z2), (3, .int z3)]) hx hb dX10_fairest_62 hl (by decide) rfl (fun ls hl => ?_)
                refine lv_iconst (v := 0) hx hb dX10_fairest_64 (by decide) ?_
                refine lv_istore (lv' := [(8, .int 0), (7, .int 0), (6, .int x_14), (5, .int x_17), (4, .int x_18), (0, .ref (A 60 0)), (1, .int z1), (2, .int z2), (3, .int z3)]) hx hb dX10_fairest_65 hl (by decide) rfl (fun ls hl => ?_)
                have hl_67_41 : ∀ (n_42 : Nat) (x_34 : Int32) (x_37 : Int32) (M_38 : ti_M) (H : Heap) (locs : List Loc) (ls : Array Slot), (60 - x_34.toInt : Int).toNat < n_42 → (0 ≤ x_34.toInt) → (x_34.toInt ≤ 60) → (mI Tm M_38) → (rw1 M_38 M) → (fR 1 M_38 M) → (mC M_38 1) → ti_H ti_LM D A cy H0 M_38 H locs → lv_has ls 9 [(8, .int x_34), (7, .int x_37), (6, .int x_14), (5, .int x_17), (4, .int x_18), (0, .ref (A 60 0)), (1, .int z1), (2, .int z2), (3, .int z3)] → W p l e (ti_rm 7) s m args below meth c H locs 0 0 Q (F0 m 67 ls []) := by
                  intro n_42
                  induction n_42 with
                  | zero => intro x_34 x_37 M_38 H locs ls hf_42; exact absurd hf_42 (Nat.not_lt_zero _)
                  | succ n_42 ih_42 =>
                    intro x_34 x_37 M_38 H locs ls hf_42 b_35 b_36 iM_38 f_39 f_40 f_41 hw hl
                    refine lv_iload hx hb dX10_fairest_67 (lv_at hl 0 rfl) ?_
                    refine lv_iload_n hx hb dX10_fairest_69 rfl (lv_at hl 7 rfl) ?_
                    refine sb_icmp_ge (tgt := 109) hx hb rfl rfl dX10_fairest_70 (by decide) (fun c_70_42 => ?_) (fun c_70_42 => ?_)
                    · refine lv_iload hx hb dX10_fairest_109 (lv_at hl 4 rfl) ?_
                      refine lv_iconst (v := (-1)) hx hb dX10_fairest_111 (by decide) ?_
                      have hj_139_64 : ∀ (x_63 : Int32) (x_64 : Int32) (H : Heap) (locs : List Loc) (ls : Array Slot), ti_H ti_LM D A cy H0 M_38 H locs → lv_has ls 9 [(8, .int x_34), (7, .int x_37), (6, .int x_14), (5, .int x_63), (4, .int x_64), (0, .ref (A 60 0)), (1, .int z1), (2, .int z2), (3, .int z3)] → W p l e (ti_rm 7) s m args below meth c H locs 0 0 Q (F0 m 139 ls []) := by
                        intro x_63 x_64 H locs ls  hw hl
                        obtain ⟨x_65, ex_65⟩ : ∃ z : Int32, z = x_14 + 1 := ⟨_, rfl⟩
                        have tx_65 : x_65.toInt = x_14.toInt + 1 := i_add ex_65 rfl (by decide) (by omega) (by omega)
                        refine lv_iinc (v := x_65) (lv' := [(6, .int x_65), (8, .int x_34), (7, .int x_37), (5, .int x_63), (4, .int x_64), (0, .ref (A 60 0)), (1, .int z1), (2, .int z2), (3, .int z3)]) hx hb dX10_fairest_139 hl (k := 2) rfl (by rw [ex_65]; rfl) (by decide) rfl (fun ls hl => ?_)
                        refine lv_goto (tgt := 40) hx hb dX10_fairest_142 (by decide) ?_
                        exact ih_22 x_65 x_63 x_64 M_38 _ _ _ (by omega) (by first | omega | decide) (by first | omega | decide) iM_38 f_39 f_40 hw (lv_sub hl [0, 3, 4, 5, 6, 7, 8] rfl)
                      have hj_128_60 : ∀  (H : Heap) (locs : List Loc) (ls : Array Slot), ti_H ti_LM D A cy H0 M_38 H locs → lv_has ls 9 [(8, .int x_34), (7, .int x_37), (6, .int x_14), (5, .int x_17), (4, .int x_18), (0, .ref (A 60 0)), (1, .int z1), (2, .int z2), (3, .int z3)] → W p l e (ti_rm 7) s m args below meth c H locs 0 0 Q (F0 m 128 ls []) := by
                        intro  H locs ls  hw hl
                        refine lv_iload hx hb dX10_fairest_128 (lv_at hl 2 rfl) ?_
                        refine lv_istore (lv' := [(4, .int x_14), (8, .int x_34), (7, .int x_37), (6, .int x_14), (5, .int x_17), (0, .ref (A 60 0)), (1, .int z1), (2, .int z2), (3, .int z3)]) hx hb dX10_fairest_130 hl (by decide) rfl (fun ls hl => ?_)
                        refine lv_iload hx hb dX10_fairest_132 (lv_at hl 2 rfl) ?_
                        refine ti_callSi (av := [.int x_37]) C hw (s_X10_bitsOf l D A cy hJ M_38 iM_38 x_37) ⟨ml_X10_448, ys_X10_bitsOf, yi_X10_bitsOf, yc_X10_bitsOf⟩ yd_X10_bitsOf rfl hl.1 (Nat.le_of_ble_eq_true rfl) ⟨by decide, by decide⟩ ⟨Nat.zero_le _, Nat.zero_le _⟩ dX10_fairest_134 (fun r_61 M_62 H locs hp_62 hw => ?_)
                        have hm := hp_62
                        have hw := hw.to hm
                        refine lv_istore (lv' := [(5, .int r_61), (4, .int x_14), (8, .int x_34), (7, .int x_37), (6, .int x_14), (0, .ref (A 60 0)), (1, .int z1), (2, .int z2), (3, .int z3)]) hx hb dX10_fairest_137 hl (by decide) rfl (fun ls hl => ?_)
                        exact hj_139_64 r_61 x_14 _ _ _  hw (lv_sub hl [2, 3, 4, 0, 1, 5, 6, 7, 8] rfl)
                      refine sb_icmp_eq (tgt := 128) hx hb rfl (by decide : ((-1) : Int32).toInt = (-1)) dX10_fairest_112 (by decide) (fun c_112_56 => ?_) (fun c_112_56 => ?_)
                      · exact hj_128_60  _ _ _  hw (lv_sub hl [0, 1, 2, 3, 4, 5, 6, 7, 8] rfl)
                      · refine lv_iload hx hb dX10_fairest_115 (lv_at hl 1 rfl) ?_
                        refine ti_callSi (av := [.int x_37]) C hw (s_X10_bitsOf l D A cy hJ M_38 iM_38 x_37) ⟨ml_X10_448, ys_X10_bitsOf, yi_X10_bitsOf, yc_X10_bitsOf⟩ yd_X10_bitsOf rfl hl.1 (Nat.le_of_ble_eq_true rfl) ⟨by decide, by decide⟩ ⟨Nat.zero_le _, Nat.zero_le _⟩ dX10_fairest_117 (fun r_58 M_59 H locs hp_59 hw => ?_)
                        have hm := hp_59
                        have hw := hw.to hm
                        refine lv_iload hx hb dX10_fairest_120 (lv_at hl 3 rfl) ?_
                        refine sb_icmp_gt (tgt := 128) hx hb rfl rfl dX10_fairest_122 (by decide) (fun c_122_59 => ?_) (fun c_122_59 => ?_)
                        · exact hj_128_60  _ _ _  hw (lv_sub hl [0, 1, 2, 3, 4, 5, 6, 7, 8] rfl)
                        · refine lv_goto (tgt := 139) hx hb dX10_fairest_125 (by decide) ?_
                          exact hj_139_64 x_17 x_18 _ _ _  hw (lv_sub hl [0, 1, 2, 3, 4, 5, 6, 7, 8] rfl)
                    · refine lv_aload_n hx hb dX10_fairest_73 rfl (lv_at hl 5 rfl) ?_
                      refine lv_iconst (v := 1) hx hb dX10_fairest_74 (by decide) ?_
                      refine lv_iconst (v := 0) hx hb dX10_fairest_75 (by decide) ?_
                      refine ti_callVv (ci := 10) (av := [.int 1, .int 0]) C hw (f_X10_passes_1 l D A cy hJ M_38 iM_38 f_41 (mL_lw (lk_of f_39.1 f_39.2.1).1 hL) 0) ⟨ml_X10_407, ym_X10_passes, yv_X10_passes, yi_X10_passes, yc_X10_passes⟩ yd_X10_passes ob_60 (by decide) rfl rfl hl.1 (Nat.le_of_ble_eq_true rfl) ⟨by decide, by decide⟩ ⟨Nat.zero_le _, Nat.zero_le _⟩ dX10_fairest_76 (fun M_45 H locs hp_45 hw => ?_)
                      obtain ⟨frM_45, hqM_45⟩ := hp_45
                      obtain ⟨iM_45, q_46, q_47⟩ := hqM_45
                      refine lv_aload_n hx hb dX10_fairest_79 rfl (lv_at hl 5 rfl) ?_
                      refine lv_iconst (v := 1) hx hb dX10_fairest_80 (by decide) ?_
                      refine lv_iload hx hb dX10_fairest_81 (lv_at hl 2 rfl) ?_
                      refine ti_callVi (ci := 10) (av := [.int 1, .int x_14]) C hw (s_X10_standsAt_1 l D A cy hJ M_45 iM_45 x_14 (by first | omega | decide) (by first | omega | decide)) ⟨ml_X10_417, ym_X10_standsAt, yv_X10_standsAt, yi_X10_standsAt, yc_X10_standsAt⟩ yd_X10_standsAt ob_60 (by decide) rfl rfl hl.1 (Nat.le_of_ble_eq_true rfl) ⟨by decide, by decide⟩ ⟨Nat.zero_le _, Nat.zero_le _⟩ dX10_fairest_83 (fun r_48 M_49 H locs hp_49 hw => ?_)
                      obtain ⟨hm, b0r_48, b1r_48⟩ := hp_49
                      have hw := hw.to hm
                      have hj_103_55 : ∀ (x_55 : Int32) (H : Heap) (locs : List Loc) (ls : Array Slot), ti_H ti_LM D A cy H0 M_45 H locs → lv_has ls 9 [(8, .int x_34), (7, .int x_55), (6, .int x_14), (5, .int x_17), (4, .int x_18), (0, .ref (A 60 0)), (1, .int z1), (2, .int z2), (3, .int z3)] → W p l e (ti_rm 7) s m args below meth c H locs 0 0 Q (F0 m 103 ls []) := by
                        intro x_55 H locs ls  hw hl
                        obtain ⟨x_56, ex_56⟩ : ∃ z : Int32, z = x_34 + 1 := ⟨_, rfl⟩
                        have tx_56 : x_56.toInt = x_34.toInt + 1 := i_add ex_56 rfl (by decide) (by omega) (by omega)
                        refine lv_iinc (v := x_56) (lv' := [(8, .int x_56), (7, .int x_55), (6, .int x_14), (5, .int x_17), (4, .int x_18), (0, .ref (A 60 0)), (1, .int z1), (2, .int z2), (3, .int z3)]) hx hb dX10_fairest_103 hl (k := 0) rfl (by rw [ex_56]; rfl) (by decide) rfl (fun ls hl => ?_)
                        refine lv_goto (tgt := 67) hx hb dX10_fairest_106 (by decide) ?_
                        exact ih_42 x_56 x_55 M_45 _ _ _ (by omega) (by first | omega | decide) (by first | omega | decide) iM_45 (rw1.trans (rw1_rq q_46) f_39) (fR.trans frM_45 f_40) q_47 hw (lv_sub hl [0, 1, 2, 3, 4, 5, 6, 7, 8] rfl)
                      refine sb_if_lt (tgt := 103) hx hb rfl dX10_fairest_86 (by decide) (fun c_86_49 => ?_) (fun c_86_49 => ?_)
                      · exact hj_103_55 x_37 _ _ _  hw (lv_sub hl [0, 1, 2, 3, 4, 5, 6, 7, 8] rfl)
                      · refine lv_iload hx hb dX10_fairest_89 (lv_at hl 1 rfl) ?_
                        refine lv_iconst (v := 1) hx hb dX10_fairest_91 (by decide) ?_
                        refine lv_aload_n hx hb dX10_fairest_92 rfl (lv_at hl 5 rfl) ?_
                        refine lv_iconst (v := 1) hx hb dX10_fairest_93 (by decide) ?_
                        refine lv_iload hx hb dX10_fairest_94 (lv_at hl 2 rfl) ?_
                        refine ti_callVi (ci := 10) (av := [.int 1, .int x_14]) C hw (s_X10_standsAt_1 l D A cy hJ M_45 iM_45 x_14 (by first | omega | decide) (by first | omega | decide)) ⟨ml_X10_417, ym_X10_standsAt, yv_X10_standsAt, yi_X10_standsAt, yc_X10_standsAt⟩ yd_X10_standsAt ob_60 (by decide) rfl rfl hl.1 (Nat.le_of_ble_eq_true rfl) ⟨by decide, by decide⟩ ⟨Nat.zero_le _, Nat.zero_le _⟩ dX10_fairest_96 (fun r_51 M_52 H locs hp_52 hw => ?_)
                        obtain ⟨hm, b0r_51, b1r_51⟩ := hp_52
                        have hw := hw.to hm
                        refine lv_ishl hx hb dX10_fairest_99 ?_
                        refine lv_topi (fun x_53 ex_53 => ?_)
                        refine lv_ior hx hb dX10_fairest_100 ?_
                        refine lv_topi (fun x_54 ex_54 => ?_)
                        refine lv_istore (lv' := [(7, .int x_54), (8, .int x_34), (6, .int x_14), (5, .int x_17), (4, .int x_18), (0, .ref (A 60 0)), (1, .int z1), (2, .int z2), (3, .int z3)]) hx hb dX10_fairest_101 hl (by decide) rfl (fun ls hl => ?_)
                        exact hj_103_55 x_54 _ _ _  hw (lv_sub hl [1, 0, 2, 3, 4, 5, 6, 7, 8] rfl)
                exact hl_67_41 ((60 - 0 : Int).toNat + 1) 0 0 M_33 _ _ _ (Nat.lt_succ_self _) (by have lt0 : (0 : Int32).toInt = 0 := (by decide); first | omega | decide) (by have lt0 : (0 : Int32).toInt = 0 := (by decide); first | omega | decide) iM_33 (rw1.trans (rw1_qw (qw_Y hM_33 (by decide))) (rw1.trans (rw1_rq q_26) f_20)) (fR.trans (fR_Y hM_33 (bk_p (z := x_32) (by omega))) (fR.trans frM_25 f_21)) (mC_qw (qw_Y hM_33 (by decide)) q_27) hw (lv_sub hl [0, 1, 2, 3, 4, 5, 6, 7, 8] rfl)
          exact hl_40_21 ((8 - 0 : Int).toNat + 1) 0 0 (-1) M_1 _ _ _ (Nat.lt_succ_self _) (by have lt0 : ((-1) : Int32).toInt = (-1) := (by decide); have lt1 : (0 : Int32).toInt = 0 := (by decide); first | omega | decide) (by have lt0 : ((-1) : Int32).toInt = (-1) := (by decide); have lt1 : (0 : Int32).toInt = 0 := (by decide); first | omega | decide) iM_1 (rw1_qw (qw_I hM_1 (by decide))) (fR_I hM_1 (by decide)) hw (lv_sub hl [0, 1, 2, 3, 4, 5, 6] rfl)
        · exact hj_29_13  _ _ _  hw (lv_sub hl [0, 1, 2, 3] rfl)
    · refine sb_if_eq (tgt := 29) hx hb (by decide : (0 : Int32).toInt = 0) dX10_fairest_17 (by decide) (fun c_17_10 => ?_) (fun h => absurd h (by decide))
      exact hj_29_13  _ _ _  hw (lv_sub hl [0, 1, 2, 3] rfl)
  · refine sb_if_eq (tgt := 29) hx hb (by decide : (0 : Int32).toInt = 0) dX10_fairest_9 (by decide) (fun c_9_5 => ?_) (fun h => absurd h (by decide))
    exact hj_29_13  _ _ _  hw (lv_sub hl [0, 1, 2, 3] rfl)
set_option maxHeartbeats 4000000 in
set_option maxRecDepth 100000 in
theorem f_X10_empty (l : Launch) (D : va_G) (A : Nat → Nat → Nat) (cy : Nat → ClassId) (hJ : ti_inj ti_LM A) (M : ti_M) (hI : mI Tm M) (hF : mF Tm M) (z1 : Int32) (z2 : Int32) : ti_Ki l yX10_empty cX10_empty 6 (some .int) 7 ti_LM D A cy M [.ref (A 60 0), .int z1, .int z2] (fun r M2 => fR 1 M2 M ∧ mF Tm M2 ∧ tI M2 60 2 = tI M 60 2 ∧ lw M2 M) := by
  refine ti_eI yp_X10_empty hJ ti_LM_nd (Nat.le_of_ble_eq_true rfl) ?_
  intro p e s m args below meth c Q H0 C hQ hw ls hl
  have hx := C.1
  have hb := C.2.1
  have hl : lv_has ls 6 [(0, .ref (A 60 0)), (1, .int z1), (2, .int z2)] := hl
  have hL : mL M := hF.2.1
  have hC0 : mC M 0 := hF.2.2.1.1
  have hP0 : mP M 0 := hF.2.2.1.2
  refine lv_aload_n hx hb dX10_empty_0 rfl (lv_at hl 0 rfl) ?_
  refine lv_iconst (v := 0) hx hb dX10_empty_1 (by decide) ?_
  refine ti_putI (ci := 10) (k := 0) (N := 67) (T := TX10) C hw iw_10 tyX10 tyX10_ok nmX10 rfl ob_60 (by decide) (by decide) fl_X10_154 rfl rfl rfl rfl (fn_10 A _) fs_10_0 dX10_empty_2 (fun H locs hw => ?_)
  obtain ⟨M_1, hM_1⟩ : ∃ z : ti_M, z = uI M 60 0 0 := ⟨_, rfl⟩
  have hw := hw.to hM_1.symm
  have iM_1 : mI Tm M_1 := mI_uI hI hM_1 (by decide) (by decide) trivial
  refine lv_aload_n hx hb dX10_empty_5 rfl (lv_at hl 0 rfl) ?_
  refine lv_iload_n hx hb dX10_empty_6 rfl (lv_at hl 1 rfl) ?_
  refine ti_callVi (ci := 10) (av := [.int z1]) C hw (s_X10_isLong l D A cy hJ M_1 iM_1 z1) ⟨ml_X10_461, ym_X10_isLong, yv_X10_isLong, yi_X10_isLong, yc_X10_isLong⟩ yd_X10_isLong ob_60 (by decide) rfl rfl hl.1 (Nat.le_of_ble_eq_true rfl) ⟨by decide, by decide⟩ ⟨Nat.zero_le _, Nat.zero_le _⟩ dX10_empty_7 (fun r_2 M_3 H locs hp_3 hw => ?_)
  obtain ⟨hm, hz⟩ := hp_3
  have hw := hw.to hm
  have hj_22_8 : ∀  (H : Heap) (locs : List Loc) (ls : Array Slot), ti_H ti_LM D A cy H0 M_1 H locs → lv_has ls 6 [(0, .ref (A 60 0)), (1, .int z1), (2, .int z2)] → W p l e (ti_rm 7) s m args below meth c H locs 0 0 Q (F0 m 22 ls []) := by
    intro  H locs ls  hw hl
    refine lv_iconst (v := (-1)) hx hb dX10_empty_22 (by decide) ?_
    exact hQ _ _ _ _ _ _ hw rfl (⟨(fR_I hM_1 (by decide)), mF_rw hF iM_1 (rw1_qw (qw_I hM_1 (by decide))), (rw1_qw (qw_I hM_1 (by decide))).2.1.1, (rw1_qw (qw_I hM_1 (by decide))).1⟩) dX10_empty_23
  rcases hz with ⟨rfl, d0_4, d1_4⟩ | rfl
  · refine sb_if_eq (tgt := 22) hx hb (by decide : (1 : Int32).toInt = 1) dX10_empty_10 (by decide) (fun h => absurd h (by decide)) (fun c_10_4 => ?_)
    refine lv_iload_n hx hb dX10_empty_13 rfl (lv_at hl 2 rfl) ?_
    refine sb_if_lt (tgt := 22) hx hb rfl dX10_empty_14 (by decide) (fun c_14_6 => ?_) (fun c_14_6 => ?_)
    · exact hj_22_8  _ _ _  hw (lv_sub hl [0, 1, 2] rfl)
    · refine lv_iload_n hx hb dX10_empty_17 rfl (lv_at hl 2 rfl) ?_
      refine lv_iconst (v := 1) hx hb dX10_empty_18 (by decide) ?_
      refine sb_icmp_le (tgt := 24) hx hb rfl (by decide : (1 : Int32).toInt = 1) dX10_empty_19 (by decide) (fun c_19_7 => ?_) (fun c_19_7 => ?_)
      · refine lv_aload_n hx hb dX10_empty_24 rfl (lv_at hl 0 rfl) ?_
        refine ti_callVv (ci := 10) (av := []) C hw (f_X10_lays l D A cy hJ M_1 iM_1 (((rw1_qw (qw_I hM_1 (by decide))).2.2.1 0 (by decide)).1 hC0) (((rw1_qw (qw_I hM_1 (by decide))).2.2.1 0 (by decide)).2 hP0)) ⟨ml_X10_442, ym_X10_lays, yv_X10_lays, yi_X10_lays, yc_X10_lays⟩ yd_X10_lays ob_60 (by decide) rfl rfl hl.1 (Nat.le_of_ble_eq_true rfl) ⟨by decide, by decide⟩ ⟨Nat.zero_le _, Nat.zero_le _⟩ dX10_empty_25 (fun M_10 H locs hp_10 hw => ?_)
        obtain ⟨frM_10, hqM_10⟩ := hp_10
        obtain ⟨iM_10, q_11, q_12, q_13, q_14, q_15, q_16⟩ := hqM_10
        refine lv_iconst (v := 0) hx hb dX10_empty_28 (by decide) ?_
        refine lv_istore_n (lv' := [(3, .int 0), (0, .ref (A 60 0)), (1, .int z1), (2, .int z2)]) hx hb dX10_empty_29 rfl hl (by decide) rfl (fun ls hl => ?_)
        refine lv_bipush (v := (-2)) hx hb dX10_empty_30 (by decide) ?_
        refine lv_istore (lv' := [(4, .int (-2)), (3, .int 0), (0, .ref (A 60 0)), (1, .int z1), (2, .int z2)]) hx hb dX10_empty_32 hl (by decide) rfl (fun ls hl => ?_)
        refine lv_iconst (v := 0) hx hb dX10_empty_34 (by decide) ?_
        refine lv_istore (lv' := [(5, .int 0), (4, .int (-2)), (3, .int 0), (0, .ref (A 60 0)), (1, .int z1), (2, .int z2)]) hx hb dX10_empty_35 hl (by decide) rfl (fun ls hl => ?_)
        have hl_37_25 : ∀ (n_26 : Nat) (x_17 : Int32) (x_20 : Int32) (x_21 : Int32) (M_22 : ti_M) (H : Heap) (locs : List Loc) (ls : Array Slot), (60 - x_17.toInt : Int).toNat < n_26 → (0 ≤ x_17.toInt) → (x_17.toInt ≤ 60) → (mI Tm M_22) → (rw1 M_22 M) → (fR 1 M_22 M) → (mC M_22 1) → ti_H ti_LM D A cy H0 M_22 H locs → lv_has ls 6 [(5, .int x_17), (4, .int x_20), (3, .int x_21), (0, .ref (A 60 0)), (1, .int z1), (2, .int z2)] → W p l e (ti_rm 7) s m args below meth c H locs 0 0 Q (F0 m 37 ls []) := by
          intro n_26
          induction n_26 with
          | zero => intro x_17 x_20 x_21 M_22 H locs ls hf_26; exact absurd hf_26 (Nat.not_lt_zero _)
          | succ n_26 ih_26 =>
            intro x_17 x_20 x_21 M_22 H locs ls hf_26 b_18 b_19 iM_22 f_23 f_24 f_25 hw hl
            refine lv_iload hx hb dX10_empty_37 (lv_at hl 0 rfl) ?_
            refine lv_iload_n hx hb dX10_empty_39 rfl (lv_at hl 4 rfl) ?_
            refine sb_icmp_ge (tgt := 87) hx hb rfl rfl dX10_empty_40 (by decide) (fun c_40_26 => ?_) (fun c_40_26 => ?_)
            · refine lv_iload_n hx hb dX10_empty_87 rfl (lv_at hl 5 rfl) ?_
              refine sb_if_ne (tgt := 95) hx hb rfl dX10_empty_88 (by decide) (fun c_88_40 => ?_) (fun c_88_40 => ?_)
              · refine lv_iload hx hb dX10_empty_95 (lv_at hl 1 rfl) ?_
                exact hQ _ _ _ _ _ _ hw rfl (⟨f_24, mF_rw hF iM_22 f_23, f_23.2.1.1, f_23.1⟩) dX10_empty_97
              · refine lv_iload_n hx hb dX10_empty_91 rfl (lv_at hl 2 rfl) ?_
                refine lv_goto (tgt := 97) hx hb dX10_empty_92 (by decide) ?_
                exact hQ _ _ _ _ _ _ hw rfl (⟨f_24, mF_rw hF iM_22 f_23, f_23.2.1.1, f_23.1⟩) dX10_empty_97
            · refine lv_aload_n hx hb dX10_empty_43 rfl (lv_at hl 3 rfl) ?_
              refine lv_iconst (v := 1) hx hb dX10_empty_44 (by decide) ?_
              refine lv_iconst (v := 0) hx hb dX10_empty_45 (by decide) ?_
              refine ti_callVv (ci := 10) (av := [.int 1, .int 0]) C hw (f_X10_passes_1 l D A cy hJ M_22 iM_22 f_25 (mL_lw (lk_of f_23.1 f_23.2.1).1 hL) 0) ⟨ml_X10_407, ym_X10_passes, yv_X10_passes, yi_X10_passes, yc_X10_passes⟩ yd_X10_passes ob_60 (by decide) rfl rfl hl.1 (Nat.le_of_ble_eq_true rfl) ⟨by decide, by decide⟩ ⟨Nat.zero_le _, Nat.zero_le _⟩ dX10_empty_46 (fun M_29 H locs hp_29 hw => ?_)
              obtain ⟨frM_29, hqM_29⟩ := hp_29
              obtain ⟨iM_29, q_30, q_31⟩ := hqM_29
              refine lv_aload_n hx hb dX10_empty_49 rfl (lv_at hl 3 rfl) ?_
              refine ti_get (ci := 10) (k := 38) (N := 67) (T := TX10) (v := .ref (A 60 39)) C hw iw_10 rfl ob_60 (by decide) (by decide) fl_X10_81 rfl rfl dX10_empty_50 ?_
              refine lv_iconst (v := 1) hx hb dX10_empty_53 (by decide) ?_
              refine ti_iald (ci := 10) (k := 38) (n := 23) C hw ob_60 (by decide) (fun _ _ => rfl) (by unfold vp_in; decide) dX10_empty_54 ?_
              refine lv_topi (fun x_32 ex_32 => ?_)
              have yx_32 : tY M_29 60 38 1 = x_32 := ((congrArg _ (by decide)).symm.trans ex_32.symm)
              have bx_32 : 0 ≤ x_32.toInt ∧ x_32.toInt ≤ 8 := mI_ry (k := 38) (i := 1) iM_29 yx_32.symm
              have zx_32 : (tY M_29 60 38 1).toInt = x_32.toInt := by rw [yx_32]
              have hj_81_39 : ∀ (x_38 : Int32) (x_39 : Int32) (H : Heap) (locs : List Loc) (ls : Array Slot), ti_H ti_LM D A cy H0 M_29 H locs → lv_has ls 6 [(5, .int x_17), (4, .int x_38), (3, .int x_39), (0, .ref (A 60 0)), (1, .int z1), (2, .int z2)] → W p l e (ti_rm 7) s m args below meth c H locs 0 0 Q (F0 m 81 ls []) := by
                intro x_38 x_39 H locs ls  hw hl
                obtain ⟨x_40, ex_40⟩ : ∃ z : Int32, z = x_17 + 1 := ⟨_, rfl⟩
                have tx_40 : x_40.toInt = x_17.toInt + 1 := i_add ex_40 rfl (by decide) (by omega) (by omega)
                refine lv_iinc (v := x_40) (lv' := [(5, .int x_40), (4, .int x_38), (3, .int x_39), (0, .ref (A 60 0)), (1, .int z1), (2, .int z2)]) hx hb dX10_empty_81 hl (k := 0) rfl (by rw [ex_40]; rfl) (by decide) rfl (fun ls hl => ?_)
                refine lv_goto (tgt := 37) hx hb dX10_empty_84 (by decide) ?_
                exact ih_26 x_40 x_38 x_39 M_29 _ _ _ (by omega) (by first | omega | decide) (by first | omega | decide) iM_29 (rw1.trans (rw1_rq q_30) f_23) (fR.trans frM_29 f_24) q_31 hw (lv_sub hl [0, 1, 2, 3, 4, 5] rfl)
              refine sb_if_le (tgt := 61) hx hb rfl dX10_empty_55 (by decide) (fun c_55_32 => ?_) (fun c_55_32 => ?_)
              · obtain ⟨x_34, ex_34⟩ : ∃ z : Int32, z = x_21 + 1 := ⟨_, rfl⟩
                refine lv_iinc (v := x_34) (lv' := [(3, .int x_34), (5, .int x_17), (4, .int x_20), (0, .ref (A 60 0)), (1, .int z1), (2, .int z2)]) hx hb dX10_empty_61 hl (k := 2) rfl (by rw [ex_34]; rfl) (by decide) rfl (fun ls hl => ?_)
                refine lv_iload hx hb dX10_empty_64 (lv_at hl 2 rfl) ?_
                refine lv_bipush (v := (-2)) hx hb dX10_empty_66 (by decide) ?_
                refine sb_icmp_ne (tgt := 81) hx hb rfl (by decide : ((-2) : Int32).toInt = (-2)) dX10_empty_68 (by decide) (fun c_68_34 => ?_) (fun c_68_34 => ?_)
                · exact hj_81_39 x_20 x_34 _ _ _  hw (lv_sub hl [1, 2, 0, 3, 4, 5] rfl)
                · refine lv_aload_n hx hb dX10_empty_71 rfl (lv_at hl 3 rfl) ?_
                  refine ti_get (ci := 10) (k := 34) (N := 67) (T := TX10) (v := .ref (A 60 35)) C hw iw_10 rfl ob_60 (by decide) (by decide) fl_X10_69 rfl rfl dX10_empty_72 ?_
                  refine lv_iconst (v := 1) hx hb dX10_empty_75 (by decide) ?_
                  refine ti_iald (ci := 10) (k := 34) (n := 23) C hw ob_60 (by decide) (fun _ _ => rfl) (by unfold vp_in; decide) dX10_empty_76 ?_
                  refine lv_topi (fun x_36 ex_36 => ?_)
                  have yx_36 : tY M_29 60 34 1 = x_36 := ((congrArg _ (by decide)).symm.trans ex_36.symm)
                  have zx_36 : (tY M_29 60 34 1).toInt = x_36.toInt := by rw [yx_36]
                  refine lv_iconst (v := 1) hx hb dX10_empty_77 (by decide) ?_
                  refine lv_isub hx hb dX10_empty_78 ?_
                  refine lv_topi (fun x_37 ex_37 => ?_)
                  refine lv_istore (lv' := [(4, .int x_37), (3, .int x_34), (5, .int x_17), (0, .ref (A 60 0)), (1, .int z1), (2, .int z2)]) hx hb dX10_empty_79 hl (by decide) rfl (fun ls hl => ?_)
                  exact hj_81_39 x_37 x_34 _ _ _  hw (lv_sub hl [2, 0, 1, 3, 4, 5] rfl)
              · refine lv_goto (tgt := 81) hx hb dX10_empty_58 (by decide) ?_
                exact hj_81_39 x_20 x_21 _ _ _  hw (lv_sub hl [0, 1, 2, 3, 4, 5] rfl)
        exact hl_37_25 ((60 - 0 : Int).toNat + 1) 0 (-2) 0 M_10 _ _ _ (Nat.lt_succ_self _) (by have lt0 : ((-2) : Int32).toInt = (-2) := (by decide); have lt1 : (0 : Int32).toInt = 0 := (by decide); first | omega | decide) (by have lt0 : ((-2) : Int32).toInt = (-2) := (by decide); have lt1 : (0 : Int32).toInt = 0 := (by decide); first | omega | decide) iM_10 (rw1.trans (rw1_rq q_11) (rw1_qw (qw_I hM_1 (by decide)))) (fR.trans frM_10 (fR_I hM_1 (by decide))) q_12 hw (lv_sub hl [0, 1, 2, 3, 4, 5] rfl)
      · exact hj_22_8  _ _ _  hw (lv_sub hl [0, 1, 2] rfl)
  · refine sb_if_eq (tgt := 22) hx hb (by decide : (0 : Int32).toInt = 0) dX10_empty_10 (by decide) (fun c_10_5 => ?_) (fun h => absurd h (by decide))
    exact hj_22_8  _ _ _  hw (lv_sub hl [0, 1, 2] rfl)
set_option maxHeartbeats 4000000 in
set_option maxRecDepth 100000 in
theorem f_X10_chance (l : Launch) (D : va_G) (A : Nat → Nat → Nat) (cy : Nat → ClassId) (hJ : ti_inj ti_LM A) (M : ti_M) (hI : mI Tm M) (hF : mF Tm M) (z1 : Int32) (z2 : Int32) (z3 : Int32) : ti_Ki l yX10_chance cX10_chance 8 (some .int) 7 ti_LM D A cy M [.ref (A 60 0), .int z1, .int z2, .int z3] (fun r M2 => fR 1 M2 M ∧ mF Tm M2 ∧ tI M2 60 2 = tI M 60 2 ∧ lw M2 M) := by
  refine ti_eI yp_X10_chance hJ ti_LM_nd (Nat.le_of_ble_eq_true rfl) ?_
  intro p e s m args below meth c Q H0 C hQ hw ls hl
  have hx := C.1
  have hb := C.2.1
  have hl : lv_has ls 8 [(0, .ref (A 60 0)), (1, .int z1), (2, .int z2), (3, .int z3)] := hl
  have hL : mL M := hF.2.1
  have hC0 : mC M 0 := hF.2.2.1.1
  have hP0 : mP M 0 := hF.2.2.1.2
  refine lv_aload_n hx hb dX10_chance_0 rfl (lv_at hl 0 rfl) ?_
  refine lv_iconst (v := 0) hx hb dX10_chance_1 (by decide) ?_
  refine ti_putI (ci := 10) (k := 0) (N := 67) (T := TX10) C hw iw_10 tyX10 tyX10_ok nmX10 rfl ob_60 (by decide) (by decide) fl_X10_154 rfl rfl rfl rfl (fn_10 A _) fs_10_0 dX10_chance_2 (fun H locs hw => ?_)
  obtain ⟨M_1, hM_1⟩ : ∃ z : ti_M, z = uI M 60 0 0 := ⟨_, rfl⟩
  have hw := hw.to hM_1.symm
  have iM_1 : mI Tm M_1 := mI_uI hI hM_1 (by decide) (by decide) trivial
  refine lv_iload_n hx hb dX10_chance_5 rfl (lv_at hl 1 rfl) ?_
  have hj_25_13 : ∀  (H : Heap) (locs : List Loc) (ls : Array Slot), ti_H ti_LM D A cy H0 M_1 H locs → lv_has ls 8 [(0, .ref (A 60 0)), (1, .int z1), (2, .int z2), (3, .int z3)] → W p l e (ti_rm 7) s m args below meth c H locs 0 0 Q (F0 m 25 ls []) := by
    intro  H locs ls  hw hl
    refine lv_iconst (v := (-1)) hx hb dX10_chance_25 (by decide) ?_
    exact hQ _ _ _ _ _ _ hw rfl (⟨(fR_I hM_1 (by decide)), mF_rw hF iM_1 (rw1_qw (qw_I hM_1 (by decide))), (rw1_qw (qw_I hM_1 (by decide))).2.1.1, (rw1_qw (qw_I hM_1 (by decide))).1⟩) dX10_chance_26
  refine sb_if_lt (tgt := 25) hx hb rfl dX10_chance_6 (by decide) (fun c_6_1 => ?_) (fun c_6_1 => ?_)
  · exact hj_25_13  _ _ _  hw (lv_sub hl [0, 1, 2, 3] rfl)
  · refine lv_aload_n hx hb dX10_chance_9 rfl (lv_at hl 0 rfl) ?_
    refine lv_iload_n hx hb dX10_chance_10 rfl (lv_at hl 2 rfl) ?_
    refine ti_callVi (ci := 10) (av := [.int z2]) C hw (s_X10_isMan l D A cy hJ M_1 iM_1 z2) ⟨ml_X10_356, ym_X10_isMan, yv_X10_isMan, yi_X10_isMan, yc_X10_isMan⟩ yd_X10_isMan ob_60 (by decide) rfl rfl hl.1 (Nat.le_of_ble_eq_true rfl) ⟨by decide, by decide⟩ ⟨Nat.zero_le _, Nat.zero_le _⟩ dX10_chance_11 (fun r_3 M_4 H locs hp_4 hw => ?_)
    obtain ⟨hm, hz⟩ := hp_4
    have hw := hw.to hm
    have lk_6 : (tY M_1 60 3 0).toInt = (tY M 60 3 0).toInt := by rw [(cg (tY_uIE hM_1) 0)]
    rcases hz with ⟨rfl, d0_5, d1_5, d2_5⟩ | rfl
    · refine sb_if_eq (tgt := 25) hx hb (by decide : (1 : Int32).toInt = 1) dX10_chance_14 (by decide) (fun h => absurd h (by decide)) (fun c_14_6 => ?_)
      refine lv_aload_n hx hb dX10_chance_17 rfl (lv_at hl 0 rfl) ?_
      refine lv_iload_n hx hb dX10_chance_18 rfl (lv_at hl 3 rfl) ?_
      refine ti_callVi (ci := 10) (av := [.int z3]) C hw (s_X10_isLong l D A cy hJ M_1 iM_1 z3) ⟨ml_X10_461, ym_X10_isLong, yv_X10_isLong, yi_X10_isLong, yc_X10_isLong⟩ yd_X10_isLong ob_60 (by decide) rfl rfl hl.1 (Nat.le_of_ble_eq_true rfl) ⟨by decide, by decide⟩ ⟨Nat.zero_le _, Nat.zero_le _⟩ dX10_chance_19 (fun r_9 M_10 H locs hp_10 hw => ?_)
      obtain ⟨hm, hz⟩ := hp_10
      have hw := hw.to hm
      rcases hz with ⟨rfl, d0_11, d1_11⟩ | rfl
      · refine sb_if_ne (tgt := 27) hx hb (by decide : (1 : Int32).toInt = 1) dX10_chance_22 (by decide) (fun c_22_11 => ?_) (fun h => absurd h (by decide))
        refine lv_iload_n hx hb dX10_chance_27 rfl (lv_at hl 1 rfl) ?_
        refine lv_istore (lv' := [(4, .int z1), (0, .ref (A 60 0)), (1, .int z1), (2, .int z2), (3, .int z3)]) hx hb dX10_chance_28 hl (by decide) rfl (fun ls hl => ?_)
        refine lv_iconst (v := 0) hx hb dX10_chance_30 (by decide) ?_
        refine lv_istore (lv' := [(5, .int 0), (4, .int z1), (0, .ref (A 60 0)), (1, .int z1), (2, .int z2), (3, .int z3)]) hx hb dX10_chance_31 hl (by decide) rfl (fun ls hl => ?_)
        refine lv_iconst (v := 0) hx hb dX10_chance_33 (by decide) ?_
        refine lv_istore (lv' := [(6, .int 0), (5, .int 0), (4, .int z1), (0, .ref (A 60 0)), (1, .int z1), (2, .int z2), (3, .int z3)]) hx hb dX10_chance_34 hl (by decide) rfl (fun ls hl => ?_)
        have hl_36_21 : ∀ (n_22 : Nat) (x_14 : Int32) (x_17 : Int32) (x_18 : Int32) (M_19 : ti_M) (H : Heap) (locs : List Loc) (ls : Array Slot), (10 - x_14.toInt : Int).toNat < n_22 → (0 ≤ x_14.toInt) → (x_14.toInt ≤ 10) → (mI Tm M_19) → (rw1 M_19 M) → (fR 1 M_19 M) → ti_H ti_LM D A cy H0 M_19 H locs → lv_has ls 8 [(6, .int x_14), (5, .int x_17), (4, .int x_18), (0, .ref (A 60 0)), (1, .int z1), (2, .int z2), (3, .int z3)] → W p l e (ti_rm 7) s m args below meth c H locs 0 0 Q (F0 m 36 ls []) := by
          intro n_22
          induction n_22 with
          | zero => intro x_14 x_17 x_18 M_19 H locs ls hf_22; exact absurd hf_22 (Nat.not_lt_zero _)
          | succ n_22 ih_22 =>
            intro x_14 x_17 x_18 M_19 H locs ls hf_22 b_15 b_16 iM_19 f_20 f_21 hw hl
            refine lv_iload hx hb dX10_chance_36 (lv_at hl 0 rfl) ?_
            refine lv_bipush (v := 10) hx hb dX10_chance_38 (by decide) ?_
            refine sb_icmp_ge (tgt := 113) hx hb rfl (by decide : (10 : Int32).toInt = 10) dX10_chance_40 (by decide) (fun c_40_22 => ?_) (fun c_40_22 => ?_)
            · refine lv_iload hx hb dX10_chance_113 (lv_at hl 1 rfl) ?_
              exact hQ _ _ _ _ _ _ hw rfl (⟨f_21, mF_rw hF iM_19 f_20, f_20.2.1.1, f_20.1⟩) dX10_chance_115
            · refine lv_aload_n hx hb dX10_chance_43 rfl (lv_at hl 3 rfl) ?_
              refine ti_callVv (ci := 10) (av := []) C hw (f_X10_lays l D A cy hJ M_19 iM_19 ((f_20.2.2.1 0 (by decide)).1 hC0) ((f_20.2.2.1 0 (by decide)).2 hP0)) ⟨ml_X10_442, ym_X10_lays, yv_X10_lays, yi_X10_lays, yc_X10_lays⟩ yd_X10_lays ob_60 (by decide) rfl rfl hl.1 (Nat.le_of_ble_eq_true rfl) ⟨by decide, by decide⟩ ⟨Nat.zero_le _, Nat.zero_le _⟩ dX10_chance_44 (fun M_25 H locs hp_25 hw => ?_)
              obtain ⟨frM_25, hqM_25⟩ := hp_25
              obtain ⟨iM_25, q_26, q_27, q_28, q_29, q_30, q_31⟩ := hqM_25
              refine lv_aload_n hx hb dX10_chance_47 rfl (lv_at hl 3 rfl) ?_
              refine ti_get (ci := 10) (k := 36) (N := 67) (T := TX10) (v := .ref (A 60 37)) C hw iw_10 rfl ob_60 (by decide) (by decide) fl_X10_75 rfl rfl dX10_chance_48 ?_
              refine lv_iconst (v := 1) hx hb dX10_chance_51 (by decide) ?_
              refine lv_iload hx hb dX10_chance_52 (lv_at hl 2 rfl) ?_
              refine ti_iast (ci := 10) (k := 36) (n := 23) C hw ob_60 (by decide) (fun _ _ => rfl) (by unfold vp_in; decide) dX10_chance_54 (fun H locs hw => ?_)
              obtain ⟨M_32, hM_32⟩ : ∃ z : ti_M, z = uY M_25 60 36 (upd (tY M_25 60 36) (1 : Int32).toNatClampNeg x_18) := ⟨_, rfl⟩
              have hw := hw.to hM_32.symm
              have iM_32 : mI Tm M_32 := mI_up (i := 1) iM_25 hM_32 trivial
              refine lv_iconst (v := 0) hx hb dX10_chance_55 (by decide) ?_
              refine lv_istore (lv' := [(7, .int 0), (6, .int x_14), (5, .int x_17), (4, .int x_18), (0, .ref (A 60 0)), (1, .int z1), (2, .int z2), (3, .int z3)]) hx hb dX10_chance_56 hl (by decide) rfl (fun ls hl => ?_)
              have hl_58_39 : ∀ (n_40 : Nat) (x_33 : Int32) (M_36 : ti_M) (H : Heap) (locs : List Loc) (ls : Array Slot), (60 - x_33.toInt : Int).toNat < n_40 → (0 ≤ x_33.toInt) → (x_33.toInt ≤ 60) → (mI Tm M_36) → (rw1 M_36 M) → (fR 1 M_36 M) → (mC M_36 1) → ti_H ti_LM D A cy H0 M_36 H locs → lv_has ls 8 [(7, .int x_33), (6, .int x_14), (5, .int x_17), (4, .int x_18), (0, .ref (A 60 0)), (1, .int z1), (2, .int z2), (3, .int z3)] → W p l e (ti_rm 7) s m args below meth c H locs 0 0 Q (F0 m 58 ls []) := by
                intro n_40
                induction n_40 with
                | zero => intro x_33 M_36 H locs ls hf_40; exact absurd hf_40 (Nat.not_lt_zero _)
                | succ n_40 ih_40 =>
                  intro x_33 M_36 H locs ls hf_40 b_34 b_35 iM_36 f_37 f_38 f_39 hw hl
                  refine lv_iload hx hb dX10_chance_58 (lv_at hl 0 rfl) ?_
                  refine lv_iload_n hx hb dX10_chance_60 rfl (lv_at hl 7 rfl) ?_
                  refine sb_icmp_ge (tgt := 76) hx hb rfl rfl dX10_chance_61 (by decide) (fun c_61_40 => ?_) (fun c_61_40 => ?_)
                  · refine lv_aload_n hx hb dX10_chance_76 rfl (lv_at hl 4 rfl) ?_
                    refine ti_get (ci := 10) (k := 36) (N := 67) (T := TX10) (v := .ref (A 60 37)) C hw iw_10 rfl ob_60 (by decide) (by decide) fl_X10_75 rfl rfl dX10_chance_77 ?_
                    refine lv_iconst (v := 1) hx hb dX10_chance_80 (by decide) ?_
                    refine ti_iald (ci := 10) (k := 36) (n := 23) C hw ob_60 (by decide) (fun _ _ => rfl) (by unfold vp_in; decide) dX10_chance_81 ?_
                    refine lv_topi (fun x_47 ex_47 => ?_)
                    have yx_47 : tY M_36 60 36 1 = x_47 := ((congrArg _ (by decide)).symm.trans ex_47.symm)
                    refine lv_istore (lv' := [(4, .int x_47), (7, .int x_33), (6, .int x_14), (5, .int x_17), (0, .ref (A 60 0)), (1, .int z1), (2, .int z2), (3, .int z3)]) hx hb dX10_chance_82 hl (by decide) rfl (fun ls hl => ?_)
                    refine lv_iload hx hb dX10_chance_84 (lv_at hl 3 rfl) ?_
                    refine lv_aload_n hx hb dX10_chance_86 rfl (lv_at hl 4 rfl) ?_
                    refine ti_get (ci := 10) (k := 40) (N := 67) (T := TX10) (v := .ref (A 60 41)) C hw iw_10 rfl ob_60 (by decide) (by decide) fl_X10_87 rfl rfl dX10_chance_87 ?_
                    refine lv_bipush (v := 8) hx hb dX10_chance_90 (by decide) ?_
                    refine lv_iload_n hx hb dX10_chance_92 rfl (lv_at hl 6 rfl) ?_
                    refine lv_iadd hx hb dX10_chance_93 ?_
                    refine lv_topi (fun x_48 ex_48 => ?_)
                    have lox_48z2 := z2.le_toInt
                    have hix_48z2 := z2.toInt_lt
                    have tx_48 : x_48.toInt = 8 + z2.toInt := i_add ex_48 (by decide : (8 : Int32).toInt = 8) rfl (by omega) (by omega)
                    refine ti_iald (ci := 10) (k := 40) (n := 184) C hw ob_60 (by decide) (fun _ _ => rfl) (vp_in_iff.mpr (by omega)) dX10_chance_94 ?_
                    refine lv_topi (fun x_49 ex_49 => ?_)
                    have yx_49 : tY M_36 60 40 x_48.toNatClampNeg = x_49 := (ex_49.symm)
                    have zx_49 : (tY M_36 60 40 x_48.toNatClampNeg).toInt = x_49.toInt := by rw [yx_49]
                    refine lv_iconst (v := 2) hx hb dX10_chance_95 (by decide) ?_
                    have hj_104_53 : ∀ (x_51 : Int32) (H : Heap) (locs : List Loc) (ls : Array Slot), (0 ≤ x_51.toInt) → (x_51.toInt ≤ 1) → ti_H ti_LM D A cy H0 M_36 H locs → lv_has ls 8 [(4, .int x_47), (7, .int x_33), (6, .int x_14), (5, .int x_17), (0, .ref (A 60 0)), (1, .int z1), (2, .int z2), (3, .int z3)] → W p l e (ti_rm 7) s m args below meth c H locs 0 0 Q (F0 m 104 ls [.int x_51, .int x_17]) := by
                      intro x_51 H locs ls b_52 b_53 hw hl
                      refine lv_iadd hx hb dX10_chance_104 ?_
                      refine lv_topi (fun x_54 ex_54 => ?_)
                      refine lv_istore (lv' := [(5, .int x_54), (4, .int x_47), (7, .int x_33), (6, .int x_14), (0, .ref (A 60 0)), (1, .int z1), (2, .int z2), (3, .int z3)]) hx hb dX10_chance_105 hl (by decide) rfl (fun ls hl => ?_)
                      obtain ⟨x_55, ex_55⟩ : ∃ z : Int32, z = x_14 + 1 := ⟨_, rfl⟩
                      have tx_55 : x_55.toInt = x_14.toInt + 1 := i_add ex_55 rfl (by decide) (by omega) (by omega)
                      refine lv_iinc (v := x_55) (lv' := [(6, .int x_55), (5, .int x_54), (4, .int x_47), (7, .int x_33), (0, .ref (A 60 0)), (1, .int z1), (2, .int z2), (3, .int z3)]) hx hb dX10_chance_107 hl (k := 3) rfl (by rw [ex_55]; rfl) (by decide) rfl (fun ls hl => ?_)
                      refine lv_goto (tgt := 36) hx hb dX10_chance_110 (by decide) ?_
                      exact ih_22 x_55 x_54 x_47 M_36 _ _ _ (by omega) (by first | omega | decide) (by first | omega | decide) iM_36 f_37 f_38 hw (lv_sub hl [0, 1, 2, 4, 5, 6, 7] rfl)
                    refine sb_icmp_ne (tgt := 103) hx hb rfl (by decide : (2 : Int32).toInt = 2) dX10_chance_96 (by decide) (fun c_96_49 => ?_) (fun c_96_49 => ?_)
                    · refine lv_iconst (v := 0) hx hb dX10_chance_103 (by decide) ?_
                      exact hj_104_53 0 _ _ _ (by have lt0 : (0 : Int32).toInt = 0 := (by decide); first | omega | decide) (by have lt0 : (0 : Int32).toInt = 0 := (by decide); first | omega | decide) hw (lv_sub hl [0, 1, 2, 3, 4, 5, 6, 7] rfl)
                    · refine lv_iconst (v := 1) hx hb dX10_chance_99 (by decide) ?_
                      refine lv_goto (tgt := 104) hx hb dX10_chance_100 (by decide) ?_
                      exact hj_104_53 1 _ _ _ (by have lt0 : (1 : Int32).toInt = 1 := (by decide); first | omega | decide) (by have lt0 : (1 : Int32).toInt = 1 := (by decide); first | omega | decide) hw (lv_sub hl [0, 1, 2, 3, 4, 5, 6, 7] rfl)
                  · refine lv_aload_n hx hb dX10_chance_64 rfl (lv_at hl 4 rfl) ?_
                    refine lv_iconst (v := 1) hx hb dX10_chance_65 (by decide) ?_
                    refine lv_iconst (v := 1) hx hb dX10_chance_66 (by decide) ?_
                    refine ti_callVv (ci := 10) (av := [.int 1, .int 1]) C hw (f_X10_passes_1 l D A cy hJ M_36 iM_36 f_39 (mL_lw (lk_of f_37.1 f_37.2.1).1 hL) 1) ⟨ml_X10_407, ym_X10_passes, yv_X10_passes, yi_X10_passes, yc_X10_passes⟩ yd_X10_passes ob_60 (by decide) rfl rfl hl.1 (Nat.le_of_ble_eq_true rfl) ⟨by decide, by decide⟩ ⟨Nat.zero_le _, Nat.zero_le _⟩ dX10_chance_67 (fun M_43 H locs hp_43 hw => ?_)
                    obtain ⟨frM_43, hqM_43⟩ := hp_43
                    obtain ⟨iM_43, q_44, q_45⟩ := hqM_43
                    obtain ⟨x_46, ex_46⟩ : ∃ z : Int32, z = x_33 + 1 := ⟨_, rfl⟩
                    have tx_46 : x_46.toInt = x_33.toInt + 1 := i_add ex_46 rfl (by decide) (by omega) (by omega)
                    refine lv_iinc (v := x_46) (lv' := [(7, .int x_46), (6, .int x_14), (5, .int x_17), (4, .int x_18), (0, .ref (A 60 0)), (1, .int z1), (2, .int z2), (3, .int z3)]) hx hb dX10_chance_70 hl (k := 0) rfl (by rw [ex_46]; rfl) (by decide) rfl (fun ls hl => ?_)
                    refine lv_goto (tgt := 58) hx hb dX10_chance_73 (by decide) ?_
                    exact ih_40 x_46 M_43 _ _ _ (by omega) (by first | omega | decide) (by first | omega | decide) iM_43 (rw1.trans (rw1_rq q_44) f_37) (fR.trans frM_43 f_38) q_45 hw (lv_sub hl [0, 1, 2, 3, 4, 5, 6, 7] rfl)
              exact hl_58_39 ((60 - 0 : Int).toNat + 1) 0 M_32 _ _ _ (Nat.lt_succ_self _) (by have lt0 : (0 : Int32).toInt = 0 := (by decide); first | omega | decide) (by have lt0 : (0 : Int32).toInt = 0 := (by decide); first | omega | decide) iM_32 (rw1.trans (rw1_qw (qw_Y hM_32 (by decide))) (rw1.trans (rw1_rq q_26) f_20)) (fR.trans (fR_Y hM_32 (bk_q (z := 1) (by decide) (by decide))) (fR.trans frM_25 f_21)) (mC_qw (qw_Y hM_32 (by decide)) q_27) hw (lv_sub hl [0, 1, 2, 3, 4, 5, 6, 7] rfl)
        exact hl_36_21 ((10 - 0 : Int).toNat + 1) 0 0 z1 M_1 _ _ _ (Nat.lt_succ_self _) (by have lt0 : (0 : Int32).toInt = 0 := (by decide); first | omega | decide) (by have lt0 : (0 : Int32).toInt = 0 := (by decide); first | omega | decide) iM_1 (rw1_qw (qw_I hM_1 (by decide))) (fR_I hM_1 (by decide)) hw (lv_sub hl [0, 1, 2, 3, 4, 5, 6] rfl)
      · refine sb_if_ne (tgt := 27) hx hb (by decide : (0 : Int32).toInt = 0) dX10_chance_22 (by decide) (fun h => absurd h (by decide)) (fun c_22_12 => ?_)
        exact hj_25_13  _ _ _  hw (lv_sub hl [0, 1, 2, 3] rfl)
    · refine sb_if_eq (tgt := 25) hx hb (by decide : (0 : Int32).toInt = 0) dX10_chance_14 (by decide) (fun c_14_7 => ?_) (fun h => absurd h (by decide))
      exact hj_25_13  _ _ _  hw (lv_sub hl [0, 1, 2, 3] rfl)
set_option maxHeartbeats 4000000 in
set_option maxRecDepth 100000 in
theorem f_X10_layGame (l : Launch) (D : va_G) (A : Nat → Nat → Nat) (cy : Nat → ClassId) (hJ : ti_inj ti_LM A) (M : ti_M) (hI : mI Tm M) (hF : mF Tm M) (z1 : Int32) (z2 : Int32) (z3 : Int32) (h1 : 0 ≤ z1.toInt) (h2 : z1.toInt ≤ 7) (h3 : 0 ≤ z2.toInt) (h4 : z2.toInt ≤ 7) (h5 : (tY M 60 34 0).toInt ≤ 59) : ti_Kv l yX10_layGame cX10_layGame 6 8 ti_LM D A cy M [.ref (A 60 0), .int z1, .int z2, .int z3] (fun M2 => fR 1 M2 M ∧ mI Tm M2 ∧ rw1 M2 M) := by
  refine ti_eV yp_X10_layGame hJ ti_LM_nd (Nat.le_of_ble_eq_true rfl) ?_
  intro p e s m args below meth c Q H0 C hQ hw ls hl
  have hx := C.1
  have hb := C.2.1
  have hl : lv_has ls 6 [(0, .ref (A 60 0)), (1, .int z1), (2, .int z2), (3, .int z3)] := hl
  have hL : mL M := hF.2.1
  have hC0 : mC M 0 := hF.2.2.1.1
  have hP0 : mP M 0 := hF.2.2.1.2
  refine lv_aload_n hx hb dX10_layGame_0 rfl (lv_at hl 0 rfl) ?_
  refine lv_iconst (v := 4) hx hb dX10_layGame_1 (by decide) ?_
  refine lv_bipush (v := 60) hx hb dX10_layGame_2 (by decide) ?_
  refine lv_aload_n hx hb dX10_layGame_4 rfl (lv_at hl 0 rfl) ?_
  refine ti_get (ci := 10) (k := 34) (N := 67) (T := TX10) (v := .ref (A 60 35)) C hw iw_10 rfl ob_60 (by decide) (by decide) fl_X10_69 rfl rfl dX10_layGame_5 ?_
  refine lv_iconst (v := 0) hx hb dX10_layGame_8 (by decide) ?_
  refine ti_iald (ci := 10) (k := 34) (n := 23) C hw ob_60 (by decide) (fun _ _ => rfl) (by unfold vp_in; decide) dX10_layGame_9 ?_
  refine lv_topi (fun x_1 ex_1 => ?_)
  have yx_1 : tY M 60 34 0 = x_1 := ((congrArg _ (by decide)).symm.trans ex_1.symm)
  have bx_1 : 0 ≤ x_1.toInt ∧ x_1.toInt ≤ 120 := mI_ry (k := 34) (i := 0) hI yx_1.symm (by decide)
  have zx_1 : (tY M 60 34 0).toInt = x_1.toInt := by rw [yx_1]
  refine lv_isub hx hb dX10_layGame_10 ?_
  refine lv_topi (fun x_2 ex_2 => ?_)
  have tx_2 : x_2.toInt = 60 - x_1.toInt := i_sub ex_2 (by decide : (60 : Int32).toInt = 60) rfl (by omega) (by omega)
  refine ti_min C ml_X10_380 hl.1 (by decide) (Nat.le_of_ble_eq_true rfl) ⟨Nat.zero_le _, Nat.zero_le _⟩ dX10_layGame_11 ?_
  refine lv_topi (fun x_3 ex_3 => ?_)
  have bx_3 := i_min ex_3 (by decide : (4 : Int32).toInt = 4) rfl
  refine ti_putI (ci := 10) (k := 56) (N := 67) (T := TX10) C hw iw_10 tyX10 tyX10_ok nmX10 rfl ob_60 (by decide) (by decide) fl_X10_451 rfl rfl rfl rfl (fn_10 A _) fs_10_56 dX10_layGame_14 (fun H locs hw => ?_)
  obtain ⟨M_4, hM_4⟩ : ∃ z : ti_M, z = uI M 60 56 x_3 := ⟨_, rfl⟩
  have hw := hw.to hM_4.symm
  have iM_4 : mI Tm M_4 := mI_uI hI hM_4 (by decide) (by decide) (ib_mk (lo := 0) (hi := 4) (by omega) (by omega))
  have vM_4 : (tI M_4 60 56).toInt = (x_3 : Int32).toInt := by rw [tI_uE hM_4]
  refine lv_iconst (v := 0) hx hb dX10_layGame_17 (by decide) ?_
  refine lv_istore (lv' := [(4, .int 0), (0, .ref (A 60 0)), (1, .int z1), (2, .int z2), (3, .int z3)]) hx hb dX10_layGame_18 hl (by decide) rfl (fun ls hl => ?_)
  have hl_20_10 : ∀ (n_11 : Nat) (x_5 : Int32) (M_8 : ti_M) (H : Heap) (locs : List Loc) (ls : Array Slot), (4 - x_5.toInt : Int).toNat < n_11 → (0 ≤ x_5.toInt) → (x_5.toInt ≤ 4) → (mI Tm M_8) → (rw1 M_8 M) → (fR 1 M_8 M) → ti_H ti_LM D A cy H0 M_8 H locs → lv_has ls 6 [(4, .int x_5), (0, .ref (A 60 0)), (1, .int z1), (2, .int z2), (3, .int z3)] → W p l e (ti_rm 8) s m args below meth c H locs 0 0 Q (F0 m 20 ls []) := by
    intro n_11
    induction n_11 with
    | zero => intro x_5 M_8 H locs ls hf_11; exact absurd hf_11 (Nat.not_lt_zero _)
    | succ n_11 ih_11 =>
      intro x_5 M_8 H locs ls hf_11 b_6 b_7 iM_8 f_9 f_10 hw hl
      refine lv_iload hx hb dX10_layGame_20 (lv_at hl 0 rfl) ?_
      refine lv_aload_n hx hb dX10_layGame_22 rfl (lv_at hl 1 rfl) ?_
      refine ti_get (ci := 10) (k := 56) (N := 67) (T := TX10) C hw iw_10 rfl ob_60 (by decide) (by decide) fl_X10_451 rfl rfl dX10_layGame_23 ?_
      refine lv_topi (fun x_12 ex_12 => ?_)
      have bx_12 : 0 ≤ x_12.toInt ∧ x_12.toInt ≤ 4 := mI_rd iM_8 ex_12
      have ux_12 : (tI M_8 60 56).toInt = x_12.toInt := by rw [ex_12]
      refine sb_icmp_ge (tgt := 134) hx hb rfl rfl dX10_layGame_26 (by decide) (fun c_26_12 => ?_) (fun c_26_12 => ?_)
      · exact hQ _ _ _ _ _ hw (⟨f_10, iM_8, f_9⟩) dX10_layGame_134
      · refine lv_iconst (v := 0) hx hb dX10_layGame_29 (by decide) ?_
        refine lv_istore (lv' := [(5, .int 0), (4, .int x_5), (0, .ref (A 60 0)), (1, .int z1), (2, .int z2), (3, .int z3)]) hx hb dX10_layGame_30 hl (by decide) rfl (fun ls hl => ?_)
        have hl_32_19 : ∀ (n_20 : Nat) (x_14 : Int32) (M_17 : ti_M) (H : Heap) (locs : List Loc) (ls : Array Slot), (4 - x_14.toInt : Int).toNat < n_20 → (0 ≤ x_14.toInt) → (x_14.toInt ≤ 4) → (mI Tm M_17) → (rw1 M_17 M) → (fR 1 M_17 M) → ti_H ti_LM D A cy H0 M_17 H locs → lv_has ls 6 [(5, .int x_14), (4, .int x_5), (0, .ref (A 60 0)), (1, .int z1), (2, .int z2), (3, .int z3)] → W p l e (ti_rm 8) s m args below meth c H locs 0 0 Q (F0 m 32 ls []) := by
          intro n_20
          induction n_20 with
          | zero => intro x_14 M_17 H locs ls hf_20; exact absurd hf_20 (Nat.not_lt_zero _)
          | succ n_20 ih_20 =>
            intro x_14 M_17 H locs ls hf_20 b_15 b_16 iM_17 f_18 f_19 hw hl
            refine lv_iload hx hb dX10_layGame_32 (lv_at hl 0 rfl) ?_
            refine lv_aload_n hx hb dX10_layGame_34 rfl (lv_at hl 2 rfl) ?_
            refine ti_get (ci := 10) (k := 56) (N := 67) (T := TX10) C hw iw_10 rfl ob_60 (by decide) (by decide) fl_X10_451 rfl rfl dX10_layGame_35 ?_
            refine lv_topi (fun x_21 ex_21 => ?_)
            have bx_21 : 0 ≤ x_21.toInt ∧ x_21.toInt ≤ 4 := mI_rd iM_17 ex_21
            have ux_21 : (tI M_17 60 56).toInt = x_21.toInt := by rw [ex_21]
            refine sb_icmp_ge (tgt := 128) hx hb rfl rfl dX10_layGame_38 (by decide) (fun c_38_21 => ?_) (fun c_38_21 => ?_)
            · obtain ⟨x_53, ex_53⟩ : ∃ z : Int32, z = x_5 + 1 := ⟨_, rfl⟩
              have tx_53 : x_53.toInt = x_5.toInt + 1 := i_add ex_53 rfl (by decide) (by omega) (by omega)
              refine lv_iinc (v := x_53) (lv' := [(4, .int x_53), (5, .int x_14), (0, .ref (A 60 0)), (1, .int z1), (2, .int z2), (3, .int z3)]) hx hb dX10_layGame_128 hl (k := 1) rfl (by rw [ex_53]; rfl) (by decide) rfl (fun ls hl => ?_)
              refine lv_goto (tgt := 20) hx hb dX10_layGame_131 (by decide) ?_
              exact ih_11 x_53 M_17 _ _ _ (by omega) (by first | omega | decide) (by first | omega | decide) iM_17 f_18 f_19 hw (lv_sub hl [0, 2, 3, 4, 5] rfl)
            · refine lv_aload_n hx hb dX10_layGame_41 rfl (lv_at hl 2 rfl) ?_
              refine ti_callVv (ci := 10) (av := []) C hw (f_X10_lays l D A cy hJ M_17 iM_17 ((f_18.2.2.1 0 (by decide)).1 hC0) ((f_18.2.2.1 0 (by decide)).2 hP0)) ⟨ml_X10_442, ym_X10_lays, yv_X10_lays, yi_X10_lays, yc_X10_lays⟩ yd_X10_lays ob_60 (by decide) rfl rfl hl.1 (Nat.le_of_ble_eq_true rfl) ⟨by decide, by decide⟩ ⟨Nat.zero_le _, Nat.zero_le _⟩ dX10_layGame_42 (fun M_24 H locs hp_24 hw => ?_)
              obtain ⟨frM_24, hqM_24⟩ := hp_24
              obtain ⟨iM_24, q_25, q_26, q_27, q_28, q_29, q_30⟩ := hqM_24
              refine lv_aload_n hx hb dX10_layGame_45 rfl (lv_at hl 2 rfl) ?_
              refine ti_get (ci := 10) (k := 44) (N := 67) (T := TX10) (v := .ref (A 60 45)) C hw iw_10 rfl ob_60 (by decide) (by decide) fl_X10_99 rfl rfl dX10_layGame_46 ?_
              refine lv_bipush (v := 8) hx hb dX10_layGame_49 (by decide) ?_
              refine lv_iload_n hx hb dX10_layGame_51 rfl (lv_at hl 3 rfl) ?_
              refine lv_iadd hx hb dX10_layGame_52 ?_
              refine lv_topi (fun x_31 ex_31 => ?_)
              have lox_31z1 := z1.le_toInt
              have hix_31z1 := z1.toInt_lt
              have tx_31 : x_31.toInt = 8 + z1.toInt := i_add ex_31 (by decide : (8 : Int32).toInt = 8) rfl (by omega) (by omega)
              refine lv_aload_n hx hb dX10_layGame_53 rfl (lv_at hl 2 rfl) ?_
              refine ti_get (ci := 10) (k := 34) (N := 67) (T := TX10) (v := .ref (A 60 35)) C hw iw_10 rfl ob_60 (by decide) (by decide) fl_X10_69 rfl rfl dX10_layGame_54 ?_
              refine lv_iconst (v := 0) hx hb dX10_layGame_57 (by decide) ?_
              refine ti_iald (ci := 10) (k := 34) (n := 23) C hw ob_60 (by decide) (fun _ _ => rfl) (by unfold vp_in; decide) dX10_layGame_58 ?_
              refine lv_topi (fun x_32 ex_32 => ?_)
              have yx_32 : tY M_24 60 34 0 = x_32 := ((congrArg _ (by decide)).symm.trans ex_32.symm)
              have bx_32 : 0 ≤ x_32.toInt ∧ x_32.toInt ≤ 120 := mI_ry (k := 34) (i := 0) iM_24 yx_32.symm (by decide)
              have zx_32 : (tY M_24 60 34 0).toInt = x_32.toInt := by rw [yx_32]
              refine lv_iload hx hb dX10_layGame_59 (lv_at hl 1 rfl) ?_
              refine lv_iadd hx hb dX10_layGame_61 ?_
              refine lv_topi (fun x_33 ex_33 => ?_)
              have tx_33 : x_33.toInt = x_32.toInt + x_5.toInt := i_add ex_33 rfl rfl (by omega) (by omega)
              refine ti_iast (ci := 10) (k := 44) (n := 184) C hw ob_60 (by decide) (fun _ _ => rfl) (vp_in_iff.mpr (by omega)) dX10_layGame_62 (fun H locs hw => ?_)
              obtain ⟨M_34, hM_34⟩ : ∃ z : ti_M, z = uY M_24 60 44 (upd (tY M_24 60 44) (x_31 : Int32).toNatClampNeg x_33) := ⟨_, rfl⟩
              have hw := hw.to hM_34.symm
              have iM_34 : mI Tm M_34 := mI_up (i := x_31.toNatClampNeg) iM_24 hM_34 trivial
              refine lv_aload_n hx hb dX10_layGame_63 rfl (lv_at hl 2 rfl) ?_
              refine ti_get (ci := 10) (k := 44) (N := 67) (T := TX10) (v := .ref (A 60 45)) C hw iw_10 rfl ob_60 (by decide) (by decide) fl_X10_99 rfl rfl dX10_layGame_64 ?_
              refine lv_bipush (v := 8) hx hb dX10_layGame_67 (by decide) ?_
              refine lv_iload_n hx hb dX10_layGame_69 rfl (lv_at hl 4 rfl) ?_
              refine lv_iadd hx hb dX10_layGame_70 ?_
              refine lv_topi (fun x_35 ex_35 => ?_)
              have lox_35z2 := z2.le_toInt
              have hix_35z2 := z2.toInt_lt
              have tx_35 : x_35.toInt = 8 + z2.toInt := i_add ex_35 (by decide : (8 : Int32).toInt = 8) rfl (by omega) (by omega)
              refine lv_aload_n hx hb dX10_layGame_71 rfl (lv_at hl 2 rfl) ?_
              refine ti_get (ci := 10) (k := 34) (N := 67) (T := TX10) (v := .ref (A 60 35)) C hw iw_10 rfl ob_60 (by decide) (by decide) fl_X10_69 rfl rfl dX10_layGame_72 ?_
              refine lv_iconst (v := 0) hx hb dX10_layGame_75 (by decide) ?_
              refine ti_iald (ci := 10) (k := 34) (n := 23) C hw ob_60 (by decide) (fun _ _ => rfl) (by unfold vp_in; decide) dX10_layGame_76 ?_
              refine ti_top (y := x_32) ((congrArg _ (by decide)).trans ((cg (tY_nE hM_34 (nk (by decide))) 0).trans yx_32)) ?_
              refine lv_iload hx hb dX10_layGame_77 (lv_at hl 0 rfl) ?_
              refine lv_iadd hx hb dX10_layGame_79 ?_
              refine lv_topi (fun x_36 ex_36 => ?_)
              have tx_36 : x_36.toInt = x_32.toInt + x_14.toInt := i_add ex_36 rfl rfl (by omega) (by omega)
              refine ti_iast (ci := 10) (k := 44) (n := 184) C hw ob_60 (by decide) (fun _ _ => rfl) (vp_in_iff.mpr (by omega)) dX10_layGame_80 (fun H locs hw => ?_)
              obtain ⟨M_37, hM_37⟩ : ∃ z : ti_M, z = uY M_34 60 44 (upd (tY M_34 60 44) (x_35 : Int32).toNatClampNeg x_36) := ⟨_, rfl⟩
              have hw := hw.to hM_37.symm
              have iM_37 : mI Tm M_37 := mI_up (i := x_35.toNatClampNeg) iM_34 hM_37 trivial
              refine lv_aload_n hx hb dX10_layGame_81 rfl (lv_at hl 2 rfl) ?_
              refine lv_iload_n hx hb dX10_layGame_82 rfl (lv_at hl 5 rfl) ?_
              refine ti_callVv (ci := 10) (av := [.int z3]) C hw (f_X10_runs l D A cy hJ M_37 iM_37 (mC_qw (qw.trans (qw_Y hM_37 (by decide)) (qw_Y hM_34 (by decide))) q_26) (mL_lw (lk.trans (lk_Y hM_37 (by decide)) (lk.trans (lk_Y hM_34 (by decide)) (lk.trans (lk_of q_25.1 q_25.2.1) (lk_of f_18.1 f_18.2.1)))).1 hL) z3) ⟨ml_X10_445, ym_X10_runs, yv_X10_runs, yi_X10_runs, yc_X10_runs⟩ yd_X10_runs ob_60 (by decide) rfl rfl hl.1 (Nat.le_of_ble_eq_true rfl) ⟨by decide, by decide⟩ ⟨Nat.zero_le _, Nat.zero_le _⟩ dX10_layGame_83 (fun M_39 H locs hp_39 hw => ?_)
              obtain ⟨frM_39, hqM_39⟩ := hp_39
              obtain ⟨iM_39, q_40, q_41⟩ := hqM_39
              refine lv_aload_n hx hb dX10_layGame_86 rfl (lv_at hl 2 rfl) ?_
              refine ti_get (ci := 10) (k := 54) (N := 67) (T := TX10) (v := .ref (A 60 55)) C hw iw_10 rfl ob_60 (by decide) (by decide) fl_X10_123 rfl rfl dX10_layGame_87 ?_
              refine lv_iconst (v := 4) hx hb dX10_layGame_90 (by decide) ?_
              refine lv_iload hx hb dX10_layGame_91 (lv_at hl 1 rfl) ?_
              refine lv_imul hx hb dX10_layGame_93 ?_
              refine lv_topi (fun x_42 ex_42 => ?_)
              have tx_42 : x_42.toInt = 4 * x_5.toInt := i_mul ex_42 (by decide : (4 : Int32).toInt = 4) rfl (by omega) (by omega)
              refine lv_iload hx hb dX10_layGame_94 (lv_at hl 0 rfl) ?_
              refine lv_iadd hx hb dX10_layGame_96 ?_
              refine lv_topi (fun x_43 ex_43 => ?_)
              have tx_43 : x_43.toInt = x_42.toInt + x_14.toInt := i_add ex_43 rfl rfl (by omega) (by omega)
              refine lv_aload_n hx hb dX10_layGame_97 rfl (lv_at hl 2 rfl) ?_
              refine lv_iload_n hx hb dX10_layGame_98 rfl (lv_at hl 3 rfl) ?_
              refine lv_iload_n hx hb dX10_layGame_99 rfl (lv_at hl 5 rfl) ?_
              refine ti_callVi (ci := 10) (av := [.int z1, .int z3]) C hw (s_X10_endOf l D A cy hJ M_39 iM_39 z1 z3 (by first | omega | decide) (by first | omega | decide)) ⟨ml_X10_454, ym_X10_endOf, yv_X10_endOf, yi_X10_endOf, yc_X10_endOf⟩ yd_X10_endOf ob_60 (by decide) rfl rfl hl.1 (Nat.le_of_ble_eq_true rfl) ⟨by decide, by decide⟩ ⟨Nat.zero_le _, Nat.zero_le _⟩ dX10_layGame_100 (fun r_44 M_45 H locs hp_45 hw => ?_)
              have hm := hp_45
              have hw := hw.to hm
              refine ti_iast (ci := 10) (k := 54) (n := 16) C hw ob_60 (by decide) (fun _ _ => rfl) (vp_in_iff.mpr (by omega)) dX10_layGame_103 (fun H locs hw => ?_)
              obtain ⟨M_46, hM_46⟩ : ∃ z : ti_M, z = uY M_39 60 54 (upd (tY M_39 60 54) (x_43 : Int32).toNatClampNeg r_44) := ⟨_, rfl⟩
              have hw := hw.to hM_46.symm
              have iM_46 : mI Tm M_46 := mI_up (i := x_43.toNatClampNeg) iM_39 hM_46 trivial
              refine lv_aload_n hx hb dX10_layGame_104 rfl (lv_at hl 2 rfl) ?_
              refine ti_get (ci := 10) (k := 55) (N := 67) (T := TX10) (v := .ref (A 60 56)) C hw iw_10 rfl ob_60 (by decide) (by decide) fl_X10_126 rfl rfl dX10_layGame_105 ?_
              refine lv_iconst (v := 4) hx hb dX10_layGame_108 (by decide) ?_
              refine lv_iload hx hb dX10_layGame_109 (lv_at hl 1 rfl) ?_
              refine lv_imul hx hb dX10_layGame_111 ?_
              refine lv_topi (fun x_47 ex_47 => ?_)
              have tx_47 : x_47.toInt = 4 * x_5.toInt := i_mul ex_47 (by decide : (4 : Int32).toInt = 4) rfl (by omega) (by omega)
              refine lv_iload hx hb dX10_layGame_112 (lv_at hl 0 rfl) ?_
              refine lv_iadd hx hb dX10_layGame_114 ?_
              refine lv_topi (fun x_48 ex_48 => ?_)
              have tx_48 : x_48.toInt = x_47.toInt + x_14.toInt := i_add ex_48 rfl rfl (by omega) (by omega)
              refine lv_aload_n hx hb dX10_layGame_115 rfl (lv_at hl 2 rfl) ?_
              refine lv_iload_n hx hb dX10_layGame_116 rfl (lv_at hl 4 rfl) ?_
              refine lv_iload_n hx hb dX10_layGame_117 rfl (lv_at hl 5 rfl) ?_
              refine ti_callVi (ci := 10) (av := [.int z2, .int z3]) C hw (s_X10_endOf l D A cy hJ M_46 iM_46 z2 z3 (by first | omega | decide) (by first | omega | decide)) ⟨ml_X10_454, ym_X10_endOf, yv_X10_endOf, yi_X10_endOf, yc_X10_endOf⟩ yd_X10_endOf ob_60 (by decide) rfl rfl hl.1 (Nat.le_of_ble_eq_true rfl) ⟨by decide, by decide⟩ ⟨Nat.zero_le _, Nat.zero_le _⟩ dX10_layGame_118 (fun r_49 M_50 H locs hp_50 hw => ?_)
              have hm := hp_50
              have hw := hw.to hm
              refine ti_iast (ci := 10) (k := 55) (n := 16) C hw ob_60 (by decide) (fun _ _ => rfl) (vp_in_iff.mpr (by omega)) dX10_layGame_121 (fun H locs hw => ?_)
              obtain ⟨M_51, hM_51⟩ : ∃ z : ti_M, z = uY M_46 60 55 (upd (tY M_46 60 55) (x_48 : Int32).toNatClampNeg r_49) := ⟨_, rfl⟩
              have hw := hw.to hM_51.symm
              have iM_51 : mI Tm M_51 := mI_up (i := x_48.toNatClampNeg) iM_46 hM_51 trivial
              obtain ⟨x_52, ex_52⟩ : ∃ z : Int32, z = x_14 + 1 := ⟨_, rfl⟩
              have tx_52 : x_52.toInt = x_14.toInt + 1 := i_add ex_52 rfl (by decide) (by omega) (by omega)
              refine lv_iinc (v := x_52) (lv' := [(5, .int x_52), (4, .int x_5), (0, .ref (A 60 0)), (1, .int z1), (2, .int z2), (3, .int z3)]) hx hb dX10_layGame_122 hl (k := 0) rfl (by rw [ex_52]; rfl) (by decide) rfl (fun ls hl => ?_)
              refine lv_goto (tgt := 32) hx hb dX10_layGame_125 (by decide) ?_
              exact ih_20 x_52 M_51 _ _ _ (by omega) (by first | omega | decide) (by first | omega | decide) iM_51 (rw1.trans (rw1_qw (qw_Y hM_51 (by decide))) (rw1.trans (rw1_qw (qw_Y hM_46 (by decide))) (rw1.trans (rw1_rq q_40) (rw1.trans (rw1_qw (qw_Y hM_37 (by decide))) (rw1.trans (rw1_qw (qw_Y hM_34 (by decide))) (rw1.trans (rw1_rq q_25) f_18)))))) (fR.trans (fR_O hM_51 (by decide)) (fR.trans (fR_O hM_46 (by decide)) (fR.trans frM_39 (fR.trans (fR_Y hM_37 (bk_m (z := x_35) (by omega) (by decide))) (fR.trans (fR_Y hM_34 (bk_m (z := x_31) (by omega) (by decide))) (fR.trans frM_24 f_19)))))) hw (lv_sub hl [0, 1, 2, 3, 4, 5] rfl)
        exact hl_32_19 ((4 - 0 : Int).toNat + 1) 0 M_8 _ _ _ (Nat.lt_succ_self _) (by have lt0 : (0 : Int32).toInt = 0 := (by decide); first | omega | decide) (by have lt0 : (0 : Int32).toInt = 0 := (by decide); first | omega | decide) iM_8 f_9 f_10 hw (lv_sub hl [0, 1, 2, 3, 4, 5] rfl)
  exact hl_20_10 ((4 - 0 : Int).toNat + 1) 0 M_4 _ _ _ (Nat.lt_succ_self _) (by have lt0 : (0 : Int32).toInt = 0 := (by decide); first | omega | decide) (by have lt0 : (0 : Int32).toInt = 0 := (by decide); first | omega | decide) iM_4 (rw1_qw (qw_I hM_4 (by decide))) (fR_I hM_4 (by decide)) hw (lv_sub hl [0, 1, 2, 3, 4] rfl)
set_option maxHeartbeats 4000000 in
set_option maxRecDepth 100000 in
theorem f_X10_rests (l : Launch) (D : va_G) (A : Nat → Nat → Nat) (cy : Nat → ClassId) (hJ : ti_inj ti_LM A) (M : ti_M) (hI : mI Tm M) (hF : mF Tm M) (z1 : Int32) (z2 : Int32) (z3 : Int32) : ti_Ki l yX10_rests cX10_rests 4 (some .int) 9 ti_LM D A cy M [.ref (A 60 0), .int z1, .int z2, .int z3] (fun r M2 => fR 1 M2 M ∧ mF Tm M2 ∧ tI M2 60 2 = tI M 60 2 ∧ lw M2 M) := by
  refine ti_eI yp_X10_rests hJ ti_LM_nd (Nat.le_of_ble_eq_true rfl) ?_
  intro p e s m args below meth c Q H0 C hQ hw ls hl
  have hx := C.1
  have hb := C.2.1
  have hl : lv_has ls 4 [(0, .ref (A 60 0)), (1, .int z1), (2, .int z2), (3, .int z3)] := hl
  have hL : mL M := hF.2.1
  have hC0 : mC M 0 := hF.2.2.1.1
  have hP0 : mP M 0 := hF.2.2.1.2
  refine lv_aload_n hx hb dX10_rests_0 rfl (lv_at hl 0 rfl) ?_
  refine lv_iconst (v := 0) hx hb dX10_rests_1 (by decide) ?_
  refine ti_putI (ci := 10) (k := 0) (N := 67) (T := TX10) C hw iw_10 tyX10 tyX10_ok nmX10 rfl ob_60 (by decide) (by decide) fl_X10_154 rfl rfl rfl rfl (fn_10 A _) fs_10_0 dX10_rests_2 (fun H locs hw => ?_)
  obtain ⟨M_1, hM_1⟩ : ∃ z : ti_M, z = uI M 60 0 0 := ⟨_, rfl⟩
  have hw := hw.to hM_1.symm
  have iM_1 : mI Tm M_1 := mI_uI hI hM_1 (by decide) (by decide) trivial
  refine lv_aload_n hx hb dX10_rests_5 rfl (lv_at hl 0 rfl) ?_
  refine lv_iload_n hx hb dX10_rests_6 rfl (lv_at hl 1 rfl) ?_
  refine lv_iload_n hx hb dX10_rests_7 rfl (lv_at hl 2 rfl) ?_
  refine lv_iload_n hx hb dX10_rests_8 rfl (lv_at hl 3 rfl) ?_
  refine ti_callVi (ci := 10) (av := [.int z1, .int z2, .int z3]) C hw (s_X10_isGame l D A cy hJ M_1 iM_1 z1 z2 z3) ⟨ml_X10_464, ym_X10_isGame, yv_X10_isGame, yi_X10_isGame, yc_X10_isGame⟩ yd_X10_isGame ob_60 (by decide) rfl rfl hl.1 (Nat.le_of_ble_eq_true rfl) ⟨by decide, by decide⟩ ⟨Nat.zero_le _, Nat.zero_le _⟩ dX10_rests_9 (fun r_2 M_3 H locs hp_3 hw => ?_)
  obtain ⟨hm, hz⟩ := hp_3
  have hw := hw.to hm
  rcases hz with ⟨rfl, d0_4, d1_4, d2_4, d3_4, d4_4, d5_4, d6_4⟩ | rfl
  · refine sb_if_ne (tgt := 17) hx hb (by decide : (1 : Int32).toInt = 1) dX10_rests_12 (by decide) (fun c_12_4 => ?_) (fun h => absurd h (by decide))
    refine lv_aload_n hx hb dX10_rests_17 rfl (lv_at hl 0 rfl) ?_
    refine lv_iload_n hx hb dX10_rests_18 rfl (lv_at hl 1 rfl) ?_
    refine lv_iload_n hx hb dX10_rests_19 rfl (lv_at hl 2 rfl) ?_
    refine lv_iload_n hx hb dX10_rests_20 rfl (lv_at hl 3 rfl) ?_
    have lk_9 : (tY M_1 60 34 0).toInt = (tY M 60 34 0).toInt := by rw [(cg (tY_uIE hM_1) 0)]
    refine ti_callVv (ci := 10) (av := [.int z1, .int z2, .int z3]) C hw (f_X10_layGame l D A cy hJ M_1 iM_1 (mF_rw hF iM_1 (rw1_qw (qw_I hM_1 (by decide)))) z1 z2 z3 (by first | omega | decide) (by first | omega | decide) (by first | omega | decide) (by first | omega | decide) (by first | omega | decide)) ⟨ml_X10_468, ym_X10_layGame, yv_X10_layGame, yi_X10_layGame, yc_X10_layGame⟩ yd_X10_layGame ob_60 (by decide) rfl rfl hl.1 (Nat.le_of_ble_eq_true rfl) ⟨by decide, by decide⟩ ⟨Nat.zero_le _, Nat.zero_le _⟩ dX10_rests_21 (fun M_8 H locs hp_8 hw => ?_)
    obtain ⟨frM_8, hqM_8⟩ := hp_8
    obtain ⟨iM_8, q_10⟩ := hqM_8
    refine lv_aload_n hx hb dX10_rests_24 rfl (lv_at hl 0 rfl) ?_
    refine lv_iconst (v := (-1)) hx hb dX10_rests_25 (by decide) ?_
    refine ti_callVi (ci := 10) (av := [.int (-1)]) C hw (s_X10_restOf l D A cy hJ M_8 iM_8 (-1)) ⟨ml_X10_471, ym_X10_restOf, yv_X10_restOf, yi_X10_restOf, yc_X10_restOf⟩ yd_X10_restOf ob_60 (by decide) rfl rfl hl.1 (Nat.le_of_ble_eq_true rfl) ⟨by decide, by decide⟩ ⟨Nat.zero_le _, Nat.zero_le _⟩ dX10_rests_26 (fun r_11 M_12 H locs hp_12 hw => ?_)
    have hm := hp_12
    have hw := hw.to hm
    exact hQ _ _ _ _ _ _ hw rfl (⟨(fR.trans frM_8 (fR_I hM_1 (by decide))), mF_rw hF iM_8 (rw1.trans q_10 (rw1_qw (qw_I hM_1 (by decide)))), (rw1.trans q_10 (rw1_qw (qw_I hM_1 (by decide)))).2.1.1, (rw1.trans q_10 (rw1_qw (qw_I hM_1 (by decide)))).1⟩) dX10_rests_29
  · refine sb_if_ne (tgt := 17) hx hb (by decide : (0 : Int32).toInt = 0) dX10_rests_12 (by decide) (fun h => absurd h (by decide)) (fun c_12_5 => ?_)
    refine lv_iconst (v := (-1)) hx hb dX10_rests_15 (by decide) ?_
    exact hQ _ _ _ _ _ _ hw rfl (⟨(fR_I hM_1 (by decide)), mF_rw hF iM_1 (rw1_qw (qw_I hM_1 (by decide))), (rw1_qw (qw_I hM_1 (by decide))).2.1.1, (rw1_qw (qw_I hM_1 (by decide))).1⟩) dX10_rests_16
set_option maxHeartbeats 4000000 in
set_option maxRecDepth 100000 in
theorem f_X10_rest (l : Launch) (D : va_G) (A : Nat → Nat → Nat) (cy : Nat → ClassId) (hJ : ti_inj ti_LM A) (M : ti_M) (hI : mI Tm M) (hF : mF Tm M) (z1 : Int32) (z2 : Int32) (z3 : Int32) (z4 : Int32) : ti_Ki l yX10_rest cX10_rest 5 (some .int) 9 ti_LM D A cy M [.ref (A 60 0), .int z1, .int z2, .int z3, .int z4] (fun r M2 => fR 1 M2 M ∧ mF Tm M2 ∧ tI M2 60 2 = tI M 60 2 ∧ lw M2 M) := by
  refine ti_eI yp_X10_rest hJ ti_LM_nd (Nat.le_of_ble_eq_true rfl) ?_
  intro p e s m args below meth c Q H0 C hQ hw ls hl
  have hx := C.1
  have hb := C.2.1
  have hl : lv_has ls 5 [(0, .ref (A 60 0)), (1, .int z1), (2, .int z2), (3, .int z3), (4, .int z4)] := hl
  have hL : mL M := hF.2.1
  have hC0 : mC M 0 := hF.2.2.1.1
  have hP0 : mP M 0 := hF.2.2.1.2
  refine lv_aload_n hx hb dX10_rest_0 rfl (lv_at hl 0 rfl) ?_
  refine lv_iconst (v := 0) hx hb dX10_rest_1 (by decide) ?_
  refine ti_putI (ci := 10) (k := 0) (N := 67) (T := TX10) C hw iw_10 tyX10 tyX10_ok nmX10 rfl ob_60 (by decide) (by decide) fl_X10_154 rfl rfl rfl rfl (fn_10 A _) fs_10_0 dX10_rest_2 (fun H locs hw => ?_)
  obtain ⟨M_1, hM_1⟩ : ∃ z : ti_M, z = uI M 60 0 0 := ⟨_, rfl⟩
  have hw := hw.to hM_1.symm
  have iM_1 : mI Tm M_1 := mI_uI hI hM_1 (by decide) (by decide) trivial
  refine lv_aload_n hx hb dX10_rest_5 rfl (lv_at hl 0 rfl) ?_
  refine lv_iload_n hx hb dX10_rest_6 rfl (lv_at hl 1 rfl) ?_
  refine lv_iload_n hx hb dX10_rest_7 rfl (lv_at hl 2 rfl) ?_
  refine lv_iload_n hx hb dX10_rest_8 rfl (lv_at hl 3 rfl) ?_
  refine ti_callVi (ci := 10) (av := [.int z1, .int z2, .int z3]) C hw (s_X10_isGame l D A cy hJ M_1 iM_1 z1 z2 z3) ⟨ml_X10_464, ym_X10_isGame, yv_X10_isGame, yi_X10_isGame, yc_X10_isGame⟩ yd_X10_isGame ob_60 (by decide) rfl rfl hl.1 (Nat.le_of_ble_eq_true rfl) ⟨by decide, by decide⟩ ⟨Nat.zero_le _, Nat.zero_le _⟩ dX10_rest_9 (fun r_2 M_3 H locs hp_3 hw => ?_)
  obtain ⟨hm, hz⟩ := hp_3
  have hw := hw.to hm
  have hj_20_7 : ∀  (H : Heap) (locs : List Loc) (ls : Array Slot), ti_H ti_LM D A cy H0 M_1 H locs → lv_has ls 5 [(0, .ref (A 60 0)), (1, .int z1), (2, .int z2), (3, .int z3), (4, .int z4)] → W p l e (ti_rm 9) s m args below meth c H locs 0 0 Q (F0 m 20 ls []) := by
    intro  H locs ls  hw hl
    refine lv_iconst (v := (-1)) hx hb dX10_rest_20 (by decide) ?_
    exact hQ _ _ _ _ _ _ hw rfl (⟨(fR_I hM_1 (by decide)), mF_rw hF iM_1 (rw1_qw (qw_I hM_1 (by decide))), (rw1_qw (qw_I hM_1 (by decide))).2.1.1, (rw1_qw (qw_I hM_1 (by decide))).1⟩) dX10_rest_21
  rcases hz with ⟨rfl, d0_4, d1_4, d2_4, d3_4, d4_4, d5_4, d6_4⟩ | rfl
  · refine sb_if_eq (tgt := 20) hx hb (by decide : (1 : Int32).toInt = 1) dX10_rest_12 (by decide) (fun h => absurd h (by decide)) (fun c_12_4 => ?_)
    refine lv_iload hx hb dX10_rest_15 (lv_at hl 4 rfl) ?_
    refine sb_if_ge (tgt := 22) hx hb rfl dX10_rest_17 (by decide) (fun c_17_6 => ?_) (fun c_17_6 => ?_)
    · refine lv_aload_n hx hb dX10_rest_22 rfl (lv_at hl 0 rfl) ?_
      refine lv_iload_n hx hb dX10_rest_23 rfl (lv_at hl 1 rfl) ?_
      refine lv_iload_n hx hb dX10_rest_24 rfl (lv_at hl 2 rfl) ?_
      refine lv_iload_n hx hb dX10_rest_25 rfl (lv_at hl 3 rfl) ?_
      have lk_10 : (tY M_1 60 34 0).toInt = (tY M 60 34 0).toInt := by rw [(cg (tY_uIE hM_1) 0)]
      refine ti_callVv (ci := 10) (av := [.int z1, .int z2, .int z3]) C hw (f_X10_layGame l D A cy hJ M_1 iM_1 (mF_rw hF iM_1 (rw1_qw (qw_I hM_1 (by decide)))) z1 z2 z3 (by first | omega | decide) (by first | omega | decide) (by first | omega | decide) (by first | omega | decide) (by first | omega | decide)) ⟨ml_X10_468, ym_X10_layGame, yv_X10_layGame, yi_X10_layGame, yc_X10_layGame⟩ yd_X10_layGame ob_60 (by decide) rfl rfl hl.1 (Nat.le_of_ble_eq_true rfl) ⟨by decide, by decide⟩ ⟨Nat.zero_le _, Nat.zero_le _⟩ dX10_rest_26 (fun M_9 H locs hp_9 hw => ?_)
      obtain ⟨frM_9, hqM_9⟩ := hp_9
      obtain ⟨iM_9, q_11⟩ := hqM_9
      refine lv_aload_n hx hb dX10_rest_29 rfl (lv_at hl 0 rfl) ?_
      refine lv_iload hx hb dX10_rest_30 (lv_at hl 4 rfl) ?_
      refine ti_callVi (ci := 10) (av := [.int z4]) C hw (s_X10_restOf l D A cy hJ M_9 iM_9 z4) ⟨ml_X10_471, ym_X10_restOf, yv_X10_restOf, yi_X10_restOf, yc_X10_restOf⟩ yd_X10_restOf ob_60 (by decide) rfl rfl hl.1 (Nat.le_of_ble_eq_true rfl) ⟨by decide, by decide⟩ ⟨Nat.zero_le _, Nat.zero_le _⟩ dX10_rest_32 (fun r_12 M_13 H locs hp_13 hw => ?_)
      have hm := hp_13
      have hw := hw.to hm
      exact hQ _ _ _ _ _ _ hw rfl (⟨(fR.trans frM_9 (fR_I hM_1 (by decide))), mF_rw hF iM_9 (rw1.trans q_11 (rw1_qw (qw_I hM_1 (by decide)))), (rw1.trans q_11 (rw1_qw (qw_I hM_1 (by decide)))).2.1.1, (rw1.trans q_11 (rw1_qw (qw_I hM_1 (by decide)))).1⟩) dX10_rest_35
    · exact hj_20_7  _ _ _  hw (lv_sub hl [0, 1, 2, 3, 4] rfl)
  · refine sb_if_eq (tgt := 20) hx hb (by decide : (0 : Int32).toInt = 0) dX10_rest_12 (by decide) (fun c_12_5 => ?_) (fun h => absurd h (by decide))
    exact hj_20_7  _ _ _  hw (lv_sub hl [0, 1, 2, 3, 4] rfl)
set_option maxHeartbeats 4000000 in
set_option maxRecDepth 100000 in
theorem f_X10_isWay (l : Launch) (D : va_G) (A : Nat → Nat → Nat) (cy : Nat → ClassId) (hJ : ti_inj ti_LM A) (M : ti_M) (hI : mI Tm M) (hF : mF Tm M) (z1 : Int32) (z2 : Int32) (h1 : 0 ≤ z1.toInt) (h2 : z1.toInt ≤ 7) : ti_Ki l yX10_isWay cX10_isWay 7 (some .boolean) 7 ti_LM D A cy M [.ref (A 60 0), .int z1, .int z2] (fun r M2 => fR 1 M2 M ∧ mI Tm M2 ∧ rw1 M2 M ∧ 0 ≤ r.toInt ∧ r.toInt ≤ 1) := by
  refine ti_eI yp_X10_isWay hJ ti_LM_nd (Nat.le_of_ble_eq_true rfl) ?_
  intro p e s m args below meth c Q H0 C hQ hw ls hl
  have hx := C.1
  have hb := C.2.1
  have hl : lv_has ls 7 [(0, .ref (A 60 0)), (1, .int z1), (2, .int z2)] := hl
  have hL : mL M := hF.2.1
  have hC0 : mC M 0 := hF.2.2.1.1
  have hP0 : mP M 0 := hF.2.2.1.2
  refine lv_iconst (v := (-1)) hx hb dX10_isWay_0 (by decide) ?_
  refine lv_istore_n (lv' := [(3, .int (-1)), (0, .ref (A 60 0)), (1, .int z1), (2, .int z2)]) hx hb dX10_isWay_1 rfl hl (by decide) rfl (fun ls hl => ?_)
  refine lv_iconst (v := 0) hx hb dX10_isWay_2 (by decide) ?_
  refine lv_istore (lv' := [(4, .int 0), (3, .int (-1)), (0, .ref (A 60 0)), (1, .int z1), (2, .int z2)]) hx hb dX10_isWay_3 hl (by decide) rfl (fun ls hl => ?_)
  have hl_5_6 : ∀ (n_7 : Nat) (x_1 : Int32) (x_4 : Int32) (H : Heap) (locs : List Loc) (ls : Array Slot), (24 - x_1.toInt : Int).toNat < n_7 → (0 ≤ x_1.toInt) → (x_1.toInt ≤ 24) → ((-1) ≤ x_4.toInt) → (x_4.toInt ≤ 59) → ti_H ti_LM D A cy H0 M H locs → lv_has ls 7 [(4, .int x_1), (3, .int x_4), (0, .ref (A 60 0)), (1, .int z1), (2, .int z2)] → W p l e (ti_rm 7) s m args below meth c H locs 0 0 Q (F0 m 5 ls []) := by
    intro n_7
    induction n_7 with
    | zero => intro x_1 x_4 H locs ls hf_7; exact absurd hf_7 (Nat.not_lt_zero _)
    | succ n_7 ih_7 =>
      intro x_1 x_4 H locs ls hf_7 b_2 b_3 b_5 b_6 hw hl
      refine lv_iload hx hb dX10_isWay_5 (lv_at hl 0 rfl) ?_
      refine lv_aload_n hx hb dX10_isWay_7 rfl (lv_at hl 2 rfl) ?_
      refine ti_callVi (ci := 10) (av := []) C hw (s_X10_knownMany l D A cy hJ M hI ) ⟨ml_X10_474, ym_X10_knownMany, yv_X10_knownMany, yi_X10_knownMany, yc_X10_knownMany⟩ yd_X10_knownMany ob_60 (by decide) rfl rfl hl.1 (Nat.le_of_ble_eq_true rfl) ⟨by decide, by decide⟩ ⟨Nat.zero_le _, Nat.zero_le _⟩ dX10_isWay_8 (fun r_8 M_9 H locs hp_9 hw => ?_)
      obtain ⟨hm, b0r_8, b1r_8⟩ := hp_9
      have hw := hw.to hm
      refine sb_icmp_ge (tgt := 53) hx hb rfl rfl dX10_isWay_11 (by decide) (fun c_11_9 => ?_) (fun c_11_9 => ?_)
      · refine lv_aload_n hx hb dX10_isWay_53 rfl (lv_at hl 2 rfl) ?_
        refine lv_iconst (v := 1) hx hb dX10_isWay_54 (by decide) ?_
        refine ti_callVv (ci := 10) (av := [.int 1]) C hw (f_X10_starts_1 l D A cy hJ M hI ) ⟨ml_X10_353, ym_X10_starts, yv_X10_starts, yi_X10_starts, yc_X10_starts⟩ yd_X10_starts ob_60 (by decide) rfl rfl hl.1 (Nat.le_of_ble_eq_true rfl) ⟨by decide, by decide⟩ ⟨Nat.zero_le _, Nat.zero_le _⟩ dX10_isWay_55 (fun M_22 H locs hp_22 hw => ?_)
        obtain ⟨frM_22, hqM_22⟩ := hp_22
        obtain ⟨iM_22, q_23, q_24, p0r_21⟩ := hqM_22
        refine lv_aload_n hx hb dX10_isWay_58 rfl (lv_at hl 2 rfl) ?_
        refine ti_get (ci := 10) (k := 44) (N := 67) (T := TX10) (v := .ref (A 60 45)) C hw iw_10 rfl ob_60 (by decide) (by decide) fl_X10_99 rfl rfl dX10_isWay_59 ?_
        refine lv_bipush (v := 8) hx hb dX10_isWay_62 (by decide) ?_
        refine lv_iload_n hx hb dX10_isWay_64 rfl (lv_at hl 3 rfl) ?_
        refine lv_iadd hx hb dX10_isWay_65 ?_
        refine lv_topi (fun x_25 ex_25 => ?_)
        have lox_25z1 := z1.le_toInt
        have hix_25z1 := z1.toInt_lt
        have tx_25 : x_25.toInt = 8 + z1.toInt := i_add ex_25 (by decide : (8 : Int32).toInt = 8) rfl (by omega) (by omega)
        refine lv_iload_n hx hb dX10_isWay_66 rfl (lv_at hl 4 rfl) ?_
        refine ti_iast (ci := 10) (k := 44) (n := 184) C hw ob_60 (by decide) (fun _ _ => rfl) (vp_in_iff.mpr (by omega)) dX10_isWay_67 (fun H locs hw => ?_)
        obtain ⟨M_26, hM_26⟩ : ∃ z : ti_M, z = uY M_22 60 44 (upd (tY M_22 60 44) (x_25 : Int32).toNatClampNeg z2) := ⟨_, rfl⟩
        have hw := hw.to hM_26.symm
        have iM_26 : mI Tm M_26 := mI_up (i := x_25.toNatClampNeg) iM_22 hM_26 trivial
        refine lv_iconst (v := 0) hx hb dX10_isWay_68 (by decide) ?_
        refine lv_istore (lv' := [(4, .int 0), (3, .int x_4), (0, .ref (A 60 0)), (1, .int z1), (2, .int z2)]) hx hb dX10_isWay_69 hl (by decide) rfl (fun ls hl => ?_)
        have hl_71_33 : ∀ (n_34 : Nat) (x_27 : Int32) (M_30 : ti_M) (H : Heap) (locs : List Loc) (ls : Array Slot), (60 - x_27.toInt : Int).toNat < n_34 → (0 ≤ x_27.toInt) → (x_27.toInt ≤ 60) → (mI Tm M_30) → (rw1 M_30 M) → (fR 1 M_30 M) → (mC M_30 1) → ti_H ti_LM D A cy H0 M_30 H locs → lv_has ls 7 [(4, .int x_27), (3, .int x_4), (0, .ref (A 60 0)), (1, .int z1), (2, .int z2)] → W p l e (ti_rm 7) s m args below meth c H locs 0 0 Q (F0 m 71 ls []) := by
          intro n_34
          induction n_34 with
          | zero => intro x_27 M_30 H locs ls hf_34; exact absurd hf_34 (Nat.not_lt_zero _)
          | succ n_34 ih_34 =>
            intro x_27 M_30 H locs ls hf_34 b_28 b_29 iM_30 f_31 f_32 f_33 hw hl
            refine lv_iload hx hb dX10_isWay_71 (lv_at hl 0 rfl) ?_
            refine lv_iload_n hx hb dX10_isWay_73 rfl (lv_at hl 1 rfl) ?_
            refine sb_icmp_gt (tgt := 182) hx hb rfl rfl dX10_isWay_74 (by decide) (fun c_74_34 => ?_) (fun c_74_34 => ?_)
            · refine lv_iconst (v := 1) hx hb dX10_isWay_182 (by decide) ?_
              exact hQ _ _ _ _ _ _ hw rfl (⟨f_32, iM_30, f_31, by first | omega | decide, by first | omega | decide⟩) dX10_isWay_183
            · refine lv_aload_n hx hb dX10_isWay_77 rfl (lv_at hl 2 rfl) ?_
              refine lv_iconst (v := 1) hx hb dX10_isWay_78 (by decide) ?_
              refine lv_iconst (v := 0) hx hb dX10_isWay_79 (by decide) ?_
              refine ti_callVv (ci := 10) (av := [.int 1, .int 0]) C hw (f_X10_passes_1 l D A cy hJ M_30 iM_30 f_33 (mL_lw (lk_of f_31.1 f_31.2.1).1 hL) 0) ⟨ml_X10_407, ym_X10_passes, yv_X10_passes, yi_X10_passes, yc_X10_passes⟩ yd_X10_passes ob_60 (by decide) rfl rfl hl.1 (Nat.le_of_ble_eq_true rfl) ⟨by decide, by decide⟩ ⟨Nat.zero_le _, Nat.zero_le _⟩ dX10_isWay_80 (fun M_37 H locs hp_37 hw => ?_)
              obtain ⟨frM_37, hqM_37⟩ := hp_37
              obtain ⟨iM_37, q_38, q_39⟩ := hqM_37
              refine lv_iconst (v := 0) hx hb dX10_isWay_83 (by decide) ?_
              refine lv_istore (lv' := [(5, .int 0), (4, .int x_27), (3, .int x_4), (0, .ref (A 60 0)), (1, .int z1), (2, .int z2)]) hx hb dX10_isWay_84 hl (by decide) rfl (fun ls hl => ?_)
              have hl_86_42 : ∀ (n_43 : Nat) (x_40 : Int32) (H : Heap) (locs : List Loc) (ls : Array Slot), (24 - x_40.toInt : Int).toNat < n_43 → (0 ≤ x_40.toInt) → (x_40.toInt ≤ 24) → ti_H ti_LM D A cy H0 M_37 H locs → lv_has ls 7 [(5, .int x_40), (4, .int x_27), (3, .int x_4), (0, .ref (A 60 0)), (1, .int z1), (2, .int z2)] → W p l e (ti_rm 7) s m args below meth c H locs 0 0 Q (F0 m 86 ls []) := by
                intro n_43
                induction n_43 with
                | zero => intro x_40 H locs ls hf_43; exact absurd hf_43 (Nat.not_lt_zero _)
                | succ n_43 ih_43 =>
                  intro x_40 H locs ls hf_43 b_41 b_42 hw hl
                  refine lv_iload hx hb dX10_isWay_86 (lv_at hl 0 rfl) ?_
                  refine lv_aload_n hx hb dX10_isWay_88 rfl (lv_at hl 3 rfl) ?_
                  refine ti_callVi (ci := 10) (av := []) C hw (s_X10_knownMany l D A cy hJ M_37 iM_37 ) ⟨ml_X10_474, ym_X10_knownMany, yv_X10_knownMany, yi_X10_knownMany, yc_X10_knownMany⟩ yd_X10_knownMany ob_60 (by decide) rfl rfl hl.1 (Nat.le_of_ble_eq_true rfl) ⟨by decide, by decide⟩ ⟨Nat.zero_le _, Nat.zero_le _⟩ dX10_isWay_89 (fun r_44 M_45 H locs hp_45 hw => ?_)
                  obtain ⟨hm, b0r_44, b1r_44⟩ := hp_45
                  have hw := hw.to hm
                  refine sb_icmp_ge (tgt := 176) hx hb rfl rfl dX10_isWay_92 (by decide) (fun c_92_45 => ?_) (fun c_92_45 => ?_)
                  · obtain ⟨x_63, ex_63⟩ : ∃ z : Int32, z = x_27 + 1 := ⟨_, rfl⟩
                    have tx_63 : x_63.toInt = x_27.toInt + 1 := i_add ex_63 rfl (by decide) (by omega) (by omega)
                    refine lv_iinc (v := x_63) (lv' := [(4, .int x_63), (5, .int x_40), (3, .int x_4), (0, .ref (A 60 0)), (1, .int z1), (2, .int z2)]) hx hb dX10_isWay_176 hl (k := 1) rfl (by rw [ex_63]; rfl) (by decide) rfl (fun ls hl => ?_)
                    refine lv_goto (tgt := 71) hx hb dX10_isWay_179 (by decide) ?_
                    exact ih_34 x_63 M_37 _ _ _ (by omega) (by first | omega | decide) (by first | omega | decide) iM_37 (rw1.trans (rw1_rq q_38) f_31) (fR.trans frM_37 f_32) q_39 hw (lv_sub hl [0, 2, 3, 4, 5] rfl)
                  · refine lv_aload_n hx hb dX10_isWay_95 rfl (lv_at hl 3 rfl) ?_
                    refine ti_get (ci := 10) (k := 64) (N := 67) (T := TX10) (v := .ref (A 60 65)) C hw iw_10 rfl ob_60 (by decide) (by decide) fl_X10_147 rfl rfl dX10_isWay_96 ?_
                    refine lv_iload hx hb dX10_isWay_99 (lv_at hl 0 rfl) ?_
                    refine ti_zald (ci := 10) (k := 64) (n := 24) C hw ob_60 (by decide) (fun _ _ => rfl) (vp_in_iff.mpr (by omega)) dX10_isWay_101 ?_
                    refine lv_topi (fun x_47 ex_47 => ?_)
                    have hj_170_61 : ∀  (H : Heap) (locs : List Loc) (ls : Array Slot), ti_H ti_LM D A cy H0 M_37 H locs → lv_has ls 7 [(5, .int x_40), (4, .int x_27), (3, .int x_4), (0, .ref (A 60 0)), (1, .int z1), (2, .int z2)] → W p l e (ti_rm 7) s m args below meth c H locs 0 0 Q (F0 m 170 ls []) := by
                      intro  H locs ls  hw hl
                      obtain ⟨x_62, ex_62⟩ : ∃ z : Int32, z = x_40 + 1 := ⟨_, rfl⟩
                      have tx_62 : x_62.toInt = x_40.toInt + 1 := i_add ex_62 rfl (by decide) (by omega) (by omega)
                      refine lv_iinc (v := x_62) (lv' := [(5, .int x_62), (4, .int x_27), (3, .int x_4), (0, .ref (A 60 0)), (1, .int z1), (2, .int z2)]) hx hb dX10_isWay_170 hl (k := 0) rfl (by rw [ex_62]; rfl) (by decide) rfl (fun ls hl => ?_)
                      refine lv_goto (tgt := 86) hx hb dX10_isWay_173 (by decide) ?_
                      exact ih_43 x_62 _ _ _ (by omega) (by first | omega | decide) (by first | omega | decide) hw (lv_sub hl [0, 1, 2, 3, 4, 5] rfl)
                    refine sb_if_ne (tgt := 170) hx hb rfl dX10_isWay_102 (by decide) (fun c_102_47 => ?_) (fun c_102_47 => ?_)
                    · exact hj_170_61  _ _ _  hw (lv_sub hl [0, 1, 2, 3, 4, 5] rfl)
                    · refine lv_aload_n hx hb dX10_isWay_105 rfl (lv_at hl 3 rfl) ?_
                      refine ti_get (ci := 10) (k := 63) (N := 67) (T := TX10) (v := .ref (A 60 64)) C hw iw_10 rfl ob_60 (by decide) (by decide) fl_X10_144 rfl rfl dX10_isWay_106 ?_
                      refine lv_iload hx hb dX10_isWay_109 (lv_at hl 0 rfl) ?_
                      refine ti_iald (ci := 10) (k := 63) (n := 24) C hw ob_60 (by decide) (fun _ _ => rfl) (vp_in_iff.mpr (by omega)) dX10_isWay_111 ?_
                      refine lv_topi (fun x_49 ex_49 => ?_)
                      have yx_49 : tY M_37 60 63 x_40.toNatClampNeg = x_49 := (ex_49.symm)
                      have bx_49 : (-1) ≤ x_49.toInt ∧ x_49.toInt ≤ 23 := mI_ry (k := 63) (i := x_40.toNatClampNeg) iM_37 yx_49.symm
                      refine lv_iconst (v := (-1)) hx hb dX10_isWay_112 (by decide) ?_
                      refine sb_icmp_ne (tgt := 170) hx hb rfl (by decide : ((-1) : Int32).toInt = (-1)) dX10_isWay_113 (by decide) (fun c_113_49 => ?_) (fun c_113_49 => ?_)
                      · exact hj_170_61  _ _ _  hw (lv_sub hl [0, 1, 2, 3, 4, 5] rfl)
                      · refine lv_aload_n hx hb dX10_isWay_116 rfl (lv_at hl 3 rfl) ?_
                        refine ti_get (ci := 10) (k := 60) (N := 67) (T := TX10) (v := .ref (A 60 61)) C hw iw_10 rfl ob_60 (by decide) (by decide) fl_X10_135 rfl rfl dX10_isWay_117 ?_
                        refine lv_iload hx hb dX10_isWay_120 (lv_at hl 0 rfl) ?_
                        refine ti_iald (ci := 10) (k := 60) (n := 24) C hw ob_60 (by decide) (fun _ _ => rfl) (vp_in_iff.mpr (by omega)) dX10_isWay_122 ?_
                        refine lv_topi (fun x_51 ex_51 => ?_)
                        have yx_51 : tY M_37 60 60 x_40.toNatClampNeg = x_51 := (ex_51.symm)
                        have bx_51 : 0 ≤ x_51.toInt ∧ x_51.toInt ≤ 59 := mI_ry (k := 60) (i := x_40.toNatClampNeg) iM_37 yx_51.symm
                        refine lv_iload hx hb dX10_isWay_123 (lv_at hl 1 rfl) ?_
                        refine sb_icmp_eq (tgt := 131) hx hb rfl rfl dX10_isWay_125 (by decide) (fun c_125_51 => ?_) (fun c_125_51 => ?_)
                        · refine lv_aload_n hx hb dX10_isWay_131 rfl (lv_at hl 3 rfl) ?_
                          refine lv_iconst (v := 1) hx hb dX10_isWay_132 (by decide) ?_
                          refine lv_aload_n hx hb dX10_isWay_133 rfl (lv_at hl 3 rfl) ?_
                          refine ti_get (ci := 10) (k := 61) (N := 67) (T := TX10) (v := .ref (A 60 62)) C hw iw_10 rfl ob_60 (by decide) (by decide) fl_X10_138 rfl rfl dX10_isWay_134 ?_
                          refine lv_iload hx hb dX10_isWay_137 (lv_at hl 0 rfl) ?_
                          refine ti_iald (ci := 10) (k := 61) (n := 24) C hw ob_60 (by decide) (fun _ _ => rfl) (vp_in_iff.mpr (by omega)) dX10_isWay_139 ?_
                          refine lv_topi (fun x_53 ex_53 => ?_)
                          have yx_53 : tY M_37 60 61 x_40.toNatClampNeg = x_53 := (ex_53.symm)
                          have bx_53 : 0 ≤ x_53.toInt ∧ x_53.toInt ≤ 7 := mI_ry (k := 61) (i := x_40.toNatClampNeg) iM_37 yx_53.symm
                          refine ti_callVi (ci := 10) (av := [.int 1, .int x_53]) C hw (s_X10_standsAt_1 l D A cy hJ M_37 iM_37 x_53 (by first | omega | decide) (by first | omega | decide)) ⟨ml_X10_417, ym_X10_standsAt, yv_X10_standsAt, yi_X10_standsAt, yc_X10_standsAt⟩ yd_X10_standsAt ob_60 (by decide) rfl rfl hl.1 (Nat.le_of_ble_eq_true rfl) ⟨by decide, by decide⟩ ⟨Nat.zero_le _, Nat.zero_le _⟩ dX10_isWay_140 (fun r_54 M_55 H locs hp_55 hw => ?_)
                          obtain ⟨hm, b0r_54, b1r_54⟩ := hp_55
                          have hw := hw.to hm
                          refine lv_istore (lv' := [(6, .int r_54), (5, .int x_40), (4, .int x_27), (3, .int x_4), (0, .ref (A 60 0)), (1, .int z1), (2, .int z2)]) hx hb dX10_isWay_143 hl (by decide) rfl (fun ls hl => ?_)
                          refine lv_iload hx hb dX10_isWay_145 (lv_at hl 0 rfl) ?_
                          refine lv_bipush (v := (-2)) hx hb dX10_isWay_147 (by decide) ?_
                          have hj_158_59 : ∀ (x_57 : Int32) (H : Heap) (locs : List Loc) (ls : Array Slot), ((-2) ≤ x_57.toInt) → (x_57.toInt ≤ 7) → ti_H ti_LM D A cy H0 M_37 H locs → lv_has ls 7 [(6, .int r_54), (5, .int x_40), (4, .int x_27), (3, .int x_4), (0, .ref (A 60 0)), (1, .int z1), (2, .int z2)] → W p l e (ti_rm 7) s m args below meth c H locs 0 0 Q (F0 m 158 ls [.int x_57]) := by
                            intro x_57 H locs ls b_58 b_59 hw hl
                            refine lv_aload_n hx hb dX10_isWay_158 rfl (lv_at hl 4 rfl) ?_
                            refine ti_get (ci := 10) (k := 62) (N := 67) (T := TX10) (v := .ref (A 60 63)) C hw iw_10 rfl ob_60 (by decide) (by decide) fl_X10_141 rfl rfl dX10_isWay_159 ?_
                            refine lv_iload hx hb dX10_isWay_162 (lv_at hl 1 rfl) ?_
                            refine ti_iald (ci := 10) (k := 62) (n := 24) C hw ob_60 (by decide) (fun _ _ => rfl) (vp_in_iff.mpr (by omega)) dX10_isWay_164 ?_
                            refine lv_topi (fun x_60 ex_60 => ?_)
                            have yx_60 : tY M_37 60 62 x_40.toNatClampNeg = x_60 := (ex_60.symm)
                            refine sb_icmp_eq (tgt := 170) hx hb rfl rfl dX10_isWay_165 (by decide) (fun c_165_60 => ?_) (fun c_165_60 => ?_)
                            · exact hj_170_61  _ _ _  hw (lv_sub hl [1, 2, 3, 4, 5, 6] rfl)
                            · refine lv_iconst (v := 0) hx hb dX10_isWay_168 (by decide) ?_
                              exact hQ _ _ _ _ _ _ hw rfl (⟨(fR.trans frM_37 f_32), iM_37, (rw1.trans (rw1_rq q_38) f_31), by first | omega | decide, by first | omega | decide⟩) dX10_isWay_169
                          refine sb_icmp_ne (tgt := 156) hx hb rfl (by decide : ((-2) : Int32).toInt = (-2)) dX10_isWay_149 (by decide) (fun c_149_55 => ?_) (fun c_149_55 => ?_)
                          · refine lv_iload hx hb dX10_isWay_156 (lv_at hl 0 rfl) ?_
                            exact hj_158_59 r_54 _ _ _ (by first | omega | decide) (by first | omega | decide) hw (lv_sub hl [0, 1, 2, 3, 4, 5, 6] rfl)
                          · refine lv_iconst (v := (-1)) hx hb dX10_isWay_152 (by decide) ?_
                            refine lv_goto (tgt := 158) hx hb dX10_isWay_153 (by decide) ?_
                            exact hj_158_59 (-1) _ _ _ (by have lt0 : ((-1) : Int32).toInt = (-1) := (by decide); first | omega | decide) (by have lt0 : ((-1) : Int32).toInt = (-1) := (by decide); first | omega | decide) hw (lv_sub hl [0, 1, 2, 3, 4, 5, 6] rfl)
                        · refine lv_goto (tgt := 170) hx hb dX10_isWay_128 (by decide) ?_
                          exact hj_170_61  _ _ _  hw (lv_sub hl [0, 1, 2, 3, 4, 5] rfl)
              exact hl_86_42 ((24 - 0 : Int).toNat + 1) 0 _ _ _ (Nat.lt_succ_self _) (by have lt0 : (0 : Int32).toInt = 0 := (by decide); first | omega | decide) (by have lt0 : (0 : Int32).toInt = 0 := (by decide); first | omega | decide) hw (lv_sub hl [0, 1, 2, 3, 4, 5] rfl)
        exact hl_71_33 ((60 - 0 : Int).toNat + 1) 0 M_26 _ _ _ (Nat.lt_succ_self _) (by have lt0 : (0 : Int32).toInt = 0 := (by decide); first | omega | decide) (by have lt0 : (0 : Int32).toInt = 0 := (by decide); first | omega | decide) iM_26 (rw1.trans (rw1_qw (qw_Y hM_26 (by decide))) (rw1_rq q_23)) (fR.trans (fR_Y hM_26 (bk_m (z := x_25) (by omega) (by decide))) frM_22) (mC_qw (qw_Y hM_26 (by decide)) q_24) hw (lv_sub hl [0, 1, 2, 3, 4] rfl)
      · refine lv_aload_n hx hb dX10_isWay_14 rfl (lv_at hl 2 rfl) ?_
        refine ti_get (ci := 10) (k := 64) (N := 67) (T := TX10) (v := .ref (A 60 65)) C hw iw_10 rfl ob_60 (by decide) (by decide) fl_X10_147 rfl rfl dX10_isWay_15 ?_
        refine lv_iload hx hb dX10_isWay_18 (lv_at hl 0 rfl) ?_
        refine ti_zald (ci := 10) (k := 64) (n := 24) C hw ob_60 (by decide) (fun _ _ => rfl) (vp_in_iff.mpr (by omega)) dX10_isWay_20 ?_
        refine lv_topi (fun x_11 ex_11 => ?_)
        have hj_47_19 : ∀ (x_17 : Int32) (H : Heap) (locs : List Loc) (ls : Array Slot), ((-1) ≤ x_17.toInt) → (x_17.toInt ≤ 59) → ti_H ti_LM D A cy H0 M H locs → lv_has ls 7 [(4, .int x_1), (3, .int x_17), (0, .ref (A 60 0)), (1, .int z1), (2, .int z2)] → W p l e (ti_rm 7) s m args below meth c H locs 0 0 Q (F0 m 47 ls []) := by
          intro x_17 H locs ls b_18 b_19 hw hl
          obtain ⟨x_20, ex_20⟩ : ∃ z : Int32, z = x_1 + 1 := ⟨_, rfl⟩
          have tx_20 : x_20.toInt = x_1.toInt + 1 := i_add ex_20 rfl (by decide) (by omega) (by omega)
          refine lv_iinc (v := x_20) (lv' := [(4, .int x_20), (3, .int x_17), (0, .ref (A 60 0)), (1, .int z1), (2, .int z2)]) hx hb dX10_isWay_47 hl (k := 0) rfl (by rw [ex_20]; rfl) (by decide) rfl (fun ls hl => ?_)
          refine lv_goto (tgt := 5) hx hb dX10_isWay_50 (by decide) ?_
          exact ih_7 x_20 x_17 _ _ _ (by omega) (by first | omega | decide) (by first | omega | decide) (by first | omega | decide) (by first | omega | decide) hw (lv_sub hl [0, 1, 2, 3, 4] rfl)
        refine sb_if_ne (tgt := 47) hx hb rfl dX10_isWay_21 (by decide) (fun c_21_11 => ?_) (fun c_21_11 => ?_)
        · exact hj_47_19 x_4 _ _ _ (by first | omega | decide) (by first | omega | decide) hw (lv_sub hl [0, 1, 2, 3, 4] rfl)
        · refine lv_aload_n hx hb dX10_isWay_24 rfl (lv_at hl 2 rfl) ?_
          refine ti_get (ci := 10) (k := 63) (N := 67) (T := TX10) (v := .ref (A 60 64)) C hw iw_10 rfl ob_60 (by decide) (by decide) fl_X10_144 rfl rfl dX10_isWay_25 ?_
          refine lv_iload hx hb dX10_isWay_28 (lv_at hl 0 rfl) ?_
          refine ti_iald (ci := 10) (k := 63) (n := 24) C hw ob_60 (by decide) (fun _ _ => rfl) (vp_in_iff.mpr (by omega)) dX10_isWay_30 ?_
          refine lv_topi (fun x_13 ex_13 => ?_)
          have yx_13 : tY M 60 63 x_1.toNatClampNeg = x_13 := (ex_13.symm)
          have bx_13 : (-1) ≤ x_13.toInt ∧ x_13.toInt ≤ 23 := mI_ry (k := 63) (i := x_1.toNatClampNeg) hI yx_13.symm
          refine lv_iconst (v := (-1)) hx hb dX10_isWay_31 (by decide) ?_
          refine sb_icmp_ne (tgt := 47) hx hb rfl (by decide : ((-1) : Int32).toInt = (-1)) dX10_isWay_32 (by decide) (fun c_32_13 => ?_) (fun c_32_13 => ?_)
          · exact hj_47_19 x_4 _ _ _ (by first | omega | decide) (by first | omega | decide) hw (lv_sub hl [0, 1, 2, 3, 4] rfl)
          · refine lv_iload_n hx hb dX10_isWay_35 rfl (lv_at hl 1 rfl) ?_
            refine lv_aload_n hx hb dX10_isWay_36 rfl (lv_at hl 2 rfl) ?_
            refine ti_get (ci := 10) (k := 60) (N := 67) (T := TX10) (v := .ref (A 60 61)) C hw iw_10 rfl ob_60 (by decide) (by decide) fl_X10_135 rfl rfl dX10_isWay_37 ?_
            refine lv_iload hx hb dX10_isWay_40 (lv_at hl 0 rfl) ?_
            refine ti_iald (ci := 10) (k := 60) (n := 24) C hw ob_60 (by decide) (fun _ _ => rfl) (vp_in_iff.mpr (by omega)) dX10_isWay_42 ?_
            refine lv_topi (fun x_15 ex_15 => ?_)
            have yx_15 : tY M 60 60 x_1.toNatClampNeg = x_15 := (ex_15.symm)
            have bx_15 : 0 ≤ x_15.toInt ∧ x_15.toInt ≤ 59 := mI_ry (k := 60) (i := x_1.toNatClampNeg) hI yx_15.symm
            refine ti_max C ml_X10_477 hl.1 (by decide) (Nat.le_of_ble_eq_true rfl) ⟨Nat.zero_le _, Nat.zero_le _⟩ dX10_isWay_43 ?_
            refine lv_topi (fun x_16 ex_16 => ?_)
            have bx_16 := i_max ex_16 rfl rfl
            refine lv_istore_n (lv' := [(3, .int x_16), (4, .int x_1), (0, .ref (A 60 0)), (1, .int z1), (2, .int z2)]) hx hb dX10_isWay_46 rfl hl (by decide) rfl (fun ls hl => ?_)
            exact hj_47_19 x_16 _ _ _ (by first | omega | decide) (by first | omega | decide) hw (lv_sub hl [1, 0, 2, 3, 4] rfl)
  exact hl_5_6 ((24 - 0 : Int).toNat + 1) 0 (-1) _ _ _ (Nat.lt_succ_self _) (by have lt0 : ((-1) : Int32).toInt = (-1) := (by decide); have lt1 : (0 : Int32).toInt = 0 := (by decide); first | omega | decide) (by have lt0 : ((-1) : Int32).toInt = (-1) := (by decide); have lt1 : (0 : Int32).toInt = 0 := (by decide); first | omega | decide) (by have lt0 : ((-1) : Int32).toInt = (-1) := (by decide); have lt1 : (0 : Int32).toInt = 0 := (by decide); first | omega | decide) (by have lt0 : ((-1) : Int32).toInt = (-1) := (by decide); have lt1 : (0 : Int32).toInt = 0 := (by decide); first | omega | decide) hw (lv_sub hl [0, 1, 2, 3, 4] rfl)
set_option maxHeartbeats 4000000 in
set_option maxRecDepth 100000 in
theorem f_X10_layCame (l : Launch) (D : va_G) (A : Nat → Nat → Nat) (cy : Nat → ClassId) (hJ : ti_inj ti_LM A) (M : ti_M) (hI : mI Tm M) (hF : mF Tm M) (z1 : Int32) : ti_Ki l yX10_layCame cX10_layCame 5 (some .int) 8 ti_LM D A cy M [.ref (A 60 0), .int z1] (fun r M2 => fR 1 M2 M ∧ mI Tm M2 ∧ rw1 M2 M) := by
  refine ti_eI yp_X10_layCame hJ ti_LM_nd (Nat.le_of_ble_eq_true rfl) ?_
  intro p e s m args below meth c Q H0 C hQ hw ls hl
  have hx := C.1
  have hb := C.2.1
  have hl : lv_has ls 5 [(0, .ref (A 60 0)), (1, .int z1)] := hl
  have hL : mL M := hF.2.1
  have hC0 : mC M 0 := hF.2.2.1.1
  have hP0 : mP M 0 := hF.2.2.1.2
  refine lv_iconst (v := 0) hx hb dX10_layCame_0 (by decide) ?_
  refine lv_istore_n (lv' := [(2, .int 0), (0, .ref (A 60 0)), (1, .int z1)]) hx hb dX10_layCame_1 rfl hl (by decide) rfl (fun ls hl => ?_)
  have hl_2_6 : ∀ (n_7 : Nat) (x_1 : Int32) (M_4 : ti_M) (H : Heap) (locs : List Loc) (ls : Array Slot), (24 - x_1.toInt : Int).toNat < n_7 → (0 ≤ x_1.toInt) → (x_1.toInt ≤ 24) → (mI Tm M_4) → (rw1 M_4 M) → (fR 1 M_4 M) → ti_H ti_LM D A cy H0 M_4 H locs → lv_has ls 5 [(2, .int x_1), (0, .ref (A 60 0)), (1, .int z1)] → W p l e (ti_rm 8) s m args below meth c H locs 0 0 Q (F0 m 2 ls []) := by
    intro n_7
    induction n_7 with
    | zero => intro x_1 M_4 H locs ls hf_7; exact absurd hf_7 (Nat.not_lt_zero _)
    | succ n_7 ih_7 =>
      intro x_1 M_4 H locs ls hf_7 b_2 b_3 iM_4 f_5 f_6 hw hl
      refine lv_iload_n hx hb dX10_layCame_2 rfl (lv_at hl 0 rfl) ?_
      refine lv_aload_n hx hb dX10_layCame_3 rfl (lv_at hl 1 rfl) ?_
      refine ti_callVi (ci := 10) (av := []) C hw (s_X10_knownMany l D A cy hJ M_4 iM_4 ) ⟨ml_X10_474, ym_X10_knownMany, yv_X10_knownMany, yi_X10_knownMany, yc_X10_knownMany⟩ yd_X10_knownMany ob_60 (by decide) rfl rfl hl.1 (Nat.le_of_ble_eq_true rfl) ⟨by decide, by decide⟩ ⟨Nat.zero_le _, Nat.zero_le _⟩ dX10_layCame_4 (fun r_8 M_9 H locs hp_9 hw => ?_)
      obtain ⟨hm, b0r_8, b1r_8⟩ := hp_9
      have hw := hw.to hm
      refine sb_icmp_ge (tgt := 23) hx hb rfl rfl dX10_layCame_7 (by decide) (fun c_7_9 => ?_) (fun c_7_9 => ?_)
      · refine lv_aload_n hx hb dX10_layCame_23 rfl (lv_at hl 1 rfl) ?_
        refine ti_callVi (ci := 10) (av := []) C hw (s_X10_knownMany l D A cy hJ M_4 iM_4 ) ⟨ml_X10_474, ym_X10_knownMany, yv_X10_knownMany, yi_X10_knownMany, yc_X10_knownMany⟩ yd_X10_knownMany ob_60 (by decide) rfl rfl hl.1 (Nat.le_of_ble_eq_true rfl) ⟨by decide, by decide⟩ ⟨Nat.zero_le _, Nat.zero_le _⟩ dX10_layCame_24 (fun r_13 M_14 H locs hp_14 hw => ?_)
        obtain ⟨hm, b0r_13, b1r_13⟩ := hp_14
        have hw := hw.to hm
        refine lv_iconst (v := 1) hx hb dX10_layCame_27 (by decide) ?_
        refine lv_isub hx hb dX10_layCame_28 ?_
        refine lv_topi (fun x_15 ex_15 => ?_)
        have tx_15 : x_15.toInt = r_13.toInt - 1 := i_sub ex_15 rfl (by decide : (1 : Int32).toInt = 1) (by omega) (by omega)
        refine lv_istore_n (lv' := [(2, .int x_15), (0, .ref (A 60 0)), (1, .int z1)]) hx hb dX10_layCame_29 rfl hl (by decide) rfl (fun ls hl => ?_)
        have hl_30_21 : ∀ (n_22 : Nat) (x_16 : Int32) (M_19 : ti_M) (H : Heap) (locs : List Loc) (ls : Array Slot), (x_16.toInt + 1 : Int).toNat < n_22 → ((-1) ≤ x_16.toInt) → (x_16.toInt ≤ 23) → (mI Tm M_19) → (rw1 M_19 M) → (fR 1 M_19 M) → ti_H ti_LM D A cy H0 M_19 H locs → lv_has ls 5 [(2, .int x_16), (0, .ref (A 60 0)), (1, .int z1)] → W p l e (ti_rm 8) s m args below meth c H locs 0 0 Q (F0 m 30 ls []) := by
          intro n_22
          induction n_22 with
          | zero => intro x_16 M_19 H locs ls hf_22; exact absurd hf_22 (Nat.not_lt_zero _)
          | succ n_22 ih_22 =>
            intro x_16 M_19 H locs ls hf_22 b_17 b_18 iM_19 f_20 f_21 hw hl
            refine lv_iload_n hx hb dX10_layCame_30 rfl (lv_at hl 0 rfl) ?_
            refine sb_if_lt (tgt := 71) hx hb rfl dX10_layCame_31 (by decide) (fun c_31_22 => ?_) (fun c_31_22 => ?_)
            · refine lv_iconst (v := 0) hx hb dX10_layCame_71 (by decide) ?_
              refine lv_istore_n (lv' := [(2, .int 0), (0, .ref (A 60 0)), (1, .int z1)]) hx hb dX10_layCame_72 rfl hl (by decide) rfl (fun ls hl => ?_)
              refine lv_iconst (v := 0) hx hb dX10_layCame_73 (by decide) ?_
              refine lv_istore_n (lv' := [(3, .int 0), (2, .int 0), (0, .ref (A 60 0)), (1, .int z1)]) hx hb dX10_layCame_74 rfl hl (by decide) rfl (fun ls hl => ?_)
              have hl_75_39 : ∀ (n_40 : Nat) (x_33 : Int32) (x_36 : Int32) (M_37 : ti_M) (H : Heap) (locs : List Loc) (ls : Array Slot), (8 - x_33.toInt : Int).toNat < n_40 → (0 ≤ x_33.toInt) → (x_33.toInt ≤ 8) → (mI Tm M_37) → (rw1 M_37 M) → (fR 1 M_37 M) → ti_H ti_LM D A cy H0 M_37 H locs → lv_has ls 5 [(3, .int x_33), (2, .int x_36), (0, .ref (A 60 0)), (1, .int z1)] → W p l e (ti_rm 8) s m args below meth c H locs 0 0 Q (F0 m 75 ls []) := by
                intro n_40
                induction n_40 with
                | zero => intro x_33 x_36 M_37 H locs ls hf_40; exact absurd hf_40 (Nat.not_lt_zero _)
                | succ n_40 ih_40 =>
                  intro x_33 x_36 M_37 H locs ls hf_40 b_34 b_35 iM_37 f_38 f_39 hw hl
                  refine lv_iload_n hx hb dX10_layCame_75 rfl (lv_at hl 0 rfl) ?_
                  refine lv_aload_n hx hb dX10_layCame_76 rfl (lv_at hl 2 rfl) ?_
                  refine ti_get (ci := 10) (k := 3) (N := 67) (T := TX10) (v := .ref (A 60 4)) C hw iw_10 rfl ob_60 (by decide) (by decide) fl_X10_13 rfl rfl dX10_layCame_77 ?_
                  refine lv_iconst (v := 0) hx hb dX10_layCame_80 (by decide) ?_
                  refine ti_iald (ci := 10) (k := 3) (n := 22) C hw ob_60 (by decide) (fun _ _ => rfl) (by unfold vp_in; decide) dX10_layCame_81 ?_
                  refine lv_topi (fun x_41 ex_41 => ?_)
                  have yx_41 : tY M_37 60 3 0 = x_41 := ((congrArg _ (by decide)).symm.trans ex_41.symm)
                  have bx_41 : 0 ≤ x_41.toInt ∧ x_41.toInt ≤ 8 := mI_rn (i := 0) iM_37 yx_41.symm (fun _ h => h)
                  have zx_41 : (tY M_37 60 3 0).toInt = x_41.toInt := by rw [yx_41]
                  have wx_41 : tY M 60 3 0 = x_41 := ((cg (f_38.1 3 (by decide) (by decide)) 0)).symm.trans yx_41
                  have zwx_41 : (tY M 60 3 0).toInt = x_41.toInt := by rw [wx_41]
                  refine sb_icmp_ge (tgt := 139) hx hb rfl rfl dX10_layCame_82 (by decide) (fun c_82_41 => ?_) (fun c_82_41 => ?_)
                  · refine lv_iload_n hx hb dX10_layCame_139 rfl (lv_at hl 1 rfl) ?_
                    exact hQ _ _ _ _ _ _ hw rfl (⟨f_39, iM_37, f_38⟩) dX10_layCame_140
                  · refine lv_iconst (v := 0) hx hb dX10_layCame_85 (by decide) ?_
                    refine lv_istore (lv' := [(4, .int 0), (3, .int x_33), (2, .int x_36), (0, .ref (A 60 0)), (1, .int z1)]) hx hb dX10_layCame_86 hl (by decide) rfl (fun ls hl => ?_)
                    have hl_88_49 : ∀ (n_50 : Nat) (x_43 : Int32) (x_46 : Int32) (M_47 : ti_M) (H : Heap) (locs : List Loc) (ls : Array Slot), (60 - x_43.toInt : Int).toNat < n_50 → (0 ≤ x_43.toInt) → (x_43.toInt ≤ 60) → (mI Tm M_47) → (rw1 M_47 M) → (fR 1 M_47 M) → ti_H ti_LM D A cy H0 M_47 H locs → lv_has ls 5 [(4, .int x_43), (3, .int x_33), (2, .int x_46), (0, .ref (A 60 0)), (1, .int z1)] → W p l e (ti_rm 8) s m args below meth c H locs 0 0 Q (F0 m 88 ls []) := by
                      intro n_50
                      induction n_50 with
                      | zero => intro x_43 x_46 M_47 H locs ls hf_50; exact absurd hf_50 (Nat.not_lt_zero _)
                      | succ n_50 ih_50 =>
                        intro x_43 x_46 M_47 H locs ls hf_50 b_44 b_45 iM_47 f_48 f_49 hw hl
                        refine lv_iload hx hb dX10_layCame_88 (lv_at hl 0 rfl) ?_
                        refine lv_bipush (v := 59) hx hb dX10_layCame_90 (by decide) ?_
                        refine sb_icmp_gt (tgt := 133) hx hb rfl (by decide : (59 : Int32).toInt = 59) dX10_layCame_92 (by decide) (fun c_92_50 => ?_) (fun c_92_50 => ?_)
                        · obtain ⟨x_68, ex_68⟩ : ∃ z : Int32, z = x_33 + 1 := ⟨_, rfl⟩
                          have tx_68 : x_68.toInt = x_33.toInt + 1 := i_add ex_68 rfl (by decide) (by omega) (by omega)
                          refine lv_iinc (v := x_68) (lv' := [(3, .int x_68), (4, .int x_43), (2, .int x_46), (0, .ref (A 60 0)), (1, .int z1)]) hx hb dX10_layCame_133 hl (k := 1) rfl (by rw [ex_68]; rfl) (by decide) rfl (fun ls hl => ?_)
                          refine lv_goto (tgt := 75) hx hb dX10_layCame_136 (by decide) ?_
                          exact ih_40 x_68 x_46 M_47 _ _ _ (by omega) (by first | omega | decide) (by first | omega | decide) iM_47 f_48 f_49 hw (lv_sub hl [0, 2, 3, 4] rfl)
                        · refine lv_aload_n hx hb dX10_layCame_95 rfl (lv_at hl 3 rfl) ?_
                          refine lv_iload_n hx hb dX10_layCame_96 rfl (lv_at hl 1 rfl) ?_
                          refine lv_iload hx hb dX10_layCame_97 (lv_at hl 0 rfl) ?_
                          refine ti_callVi (ci := 10) (av := [.int x_33, .int x_43]) C hw (f_X10_isWay l D A cy hJ M_47 iM_47 (mF_rw hF iM_47 f_48) x_33 x_43 (by first | omega | decide) (by first | omega | decide)) ⟨ml_X10_479, ym_X10_isWay, yv_X10_isWay, yi_X10_isWay, yc_X10_isWay⟩ yd_X10_isWay ob_60 (by decide) rfl rfl hl.1 (Nat.le_of_ble_eq_true rfl) ⟨by decide, by decide⟩ ⟨Nat.zero_le _, Nat.zero_le _⟩ dX10_layCame_99 (fun r_52 M_53 H locs hp_53 hw => ?_)
                          obtain ⟨frM_53, hqM_53⟩ := hp_53
                          obtain ⟨iM_53, q_54, b0r_52, b1r_52⟩ := hqM_53
                          have hj_127_66 : ∀ (x_63 : Int32) (M_64 : ti_M) (H : Heap) (locs : List Loc) (ls : Array Slot), (mI Tm M_64) → (rw1 M_64 M) → (fR 1 M_64 M) → ti_H ti_LM D A cy H0 M_64 H locs → lv_has ls 5 [(4, .int x_43), (3, .int x_33), (2, .int x_63), (0, .ref (A 60 0)), (1, .int z1)] → W p l e (ti_rm 8) s m args below meth c H locs 0 0 Q (F0 m 127 ls []) := by
                            intro x_63 M_64 H locs ls iM_64 f_65 f_66 hw hl
                            obtain ⟨x_67, ex_67⟩ : ∃ z : Int32, z = x_43 + 1 := ⟨_, rfl⟩
                            have tx_67 : x_67.toInt = x_43.toInt + 1 := i_add ex_67 rfl (by decide) (by omega) (by omega)
                            refine lv_iinc (v := x_67) (lv' := [(4, .int x_67), (3, .int x_33), (2, .int x_63), (0, .ref (A 60 0)), (1, .int z1)]) hx hb dX10_layCame_127 hl (k := 0) rfl (by rw [ex_67]; rfl) (by decide) rfl (fun ls hl => ?_)
                            refine lv_goto (tgt := 88) hx hb dX10_layCame_130 (by decide) ?_
                            exact ih_50 x_67 x_63 M_64 _ _ _ (by omega) (by first | omega | decide) (by first | omega | decide) iM_64 f_65 f_66 hw (lv_sub hl [0, 1, 2, 3, 4] rfl)
                          refine sb_if_ne (tgt := 108) hx hb rfl dX10_layCame_102 (by decide) (fun c_102_54 => ?_) (fun c_102_54 => ?_)
                          · refine lv_iload_n hx hb dX10_layCame_108 rfl (lv_at hl 2 rfl) ?_
                            refine lv_iload_n hx hb dX10_layCame_109 rfl (lv_at hl 4 rfl) ?_
                            have hj_124_61 : ∀ (M_59 : ti_M) (H : Heap) (locs : List Loc) (ls : Array Slot), (mI Tm M_59) → (rw1 M_59 M) → (fR 1 M_59 M) → ti_H ti_LM D A cy H0 M_59 H locs → lv_has ls 5 [(4, .int x_43), (3, .int x_33), (2, .int x_46), (0, .ref (A 60 0)), (1, .int z1)] → W p l e (ti_rm 8) s m args below meth c H locs 0 0 Q (F0 m 124 ls []) := by
                              intro M_59 H locs ls iM_59 f_60 f_61 hw hl
                              obtain ⟨x_62, ex_62⟩ : ∃ z : Int32, z = x_46 + 1 := ⟨_, rfl⟩
                              refine lv_iinc (v := x_62) (lv' := [(2, .int x_62), (4, .int x_43), (3, .int x_33), (0, .ref (A 60 0)), (1, .int z1)]) hx hb dX10_layCame_124 hl (k := 2) rfl (by rw [ex_62]; rfl) (by decide) rfl (fun ls hl => ?_)
                              exact hj_127_66 x_62 M_59 _ _ _ iM_59 f_60 f_61 hw (lv_sub hl [1, 2, 0, 3, 4] rfl)
                            refine sb_icmp_ne (tgt := 124) hx hb rfl rfl dX10_layCame_110 (by decide) (fun c_110_55 => ?_) (fun c_110_55 => ?_)
                            · exact hj_124_61 M_53 _ _ _ iM_53 (rw1.trans q_54 f_48) (fR.trans frM_53 f_49) hw (lv_sub hl [0, 1, 2, 3, 4] rfl)
                            · refine lv_aload_n hx hb dX10_layCame_113 rfl (lv_at hl 3 rfl) ?_
                              refine lv_iload_n hx hb dX10_layCame_114 rfl (lv_at hl 1 rfl) ?_
                              refine ti_putI (ci := 10) (k := 65) (N := 67) (T := TX10) C hw iw_10 tyX10 tyX10_ok nmX10 rfl ob_60 (by decide) (by decide) fl_X10_482 rfl rfl rfl rfl (fn_10 A _) fs_10_65 dX10_layCame_115 (fun H locs hw => ?_)
                              obtain ⟨M_57, hM_57⟩ : ∃ z : ti_M, z = uI M_53 60 65 x_33 := ⟨_, rfl⟩
                              have hw := hw.to hM_57.symm
                              have iM_57 : mI Tm M_57 := mI_uI iM_53 hM_57 (by decide) (by decide) trivial
                              refine lv_aload_n hx hb dX10_layCame_118 rfl (lv_at hl 3 rfl) ?_
                              refine lv_iload hx hb dX10_layCame_119 (lv_at hl 0 rfl) ?_
                              refine ti_putI (ci := 10) (k := 66) (N := 67) (T := TX10) C hw iw_10 tyX10 tyX10_ok nmX10 rfl ob_60 (by decide) (by decide) fl_X10_485 rfl rfl rfl rfl (fn_10 A _) fs_10_66 dX10_layCame_121 (fun H locs hw => ?_)
                              obtain ⟨M_58, hM_58⟩ : ∃ z : ti_M, z = uI M_57 60 66 x_43 := ⟨_, rfl⟩
                              have hw := hw.to hM_58.symm
                              have iM_58 : mI Tm M_58 := mI_uI iM_57 hM_58 (by decide) (by decide) trivial
                              exact hj_124_61 M_58 _ _ _ iM_58 (rw1.trans (rw1_qw (qw_I hM_58 (by decide))) (rw1.trans (rw1_qw (qw_I hM_57 (by decide))) (rw1.trans q_54 f_48))) (fR.trans (fR_I hM_58 (by decide)) (fR.trans (fR_I hM_57 (by decide)) (fR.trans frM_53 f_49))) hw (lv_sub hl [0, 1, 2, 3, 4] rfl)
                          · refine lv_goto (tgt := 127) hx hb dX10_layCame_105 (by decide) ?_
                            exact hj_127_66 x_46 M_53 _ _ _ iM_53 (rw1.trans q_54 f_48) (fR.trans frM_53 f_49) hw (lv_sub hl [0, 1, 2, 3, 4] rfl)
                    exact hl_88_49 ((60 - 0 : Int).toNat + 1) 0 x_36 M_37 _ _ _ (Nat.lt_succ_self _) (by have lt0 : (0 : Int32).toInt = 0 := (by decide); first | omega | decide) (by have lt0 : (0 : Int32).toInt = 0 := (by decide); first | omega | decide) iM_37 f_38 f_39 hw (lv_sub hl [0, 1, 2, 3, 4] rfl)
              exact hl_75_39 ((8 - 0 : Int).toNat + 1) 0 0 M_19 _ _ _ (Nat.lt_succ_self _) (by have lt0 : (0 : Int32).toInt = 0 := (by decide); first | omega | decide) (by have lt0 : (0 : Int32).toInt = 0 := (by decide); first | omega | decide) iM_19 f_20 f_21 hw (lv_sub hl [0, 1, 2, 3] rfl)
            · refine lv_aload_n hx hb dX10_layCame_34 rfl (lv_at hl 1 rfl) ?_
              refine ti_get (ci := 10) (k := 64) (N := 67) (T := TX10) (v := .ref (A 60 65)) C hw iw_10 rfl ob_60 (by decide) (by decide) fl_X10_147 rfl rfl dX10_layCame_35 ?_
              refine lv_iload_n hx hb dX10_layCame_38 rfl (lv_at hl 0 rfl) ?_
              refine ti_zald (ci := 10) (k := 64) (n := 24) C hw ob_60 (by decide) (fun _ _ => rfl) (vp_in_iff.mpr (by omega)) dX10_layCame_39 ?_
              refine lv_topi (fun x_24 ex_24 => ?_)
              have hj_65_31 : ∀ (M_29 : ti_M) (H : Heap) (locs : List Loc) (ls : Array Slot), (mI Tm M_29) → (rw1 M_29 M) → (fR 1 M_29 M) → ti_H ti_LM D A cy H0 M_29 H locs → lv_has ls 5 [(2, .int x_16), (0, .ref (A 60 0)), (1, .int z1)] → W p l e (ti_rm 8) s m args below meth c H locs 0 0 Q (F0 m 65 ls []) := by
                intro M_29 H locs ls iM_29 f_30 f_31 hw hl
                obtain ⟨x_32, ex_32⟩ : ∃ z : Int32, z = x_16 + (-1) := ⟨_, rfl⟩
                have tx_32 : x_32.toInt = x_16.toInt + (-1) := i_add ex_32 rfl (by decide) (by omega) (by omega)
                refine lv_iinc (v := x_32) (lv' := [(2, .int x_32), (0, .ref (A 60 0)), (1, .int z1)]) hx hb dX10_layCame_65 hl (k := 0) rfl (by rw [ex_32]; rfl) (by decide) rfl (fun ls hl => ?_)
                refine lv_goto (tgt := 30) hx hb dX10_layCame_68 (by decide) ?_
                exact ih_22 x_32 M_29 _ _ _ (by omega) (by first | omega | decide) (by first | omega | decide) iM_29 f_30 f_31 hw (lv_sub hl [0, 1, 2] rfl)
              refine sb_if_ne (tgt := 65) hx hb rfl dX10_layCame_40 (by decide) (fun c_40_24 => ?_) (fun c_40_24 => ?_)
              · exact hj_65_31 M_19 _ _ _ iM_19 f_20 f_21 hw (lv_sub hl [0, 1, 2] rfl)
              · refine lv_aload_n hx hb dX10_layCame_43 rfl (lv_at hl 1 rfl) ?_
                refine ti_get (ci := 10) (k := 63) (N := 67) (T := TX10) (v := .ref (A 60 64)) C hw iw_10 rfl ob_60 (by decide) (by decide) fl_X10_144 rfl rfl dX10_layCame_44 ?_
                refine lv_iload_n hx hb dX10_layCame_47 rfl (lv_at hl 0 rfl) ?_
                refine ti_iald (ci := 10) (k := 63) (n := 24) C hw ob_60 (by decide) (fun _ _ => rfl) (vp_in_iff.mpr (by omega)) dX10_layCame_48 ?_
                refine lv_topi (fun x_26 ex_26 => ?_)
                have yx_26 : tY M_19 60 63 x_16.toNatClampNeg = x_26 := (ex_26.symm)
                have bx_26 : (-1) ≤ x_26.toInt ∧ x_26.toInt ≤ 23 := mI_ry (k := 63) (i := x_16.toNatClampNeg) iM_19 yx_26.symm
                refine lv_iconst (v := (-1)) hx hb dX10_layCame_49 (by decide) ?_
                refine sb_icmp_eq (tgt := 65) hx hb rfl (by decide : ((-1) : Int32).toInt = (-1)) dX10_layCame_50 (by decide) (fun c_50_26 => ?_) (fun c_50_26 => ?_)
                · exact hj_65_31 M_19 _ _ _ iM_19 f_20 f_21 hw (lv_sub hl [0, 1, 2] rfl)
                · refine lv_aload_n hx hb dX10_layCame_53 rfl (lv_at hl 1 rfl) ?_
                  refine ti_get (ci := 10) (k := 64) (N := 67) (T := TX10) (v := .ref (A 60 65)) C hw iw_10 rfl ob_60 (by decide) (by decide) fl_X10_147 rfl rfl dX10_layCame_54 ?_
                  refine lv_aload_n hx hb dX10_layCame_57 rfl (lv_at hl 1 rfl) ?_
                  refine ti_get (ci := 10) (k := 63) (N := 67) (T := TX10) (v := .ref (A 60 64)) C hw iw_10 rfl ob_60 (by decide) (by decide) fl_X10_144 rfl rfl dX10_layCame_58 ?_
                  refine lv_iload_n hx hb dX10_layCame_61 rfl (lv_at hl 0 rfl) ?_
                  refine ti_iald (ci := 10) (k := 63) (n := 24) C hw ob_60 (by decide) (fun _ _ => rfl) (vp_in_iff.mpr (by omega)) dX10_layCame_62 ?_
                  refine ti_top (y := x_26) ((yx_26)) ?_
                  refine lv_iconst (v := 1) hx hb dX10_layCame_63 (by decide) ?_
                  refine ti_zast (ci := 10) (k := 64) (n := 24) C hw ob_60 (by decide) (fun _ _ => rfl) (vp_in_iff.mpr (by omega)) dX10_layCame_64 (fun H locs hw => ?_)
                  obtain ⟨M_28, hM_28⟩ : ∃ z : ti_M, z = uY M_19 60 64 (upd (tY M_19 60 64) (x_26 : Int32).toNatClampNeg (vp_nar .boolean 1)) := ⟨_, rfl⟩
                  have hw := hw.to hM_28.symm
                  have iM_28 : mI Tm M_28 := mI_up (i := x_26.toNatClampNeg) iM_19 hM_28 trivial
                  exact hj_65_31 M_28 _ _ _ iM_28 (rw1.trans (rw1_qw (qw_Y hM_28 (by decide))) f_20) (fR.trans (fR_O hM_28 (by decide)) f_21) hw (lv_sub hl [0, 1, 2] rfl)
        exact hl_30_21 ((x_15.toInt + 1 : Int).toNat + 1) x_15 M_4 _ _ _ (Nat.lt_succ_self _) (by first | omega | decide) (by first | omega | decide) iM_4 f_5 f_6 hw (lv_sub hl [0, 1, 2] rfl)
      · refine lv_aload_n hx hb dX10_layCame_10 rfl (lv_at hl 1 rfl) ?_
        refine ti_get (ci := 10) (k := 64) (N := 67) (T := TX10) (v := .ref (A 60 65)) C hw iw_10 rfl ob_60 (by decide) (by decide) fl_X10_147 rfl rfl dX10_layCame_11 ?_
        refine lv_iload_n hx hb dX10_layCame_14 rfl (lv_at hl 0 rfl) ?_
        refine lv_iconst (v := 0) hx hb dX10_layCame_15 (by decide) ?_
        refine ti_zast (ci := 10) (k := 64) (n := 24) C hw ob_60 (by decide) (fun _ _ => rfl) (vp_in_iff.mpr (by omega)) dX10_layCame_16 (fun H locs hw => ?_)
        obtain ⟨M_11, hM_11⟩ : ∃ z : ti_M, z = uY M_4 60 64 (upd (tY M_4 60 64) (x_1 : Int32).toNatClampNeg (vp_nar .boolean 0)) := ⟨_, rfl⟩
        have hw := hw.to hM_11.symm
        have iM_11 : mI Tm M_11 := mI_up (i := x_1.toNatClampNeg) iM_4 hM_11 trivial
        obtain ⟨x_12, ex_12⟩ : ∃ z : Int32, z = x_1 + 1 := ⟨_, rfl⟩
        have tx_12 : x_12.toInt = x_1.toInt + 1 := i_add ex_12 rfl (by decide) (by omega) (by omega)
        refine lv_iinc (v := x_12) (lv' := [(2, .int x_12), (0, .ref (A 60 0)), (1, .int z1)]) hx hb dX10_layCame_17 hl (k := 0) rfl (by rw [ex_12]; rfl) (by decide) rfl (fun ls hl => ?_)
        refine lv_goto (tgt := 2) hx hb dX10_layCame_20 (by decide) ?_
        exact ih_7 x_12 M_11 _ _ _ (by omega) (by first | omega | decide) (by first | omega | decide) iM_11 (rw1.trans (rw1_qw (qw_Y hM_11 (by decide))) f_5) (fR.trans (fR_O hM_11 (by decide)) f_6) hw (lv_sub hl [0, 1, 2] rfl)
  exact hl_2_6 ((24 - 0 : Int).toNat + 1) 0 M _ _ _ (Nat.lt_succ_self _) (by have lt0 : (0 : Int32).toInt = 0 := (by decide); first | omega | decide) (by have lt0 : (0 : Int32).toInt = 0 := (by decide); first | omega | decide) hI rw1.refl fR.refl hw (lv_sub hl [0, 1, 2] rfl)
set_option maxHeartbeats 4000000 in
set_option maxRecDepth 100000 in
theorem f_X10_came (l : Launch) (D : va_G) (A : Nat → Nat → Nat) (cy : Nat → ClassId) (hJ : ti_inj ti_LM A) (M : ti_M) (hI : mI Tm M) (hF : mF Tm M) : ti_Ki l yX10_came cX10_came 1 (some .int) 9 ti_LM D A cy M [.ref (A 60 0)] (fun r M2 => fR 1 M2 M ∧ mF Tm M2 ∧ tI M2 60 2 = tI M 60 2 ∧ lw M2 M) := by
  refine ti_eI yp_X10_came hJ ti_LM_nd (Nat.le_of_ble_eq_true rfl) ?_
  intro p e s m args below meth c Q H0 C hQ hw ls hl
  have hx := C.1
  have hb := C.2.1
  have hl : lv_has ls 1 [(0, .ref (A 60 0))] := hl
  have hL : mL M := hF.2.1
  have hC0 : mC M 0 := hF.2.2.1.1
  have hP0 : mP M 0 := hF.2.2.1.2
  refine lv_aload_n hx hb dX10_came_0 rfl (lv_at hl 0 rfl) ?_
  refine lv_iconst (v := 0) hx hb dX10_came_1 (by decide) ?_
  refine ti_putI (ci := 10) (k := 0) (N := 67) (T := TX10) C hw iw_10 tyX10 tyX10_ok nmX10 rfl ob_60 (by decide) (by decide) fl_X10_154 rfl rfl rfl rfl (fn_10 A _) fs_10_0 dX10_came_2 (fun H locs hw => ?_)
  obtain ⟨M_1, hM_1⟩ : ∃ z : ti_M, z = uI M 60 0 0 := ⟨_, rfl⟩
  have hw := hw.to hM_1.symm
  have iM_1 : mI Tm M_1 := mI_uI hI hM_1 (by decide) (by decide) trivial
  refine lv_aload_n hx hb dX10_came_5 rfl (lv_at hl 0 rfl) ?_
  refine lv_iconst (v := (-1)) hx hb dX10_came_6 (by decide) ?_
  refine ti_callVi (ci := 10) (av := [.int (-1)]) C hw (f_X10_layCame l D A cy hJ M_1 iM_1 (mF_rw hF iM_1 (rw1_qw (qw_I hM_1 (by decide)))) (-1)) ⟨ml_X10_488, ym_X10_layCame, yv_X10_layCame, yi_X10_layCame, yc_X10_layCame⟩ yd_X10_layCame ob_60 (by decide) rfl rfl hl.1 (Nat.le_of_ble_eq_true rfl) ⟨by decide, by decide⟩ ⟨Nat.zero_le _, Nat.zero_le _⟩ dX10_came_7 (fun r_2 M_3 H locs hp_3 hw => ?_)
  obtain ⟨frM_3, hqM_3⟩ := hp_3
  obtain ⟨iM_3, q_4⟩ := hqM_3
  exact hQ _ _ _ _ _ _ hw rfl (⟨(fR.trans frM_3 (fR_I hM_1 (by decide))), mF_rw hF iM_3 (rw1.trans q_4 (rw1_qw (qw_I hM_1 (by decide)))), (rw1.trans q_4 (rw1_qw (qw_I hM_1 (by decide)))).2.1.1, (rw1.trans q_4 (rw1_qw (qw_I hM_1 (by decide)))).1⟩) dX10_came_10
set_option maxHeartbeats 4000000 in
set_option maxRecDepth 100000 in
theorem f_X10_one (l : Launch) (D : va_G) (A : Nat → Nat → Nat) (cy : Nat → ClassId) (hJ : ti_inj ti_LM A) (M : ti_M) (hI : mI Tm M) (hF : mF Tm M) (z1 : Int32) (z2 : Int32) : ti_Ki l yX10_one cX10_one 3 (some .int) 9 ti_LM D A cy M [.ref (A 60 0), .int z1, .int z2] (fun r M2 => fR 1 M2 M ∧ mF Tm M2 ∧ tI M2 60 2 = tI M 60 2 ∧ lw M2 M) := by
  refine ti_eI yp_X10_one hJ ti_LM_nd (Nat.le_of_ble_eq_true rfl) ?_
  intro p e s m args below meth c Q H0 C hQ hw ls hl
  have hx := C.1
  have hb := C.2.1
  have hl : lv_has ls 3 [(0, .ref (A 60 0)), (1, .int z1), (2, .int z2)] := hl
  have hL : mL M := hF.2.1
  have hC0 : mC M 0 := hF.2.2.1.1
  have hP0 : mP M 0 := hF.2.2.1.2
  refine lv_aload_n hx hb dX10_one_0 rfl (lv_at hl 0 rfl) ?_
  refine lv_iconst (v := 0) hx hb dX10_one_1 (by decide) ?_
  refine ti_putI (ci := 10) (k := 0) (N := 67) (T := TX10) C hw iw_10 tyX10 tyX10_ok nmX10 rfl ob_60 (by decide) (by decide) fl_X10_154 rfl rfl rfl rfl (fn_10 A _) fs_10_0 dX10_one_2 (fun H locs hw => ?_)
  obtain ⟨M_1, hM_1⟩ : ∃ z : ti_M, z = uI M 60 0 0 := ⟨_, rfl⟩
  have hw := hw.to hM_1.symm
  have iM_1 : mI Tm M_1 := mI_uI hI hM_1 (by decide) (by decide) trivial
  refine lv_iload_n hx hb dX10_one_5 rfl (lv_at hl 1 rfl) ?_
  have hj_18_4 : ∀  (H : Heap) (locs : List Loc) (ls : Array Slot), ti_H ti_LM D A cy H0 M_1 H locs → lv_has ls 3 [(0, .ref (A 60 0)), (1, .int z1), (2, .int z2)] → W p l e (ti_rm 9) s m args below meth c H locs 0 0 Q (F0 m 18 ls []) := by
    intro  H locs ls  hw hl
    refine lv_iconst (v := (-1)) hx hb dX10_one_18 (by decide) ?_
    exact hQ _ _ _ _ _ _ hw rfl (⟨(fR_I hM_1 (by decide)), mF_rw hF iM_1 (rw1_qw (qw_I hM_1 (by decide))), (rw1_qw (qw_I hM_1 (by decide))).2.1.1, (rw1_qw (qw_I hM_1 (by decide))).1⟩) dX10_one_19
  refine sb_if_lt (tgt := 18) hx hb rfl dX10_one_6 (by decide) (fun c_6_1 => ?_) (fun c_6_1 => ?_)
  · exact hj_18_4  _ _ _  hw (lv_sub hl [0, 1, 2] rfl)
  · refine lv_iload_n hx hb dX10_one_9 rfl (lv_at hl 2 rfl) ?_
    refine sb_if_lt (tgt := 18) hx hb rfl dX10_one_10 (by decide) (fun c_10_2 => ?_) (fun c_10_2 => ?_)
    · exact hj_18_4  _ _ _  hw (lv_sub hl [0, 1, 2] rfl)
    · refine lv_iload_n hx hb dX10_one_13 rfl (lv_at hl 2 rfl) ?_
      refine lv_iconst (v := 1) hx hb dX10_one_14 (by decide) ?_
      refine sb_icmp_le (tgt := 20) hx hb rfl (by decide : (1 : Int32).toInt = 1) dX10_one_15 (by decide) (fun c_15_3 => ?_) (fun c_15_3 => ?_)
      · refine lv_iload_n hx hb dX10_one_20 rfl (lv_at hl 1 rfl) ?_
        refine lv_aload_n hx hb dX10_one_21 rfl (lv_at hl 0 rfl) ?_
        refine lv_iload_n hx hb dX10_one_22 rfl (lv_at hl 1 rfl) ?_
        refine ti_callVi (ci := 10) (av := [.int z1]) C hw (f_X10_layCame l D A cy hJ M_1 iM_1 (mF_rw hF iM_1 (rw1_qw (qw_I hM_1 (by decide)))) z1) ⟨ml_X10_488, ym_X10_layCame, yv_X10_layCame, yi_X10_layCame, yc_X10_layCame⟩ yd_X10_layCame ob_60 (by decide) rfl rfl hl.1 (Nat.le_of_ble_eq_true rfl) ⟨by decide, by decide⟩ ⟨Nat.zero_le _, Nat.zero_le _⟩ dX10_one_23 (fun r_5 M_6 H locs hp_6 hw => ?_)
        obtain ⟨frM_6, hqM_6⟩ := hp_6
        obtain ⟨iM_6, q_7⟩ := hqM_6
        refine sb_icmp_lt (tgt := 32) hx hb rfl rfl dX10_one_26 (by decide) (fun c_26_7 => ?_) (fun c_26_7 => ?_)
        · refine lv_iload_n hx hb dX10_one_32 rfl (lv_at hl 2 rfl) ?_
          refine sb_if_ne (tgt := 43) hx hb rfl dX10_one_33 (by decide) (fun c_33_8 => ?_) (fun c_33_8 => ?_)
          · refine lv_aload_n hx hb dX10_one_43 rfl (lv_at hl 0 rfl) ?_
            refine ti_get (ci := 10) (k := 66) (N := 67) (T := TX10) C hw iw_10 rfl ob_60 (by decide) (by decide) fl_X10_485 rfl rfl dX10_one_44 ?_
            refine lv_topi (fun x_11 ex_11 => ?_)
            exact hQ _ _ _ _ _ _ hw rfl (⟨(fR.trans frM_6 (fR_I hM_1 (by decide))), mF_rw hF iM_6 (rw1.trans q_7 (rw1_qw (qw_I hM_1 (by decide)))), (rw1.trans q_7 (rw1_qw (qw_I hM_1 (by decide)))).2.1.1, (rw1.trans q_7 (rw1_qw (qw_I hM_1 (by decide)))).1⟩) dX10_one_47
          · refine lv_aload_n hx hb dX10_one_36 rfl (lv_at hl 0 rfl) ?_
            refine ti_get (ci := 10) (k := 65) (N := 67) (T := TX10) C hw iw_10 rfl ob_60 (by decide) (by decide) fl_X10_482 rfl rfl dX10_one_37 ?_
            refine lv_topi (fun x_10 ex_10 => ?_)
            refine lv_goto (tgt := 47) hx hb dX10_one_40 (by decide) ?_
            exact hQ _ _ _ _ _ _ hw rfl (⟨(fR.trans frM_6 (fR_I hM_1 (by decide))), mF_rw hF iM_6 (rw1.trans q_7 (rw1_qw (qw_I hM_1 (by decide)))), (rw1.trans q_7 (rw1_qw (qw_I hM_1 (by decide)))).2.1.1, (rw1.trans q_7 (rw1_qw (qw_I hM_1 (by decide)))).1⟩) dX10_one_47
        · refine lv_bipush (v := (-2)) hx hb dX10_one_29 (by decide) ?_
          exact hQ _ _ _ _ _ _ hw rfl (⟨(fR.trans frM_6 (fR_I hM_1 (by decide))), mF_rw hF iM_6 (rw1.trans q_7 (rw1_qw (qw_I hM_1 (by decide)))), (rw1.trans q_7 (rw1_qw (qw_I hM_1 (by decide)))).2.1.1, (rw1.trans q_7 (rw1_qw (qw_I hM_1 (by decide)))).1⟩) dX10_one_31
      · exact hj_18_4  _ _ _  hw (lv_sub hl [0, 1, 2] rfl)
set_option maxHeartbeats 4000000 in
set_option maxRecDepth 100000 in
theorem f_X10_gain (l : Launch) (D : va_G) (A : Nat → Nat → Nat) (cy : Nat → ClassId) (hJ : ti_inj ti_LM A) (M : ti_M) (hI : mI Tm M) (hF : mF Tm M) (z1 : Int32) (z2 : Int32) : ti_Ki l yX10_gain cX10_gain 6 (some .int) 8 ti_LM D A cy M [.ref (A 60 0), .int z1, .int z2] (fun r M2 => fR 1 M2 M ∧ mF Tm M2 ∧ tI M2 60 2 = tI M 60 2 ∧ lw M2 M) := by
  refine ti_eI yp_X10_gain hJ ti_LM_nd (Nat.le_of_ble_eq_true rfl) ?_
  intro p e s m args below meth c Q H0 C hQ hw ls hl
  have hx := C.1
  have hb := C.2.1
  have hl : lv_has ls 6 [(0, .ref (A 60 0)), (1, .int z1), (2, .int z2)] := hl
  have hL : mL M := hF.2.1
  have hC0 : mC M 0 := hF.2.2.1.1
  have hP0 : mP M 0 := hF.2.2.1.2
  refine lv_aload_n hx hb dX10_gain_0 rfl (lv_at hl 0 rfl) ?_
  refine lv_iconst (v := 0) hx hb dX10_gain_1 (by decide) ?_
  refine ti_putI (ci := 10) (k := 0) (N := 67) (T := TX10) C hw iw_10 tyX10 tyX10_ok nmX10 rfl ob_60 (by decide) (by decide) fl_X10_154 rfl rfl rfl rfl (fn_10 A _) fs_10_0 dX10_gain_2 (fun H locs hw => ?_)
  obtain ⟨M_1, hM_1⟩ : ∃ z : ti_M, z = uI M 60 0 0 := ⟨_, rfl⟩
  have hw := hw.to hM_1.symm
  have iM_1 : mI Tm M_1 := mI_uI hI hM_1 (by decide) (by decide) trivial
  refine lv_iload_n hx hb dX10_gain_5 rfl (lv_at hl 1 rfl) ?_
  refine ti_callSi (av := [.int z1]) C hw (s_X10_isPlace l D A cy hJ M_1 iM_1 z1) ⟨ml_X10_414, ys_X10_isPlace, yi_X10_isPlace, yc_X10_isPlace⟩ yd_X10_isPlace rfl hl.1 (Nat.le_of_ble_eq_true rfl) ⟨by decide, by decide⟩ ⟨Nat.zero_le _, Nat.zero_le _⟩ dX10_gain_6 (fun r_2 M_3 H locs hp_3 hw => ?_)
  obtain ⟨hm, hz⟩ := hp_3
  have hw := hw.to hm
  have hj_30_13 : ∀  (H : Heap) (locs : List Loc) (ls : Array Slot), ti_H ti_LM D A cy H0 M_1 H locs → lv_has ls 6 [(0, .ref (A 60 0)), (1, .int z1), (2, .int z2)] → W p l e (ti_rm 8) s m args below meth c H locs 0 0 Q (F0 m 30 ls []) := by
    intro  H locs ls  hw hl
    refine lv_iconst (v := (-1)) hx hb dX10_gain_30 (by decide) ?_
    exact hQ _ _ _ _ _ _ hw rfl (⟨(fR_I hM_1 (by decide)), mF_rw hF iM_1 (rw1_qw (qw_I hM_1 (by decide))), (rw1_qw (qw_I hM_1 (by decide))).2.1.1, (rw1_qw (qw_I hM_1 (by decide))).1⟩) dX10_gain_31
  rcases hz with ⟨rfl, d0_4, d1_4⟩ | rfl
  · refine sb_if_eq (tgt := 30) hx hb (by decide : (1 : Int32).toInt = 1) dX10_gain_9 (by decide) (fun h => absurd h (by decide)) (fun c_9_4 => ?_)
    refine lv_iload_n hx hb dX10_gain_12 rfl (lv_at hl 1 rfl) ?_
    refine lv_aload_n hx hb dX10_gain_13 rfl (lv_at hl 0 rfl) ?_
    refine ti_get (ci := 10) (k := 38) (N := 67) (T := TX10) (v := .ref (A 60 39)) C hw iw_10 rfl ob_60 (by decide) (by decide) fl_X10_81 rfl rfl dX10_gain_14 ?_
    refine lv_iconst (v := 0) hx hb dX10_gain_17 (by decide) ?_
    refine ti_iald (ci := 10) (k := 38) (n := 23) C hw ob_60 (by decide) (fun _ _ => rfl) (by unfold vp_in; decide) dX10_gain_18 ?_
    refine lv_topi (fun x_7 ex_7 => ?_)
    have yx_7 : tY M_1 60 38 0 = x_7 := ((congrArg _ (by decide)).symm.trans ex_7.symm)
    have bx_7 : 0 ≤ x_7.toInt ∧ x_7.toInt ≤ 8 := mI_ry (k := 38) (i := 0) iM_1 yx_7.symm
    have zx_7 : (tY M_1 60 38 0).toInt = x_7.toInt := by rw [yx_7]
    have wx_7 : tY M 60 38 0 = x_7 := ((cg (tY_uIE hM_1) 0)).symm.trans yx_7
    have zwx_7 : (tY M 60 38 0).toInt = x_7.toInt := by rw [wx_7]
    refine sb_icmp_ge (tgt := 30) hx hb rfl rfl dX10_gain_19 (by decide) (fun c_19_7 => ?_) (fun c_19_7 => ?_)
    · exact hj_30_13  _ _ _  hw (lv_sub hl [0, 1, 2] rfl)
    · refine lv_aload_n hx hb dX10_gain_22 rfl (lv_at hl 0 rfl) ?_
      refine lv_iload_n hx hb dX10_gain_23 rfl (lv_at hl 2 rfl) ?_
      refine ti_callVi (ci := 10) (av := [.int z2]) C hw (s_X10_isLong l D A cy hJ M_1 iM_1 z2) ⟨ml_X10_461, ym_X10_isLong, yv_X10_isLong, yi_X10_isLong, yc_X10_isLong⟩ yd_X10_isLong ob_60 (by decide) rfl rfl hl.1 (Nat.le_of_ble_eq_true rfl) ⟨by decide, by decide⟩ ⟨Nat.zero_le _, Nat.zero_le _⟩ dX10_gain_24 (fun r_9 M_10 H locs hp_10 hw => ?_)
      obtain ⟨hm, hz⟩ := hp_10
      have hw := hw.to hm
      rcases hz with ⟨rfl, d0_11, d1_11⟩ | rfl
      · refine sb_if_ne (tgt := 32) hx hb (by decide : (1 : Int32).toInt = 1) dX10_gain_27 (by decide) (fun c_27_11 => ?_) (fun h => absurd h (by decide))
        refine lv_aload_n hx hb dX10_gain_32 rfl (lv_at hl 0 rfl) ?_
        refine ti_callVv (ci := 10) (av := []) C hw (f_X10_lays l D A cy hJ M_1 iM_1 (((rw1_qw (qw_I hM_1 (by decide))).2.2.1 0 (by decide)).1 hC0) (((rw1_qw (qw_I hM_1 (by decide))).2.2.1 0 (by decide)).2 hP0)) ⟨ml_X10_442, ym_X10_lays, yv_X10_lays, yi_X10_lays, yc_X10_lays⟩ yd_X10_lays ob_60 (by decide) rfl rfl hl.1 (Nat.le_of_ble_eq_true rfl) ⟨by decide, by decide⟩ ⟨Nat.zero_le _, Nat.zero_le _⟩ dX10_gain_33 (fun M_15 H locs hp_15 hw => ?_)
        obtain ⟨frM_15, hqM_15⟩ := hp_15
        obtain ⟨iM_15, q_16, q_17, q_18, q_19, q_20, q_21⟩ := hqM_15
        refine lv_aload_n hx hb dX10_gain_36 rfl (lv_at hl 0 rfl) ?_
        refine lv_iload_n hx hb dX10_gain_37 rfl (lv_at hl 2 rfl) ?_
        refine ti_callVv (ci := 10) (av := [.int z2]) C hw (f_X10_runs l D A cy hJ M_15 iM_15 q_17 (mL_lw (lk.trans (lk_of q_16.1 q_16.2.1) (lk_I hM_1 (by decide))).1 hL) z2) ⟨ml_X10_445, ym_X10_runs, yv_X10_runs, yi_X10_runs, yc_X10_runs⟩ yd_X10_runs ob_60 (by decide) rfl rfl hl.1 (Nat.le_of_ble_eq_true rfl) ⟨by decide, by decide⟩ ⟨Nat.zero_le _, Nat.zero_le _⟩ dX10_gain_38 (fun M_23 H locs hp_23 hw => ?_)
        obtain ⟨frM_23, hqM_23⟩ := hp_23
        obtain ⟨iM_23, q_24, q_25⟩ := hqM_23
        refine lv_iconst (v := 0) hx hb dX10_gain_41 (by decide) ?_
        refine lv_istore_n (lv' := [(3, .int 0), (0, .ref (A 60 0)), (1, .int z1), (2, .int z2)]) hx hb dX10_gain_42 rfl hl (by decide) rfl (fun ls hl => ?_)
        have hl_43_32 : ∀ (n_33 : Nat) (x_26 : Int32) (M_29 : ti_M) (H : Heap) (locs : List Loc) (ls : Array Slot), (8 - x_26.toInt : Int).toNat < n_33 → (0 ≤ x_26.toInt) → (x_26.toInt ≤ 8) → (mI Tm M_29) → (rw1 M_29 M) → (fR 1 M_29 M) → (mC M_29 1) → ti_H ti_LM D A cy H0 M_29 H locs → lv_has ls 6 [(3, .int x_26), (0, .ref (A 60 0)), (1, .int z1), (2, .int z2)] → W p l e (ti_rm 8) s m args below meth c H locs 0 0 Q (F0 m 43 ls []) := by
          intro n_33
          induction n_33 with
          | zero => intro x_26 M_29 H locs ls hf_33; exact absurd hf_33 (Nat.not_lt_zero _)
          | succ n_33 ih_33 =>
            intro x_26 M_29 H locs ls hf_33 b_27 b_28 iM_29 f_30 f_31 f_32 hw hl
            refine lv_iload_n hx hb dX10_gain_43 rfl (lv_at hl 0 rfl) ?_
            refine lv_bipush (v := 8) hx hb dX10_gain_44 (by decide) ?_
            refine sb_icmp_ge (tgt := 98) hx hb rfl (by decide : (8 : Int32).toInt = 8) dX10_gain_46 (by decide) (fun c_46_33 => ?_) (fun c_46_33 => ?_)
            · refine lv_aload_n hx hb dX10_gain_98 rfl (lv_at hl 1 rfl) ?_
              refine ti_callVv (ci := 10) (av := []) C hw (f_X10_lays l D A cy hJ M_29 iM_29 ((f_30.2.2.1 0 (by decide)).1 hC0) ((f_30.2.2.1 0 (by decide)).2 hP0)) ⟨ml_X10_442, ym_X10_lays, yv_X10_lays, yi_X10_lays, yc_X10_lays⟩ yd_X10_lays ob_60 (by decide) rfl rfl hl.1 (Nat.le_of_ble_eq_true rfl) ⟨by decide, by decide⟩ ⟨Nat.zero_le _, Nat.zero_le _⟩ dX10_gain_99 (fun M_46 H locs hp_46 hw => ?_)
              obtain ⟨frM_46, hqM_46⟩ := hp_46
              obtain ⟨iM_46, q_47, q_48, q_49, q_50, q_51, q_52⟩ := hqM_46
              refine lv_iload_n hx hb dX10_gain_102 rfl (lv_at hl 2 rfl) ?_
              refine lv_istore_n (lv' := [(3, .int z1), (0, .ref (A 60 0)), (1, .int z1), (2, .int z2)]) hx hb dX10_gain_103 rfl hl (by decide) rfl (fun ls hl => ?_)
              have hl_104_61 : ∀ (n_62 : Nat) (x_53 : Int32) (M_56 : ti_M) (H : Heap) (locs : List Loc) (ls : Array Slot), (8 - x_53.toInt : Int).toNat < n_62 → (0 ≤ x_53.toInt) → (x_53.toInt ≤ 8) → (mI Tm M_56) → (rw1 M_56 M) → (fR 1 M_56 M) → (mC M_56 1) → (z1.toInt ≤ x_53.toInt) → (tY M_56 60 38 1 = tY M 60 38 0) → ti_H ti_LM D A cy H0 M_56 H locs → lv_has ls 6 [(3, .int x_53), (0, .ref (A 60 0)), (1, .int z1), (2, .int z2)] → W p l e (ti_rm 8) s m args below meth c H locs 0 0 Q (F0 m 104 ls []) := by
                intro n_62
                induction n_62 with
                | zero => intro x_53 M_56 H locs ls hf_62; exact absurd hf_62 (Nat.not_lt_zero _)
                | succ n_62 ih_62 =>
                  intro x_53 M_56 H locs ls hf_62 b_54 b_55 iM_56 f_57 f_58 f_59 j_60 j_61 hw hl
                  refine lv_iload_n hx hb dX10_gain_104 rfl (lv_at hl 0 rfl) ?_
                  refine lv_aload_n hx hb dX10_gain_105 rfl (lv_at hl 1 rfl) ?_
                  refine ti_get (ci := 10) (k := 38) (N := 67) (T := TX10) (v := .ref (A 60 39)) C hw iw_10 rfl ob_60 (by decide) (by decide) fl_X10_81 rfl rfl dX10_gain_106 ?_
                  refine lv_iconst (v := 0) hx hb dX10_gain_109 (by decide) ?_
                  refine ti_iald (ci := 10) (k := 38) (n := 23) C hw ob_60 (by decide) (fun _ _ => rfl) (by unfold vp_in; decide) dX10_gain_110 ?_
                  refine ti_top (y := x_7) ((congrArg _ (by decide)).trans ((f_57.2.2.2).trans wx_7)) ?_
                  refine sb_icmp_ge (tgt := 137) hx hb rfl rfl dX10_gain_111 (by decide) (fun c_111_62 => ?_) (fun c_111_62 => ?_)
                  · refine lv_aload_n hx hb dX10_gain_137 rfl (lv_at hl 1 rfl) ?_
                    refine ti_get (ci := 10) (k := 38) (N := 67) (T := TX10) (v := .ref (A 60 39)) C hw iw_10 rfl ob_60 (by decide) (by decide) fl_X10_81 rfl rfl dX10_gain_138 ?_
                    refine lv_iconst (v := 1) hx hb dX10_gain_141 (by decide) ?_
                    refine lv_aload_n hx hb dX10_gain_142 rfl (lv_at hl 1 rfl) ?_
                    refine ti_get (ci := 10) (k := 38) (N := 67) (T := TX10) (v := .ref (A 60 39)) C hw iw_10 rfl ob_60 (by decide) (by decide) fl_X10_81 rfl rfl dX10_gain_143 ?_
                    refine lv_iconst (v := 0) hx hb dX10_gain_146 (by decide) ?_
                    refine ti_iald (ci := 10) (k := 38) (n := 23) C hw ob_60 (by decide) (fun _ _ => rfl) (by unfold vp_in; decide) dX10_gain_147 ?_
                    refine ti_top (y := x_7) ((congrArg _ (by decide)).trans ((f_57.2.2.2).trans wx_7)) ?_
                    refine lv_iload_n hx hb dX10_gain_148 rfl (lv_at hl 2 rfl) ?_
                    refine lv_isub hx hb dX10_gain_149 ?_
                    refine lv_topi (fun x_69 ex_69 => ?_)
                    have lox_69x_7 := x_7.le_toInt
                    have hix_69x_7 := x_7.toInt_lt
                    have lox_69z1 := z1.le_toInt
                    have hix_69z1 := z1.toInt_lt
                    have tx_69 : x_69.toInt = x_7.toInt - z1.toInt := i_sub ex_69 rfl rfl (by omega) (by omega)
                    refine ti_iast (ci := 10) (k := 38) (n := 23) C hw ob_60 (by decide) (fun _ _ => rfl) (by unfold vp_in; decide) dX10_gain_150 (fun H locs hw => ?_)
                    obtain ⟨M_70, hM_70⟩ : ∃ z : ti_M, z = uY M_56 60 38 (upd (tY M_56 60 38) (1 : Int32).toNatClampNeg x_69) := ⟨_, rfl⟩
                    have hw := hw.to hM_70.symm
                    have iM_70 : mI Tm M_70 := mI_up (i := 1) iM_56 hM_70 (ib_mk (lo := 0) (hi := 8) (by omega) (by omega))
                    have rwM_70 : rw1 M_70 M_56 := rw1_38 iM_56 hM_70 (by decide)
                    have lk_71 : (tY M_70 60 38 0).toInt = (tY M 60 38 0).toInt := by rw [(((cg (tY_uE hM_70) 0).trans (pk_un (by decide))).trans f_57.2.2.2)]
                    have mcM_70 := mC_38 f_59 hM_70 (by decide) (by rw [j_61]; omega)
                    refine lv_iconst (v := 0) hx hb dX10_gain_151 (by decide) ?_
                    refine lv_istore_n (lv' := [(3, .int 0), (0, .ref (A 60 0)), (1, .int z1), (2, .int z2)]) hx hb dX10_gain_152 rfl hl (by decide) rfl (fun ls hl => ?_)
                    have hl_153_78 : ∀ (n_79 : Nat) (x_72 : Int32) (M_75 : ti_M) (H : Heap) (locs : List Loc) (ls : Array Slot), (8 - x_72.toInt : Int).toNat < n_79 → (0 ≤ x_72.toInt) → (x_72.toInt ≤ 8) → (mI Tm M_75) → (rw1 M_75 M) → (fR 1 M_75 M) → (mC M_75 1) → ti_H ti_LM D A cy H0 M_75 H locs → lv_has ls 6 [(3, .int x_72), (0, .ref (A 60 0)), (1, .int z1), (2, .int z2)] → W p l e (ti_rm 8) s m args below meth c H locs 0 0 Q (F0 m 153 ls []) := by
                      intro n_79
                      induction n_79 with
                      | zero => intro x_72 M_75 H locs ls hf_79; exact absurd hf_79 (Nat.not_lt_zero _)
                      | succ n_79 ih_79 =>
                        intro x_72 M_75 H locs ls hf_79 b_73 b_74 iM_75 f_76 f_77 f_78 hw hl
                        refine lv_iload_n hx hb dX10_gain_153 rfl (lv_at hl 0 rfl) ?_
                        refine lv_aload_n hx hb dX10_gain_154 rfl (lv_at hl 1 rfl) ?_
                        refine ti_get (ci := 10) (k := 3) (N := 67) (T := TX10) (v := .ref (A 60 4)) C hw iw_10 rfl ob_60 (by decide) (by decide) fl_X10_13 rfl rfl dX10_gain_155 ?_
                        refine lv_iconst (v := 0) hx hb dX10_gain_158 (by decide) ?_
                        refine ti_iald (ci := 10) (k := 3) (n := 22) C hw ob_60 (by decide) (fun _ _ => rfl) (by unfold vp_in; decide) dX10_gain_159 ?_
                        refine lv_topi (fun x_80 ex_80 => ?_)
                        have yx_80 : tY M_75 60 3 0 = x_80 := ((congrArg _ (by decide)).symm.trans ex_80.symm)
                        have bx_80 : 0 ≤ x_80.toInt ∧ x_80.toInt ≤ 8 := mI_rn (i := 0) iM_75 yx_80.symm (fun _ h => h)
                        have zx_80 : (tY M_75 60 3 0).toInt = x_80.toInt := by rw [yx_80]
                        have wx_80 : tY M 60 3 0 = x_80 := ((cg (f_76.1 3 (by decide) (by decide)) 0)).symm.trans yx_80
                        have zwx_80 : (tY M 60 3 0).toInt = x_80.toInt := by rw [wx_80]
                        refine sb_icmp_ge (tgt := 214) hx hb rfl rfl dX10_gain_160 (by decide) (fun c_160_80 => ?_) (fun c_160_80 => ?_)
                        · refine lv_aload_n hx hb dX10_gain_214 rfl (lv_at hl 1 rfl) ?_
                          refine lv_iload_n hx hb dX10_gain_215 rfl (lv_at hl 3 rfl) ?_
                          refine ti_callVv (ci := 10) (av := [.int z2]) C hw (f_X10_runs l D A cy hJ M_75 iM_75 f_78 (mL_lw (lk_of f_76.1 f_76.2.1).1 hL) z2) ⟨ml_X10_445, ym_X10_runs, yv_X10_runs, yi_X10_runs, yc_X10_runs⟩ yd_X10_runs ob_60 (by decide) rfl rfl hl.1 (Nat.le_of_ble_eq_true rfl) ⟨by decide, by decide⟩ ⟨Nat.zero_le _, Nat.zero_le _⟩ dX10_gain_216 (fun M_98 H locs hp_98 hw => ?_)
                          obtain ⟨frM_98, hqM_98⟩ := hp_98
                          obtain ⟨iM_98, q_99, q_100⟩ := hqM_98
                          refine lv_iconst (v := 0) hx hb dX10_gain_219 (by decide) ?_
                          refine lv_istore_n (lv' := [(3, .int 0), (0, .ref (A 60 0)), (1, .int z1), (2, .int z2)]) hx hb dX10_gain_220 rfl hl (by decide) rfl (fun ls hl => ?_)
                          refine lv_iload_n hx hb dX10_gain_221 rfl (lv_at hl 2 rfl) ?_
                          refine lv_istore (lv' := [(4, .int z1), (3, .int 0), (0, .ref (A 60 0)), (1, .int z1), (2, .int z2)]) hx hb dX10_gain_222 hl (by decide) rfl (fun ls hl => ?_)
                          have hl_224_104 : ∀ (n_105 : Nat) (x_101 : Int32) (x_104 : Int32) (H : Heap) (locs : List Loc) (ls : Array Slot), (8 - x_101.toInt : Int).toNat < n_105 → (0 ≤ x_101.toInt) → (x_101.toInt ≤ 8) → ti_H ti_LM D A cy H0 M_98 H locs → lv_has ls 6 [(4, .int x_101), (3, .int x_104), (0, .ref (A 60 0)), (1, .int z1), (2, .int z2)] → W p l e (ti_rm 8) s m args below meth c H locs 0 0 Q (F0 m 224 ls []) := by
                            intro n_105
                            induction n_105 with
                            | zero => intro x_101 x_104 H locs ls hf_105; exact absurd hf_105 (Nat.not_lt_zero _)
                            | succ n_105 ih_105 =>
                              intro x_101 x_104 H locs ls hf_105 b_102 b_103 hw hl
                              refine lv_iload hx hb dX10_gain_224 (lv_at hl 0 rfl) ?_
                              refine lv_aload_n hx hb dX10_gain_226 rfl (lv_at hl 2 rfl) ?_
                              refine ti_get (ci := 10) (k := 38) (N := 67) (T := TX10) (v := .ref (A 60 39)) C hw iw_10 rfl ob_60 (by decide) (by decide) fl_X10_81 rfl rfl dX10_gain_227 ?_
                              refine lv_iconst (v := 0) hx hb dX10_gain_230 (by decide) ?_
                              refine ti_iald (ci := 10) (k := 38) (n := 23) C hw ob_60 (by decide) (fun _ _ => rfl) (by unfold vp_in; decide) dX10_gain_231 ?_
                              refine ti_top (y := x_7) ((congrArg _ (by decide)).trans ((q_99.2.2.2 (by decide)).trans ((f_76.2.2.2).trans wx_7))) ?_
                              refine sb_icmp_ge (tgt := 298) hx hb rfl rfl dX10_gain_232 (by decide) (fun c_232_105 => ?_) (fun c_232_105 => ?_)
                              · refine lv_iload_n hx hb dX10_gain_298 rfl (lv_at hl 1 rfl) ?_
                                exact hQ _ _ _ _ _ _ hw rfl (⟨(fR.trans frM_98 f_77), mF_rw hF iM_98 (rw1.trans (rw1_rq q_99) f_76), (rw1.trans (rw1_rq q_99) f_76).2.1.1, (rw1.trans (rw1_rq q_99) f_76).1⟩) dX10_gain_299
                              · refine lv_bipush (v := 8) hx hb dX10_gain_235 (by decide) ?_
                                refine lv_aload_n hx hb dX10_gain_237 rfl (lv_at hl 2 rfl) ?_
                                refine ti_get (ci := 10) (k := 39) (N := 67) (T := TX10) (v := .ref (A 60 40)) C hw iw_10 rfl ob_60 (by decide) (by decide) fl_X10_84 rfl rfl dX10_gain_238 ?_
                                refine lv_iload hx hb dX10_gain_241 (lv_at hl 0 rfl) ?_
                                refine ti_iald (ci := 10) (k := 39) (n := 184) C hw ob_60 (by decide) (fun _ _ => rfl) (vp_in_iff.mpr (by omega)) dX10_gain_243 ?_
                                refine lv_topi (fun x_107 ex_107 => ?_)
                                have yx_107 : tY M_98 60 39 x_101.toNatClampNeg = x_107 := (ex_107.symm)
                                have bx_107 : 0 ≤ x_107.toInt ∧ x_107.toInt ≤ 7 := mI_ry (k := 39) (i := x_101.toNatClampNeg) iM_98 yx_107.symm
                                refine lv_iadd hx hb dX10_gain_244 ?_
                                refine lv_topi (fun x_108 ex_108 => ?_)
                                have tx_108 : x_108.toInt = 8 + x_107.toInt := i_add ex_108 (by decide : (8 : Int32).toInt = 8) rfl (by omega) (by omega)
                                refine lv_istore (lv' := [(5, .int x_108), (4, .int x_101), (3, .int x_104), (0, .ref (A 60 0)), (1, .int z1), (2, .int z2)]) hx hb dX10_gain_245 hl (by decide) rfl (fun ls hl => ?_)
                                refine lv_aload_n hx hb dX10_gain_247 rfl (lv_at hl 3 rfl) ?_
                                refine ti_get (ci := 10) (k := 40) (N := 67) (T := TX10) (v := .ref (A 60 41)) C hw iw_10 rfl ob_60 (by decide) (by decide) fl_X10_87 rfl rfl dX10_gain_248 ?_
                                refine lv_iload hx hb dX10_gain_251 (lv_at hl 0 rfl) ?_
                                refine ti_iald (ci := 10) (k := 40) (n := 184) C hw ob_60 (by decide) (fun _ _ => rfl) (vp_in_iff.mpr (by omega)) dX10_gain_253 ?_
                                refine lv_topi (fun x_109 ex_109 => ?_)
                                have yx_109 : tY M_98 60 40 x_108.toNatClampNeg = x_109 := (ex_109.symm)
                                have zx_109 : (tY M_98 60 40 x_108.toNatClampNeg).toInt = x_109.toInt := by rw [yx_109]
                                refine lv_iconst (v := 2) hx hb dX10_gain_254 (by decide) ?_
                                have hj_292_116 : ∀ (x_116 : Int32) (H : Heap) (locs : List Loc) (ls : Array Slot), ti_H ti_LM D A cy H0 M_98 H locs → lv_has ls 6 [(5, .int x_108), (4, .int x_101), (3, .int x_116), (0, .ref (A 60 0)), (1, .int z1), (2, .int z2)] → W p l e (ti_rm 8) s m args below meth c H locs 0 0 Q (F0 m 292 ls []) := by
                                  intro x_116 H locs ls  hw hl
                                  obtain ⟨x_117, ex_117⟩ : ∃ z : Int32, z = x_101 + 1 := ⟨_, rfl⟩
                                  have tx_117 : x_117.toInt = x_101.toInt + 1 := i_add ex_117 rfl (by decide) (by omega) (by omega)
                                  refine lv_iinc (v := x_117) (lv' := [(4, .int x_117), (5, .int x_108), (3, .int x_116), (0, .ref (A 60 0)), (1, .int z1), (2, .int z2)]) hx hb dX10_gain_292 hl (k := 1) rfl (by rw [ex_117]; rfl) (by decide) rfl (fun ls hl => ?_)
                                  refine lv_goto (tgt := 224) hx hb dX10_gain_295 (by decide) ?_
                                  exact ih_105 x_117 x_116 _ _ _ (by omega) (by first | omega | decide) (by first | omega | decide) hw (lv_sub hl [0, 2, 3, 4, 5] rfl)
                                refine sb_icmp_ne (tgt := 292) hx hb rfl (by decide : (2 : Int32).toInt = 2) dX10_gain_255 (by decide) (fun c_255_109 => ?_) (fun c_255_109 => ?_)
                                · exact hj_292_116 x_104 _ _ _  hw (lv_sub hl [0, 1, 2, 3, 4, 5] rfl)
                                · refine lv_aload_n hx hb dX10_gain_258 rfl (lv_at hl 3 rfl) ?_
                                  refine ti_get (ci := 10) (k := 48) (N := 67) (T := TX10) (v := .ref (A 60 49)) C hw iw_10 rfl ob_60 (by decide) (by decide) fl_X10_111 rfl rfl dX10_gain_259 ?_
                                  refine lv_iload hx hb dX10_gain_262 (lv_at hl 0 rfl) ?_
                                  refine ti_iald (ci := 10) (k := 48) (n := 184) C hw ob_60 (by decide) (fun _ _ => rfl) (vp_in_iff.mpr (by omega)) dX10_gain_264 ?_
                                  refine lv_topi (fun x_111 ex_111 => ?_)
                                  have yx_111 : tY M_98 60 48 x_108.toNatClampNeg = x_111 := (ex_111.symm)
                                  refine lv_aload_n hx hb dX10_gain_265 rfl (lv_at hl 3 rfl) ?_
                                  refine ti_get (ci := 10) (k := 57) (N := 67) (T := TX10) (v := .ref (A 60 58)) C hw iw_10 rfl ob_60 (by decide) (by decide) fl_X10_129 rfl rfl dX10_gain_266 ?_
                                  refine lv_aload_n hx hb dX10_gain_269 rfl (lv_at hl 3 rfl) ?_
                                  refine ti_get (ci := 10) (k := 39) (N := 67) (T := TX10) (v := .ref (A 60 40)) C hw iw_10 rfl ob_60 (by decide) (by decide) fl_X10_84 rfl rfl dX10_gain_270 ?_
                                  refine lv_iload hx hb dX10_gain_273 (lv_at hl 1 rfl) ?_
                                  refine ti_iald (ci := 10) (k := 39) (n := 184) C hw ob_60 (by decide) (fun _ _ => rfl) (vp_in_iff.mpr (by omega)) dX10_gain_275 ?_
                                  refine ti_top (y := x_107) ((yx_107)) ?_
                                  refine ti_iald (ci := 10) (k := 57) (n := 8) C hw ob_60 (by decide) (fun _ _ => rfl) (vp_in_iff.mpr (by omega)) dX10_gain_276 ?_
                                  refine lv_topi (fun x_112 ex_112 => ?_)
                                  have yx_112 : tY M_98 60 57 x_107.toNatClampNeg = x_112 := (ex_112.symm)
                                  refine sb_icmp_ge (tgt := 292) hx hb rfl rfl dX10_gain_277 (by decide) (fun c_277_112 => ?_) (fun c_277_112 => ?_)
                                  · exact hj_292_116 x_104 _ _ _  hw (lv_sub hl [0, 1, 2, 3, 4, 5] rfl)
                                  · refine lv_iload_n hx hb dX10_gain_280 rfl (lv_at hl 2 rfl) ?_
                                    refine lv_iconst (v := 1) hx hb dX10_gain_281 (by decide) ?_
                                    refine lv_aload_n hx hb dX10_gain_282 rfl (lv_at hl 3 rfl) ?_
                                    refine ti_get (ci := 10) (k := 39) (N := 67) (T := TX10) (v := .ref (A 60 40)) C hw iw_10 rfl ob_60 (by decide) (by decide) fl_X10_84 rfl rfl dX10_gain_283 ?_
                                    refine lv_iload hx hb dX10_gain_286 (lv_at hl 1 rfl) ?_
                                    refine ti_iald (ci := 10) (k := 39) (n := 184) C hw ob_60 (by decide) (fun _ _ => rfl) (vp_in_iff.mpr (by omega)) dX10_gain_288 ?_
                                    refine ti_top (y := x_107) ((yx_107)) ?_
                                    refine lv_ishl hx hb dX10_gain_289 ?_
                                    refine lv_topi (fun x_114 ex_114 => ?_)
                                    refine lv_ior hx hb dX10_gain_290 ?_
                                    refine lv_topi (fun x_115 ex_115 => ?_)
                                    refine lv_istore_n (lv' := [(3, .int x_115), (5, .int x_108), (4, .int x_101), (0, .ref (A 60 0)), (1, .int z1), (2, .int z2)]) hx hb dX10_gain_291 rfl hl (by decide) rfl (fun ls hl => ?_)
                                    exact hj_292_116 x_115 _ _ _  hw (lv_sub hl [1, 2, 0, 3, 4, 5] rfl)
                          exact hl_224_104 ((8 - z1.toInt : Int).toNat + 1) z1 0 _ _ _ (Nat.lt_succ_self _) (by have lt0 : (0 : Int32).toInt = 0 := (by decide); first | omega | decide) (by have lt0 : (0 : Int32).toInt = 0 := (by decide); first | omega | decide) hw (lv_sub hl [0, 1, 2, 3, 4] rfl)
                        · refine lv_bipush (v := 8) hx hb dX10_gain_163 (by decide) ?_
                          refine lv_iload_n hx hb dX10_gain_165 rfl (lv_at hl 0 rfl) ?_
                          refine lv_iadd hx hb dX10_gain_166 ?_
                          refine lv_topi (fun x_82 ex_82 => ?_)
                          have tx_82 : x_82.toInt = 8 + x_72.toInt := i_add ex_82 (by decide : (8 : Int32).toInt = 8) rfl (by omega) (by omega)
                          refine lv_istore (lv' := [(4, .int x_82), (3, .int x_72), (0, .ref (A 60 0)), (1, .int z1), (2, .int z2)]) hx hb dX10_gain_167 hl (by decide) rfl (fun ls hl => ?_)
                          refine lv_aload_n hx hb dX10_gain_169 rfl (lv_at hl 2 rfl) ?_
                          refine ti_get (ci := 10) (k := 40) (N := 67) (T := TX10) (v := .ref (A 60 41)) C hw iw_10 rfl ob_60 (by decide) (by decide) fl_X10_87 rfl rfl dX10_gain_170 ?_
                          refine lv_iload hx hb dX10_gain_173 (lv_at hl 0 rfl) ?_
                          refine ti_iald (ci := 10) (k := 40) (n := 184) C hw ob_60 (by decide) (fun _ _ => rfl) (vp_in_iff.mpr (by omega)) dX10_gain_175 ?_
                          refine lv_topi (fun x_83 ex_83 => ?_)
                          have yx_83 : tY M_75 60 40 x_82.toNatClampNeg = x_83 := (ex_83.symm)
                          have zx_83 : (tY M_75 60 40 x_82.toNatClampNeg).toInt = x_83.toInt := by rw [yx_83]
                          have hj_208_95 : ∀ (M_92 : ti_M) (H : Heap) (locs : List Loc) (ls : Array Slot), (mI Tm M_92) → (rw1 M_92 M) → (fR 1 M_92 M) → (mC M_92 1) → ti_H ti_LM D A cy H0 M_92 H locs → lv_has ls 6 [(4, .int x_82), (3, .int x_72), (0, .ref (A 60 0)), (1, .int z1), (2, .int z2)] → W p l e (ti_rm 8) s m args below meth c H locs 0 0 Q (F0 m 208 ls []) := by
                            intro M_92 H locs ls iM_92 f_93 f_94 f_95 hw hl
                            obtain ⟨x_96, ex_96⟩ : ∃ z : Int32, z = x_72 + 1 := ⟨_, rfl⟩
                            have tx_96 : x_96.toInt = x_72.toInt + 1 := i_add ex_96 rfl (by decide) (by omega) (by omega)
                            refine lv_iinc (v := x_96) (lv' := [(3, .int x_96), (4, .int x_82), (0, .ref (A 60 0)), (1, .int z1), (2, .int z2)]) hx hb dX10_gain_208 hl (k := 1) rfl (by rw [ex_96]; rfl) (by decide) rfl (fun ls hl => ?_)
                            refine lv_goto (tgt := 153) hx hb dX10_gain_211 (by decide) ?_
                            exact ih_79 x_96 M_92 _ _ _ (by omega) (by first | omega | decide) (by first | omega | decide) iM_92 f_93 f_94 f_95 hw (lv_sub hl [0, 2, 3, 4] rfl)
                          have hj_200_90 : ∀  (H : Heap) (locs : List Loc) (ls : Array Slot), ti_H ti_LM D A cy H0 M_75 H locs → lv_has ls 6 [(4, .int x_82), (3, .int x_72), (0, .ref (A 60 0)), (1, .int z1), (2, .int z2)] → W p l e (ti_rm 8) s m args below meth c H locs 0 0 Q (F0 m 200 ls []) := by
                            intro  H locs ls  hw hl
                            refine lv_aload_n hx hb dX10_gain_200 rfl (lv_at hl 2 rfl) ?_
                            refine ti_get (ci := 10) (k := 40) (N := 67) (T := TX10) (v := .ref (A 60 41)) C hw iw_10 rfl ob_60 (by decide) (by decide) fl_X10_87 rfl rfl dX10_gain_201 ?_
                            refine lv_iload hx hb dX10_gain_204 (lv_at hl 0 rfl) ?_
                            refine lv_iconst (v := 3) hx hb dX10_gain_206 (by decide) ?_
                            refine ti_iast (ci := 10) (k := 40) (n := 184) C hw ob_60 (by decide) (fun _ _ => rfl) (vp_in_iff.mpr (by omega)) dX10_gain_207 (fun H locs hw => ?_)
                            obtain ⟨M_91, hM_91⟩ : ∃ z : ti_M, z = uY M_75 60 40 (upd (tY M_75 60 40) (x_82 : Int32).toNatClampNeg 3) := ⟨_, rfl⟩
                            have hw := hw.to hM_91.symm
                            have iM_91 : mI Tm M_91 := mI_up (i := x_82.toNatClampNeg) iM_75 hM_91 trivial
                            have rwM_91 : rw1 M_91 M_75 := rw1_40 iM_75 hM_91 (by show 8 ≤ (x_82).toInt.toNat ∧ (x_82).toInt.toNat < 16; omega)
                            have mcM_91 := mC_40 f_78 hM_91 (by decide)
                            exact hj_208_95 M_91 _ _ _ iM_91 (rw1.trans rwM_91 f_76) (fR.trans (fR_Y hM_91 (bk_m (z := x_82) (by omega) (by decide))) f_77) mcM_91 hw (lv_sub hl [0, 1, 2, 3, 4] rfl)
                          refine sb_if_eq (tgt := 200) hx hb rfl dX10_gain_176 (by decide) (fun c_176_83 => ?_) (fun c_176_83 => ?_)
                          · exact hj_200_90  _ _ _  hw (lv_sub hl [0, 1, 2, 3, 4] rfl)
                          · refine lv_aload_n hx hb dX10_gain_179 rfl (lv_at hl 2 rfl) ?_
                            refine ti_get (ci := 10) (k := 40) (N := 67) (T := TX10) (v := .ref (A 60 41)) C hw iw_10 rfl ob_60 (by decide) (by decide) fl_X10_87 rfl rfl dX10_gain_180 ?_
                            refine lv_iload hx hb dX10_gain_183 (lv_at hl 0 rfl) ?_
                            refine ti_iald (ci := 10) (k := 40) (n := 184) C hw ob_60 (by decide) (fun _ _ => rfl) (vp_in_iff.mpr (by omega)) dX10_gain_185 ?_
                            refine ti_top (y := x_83) ((yx_83)) ?_
                            refine lv_iconst (v := 1) hx hb dX10_gain_186 (by decide) ?_
                            refine sb_icmp_ne (tgt := 208) hx hb rfl (by decide : (1 : Int32).toInt = 1) dX10_gain_187 (by decide) (fun c_187_84 => ?_) (fun c_187_84 => ?_)
                            · exact hj_208_95 M_75 _ _ _ iM_75 f_76 f_77 f_78 hw (lv_sub hl [0, 1, 2, 3, 4] rfl)
                            · refine lv_aload_n hx hb dX10_gain_190 rfl (lv_at hl 2 rfl) ?_
                              refine lv_iconst (v := 1) hx hb dX10_gain_191 (by decide) ?_
                              refine lv_iload_n hx hb dX10_gain_192 rfl (lv_at hl 1 rfl) ?_
                              refine ti_callVi (ci := 10) (av := [.int 1, .int x_72]) C hw (s_X10_placeOf_1 l D A cy hJ M_75 iM_75 x_72) ⟨ml_X10_411, ym_X10_placeOf, yv_X10_placeOf, yi_X10_placeOf, yc_X10_placeOf⟩ yd_X10_placeOf ob_60 (by decide) rfl rfl hl.1 (Nat.le_of_ble_eq_true rfl) ⟨by decide, by decide⟩ ⟨Nat.zero_le _, Nat.zero_le _⟩ dX10_gain_193 (fun r_86 M_87 H locs hp_87 hw => ?_)
                              obtain ⟨hm, hz⟩ := hp_87
                              have hw := hw.to hm
                              rcases hz with ⟨rfl, z1_88⟩ | ⟨z1_88, z2_88, z3_88, z4_88⟩
                              · refine lv_iconst (v := (-1)) hx hb dX10_gain_196 (by decide) ?_
                                refine sb_icmp_ne (tgt := 208) hx hb (by decide : ((-1) : Int32).toInt = (-1)) (by decide : ((-1) : Int32).toInt = (-1)) dX10_gain_197 (by decide) (fun h => absurd h (by decide)) (fun c_197_88 => ?_)
                                exact hj_200_90  _ _ _  hw (lv_sub hl [0, 1, 2, 3, 4] rfl)
                              · refine lv_iconst (v := (-1)) hx hb dX10_gain_196 (by decide) ?_
                                refine sb_icmp_ne (tgt := 208) hx hb rfl (by decide : ((-1) : Int32).toInt = (-1)) dX10_gain_197 (by decide) (fun c_197_89 => ?_) (fun c_197_89 => ?_)
                                · exact hj_208_95 M_75 _ _ _ iM_75 f_76 f_77 f_78 hw (lv_sub hl [0, 1, 2, 3, 4] rfl)
                                · exact hj_200_90  _ _ _  hw (lv_sub hl [0, 1, 2, 3, 4] rfl)
                    exact hl_153_78 ((8 - 0 : Int).toNat + 1) 0 M_70 _ _ _ (Nat.lt_succ_self _) (by have lt0 : (0 : Int32).toInt = 0 := (by decide); first | omega | decide) (by have lt0 : (0 : Int32).toInt = 0 := (by decide); first | omega | decide) iM_70 (rw1.trans rwM_70 f_57) (fR.trans (fR_Y hM_70 (bk_q (z := 1) (by decide) (by decide))) f_58) mcM_70 hw (lv_sub hl [0, 1, 2, 3] rfl)
                  · refine lv_aload_n hx hb dX10_gain_114 rfl (lv_at hl 1 rfl) ?_
                    refine ti_get (ci := 10) (k := 39) (N := 67) (T := TX10) (v := .ref (A 60 40)) C hw iw_10 rfl ob_60 (by decide) (by decide) fl_X10_84 rfl rfl dX10_gain_115 ?_
                    refine lv_bipush (v := 8) hx hb dX10_gain_118 (by decide) ?_
                    refine lv_iload_n hx hb dX10_gain_120 rfl (lv_at hl 0 rfl) ?_
                    refine lv_iadd hx hb dX10_gain_121 ?_
                    refine lv_topi (fun x_64 ex_64 => ?_)
                    have tx_64 : x_64.toInt = 8 + x_53.toInt := i_add ex_64 (by decide : (8 : Int32).toInt = 8) rfl (by omega) (by omega)
                    refine lv_iload_n hx hb dX10_gain_122 rfl (lv_at hl 2 rfl) ?_
                    refine lv_isub hx hb dX10_gain_123 ?_
                    refine lv_topi (fun x_65 ex_65 => ?_)
                    have lox_65x_64 := x_64.le_toInt
                    have hix_65x_64 := x_64.toInt_lt
                    have lox_65z1 := z1.le_toInt
                    have hix_65z1 := z1.toInt_lt
                    have tx_65 : x_65.toInt = x_64.toInt - z1.toInt := i_sub ex_65 rfl rfl (by omega) (by omega)
                    refine lv_aload_n hx hb dX10_gain_124 rfl (lv_at hl 1 rfl) ?_
                    refine ti_get (ci := 10) (k := 39) (N := 67) (T := TX10) (v := .ref (A 60 40)) C hw iw_10 rfl ob_60 (by decide) (by decide) fl_X10_84 rfl rfl dX10_gain_125 ?_
                    refine lv_iload_n hx hb dX10_gain_128 rfl (lv_at hl 0 rfl) ?_
                    refine ti_iald (ci := 10) (k := 39) (n := 184) C hw ob_60 (by decide) (fun _ _ => rfl) (vp_in_iff.mpr (by omega)) dX10_gain_129 ?_
                    refine lv_topi (fun x_66 ex_66 => ?_)
                    have yx_66 : tY M_56 60 39 x_53.toNatClampNeg = x_66 := (ex_66.symm)
                    have bx_66 : 0 ≤ x_66.toInt ∧ x_66.toInt ≤ 7 := mI_ry (k := 39) (i := x_53.toNatClampNeg) iM_56 yx_66.symm
                    refine ti_iast (ci := 10) (k := 39) (n := 184) C hw ob_60 (by decide) (fun _ _ => rfl) (vp_in_iff.mpr (by omega)) dX10_gain_130 (fun H locs hw => ?_)
                    obtain ⟨M_67, hM_67⟩ : ∃ z : ti_M, z = uY M_56 60 39 (upd (tY M_56 60 39) (x_65 : Int32).toNatClampNeg x_66) := ⟨_, rfl⟩
                    have hw := hw.to hM_67.symm
                    have iM_67 : mI Tm M_67 := mI_up (i := x_65.toNatClampNeg) iM_56 hM_67 (ib_mk (lo := 0) (hi := 7) (by omega) (by omega))
                    have rwM_67 : rw1 M_67 M_56 := rw1_39 iM_56 hM_67 (by show 8 ≤ (x_65).toInt.toNat ∧ (x_65).toInt.toNat < 16; omega)
                    have mcM_67 := mC_39 f_59 hM_67
                    obtain ⟨x_68, ex_68⟩ : ∃ z : Int32, z = x_53 + 1 := ⟨_, rfl⟩
                    have tx_68 : x_68.toInt = x_53.toInt + 1 := i_add ex_68 rfl (by decide) (by omega) (by omega)
                    refine lv_iinc (v := x_68) (lv' := [(3, .int x_68), (0, .ref (A 60 0)), (1, .int z1), (2, .int z2)]) hx hb dX10_gain_131 hl (k := 0) rfl (by rw [ex_68]; rfl) (by decide) rfl (fun ls hl => ?_)
                    refine lv_goto (tgt := 104) hx hb dX10_gain_134 (by decide) ?_
                    exact ih_62 x_68 M_67 _ _ _ (by omega) (by first | omega | decide) (by first | omega | decide) iM_67 (rw1.trans rwM_67 f_57) (fR.trans (fR_Y hM_67 (bk_m (z := x_65) (by omega) (by decide))) f_58) mcM_67 (by first | omega | decide) ((cg (tY_nE hM_67 (nk (by decide))) 1).trans j_61) hw (lv_sub hl [0, 1, 2, 3] rfl)
              exact hl_104_61 ((8 - z1.toInt : Int).toNat + 1) z1 M_46 _ _ _ (Nat.lt_succ_self _) (by first | omega | decide) (by first | omega | decide) iM_46 (rw1.trans (rw1_rq q_47) f_30) (fR.trans frM_46 f_31) q_48 (by first | omega | decide) (q_52.trans (f_30.2.2.2)) hw (lv_sub hl [0, 1, 2, 3] rfl)
            · refine lv_aload_n hx hb dX10_gain_49 rfl (lv_at hl 1 rfl) ?_
              refine ti_get (ci := 10) (k := 57) (N := 67) (T := TX10) (v := .ref (A 60 58)) C hw iw_10 rfl ob_60 (by decide) (by decide) fl_X10_129 rfl rfl dX10_gain_50 ?_
              refine lv_iload_n hx hb dX10_gain_53 rfl (lv_at hl 0 rfl) ?_
              refine lv_iload_n hx hb dX10_gain_54 rfl (lv_at hl 0 rfl) ?_
              refine lv_aload_n hx hb dX10_gain_55 rfl (lv_at hl 1 rfl) ?_
              refine ti_get (ci := 10) (k := 3) (N := 67) (T := TX10) (v := .ref (A 60 4)) C hw iw_10 rfl ob_60 (by decide) (by decide) fl_X10_13 rfl rfl dX10_gain_56 ?_
              refine lv_iconst (v := 0) hx hb dX10_gain_59 (by decide) ?_
              refine ti_iald (ci := 10) (k := 3) (n := 22) C hw ob_60 (by decide) (fun _ _ => rfl) (by unfold vp_in; decide) dX10_gain_60 ?_
              refine lv_topi (fun x_35 ex_35 => ?_)
              have yx_35 : tY M_29 60 3 0 = x_35 := ((congrArg _ (by decide)).symm.trans ex_35.symm)
              have bx_35 : 0 ≤ x_35.toInt ∧ x_35.toInt ≤ 8 := mI_rn (i := 0) iM_29 yx_35.symm (fun _ h => h)
              have zx_35 : (tY M_29 60 3 0).toInt = x_35.toInt := by rw [yx_35]
              have wx_35 : tY M 60 3 0 = x_35 := ((cg (f_30.1 3 (by decide) (by decide)) 0)).symm.trans yx_35
              have zwx_35 : (tY M 60 3 0).toInt = x_35.toInt := by rw [wx_35]
              have hj_91_42 : ∀ (x_42 : Int32) (H : Heap) (locs : List Loc) (ls : Array Slot), ti_H ti_LM D A cy H0 M_29 H locs → lv_has ls 6 [(3, .int x_26), (0, .ref (A 60 0)), (1, .int z1), (2, .int z2)] → W p l e (ti_rm 8) s m args below meth c H locs 0 0 Q (F0 m 91 ls [.int x_42, .int x_26, .ref (A 60 58)]) := by
                intro x_42 H locs ls  hw hl
                refine ti_iast (ci := 10) (k := 57) (n := 8) C hw ob_60 (by decide) (fun _ _ => rfl) (vp_in_iff.mpr (by omega)) dX10_gain_91 (fun H locs hw => ?_)
                obtain ⟨M_43, hM_43⟩ : ∃ z : ti_M, z = uY M_29 60 57 (upd (tY M_29 60 57) (x_26 : Int32).toNatClampNeg x_42) := ⟨_, rfl⟩
                have hw := hw.to hM_43.symm
                have iM_43 : mI Tm M_43 := mI_up (i := x_26.toNatClampNeg) iM_29 hM_43 trivial
                obtain ⟨x_44, ex_44⟩ : ∃ z : Int32, z = x_26 + 1 := ⟨_, rfl⟩
                have tx_44 : x_44.toInt = x_26.toInt + 1 := i_add ex_44 rfl (by decide) (by omega) (by omega)
                refine lv_iinc (v := x_44) (lv' := [(3, .int x_44), (0, .ref (A 60 0)), (1, .int z1), (2, .int z2)]) hx hb dX10_gain_92 hl (k := 0) rfl (by rw [ex_44]; rfl) (by decide) rfl (fun ls hl => ?_)
                refine lv_goto (tgt := 43) hx hb dX10_gain_95 (by decide) ?_
                exact ih_33 x_44 M_43 _ _ _ (by omega) (by first | omega | decide) (by first | omega | decide) iM_43 (rw1.trans (rw1_qw (qw_Y hM_43 (by decide))) f_30) (fR.trans (fR_O hM_43 (by decide)) f_31) (mC_qw (qw_Y hM_43 (by decide)) f_32) hw (lv_sub hl [0, 1, 2, 3] rfl)
              have hj_89_41 : ∀  (H : Heap) (locs : List Loc) (ls : Array Slot), ti_H ti_LM D A cy H0 M_29 H locs → lv_has ls 6 [(3, .int x_26), (0, .ref (A 60 0)), (1, .int z1), (2, .int z2)] → W p l e (ti_rm 8) s m args below meth c H locs 0 0 Q (F0 m 89 ls [.int x_26, .ref (A 60 58)]) := by
                intro  H locs ls  hw hl
                refine lv_bipush (v := 120) hx hb dX10_gain_89 (by decide) ?_
                exact hj_91_42 120 _ _ _  hw (lv_sub hl [0, 1, 2, 3] rfl)
              refine sb_icmp_ge (tgt := 89) hx hb rfl rfl dX10_gain_61 (by decide) (fun c_61_35 => ?_) (fun c_61_35 => ?_)
              · exact hj_89_41  _ _ _  hw (lv_sub hl [0, 1, 2, 3] rfl)
              · refine lv_aload_n hx hb dX10_gain_64 rfl (lv_at hl 1 rfl) ?_
                refine ti_get (ci := 10) (k := 40) (N := 67) (T := TX10) (v := .ref (A 60 41)) C hw iw_10 rfl ob_60 (by decide) (by decide) fl_X10_87 rfl rfl dX10_gain_65 ?_
                refine lv_bipush (v := 8) hx hb dX10_gain_68 (by decide) ?_
                refine lv_iload_n hx hb dX10_gain_70 rfl (lv_at hl 0 rfl) ?_
                refine lv_iadd hx hb dX10_gain_71 ?_
                refine lv_topi (fun x_37 ex_37 => ?_)
                have tx_37 : x_37.toInt = 8 + x_26.toInt := i_add ex_37 (by decide : (8 : Int32).toInt = 8) rfl (by omega) (by omega)
                refine ti_iald (ci := 10) (k := 40) (n := 184) C hw ob_60 (by decide) (fun _ _ => rfl) (vp_in_iff.mpr (by omega)) dX10_gain_72 ?_
                refine lv_topi (fun x_38 ex_38 => ?_)
                have yx_38 : tY M_29 60 40 x_37.toNatClampNeg = x_38 := (ex_38.symm)
                have zx_38 : (tY M_29 60 40 x_37.toNatClampNeg).toInt = x_38.toInt := by rw [yx_38]
                refine lv_iconst (v := 2) hx hb dX10_gain_73 (by decide) ?_
                refine sb_icmp_ne (tgt := 89) hx hb rfl (by decide : (2 : Int32).toInt = 2) dX10_gain_74 (by decide) (fun c_74_38 => ?_) (fun c_74_38 => ?_)
                · exact hj_89_41  _ _ _  hw (lv_sub hl [0, 1, 2, 3] rfl)
                · refine lv_aload_n hx hb dX10_gain_77 rfl (lv_at hl 1 rfl) ?_
                  refine ti_get (ci := 10) (k := 48) (N := 67) (T := TX10) (v := .ref (A 60 49)) C hw iw_10 rfl ob_60 (by decide) (by decide) fl_X10_111 rfl rfl dX10_gain_78 ?_
                  refine lv_bipush (v := 8) hx hb dX10_gain_81 (by decide) ?_
                  refine lv_iload_n hx hb dX10_gain_83 rfl (lv_at hl 0 rfl) ?_
                  refine lv_iadd hx hb dX10_gain_84 ?_
                  refine lv_topi (fun x_40 ex_40 => ?_)
                  have tx_40 : x_40.toInt = 8 + x_26.toInt := i_add ex_40 (by decide : (8 : Int32).toInt = 8) rfl (by omega) (by omega)
                  refine ti_iald (ci := 10) (k := 48) (n := 184) C hw ob_60 (by decide) (fun _ _ => rfl) (vp_in_iff.mpr (by omega)) dX10_gain_85 ?_
                  refine lv_topi (fun x_41 ex_41 => ?_)
                  have yx_41 : tY M_29 60 48 x_40.toNatClampNeg = x_41 := (ex_41.symm)
                  refine lv_goto (tgt := 91) hx hb dX10_gain_86 (by decide) ?_
                  exact hj_91_42 x_41 _ _ _  hw (lv_sub hl [0, 1, 2, 3] rfl)
        exact hl_43_32 ((8 - 0 : Int).toNat + 1) 0 M_23 _ _ _ (Nat.lt_succ_self _) (by have lt0 : (0 : Int32).toInt = 0 := (by decide); first | omega | decide) (by have lt0 : (0 : Int32).toInt = 0 := (by decide); first | omega | decide) iM_23 (rw1.trans (rw1_rq q_24) (rw1.trans (rw1_rq q_16) (rw1_qw (qw_I hM_1 (by decide))))) (fR.trans frM_23 (fR.trans frM_15 (fR_I hM_1 (by decide)))) q_25 hw (lv_sub hl [0, 1, 2, 3] rfl)
      · refine sb_if_ne (tgt := 32) hx hb (by decide : (0 : Int32).toInt = 0) dX10_gain_27 (by decide) (fun h => absurd h (by decide)) (fun c_27_12 => ?_)
        exact hj_30_13  _ _ _  hw (lv_sub hl [0, 1, 2] rfl)
  · refine sb_if_eq (tgt := 30) hx hb (by decide : (0 : Int32).toInt = 0) dX10_gain_9 (by decide) (fun c_9_5 => ?_) (fun h => absurd h (by decide))
    exact hj_30_13  _ _ _  hw (lv_sub hl [0, 1, 2] rfl)
set_option maxHeartbeats 4000000 in
set_option maxRecDepth 100000 in
theorem f_X10_tried (l : Launch) (D : va_G) (A : Nat → Nat → Nat) (cy : Nat → ClassId) (hJ : ti_inj ti_LM A) (M : ti_M) (hI : mI Tm M) (hF : mF Tm M) (z1 : Int32) (z2 : Int32) (z3 : Int32) : ti_Ki l yX10_tried cX10_tried 6 (some .int) 8 ti_LM D A cy M [.ref (A 60 0), .int z1, .int z2, .int z3] (fun r M2 => fT 1 M2 M ∧ (tI M 60 53 = -1 → tI M2 60 53 = -1) ∧ mF Tm M2 ∧ tI M2 60 2 = tI M 60 2 ∧ lw M2 M) := by
  refine ti_eI yp_X10_tried hJ ti_LM_nd (Nat.le_of_ble_eq_true rfl) ?_
  intro p e s m args below meth c Q H0 C hQ hw ls hl
  have hx := C.1
  have hb := C.2.1
  have hl : lv_has ls 6 [(0, .ref (A 60 0)), (1, .int z1), (2, .int z2), (3, .int z3)] := hl
  have hL : mL M := hF.2.1
  have hC0 : mC M 0 := hF.2.2.1.1
  have hP0 : mP M 0 := hF.2.2.1.2
  refine lv_aload_n hx hb dX10_tried_0 rfl (lv_at hl 0 rfl) ?_
  refine lv_iconst (v := 0) hx hb dX10_tried_1 (by decide) ?_
  refine ti_putI (ci := 10) (k := 0) (N := 67) (T := TX10) C hw iw_10 tyX10 tyX10_ok nmX10 rfl ob_60 (by decide) (by decide) fl_X10_154 rfl rfl rfl rfl (fn_10 A _) fs_10_0 dX10_tried_2 (fun H locs hw => ?_)
  obtain ⟨M_1, hM_1⟩ : ∃ z : ti_M, z = uI M 60 0 0 := ⟨_, rfl⟩
  have hw := hw.to hM_1.symm
  have iM_1 : mI Tm M_1 := mI_uI hI hM_1 (by decide) (by decide) trivial
  refine lv_iload_n hx hb dX10_tried_5 rfl (lv_at hl 1 rfl) ?_
  refine lv_iconst (v := 2) hx hb dX10_tried_6 (by decide) ?_
  have hj_61_23 : ∀ (x_21 : Int32) (H : Heap) (locs : List Loc) (ls : Array Slot), (0 ≤ x_21.toInt) → (x_21.toInt ≤ 1) → ti_H ti_LM D A cy H0 M_1 H locs → lv_has ls 6 [(4, .int x_21), (0, .ref (A 60 0)), (1, .int z1), (2, .int z2), (3, .int z3)] → W p l e (ti_rm 8) s m args below meth c H locs 0 0 Q (F0 m 61 ls []) := by
    intro x_21 H locs ls b_22 b_23 hw hl
    refine lv_iconst (v := (-1)) hx hb dX10_tried_61 (by decide) ?_
    exact hQ _ _ _ _ _ _ hw rfl (⟨(fT_I hM_1 (by decide)), (fun h9 => ((tI_nE hM_1 (nk (by decide)))).trans h9), mF_rw hF iM_1 (rw1_qw (qw_I hM_1 (by decide))), (rw1_qw (qw_I hM_1 (by decide))).2.1.1, (rw1_qw (qw_I hM_1 (by decide))).1⟩) dX10_tried_62
  have hj_43_14 : ∀  (H : Heap) (locs : List Loc) (ls : Array Slot), (z1.toInt ≠ 2 ∨ (0 ≤ z2.toInt ∧ z2.toInt ≤ 7 ∧ z2.toInt < (tY M 60 3 0).toInt)) → ti_H ti_LM D A cy H0 M_1 H locs → lv_has ls 6 [(4, .int 1), (0, .ref (A 60 0)), (1, .int z1), (2, .int z2), (3, .int z3)] → W p l e (ti_rm 8) s m args below meth c H locs 0 0 Q (F0 m 43 ls []) := by
    intro  H locs ls j_14 hw hl
    refine lv_iload_n hx hb dX10_tried_43 rfl (lv_at hl 4 rfl) ?_
    refine sb_if_lt (tgt := 61) hx hb rfl dX10_tried_44 (by decide) (fun c_44_14 => ?_) (fun c_44_14 => ?_)
    · exact hj_61_23 1 _ _ _ (by have lt0 : (1 : Int32).toInt = 1 := (by decide); first | omega | decide) (by have lt0 : (1 : Int32).toInt = 1 := (by decide); first | omega | decide) hw (lv_sub hl [0, 1, 2, 3, 4] rfl)
    · refine lv_iload_n hx hb dX10_tried_47 rfl (lv_at hl 4 rfl) ?_
      refine lv_bipush (v := 60) hx hb dX10_tried_48 (by decide) ?_
      refine sb_icmp_gt (tgt := 61) hx hb rfl (by decide : (60 : Int32).toInt = 60) dX10_tried_50 (by decide) (fun c_50_15 => ?_) (fun c_50_15 => ?_)
      · exact hj_61_23 1 _ _ _ (by have lt0 : (1 : Int32).toInt = 1 := (by decide); first | omega | decide) (by have lt0 : (1 : Int32).toInt = 1 := (by decide); first | omega | decide) hw (lv_sub hl [0, 1, 2, 3, 4] rfl)
      · refine lv_iload_n hx hb dX10_tried_53 rfl (lv_at hl 4 rfl) ?_
        refine lv_aload_n hx hb dX10_tried_54 rfl (lv_at hl 1 rfl) ?_
        have lk_19 : (tY M_1 60 34 0).toInt = (tY M 60 34 0).toInt := by rw [(cg (tY_uIE hM_1) 0)]
        refine ti_callVi (ci := 10) (av := []) C hw (s_X10_minutesLeft l D A cy hJ M_1 iM_1 ) ⟨ml_X10_430, ym_X10_minutesLeft, yv_X10_minutesLeft, yi_X10_minutesLeft, yc_X10_minutesLeft⟩ yd_X10_minutesLeft ob_60 (by decide) rfl rfl hl.1 (Nat.le_of_ble_eq_true rfl) ⟨by decide, by decide⟩ ⟨Nat.zero_le _, Nat.zero_le _⟩ dX10_tried_55 (fun r_17 M_18 H locs hp_18 hw => ?_)
        obtain ⟨hm, b0r_17, b1r_17, p0r_17⟩ := hp_18
        have hw := hw.to hm
        refine sb_icmp_le (tgt := 63) hx hb rfl rfl dX10_tried_58 (by decide) (fun c_58_19 => ?_) (fun c_58_19 => ?_)
        · refine lv_aload_n hx hb dX10_tried_63 rfl (lv_at hl 1 rfl) ?_
          refine ti_callVv (ci := 10) (av := []) C hw (f_X10_lays l D A cy hJ M_1 iM_1 (((rw1_qw (qw_I hM_1 (by decide))).2.2.1 0 (by decide)).1 hC0) (((rw1_qw (qw_I hM_1 (by decide))).2.2.1 0 (by decide)).2 hP0)) ⟨ml_X10_442, ym_X10_lays, yv_X10_lays, yi_X10_lays, yc_X10_lays⟩ yd_X10_lays ob_60 (by decide) rfl rfl hl.1 (Nat.le_of_ble_eq_true rfl) ⟨by decide, by decide⟩ ⟨Nat.zero_le _, Nat.zero_le _⟩ dX10_tried_64 (fun M_25 H locs hp_25 hw => ?_)
          obtain ⟨frM_25, hqM_25⟩ := hp_25
          obtain ⟨iM_25, q_26, q_27, q_28, q_29, q_30, q_31⟩ := hqM_25
          refine lv_iload_n hx hb dX10_tried_67 rfl (lv_at hl 2 rfl) ?_
          refine lv_iconst (v := 2) hx hb dX10_tried_68 (by decide) ?_
          have hj_119_56 : ∀ (M_53 : ti_M) (H : Heap) (locs : List Loc) (ls : Array Slot), (mI Tm M_53) → (rw1 M_53 M) → (fT 1 M_53 M) → (mC M_53 1) → ti_H ti_LM D A cy H0 M_53 H locs → lv_has ls 6 [(4, .int 1), (0, .ref (A 60 0)), (1, .int z1), (2, .int z2), (3, .int z3)] → W p l e (ti_rm 8) s m args below meth c H locs 0 0 Q (F0 m 119 ls []) := by
            intro M_53 H locs ls iM_53 f_54 f_55 f_56 hw hl
            refine lv_iconst (v := 0) hx hb dX10_tried_119 (by decide) ?_
            refine lv_istore (lv' := [(5, .int 0), (4, .int 1), (0, .ref (A 60 0)), (1, .int z1), (2, .int z2), (3, .int z3)]) hx hb dX10_tried_120 hl (by decide) rfl (fun ls hl => ?_)
            have hl_122_63 : ∀ (n_64 : Nat) (x_57 : Int32) (M_60 : ti_M) (H : Heap) (locs : List Loc) (ls : Array Slot), (8 - x_57.toInt : Int).toNat < n_64 → (0 ≤ x_57.toInt) → (x_57.toInt ≤ 8) → (mI Tm M_60) → (rw1 M_60 M) → (fT 1 M_60 M) → (mC M_60 1) → ti_H ti_LM D A cy H0 M_60 H locs → lv_has ls 6 [(5, .int x_57), (4, .int 1), (0, .ref (A 60 0)), (1, .int z1), (2, .int z2), (3, .int z3)] → W p l e (ti_rm 8) s m args below meth c H locs 0 0 Q (F0 m 122 ls []) := by
              intro n_64
              induction n_64 with
              | zero => intro x_57 M_60 H locs ls hf_64; exact absurd hf_64 (Nat.not_lt_zero _)
              | succ n_64 ih_64 =>
                intro x_57 M_60 H locs ls hf_64 b_58 b_59 iM_60 f_61 f_62 f_63 hw hl
                refine lv_iload hx hb dX10_tried_122 (lv_at hl 0 rfl) ?_
                refine lv_aload_n hx hb dX10_tried_124 rfl (lv_at hl 2 rfl) ?_
                refine ti_get (ci := 10) (k := 3) (N := 67) (T := TX10) (v := .ref (A 60 4)) C hw iw_10 rfl ob_60 (by decide) (by decide) fl_X10_13 rfl rfl dX10_tried_125 ?_
                refine lv_iconst (v := 0) hx hb dX10_tried_128 (by decide) ?_
                refine ti_iald (ci := 10) (k := 3) (n := 22) C hw ob_60 (by decide) (fun _ _ => rfl) (by unfold vp_in; decide) dX10_tried_129 ?_
                refine lv_topi (fun x_65 ex_65 => ?_)
                have yx_65 : tY M_60 60 3 0 = x_65 := ((congrArg _ (by decide)).symm.trans ex_65.symm)
                have bx_65 : 0 ≤ x_65.toInt ∧ x_65.toInt ≤ 8 := mI_rn (i := 0) iM_60 yx_65.symm (fun _ h => h)
                have zx_65 : (tY M_60 60 3 0).toInt = x_65.toInt := by rw [yx_65]
                have wx_65 : tY M 60 3 0 = x_65 := ((cg (f_61.1 3 (by decide) (by decide)) 0)).symm.trans yx_65
                have zwx_65 : (tY M 60 3 0).toInt = x_65.toInt := by rw [wx_65]
                have hj_170_77 : ∀  (H : Heap) (locs : List Loc) (ls : Array Slot), ti_H ti_LM D A cy H0 M_60 H locs → lv_has ls 6 [(5, .int x_57), (4, .int 1), (0, .ref (A 60 0)), (1, .int z1), (2, .int z2), (3, .int z3)] → W p l e (ti_rm 8) s m args below meth c H locs 0 0 Q (F0 m 170 ls []) := by
                  intro  H locs ls  hw hl
                  refine lv_aload_n hx hb dX10_tried_170 rfl (lv_at hl 2 rfl) ?_
                  refine lv_iload_n hx hb dX10_tried_171 rfl (lv_at hl 3 rfl) ?_
                  refine ti_putI (ci := 10) (k := 53) (N := 67) (T := TX10) C hw iw_10 tyX10 tyX10_ok nmX10 rfl ob_60 (by decide) (by decide) fl_X10_120 rfl rfl rfl rfl (fn_10 A _) fs_10_53 dX10_tried_172 (fun H locs hw => ?_)
                  obtain ⟨M_78, hM_78⟩ : ∃ z : ti_M, z = uI M_60 60 53 z1 := ⟨_, rfl⟩
                  have hw := hw.to hM_78.symm
                  have iM_78 : mI Tm M_78 := mI_uI iM_60 hM_78 (by decide) (by decide) trivial
                  refine lv_aload_n hx hb dX10_tried_175 rfl (lv_at hl 2 rfl) ?_
                  refine lv_iload_n hx hb dX10_tried_176 rfl (lv_at hl 5 rfl) ?_
                  refine ti_callVv (ci := 10) (av := [.int z3]) C hw (f_X10_runs l D A cy hJ M_78 iM_78 (mC_qw (qw_I hM_78 (by decide)) f_63) (mL_lw (lk.trans (lk_I hM_78 (by decide)) (lk_of f_61.1 f_61.2.1)).1 hL) z3) ⟨ml_X10_445, ym_X10_runs, yv_X10_runs, yi_X10_runs, yc_X10_runs⟩ yd_X10_runs ob_60 (by decide) rfl rfl hl.1 (Nat.le_of_ble_eq_true rfl) ⟨by decide, by decide⟩ ⟨Nat.zero_le _, Nat.zero_le _⟩ dX10_tried_177 (fun M_80 H locs hp_80 hw => ?_)
                  obtain ⟨frM_80, hqM_80⟩ := hp_80
                  obtain ⟨iM_80, q_81, q_82⟩ := hqM_80
                  refine lv_aload_n hx hb dX10_tried_180 rfl (lv_at hl 2 rfl) ?_
                  refine lv_iconst (v := (-1)) hx hb dX10_tried_181 (by decide) ?_
                  refine ti_putI (ci := 10) (k := 53) (N := 67) (T := TX10) C hw iw_10 tyX10 tyX10_ok nmX10 rfl ob_60 (by decide) (by decide) fl_X10_120 rfl rfl rfl rfl (fn_10 A _) fs_10_53 dX10_tried_182 (fun H locs hw => ?_)
                  obtain ⟨M_83, hM_83⟩ : ∃ z : ti_M, z = uI M_80 60 53 (-1) := ⟨_, rfl⟩
                  have hw := hw.to hM_83.symm
                  have iM_83 : mI Tm M_83 := mI_uI iM_80 hM_83 (by decide) (by decide) trivial
                  refine lv_aload_n hx hb dX10_tried_185 rfl (lv_at hl 2 rfl) ?_
                  refine lv_iconst (v := 1) hx hb dX10_tried_186 (by decide) ?_
                  refine ti_callVi (ci := 10) (av := [.int 1]) C hw (s_X10_servedMany_1 l D A cy hJ M_83 iM_83 ) ⟨ml_X10_491, ym_X10_servedMany, yv_X10_servedMany, yi_X10_servedMany, yc_X10_servedMany⟩ yd_X10_servedMany ob_60 (by decide) rfl rfl hl.1 (Nat.le_of_ble_eq_true rfl) ⟨by decide, by decide⟩ ⟨Nat.zero_le _, Nat.zero_le _⟩ dX10_tried_187 (fun r_84 M_85 H locs hp_85 hw => ?_)
                  have hm := hp_85
                  have hw := hw.to hm
                  exact hQ _ _ _ _ _ _ hw rfl (⟨(fT.trans (fT_I hM_83 (by decide)) (fT.trans frM_80.1 (fT.trans (fT_I hM_78 (by decide)) f_62))), (fun _ => (tI_uE hM_83)), mF_rw hF iM_83 (rw1.trans (rw1_qw (qw_I hM_83 (by decide))) (rw1.trans (rw1_rq q_81) (rw1.trans (rw1_qw (qw_I hM_78 (by decide))) f_61))), (rw1.trans (rw1_qw (qw_I hM_83 (by decide))) (rw1.trans (rw1_rq q_81) (rw1.trans (rw1_qw (qw_I hM_78 (by decide))) f_61))).2.1.1, (rw1.trans (rw1_qw (qw_I hM_83 (by decide))) (rw1.trans (rw1_rq q_81) (rw1.trans (rw1_qw (qw_I hM_78 (by decide))) f_61))).1⟩) dX10_tried_190
                refine sb_icmp_ge (tgt := 170) hx hb rfl rfl dX10_tried_130 (by decide) (fun c_130_65 => ?_) (fun c_130_65 => ?_)
                · exact hj_170_77  _ _ _  hw (lv_sub hl [0, 1, 2, 3, 4, 5] rfl)
                · refine lv_iload_n hx hb dX10_tried_133 rfl (lv_at hl 3 rfl) ?_
                  refine lv_iconst (v := 5) hx hb dX10_tried_134 (by decide) ?_
                  refine sb_icmp_ne (tgt := 170) hx hb rfl (by decide : (5 : Int32).toInt = 5) dX10_tried_135 (by decide) (fun c_135_66 => ?_) (fun c_135_66 => ?_)
                  · exact hj_170_77  _ _ _  hw (lv_sub hl [0, 1, 2, 3, 4, 5] rfl)
                  · refine lv_aload_n hx hb dX10_tried_138 rfl (lv_at hl 2 rfl) ?_
                    refine ti_get (ci := 10) (k := 40) (N := 67) (T := TX10) (v := .ref (A 60 41)) C hw iw_10 rfl ob_60 (by decide) (by decide) fl_X10_87 rfl rfl dX10_tried_139 ?_
                    refine lv_iload hx hb dX10_tried_142 (lv_at hl 0 rfl) ?_
                    refine ti_iald (ci := 10) (k := 40) (n := 184) C hw ob_60 (by decide) (fun _ _ => rfl) (vp_in_iff.mpr (by omega)) dX10_tried_144 ?_
                    refine lv_topi (fun x_68 ex_68 => ?_)
                    have yx_68 : tY M_60 60 40 x_57.toNatClampNeg = x_68 := (ex_68.symm)
                    have zx_68 : (tY M_60 60 40 x_57.toNatClampNeg).toInt = x_68.toInt := by rw [yx_68]
                    have hj_164_76 : ∀ (M_73 : ti_M) (H : Heap) (locs : List Loc) (ls : Array Slot), (mI Tm M_73) → (rw1 M_73 M) → (fT 1 M_73 M) → (mC M_73 1) → ti_H ti_LM D A cy H0 M_73 H locs → lv_has ls 6 [(5, .int x_57), (4, .int 1), (0, .ref (A 60 0)), (1, .int z1), (2, .int z2), (3, .int z3)] → W p l e (ti_rm 8) s m args below meth c H locs 0 0 Q (F0 m 164 ls []) := by
                      intro M_73 H locs ls iM_73 f_74 f_75 f_76 hw hl
                      obtain ⟨x_77, ex_77⟩ : ∃ z : Int32, z = x_57 + 1 := ⟨_, rfl⟩
                      have tx_77 : x_77.toInt = x_57.toInt + 1 := i_add ex_77 rfl (by decide) (by omega) (by omega)
                      refine lv_iinc (v := x_77) (lv' := [(5, .int x_77), (4, .int 1), (0, .ref (A 60 0)), (1, .int z1), (2, .int z2), (3, .int z3)]) hx hb dX10_tried_164 hl (k := 0) rfl (by rw [ex_77]; rfl) (by decide) rfl (fun ls hl => ?_)
                      refine lv_goto (tgt := 122) hx hb dX10_tried_167 (by decide) ?_
                      exact ih_64 x_77 M_73 _ _ _ (by omega) (by first | omega | decide) (by first | omega | decide) iM_73 f_74 f_75 f_76 hw (lv_sub hl [0, 1, 2, 3, 4, 5] rfl)
                    refine sb_if_ne (tgt := 164) hx hb rfl dX10_tried_145 (by decide) (fun c_145_68 => ?_) (fun c_145_68 => ?_)
                    · exact hj_164_76 M_60 _ _ _ iM_60 f_61 f_62 f_63 hw (lv_sub hl [0, 1, 2, 3, 4, 5] rfl)
                    · refine lv_aload_n hx hb dX10_tried_148 rfl (lv_at hl 2 rfl) ?_
                      refine ti_get (ci := 10) (k := 44) (N := 67) (T := TX10) (v := .ref (A 60 45)) C hw iw_10 rfl ob_60 (by decide) (by decide) fl_X10_99 rfl rfl dX10_tried_149 ?_
                      refine lv_bipush (v := 8) hx hb dX10_tried_152 (by decide) ?_
                      refine lv_iload hx hb dX10_tried_154 (lv_at hl 0 rfl) ?_
                      refine lv_iadd hx hb dX10_tried_156 ?_
                      refine lv_topi (fun x_70 ex_70 => ?_)
                      have tx_70 : x_70.toInt = 8 + x_57.toInt := i_add ex_70 (by decide : (8 : Int32).toInt = 8) rfl (by omega) (by omega)
                      refine lv_aload_n hx hb dX10_tried_157 rfl (lv_at hl 2 rfl) ?_
                      refine ti_get (ci := 10) (k := 34) (N := 67) (T := TX10) (v := .ref (A 60 35)) C hw iw_10 rfl ob_60 (by decide) (by decide) fl_X10_69 rfl rfl dX10_tried_158 ?_
                      refine lv_iconst (v := 0) hx hb dX10_tried_161 (by decide) ?_
                      refine ti_iald (ci := 10) (k := 34) (n := 23) C hw ob_60 (by decide) (fun _ _ => rfl) (by unfold vp_in; decide) dX10_tried_162 ?_
                      refine lv_topi (fun x_71 ex_71 => ?_)
                      have yx_71 : tY M_60 60 34 0 = x_71 := ((congrArg _ (by decide)).symm.trans ex_71.symm)
                      have bx_71 : 0 ≤ x_71.toInt ∧ x_71.toInt ≤ 120 := mI_ry (k := 34) (i := 0) iM_60 yx_71.symm (by decide)
                      have zx_71 : (tY M_60 60 34 0).toInt = x_71.toInt := by rw [yx_71]
                      refine ti_iast (ci := 10) (k := 44) (n := 184) C hw ob_60 (by decide) (fun _ _ => rfl) (vp_in_iff.mpr (by omega)) dX10_tried_163 (fun H locs hw => ?_)
                      obtain ⟨M_72, hM_72⟩ : ∃ z : ti_M, z = uY M_60 60 44 (upd (tY M_60 60 44) (x_70 : Int32).toNatClampNeg x_71) := ⟨_, rfl⟩
                      have hw := hw.to hM_72.symm
                      have iM_72 : mI Tm M_72 := mI_up (i := x_70.toNatClampNeg) iM_60 hM_72 trivial
                      exact hj_164_76 M_72 _ _ _ iM_72 (rw1.trans (rw1_qw (qw_Y hM_72 (by decide))) f_61) (fT.trans (fR_Y hM_72 (bk_m (z := x_70) (by omega) (by decide))).1 f_62) (mC_qw (qw_Y hM_72 (by decide)) f_63) hw (lv_sub hl [0, 1, 2, 3, 4, 5] rfl)
            exact hl_122_63 ((8 - 0 : Int).toNat + 1) 0 M_53 _ _ _ (Nat.lt_succ_self _) (by have lt0 : (0 : Int32).toInt = 0 := (by decide); first | omega | decide) (by have lt0 : (0 : Int32).toInt = 0 := (by decide); first | omega | decide) iM_53 f_54 f_55 f_56 hw (lv_sub hl [0, 1, 2, 3, 4, 5] rfl)
          refine sb_icmp_ne (tgt := 119) hx hb rfl (by decide : (2 : Int32).toInt = 2) dX10_tried_69 (by decide) (fun c_69_31 => ?_) (fun c_69_31 => ?_)
          · exact hj_119_56 M_25 _ _ _ iM_25 (rw1.trans (rw1_rq q_26) (rw1_qw (qw_I hM_1 (by decide)))) (fT.trans frM_25.1 (fT_I hM_1 (by decide))) q_27 hw (lv_sub hl [0, 1, 2, 3, 4] rfl)
          · refine lv_aload_n hx hb dX10_tried_72 rfl (lv_at hl 1 rfl) ?_
            refine ti_get (ci := 10) (k := 40) (N := 67) (T := TX10) (v := .ref (A 60 41)) C hw iw_10 rfl ob_60 (by decide) (by decide) fl_X10_87 rfl rfl dX10_tried_73 ?_
            refine lv_iload_n hx hb dX10_tried_76 rfl (lv_at hl 3 rfl) ?_
            refine ti_iald (ci := 10) (k := 40) (n := 184) C hw ob_60 (by decide) (fun _ _ => rfl) (vp_in_iff.mpr (by omega)) dX10_tried_77 ?_
            refine lv_topi (fun x_33 ex_33 => ?_)
            have yx_33 : tY M_25 60 40 z2.toNatClampNeg = x_33 := (ex_33.symm)
            have zx_33 : (tY M_25 60 40 z2.toNatClampNeg).toInt = x_33.toInt := by rw [yx_33]
            refine lv_iconst (v := 1) hx hb dX10_tried_78 (by decide) ?_
            have hj_100_48 : ∀ (M_45 : ti_M) (H : Heap) (locs : List Loc) (ls : Array Slot), (mI Tm M_45) → (rw1 M_45 M) → (fT 1 M_45 M) → (mC M_45 1) → ti_H ti_LM D A cy H0 M_45 H locs → lv_has ls 6 [(4, .int 1), (0, .ref (A 60 0)), (1, .int z1), (2, .int z2), (3, .int z3)] → W p l e (ti_rm 8) s m args below meth c H locs 0 0 Q (F0 m 100 ls []) := by
              intro M_45 H locs ls iM_45 f_46 f_47 f_48 hw hl
              refine lv_aload_n hx hb dX10_tried_100 rfl (lv_at hl 1 rfl) ?_
              refine ti_get (ci := 10) (k := 40) (N := 67) (T := TX10) (v := .ref (A 60 41)) C hw iw_10 rfl ob_60 (by decide) (by decide) fl_X10_87 rfl rfl dX10_tried_101 ?_
              refine lv_iload_n hx hb dX10_tried_104 rfl (lv_at hl 3 rfl) ?_
              refine ti_iald (ci := 10) (k := 40) (n := 184) C hw ob_60 (by decide) (fun _ _ => rfl) (vp_in_iff.mpr (by omega)) dX10_tried_105 ?_
              refine lv_topi (fun x_49 ex_49 => ?_)
              have yx_49 : tY M_45 60 40 z2.toNatClampNeg = x_49 := (ex_49.symm)
              have zx_49 : (tY M_45 60 40 z2.toNatClampNeg).toInt = x_49.toInt := by rw [yx_49]
              refine sb_if_ne (tgt := 119) hx hb rfl dX10_tried_106 (by decide) (fun c_106_49 => ?_) (fun c_106_49 => ?_)
              · exact hj_119_56 M_45 _ _ _ iM_45 f_46 f_47 f_48 hw (lv_sub hl [0, 1, 2, 3, 4] rfl)
              · refine lv_aload_n hx hb dX10_tried_109 rfl (lv_at hl 1 rfl) ?_
                refine ti_get (ci := 10) (k := 40) (N := 67) (T := TX10) (v := .ref (A 60 41)) C hw iw_10 rfl ob_60 (by decide) (by decide) fl_X10_87 rfl rfl dX10_tried_110 ?_
                refine lv_bipush (v := 8) hx hb dX10_tried_113 (by decide) ?_
                refine lv_iload_n hx hb dX10_tried_115 rfl (lv_at hl 3 rfl) ?_
                refine lv_iadd hx hb dX10_tried_116 ?_
                refine lv_topi (fun x_51 ex_51 => ?_)
                have lox_51z2 := z2.le_toInt
                have hix_51z2 := z2.toInt_lt
                have tx_51 : x_51.toInt = 8 + z2.toInt := i_add ex_51 (by decide : (8 : Int32).toInt = 8) rfl (by omega) (by omega)
                refine lv_iconst (v := 3) hx hb dX10_tried_117 (by decide) ?_
                refine ti_iast (ci := 10) (k := 40) (n := 184) C hw ob_60 (by decide) (fun _ _ => rfl) (vp_in_iff.mpr (by omega)) dX10_tried_118 (fun H locs hw => ?_)
                obtain ⟨M_52, hM_52⟩ : ∃ z : ti_M, z = uY M_45 60 40 (upd (tY M_45 60 40) (x_51 : Int32).toNatClampNeg 3) := ⟨_, rfl⟩
                have hw := hw.to hM_52.symm
                have iM_52 : mI Tm M_52 := mI_up (i := x_51.toNatClampNeg) iM_45 hM_52 trivial
                have rwM_52 : rw1 M_52 M_45 := rw1_40 iM_45 hM_52 (by show 8 ≤ (x_51).toInt.toNat ∧ (x_51).toInt.toNat < 16; omega)
                have mcM_52 := mC_40 f_48 hM_52 (by decide)
                exact hj_119_56 M_52 _ _ _ iM_52 (rw1.trans rwM_52 f_46) (fT.trans (fR_Y hM_52 (bk_m (z := x_51) (by omega) (by decide))).1 f_47) mcM_52 hw (lv_sub hl [0, 1, 2, 3, 4] rfl)
            refine sb_icmp_ne (tgt := 100) hx hb rfl (by decide : (1 : Int32).toInt = 1) dX10_tried_79 (by decide) (fun c_79_33 => ?_) (fun c_79_33 => ?_)
            · exact hj_100_48 M_25 _ _ _ iM_25 (rw1.trans (rw1_rq q_26) (rw1_qw (qw_I hM_1 (by decide)))) (fT.trans frM_25.1 (fT_I hM_1 (by decide))) q_27 hw (lv_sub hl [0, 1, 2, 3, 4] rfl)
            · refine lv_aload_n hx hb dX10_tried_82 rfl (lv_at hl 1 rfl) ?_
              refine lv_iconst (v := 1) hx hb dX10_tried_83 (by decide) ?_
              refine lv_aload_n hx hb dX10_tried_84 rfl (lv_at hl 1 rfl) ?_
              refine lv_iconst (v := 1) hx hb dX10_tried_85 (by decide) ?_
              refine lv_iload_n hx hb dX10_tried_86 rfl (lv_at hl 3 rfl) ?_
              refine ti_callVi (ci := 10) (av := [.int 1, .int z2]) C hw (s_X10_placeOf_1 l D A cy hJ M_25 iM_25 z2) ⟨ml_X10_411, ym_X10_placeOf, yv_X10_placeOf, yi_X10_placeOf, yc_X10_placeOf⟩ yd_X10_placeOf ob_60 (by decide) rfl rfl hl.1 (Nat.le_of_ble_eq_true rfl) ⟨by decide, by decide⟩ ⟨Nat.zero_le _, Nat.zero_le _⟩ dX10_tried_87 (fun r_35 M_36 H locs hp_36 hw => ?_)
              obtain ⟨hm, hz⟩ := hp_36
              have hw := hw.to hm
              have lk_38 : (tY M_25 60 3 0).toInt = (tY M 60 3 0).toInt := by rw [((cg (q_26.1 3 (by decide) (by decide)) 0).trans (cg (tY_uIE hM_1) 0))]
              rcases hz with ⟨rfl, z1_37⟩ | ⟨z1_37, z2_37, z3_37, z4_37⟩
              · obtain ⟨p9, k1, k2⟩ := q_28 z2.toInt.toNat (by omega) (by omega) (by have t1 : tY M_25 60 40 (8 * 1 + z2.toInt.toNat) = tY M_25 60 40 z2.toNatClampNeg := (q_29 z2.toInt.toNat (by omega)).trans (q_30 z2.toInt.toNat (by omega)).symm; rw [t1, (yx_33)]; omega); exact absurd (k2.trans (by omega)) (z1_37 p9 k1)
              · refine lv_iconst (v := 3) hx hb dX10_tried_90 (by decide) ?_
                refine lv_aload_n hx hb dX10_tried_91 rfl (lv_at hl 1 rfl) ?_
                refine ti_get (ci := 10) (k := 34) (N := 67) (T := TX10) (v := .ref (A 60 35)) C hw iw_10 rfl ob_60 (by decide) (by decide) fl_X10_69 rfl rfl dX10_tried_92 ?_
                refine lv_iconst (v := 0) hx hb dX10_tried_95 (by decide) ?_
                refine ti_iald (ci := 10) (k := 34) (n := 23) C hw ob_60 (by decide) (fun _ _ => rfl) (by unfold vp_in; decide) dX10_tried_96 ?_
                refine lv_topi (fun x_39 ex_39 => ?_)
                have yx_39 : tY M_25 60 34 0 = x_39 := ((congrArg _ (by decide)).symm.trans ex_39.symm)
                have bx_39 : 0 ≤ x_39.toInt ∧ x_39.toInt ≤ 120 := mI_ry (k := 34) (i := 0) iM_25 yx_39.symm (by decide)
                have zx_39 : (tY M_25 60 34 0).toInt = x_39.toInt := by rw [yx_39]
                refine ti_callVv (ci := 10) (av := [.int 1, .int r_35, .int 3, .int x_39]) C hw (f_X10_leaves_1 l D A cy hJ M_25 iM_25 q_27 r_35 3 x_39 (by first | omega | decide | (have l0 : (0 : Int32).toInt = 0 := (by decide); have l2 : (2 : Int32).toInt = 2 := (by decide); have l3 : (3 : Int32).toInt = 3 := (by decide); omega)) (by first | omega | decide | (have l0 : (0 : Int32).toInt = 0 := (by decide); have l2 : (2 : Int32).toInt = 2 := (by decide); have l3 : (3 : Int32).toInt = 3 := (by decide); omega)) (by first | omega | decide | (have l0 : (0 : Int32).toInt = 0 := (by decide); have l2 : (2 : Int32).toInt = 2 := (by decide); have l3 : (3 : Int32).toInt = 3 := (by decide); omega))) ⟨ml_X10_377, ym_X10_leaves, yv_X10_leaves, yi_X10_leaves, yc_X10_leaves⟩ yd_X10_leaves ob_60 (by decide) rfl rfl hl.1 (Nat.le_of_ble_eq_true rfl) ⟨by decide, by decide⟩ ⟨Nat.zero_le _, Nat.zero_le _⟩ dX10_tried_97 (fun M_41 H locs hp_41 hw => ?_)
                obtain ⟨frM_41, hqM_41⟩ := hp_41
                obtain ⟨iM_41, q_42, q_43, q_44, p0r_40⟩ := hqM_41
                exact hj_100_48 M_41 _ _ _ iM_41 (rw1.trans (rw1_rq q_42) (rw1.trans (rw1_rq q_26) (rw1_qw (qw_I hM_1 (by decide))))) (fT.trans frM_41.1 (fT.trans frM_25.1 (fT_I hM_1 (by decide)))) q_43 hw (lv_sub hl [0, 1, 2, 3, 4] rfl)
        · exact hj_61_23 1 _ _ _ (by have lt0 : (1 : Int32).toInt = 1 := (by decide); first | omega | decide) (by have lt0 : (1 : Int32).toInt = 1 := (by decide); first | omega | decide) hw (lv_sub hl [0, 1, 2, 3, 4] rfl)
  refine sb_icmp_ne (tgt := 18) hx hb rfl (by decide : (2 : Int32).toInt = 2) dX10_tried_7 (by decide) (fun c_7_1 => ?_) (fun c_7_1 => ?_)
  · refine lv_iload_n hx hb dX10_tried_18 rfl (lv_at hl 1 rfl) ?_
    have hj_35_9 : ∀  (H : Heap) (locs : List Loc) (ls : Array Slot), ti_H ti_LM D A cy H0 M_1 H locs → lv_has ls 6 [(0, .ref (A 60 0)), (1, .int z1), (2, .int z2), (3, .int z3)] → W p l e (ti_rm 8) s m args below meth c H locs 0 0 Q (F0 m 35 ls []) := by
      intro  H locs ls  hw hl
      refine lv_iconst (v := 0) hx hb dX10_tried_35 (by decide) ?_
      refine lv_istore (lv' := [(4, .int 0), (0, .ref (A 60 0)), (1, .int z1), (2, .int z2), (3, .int z3)]) hx hb dX10_tried_36 hl (by decide) rfl (fun ls hl => ?_)
      refine lv_iload hx hb dX10_tried_38 (lv_at hl 0 rfl) ?_
      refine sb_if_eq (tgt := 61) hx hb (by decide : (0 : Int32).toInt = 0) dX10_tried_40 (by decide) (fun c_40_12 => ?_) (fun h => absurd h (by decide))
      exact hj_61_23 0 _ _ _ (by have lt0 : (0 : Int32).toInt = 0 := (by decide); first | omega | decide) (by have lt0 : (0 : Int32).toInt = 0 := (by decide); first | omega | decide) hw (lv_sub hl [0, 1, 2, 3, 4] rfl)
    refine sb_if_lt (tgt := 35) hx hb rfl dX10_tried_19 (by decide) (fun c_19_6 => ?_) (fun c_19_6 => ?_)
    · exact hj_35_9  _ _ _  hw (lv_sub hl [0, 1, 2, 3] rfl)
    · refine lv_iload_n hx hb dX10_tried_22 rfl (lv_at hl 1 rfl) ?_
      refine lv_iconst (v := 5) hx hb dX10_tried_23 (by decide) ?_
      refine sb_icmp_gt (tgt := 35) hx hb rfl (by decide : (5 : Int32).toInt = 5) dX10_tried_24 (by decide) (fun c_24_7 => ?_) (fun c_24_7 => ?_)
      · exact hj_35_9  _ _ _  hw (lv_sub hl [0, 1, 2, 3] rfl)
      · refine lv_iload_n hx hb dX10_tried_27 rfl (lv_at hl 2 rfl) ?_
        refine sb_if_ne (tgt := 35) hx hb rfl dX10_tried_28 (by decide) (fun c_28_8 => ?_) (fun c_28_8 => ?_)
        · exact hj_35_9  _ _ _  hw (lv_sub hl [0, 1, 2, 3] rfl)
        · refine lv_iconst (v := 1) hx hb dX10_tried_31 (by decide) ?_
          refine lv_goto (tgt := 36) hx hb dX10_tried_32 (by decide) ?_
          refine lv_istore (lv' := [(4, .int 1), (0, .ref (A 60 0)), (1, .int z1), (2, .int z2), (3, .int z3)]) hx hb dX10_tried_36 hl (by decide) rfl (fun ls hl => ?_)
          refine lv_iload hx hb dX10_tried_38 (lv_at hl 0 rfl) ?_
          refine sb_if_eq (tgt := 61) hx hb (by decide : (1 : Int32).toInt = 1) dX10_tried_40 (by decide) (fun h => absurd h (by decide)) (fun c_40_11 => ?_)
          exact hj_43_14  _ _ _ (by first | omega | decide) hw (lv_sub hl [0, 1, 2, 3, 4] rfl)
  · refine lv_aload_n hx hb dX10_tried_10 rfl (lv_at hl 0 rfl) ?_
    refine lv_iload_n hx hb dX10_tried_11 rfl (lv_at hl 2 rfl) ?_
    refine ti_callVi (ci := 10) (av := [.int z2]) C hw (s_X10_isMan l D A cy hJ M_1 iM_1 z2) ⟨ml_X10_356, ym_X10_isMan, yv_X10_isMan, yi_X10_isMan, yc_X10_isMan⟩ yd_X10_isMan ob_60 (by decide) rfl rfl hl.1 (Nat.le_of_ble_eq_true rfl) ⟨by decide, by decide⟩ ⟨Nat.zero_le _, Nat.zero_le _⟩ dX10_tried_12 (fun r_3 M_4 H locs hp_4 hw => ?_)
    obtain ⟨hm, hz⟩ := hp_4
    have hw := hw.to hm
    have lk_6 : (tY M_1 60 3 0).toInt = (tY M 60 3 0).toInt := by rw [(cg (tY_uIE hM_1) 0)]
    rcases hz with ⟨rfl, d0_5, d1_5, d2_5⟩ | rfl
    · refine lv_goto (tgt := 36) hx hb dX10_tried_15 (by decide) ?_
      refine lv_istore (lv' := [(4, .int 1), (0, .ref (A 60 0)), (1, .int z1), (2, .int z2), (3, .int z3)]) hx hb dX10_tried_36 hl (by decide) rfl (fun ls hl => ?_)
      refine lv_iload hx hb dX10_tried_38 (lv_at hl 0 rfl) ?_
      refine sb_if_eq (tgt := 61) hx hb (by decide : (1 : Int32).toInt = 1) dX10_tried_40 (by decide) (fun h => absurd h (by decide)) (fun c_40_9 => ?_)
      exact hj_43_14  _ _ _ (by first | omega | decide) hw (lv_sub hl [0, 1, 2, 3, 4] rfl)
    · refine lv_goto (tgt := 36) hx hb dX10_tried_15 (by decide) ?_
      refine lv_istore (lv' := [(4, .int 0), (0, .ref (A 60 0)), (1, .int z1), (2, .int z2), (3, .int z3)]) hx hb dX10_tried_36 hl (by decide) rfl (fun ls hl => ?_)
      refine lv_iload hx hb dX10_tried_38 (lv_at hl 0 rfl) ?_
      refine sb_if_eq (tgt := 61) hx hb (by decide : (0 : Int32).toInt = 0) dX10_tried_40 (by decide) (fun c_40_10 => ?_) (fun h => absurd h (by decide))
      exact hj_61_23 0 _ _ _ (by have lt0 : (0 : Int32).toInt = 0 := (by decide); first | omega | decide) (by have lt0 : (0 : Int32).toInt = 0 := (by decide); first | omega | decide) hw (lv_sub hl [0, 1, 2, 3, 4] rfl)

variable {Tc : gC} {Tm : gM}
variable {Tc : gC} {Tm : gM}
/-- the queue t is as the queue a was -/
def cxh (t a : Nat) (N M : ti_M) : Prop := tY N 60 34 t = tY M 60 34 a ∧ tY N 60 35 t = tY M 60 35 a ∧ tY N 60 36 t = tY M 60 36 a ∧ tY N 60 37 t = tY M 60 37 a ∧ tY N 60 38 t = tY M 60 38 a
def cxm (t a n : Nat) (N M : ti_M) : Prop := ∀ k : Nat, 39 ≤ k → k ≤ 48 → ∀ i : Nat, i < n → tY N 60 k (8 * t + i) = tY M 60 k (8 * a + i)
def cxp (t a n : Nat) (N M : ti_M) : Prop := ∀ i : Nat, i < n → i < 3 → tY N 60 49 (3 * t + i) = tY M 60 49 (3 * a + i)
def cx (t a : Nat) (N M : ti_M) : Prop := cxh t a N M ∧ cxm t a 8 N M ∧ cxp t a 3 N M
theorem cxm_0 {t a : Nat} {N M : ti_M} : cxm t a 0 N M := fun _ _ _ i h => absurd h (Nat.not_lt_zero i)
theorem cxp_0 {t a : Nat} {N M : ti_M} : cxp t a 0 N M := fun i h => absurd h (Nat.not_lt_zero i)
theorem cxh_k {t a : Nat} {G N M : ti_M} (h : cxh t a G M) (e : ∀ k : Nat, 34 ≤ k → k ≤ 38 → tY N 60 k = tY G 60 k) : cxh t a N M := by
  unfold cxh; rw [e 34 (by decide) (by decide), e 35 (by decide) (by decide), e 36 (by decide) (by decide), e 37 (by decide) (by decide), e 38 (by decide) (by decide)]; exact h
theorem cxm_k {t a n : Nat} {G N M : ti_M} (h : cxm t a n G M) (e : ∀ k : Nat, 39 ≤ k → k ≤ 48 → tY N 60 k = tY G 60 k) : cxm t a n N M := fun k h1 h2 i hi => by rw [e k h1 h2]; exact h k h1 h2 i hi
theorem cx_h1 {t a i j k : Nat} {N M P : ti_M} {v : Int32} (e : tY N 60 k = upd (tY M 60 k) i v) (y : tY P 60 k j = v) (p : tY P 60 k = tY M 60 k) (hi : i = t) (hj : j = a) : tY N 60 k t = tY M 60 k a := by
  subst hi hj; rw [e, pk_us, ← y, p]
theorem cx_row {G N M P : ti_M} {k t a n i j : Nat} {v : Int32} (hk : 39 ≤ k ∧ k ≤ 48) (h : cxm t a n G M) (er : eR t G M) (hne : t ≠ a) (hn : n < 8) (hi : i = 8 * t + n) (hj : j = 8 * a + n) (e : tY N 60 k = upd (tY G 60 k) i v) (y : tY P 60 k j = v) (p : tY P 60 k = tY G 60 k) : ∀ i2 : Nat, i2 < n + 1 → tY N 60 k (8 * t + i2) = tY M 60 k (8 * a + i2) := by
  subst hi hj
  intro i2 h2
  rw [e]
  by_cases c : i2 = n
  · subst c
    rw [pk_us, ← y, p]
    refine er.2 k _ (fun b => ?_)
    have b2 := b.2.2
    rw [if_neg (by omega), if_pos (by omega)] at b2
    omega
  · rw [pk_un (by omega)]; exact h k hk.1 hk.2 i2 (by omega)
theorem cxm_s {t a n : Nat} {N M : ti_M} (r39 : ∀ i2 : Nat, i2 < n + 1 → tY N 60 39 (8 * t + i2) = tY M 60 39 (8 * a + i2)) (r40 : ∀ i2 : Nat, i2 < n + 1 → tY N 60 40 (8 * t + i2) = tY M 60 40 (8 * a + i2)) (r41 : ∀ i2 : Nat, i2 < n + 1 → tY N 60 41 (8 * t + i2) = tY M 60 41 (8 * a + i2)) (r42 : ∀ i2 : Nat, i2 < n + 1 → tY N 60 42 (8 * t + i2) = tY M 60 42 (8 * a + i2)) (r43 : ∀ i2 : Nat, i2 < n + 1 → tY N 60 43 (8 * t + i2) = tY M 60 43 (8 * a + i2)) (r44 : ∀ i2 : Nat, i2 < n + 1 → tY N 60 44 (8 * t + i2) = tY M 60 44 (8 * a + i2)) (r45 : ∀ i2 : Nat, i2 < n + 1 → tY N 60 45 (8 * t + i2) = tY M 60 45 (8 * a + i2)) (r46 : ∀ i2 : Nat, i2 < n + 1 → tY N 60 46 (8 * t + i2) = tY M 60 46 (8 * a + i2)) (r47 : ∀ i2 : Nat, i2 < n + 1 → tY N 60 47 (8 * t + i2) = tY M 60 47 (8 * a + i2)) (r48 : ∀ i2 : Nat, i2 < n + 1 → tY N 60 48 (8 * t + i2) = tY M 60 48 (8 * a + i2)) : cxm t a (n + 1) N M := by
  intro k h1 h2
  rcases (show k = 39 ∨ k = 40 ∨ k = 41 ∨ k = 42 ∨ k = 43 ∨ k = 44 ∨ k = 45 ∨ k = 46 ∨ k = 47 ∨ k = 48 by omega) with rfl | rfl | rfl | rfl | rfl | rfl | rfl | rfl | rfl | rfl
  · exact r39
  · exact r40
  · exact r41
  · exact r42
  · exact r43
  · exact r44
  · exact r45
  · exact r46
  · exact r47
  · exact r48
theorem cxp_s {G N M P : ti_M} {t a n i j : Nat} {v : Int32} (h : cxp t a n G M) (er : eR t G M) (hne : t ≠ a) (hn : n < 3) (hi : i = 3 * t + n) (hj : j = 3 * a + n) (e : tY N 60 49 = upd (tY G 60 49) i v) (y : tY P 60 49 j = v) (p : tY P 60 49 = tY G 60 49) : cxp t a (n + 1) N M := by
  subst hi hj
  intro i2 h2 h3
  rw [e]
  by_cases c : i2 = n
  · subst c
    rw [pk_us, ← y, p]
    refine er.2 49 _ (fun b => ?_)
    have b2 := b.2.2
    rw [if_neg (by omega), if_neg (by omega)] at b2
    omega
  · rw [pk_un (by omega)]; exact h i2 (by omega) h3
theorem cx_qR {n t a : Nat} {s : Nat → Int} {N M : ti_M} (hn : n ≤ 8) (x : cx t a N M) (h : qR n a s M) : qR n t s N := by
  obtain ⟨⟨c34, c35, c36, c37, c38⟩, cm, cp⟩ := x
  obtain ⟨a1, b, c, d, f, g⟩ := h
  have q : ∀ k m : Nat, 39 ≤ k → k ≤ 48 → m < 8 → (tY N 60 k (8 * t + m)).toInt = (tY M 60 k (8 * a + m)).toInt := fun k m h1 h2 h3 => congrArg Int32.toInt (cm k h1 h2 m h3)
  refine ⟨⟨a1.1.trans (congrArg Int32.toInt c34.symm), a1.2.1.trans (congrArg Int32.toInt c38.symm), a1.2.2.1.trans (congrArg Int32.toInt c35.symm), a1.2.2.2.trans (congrArg Int32.toInt c36.symm)⟩, fun p h1 h2 => (b p h1 h2).trans (q 39 p (by decide) (by decide) h1).symm, fun k hk => (c k hk).trans (congrArg Int32.toInt (cp k hk hk).symm), fun m hm => ?_, fun m hm => ?_, ?_⟩
  · rw [q 40 m (by decide) (by decide) (by omega), q 41 m (by decide) (by decide) (by omega), q 42 m (by decide) (by decide) (by omega), q 43 m (by decide) (by decide) (by omega), q 44 m (by decide) (by decide) (by omega), q 47 m (by decide) (by decide) (by omega)]; exact d m hm
  · rw [q 45 m (by decide) (by decide) (by omega), q 46 m (by decide) (by decide) (by omega)]; exact f m hm
  · rw [c37]; exact g
theorem cx_qV {n t a : Nat} {s : Nat → Int} {N M : ti_M} (hn : n ≤ 8) (x : cx t a N M) (h : qV n a s M) : qV n t s N := fun m hm => (congrArg Int32.toInt (x.2.1 48 (by decide) (by decide) m (by omega))).trans (h m hm)
set_option maxHeartbeats 4000000 in
set_option maxRecDepth 100000 in
theorem z_X10_copies (l : Launch) (D : va_G) (A : Nat → Nat → Nat) (cy : Nat → ClassId) (hJ : ti_inj ti_LM A) (M : ti_M) (hI : mI Tm M) (to as : Int32) (h1 : 0 ≤ to.toInt) (h2 : to.toInt ≤ 22) (h3 : 0 ≤ as.toInt) (h4 : as.toInt ≤ 22) (h5 : as.toInt ≠ 1) (h6 : to.toInt ≠ as.toInt) : ti_Kv l yX10_copies cX10_copies 6 0 ti_LM D A cy M [.ref (A 60 0), .int to, .int as] (fun M2 => eR to.toInt.toNat M2 M ∧ cx to.toInt.toNat as.toInt.toNat M2 M ∧ mI Tm M2 ∧ lk M2 M ∧ cq to.toNatClampNeg as.toNatClampNeg M2 M) := by
  refine ti_eV yp_X10_copies hJ ti_LM_nd (Nat.le_of_ble_eq_true rfl) ?_
  intro p e s m args below meth c Q H0 C hQ hw ls hl
  have hx := C.1
  have hb := C.2.1
  have hl : lv_has ls 6 [(0, .ref (A 60 0)), (1, .int to), (2, .int as)] := hl
  refine lv_aload_n hx hb dX10_copies_0 rfl (lv_at hl 0 rfl) ?_
  refine ti_get (ci := 10) (k := 34) (N := 67) (T := TX10) (v := .ref (A 60 35)) C hw iw_10 rfl ob_60 (by decide) (by decide) fl_X10_69 rfl rfl dX10_copies_1 ?_
  refine lv_iload_n hx hb dX10_copies_4 rfl (lv_at hl 1 rfl) ?_
  refine lv_aload_n hx hb dX10_copies_5 rfl (lv_at hl 0 rfl) ?_
  refine ti_get (ci := 10) (k := 34) (N := 67) (T := TX10) (v := .ref (A 60 35)) C hw iw_10 rfl ob_60 (by decide) (by decide) fl_X10_69 rfl rfl dX10_copies_6 ?_
  refine lv_iload_n hx hb dX10_copies_9 rfl (lv_at hl 2 rfl) ?_
  refine ti_iald (ci := 10) (k := 34) (n := 23) C hw ob_60 (by decide) (fun _ _ => rfl) (vp_in_iff.mpr (by omega)) dX10_copies_10 ?_
  refine lv_topi (fun x_1 ex_1 => ?_)
  have yx_1 : tY M 60 34 as.toNatClampNeg = x_1 := (ex_1.symm)
  have bx_1 : 0 ≤ x_1.toInt ∧ x_1.toInt ≤ 120 := mI_ry (k := 34) (i := as.toNatClampNeg) hI yx_1.symm (by show as.toInt.toNat ≠ 1; omega)
  have zx_1 : (tY M 60 34 as.toNatClampNeg).toInt = x_1.toInt := by rw [yx_1]
  refine ti_iast (ci := 10) (k := 34) (n := 23) C hw ob_60 (by decide) (fun _ _ => rfl) (vp_in_iff.mpr (by omega)) dX10_copies_11 (fun H locs hw => ?_)
  obtain ⟨M_2, hM_2⟩ : ∃ z : ti_M, z = uY M 60 34 (upd (tY M 60 34) (to : Int32).toNatClampNeg x_1) := ⟨_, rfl⟩
  have hw := hw.to hM_2.symm
  have iM_2 : mI Tm M_2 := mI_up (i := to.toNatClampNeg) hI hM_2 (fun _ => (ib_mk (lo := 0) (hi := 120) (by omega) (by omega)))
  refine lv_aload_n hx hb dX10_copies_12 rfl (lv_at hl 0 rfl) ?_
  refine ti_get (ci := 10) (k := 35) (N := 67) (T := TX10) (v := .ref (A 60 36)) C hw iw_10 rfl ob_60 (by decide) (by decide) fl_X10_72 rfl rfl dX10_copies_13 ?_
  refine lv_iload_n hx hb dX10_copies_16 rfl (lv_at hl 1 rfl) ?_
  refine lv_aload_n hx hb dX10_copies_17 rfl (lv_at hl 0 rfl) ?_
  refine ti_get (ci := 10) (k := 35) (N := 67) (T := TX10) (v := .ref (A 60 36)) C hw iw_10 rfl ob_60 (by decide) (by decide) fl_X10_72 rfl rfl dX10_copies_18 ?_
  refine lv_iload_n hx hb dX10_copies_21 rfl (lv_at hl 2 rfl) ?_
  refine ti_iald (ci := 10) (k := 35) (n := 23) C hw ob_60 (by decide) (fun _ _ => rfl) (vp_in_iff.mpr (by omega)) dX10_copies_22 ?_
  refine lv_topi (fun x_3 ex_3 => ?_)
  have yx_3 : tY M_2 60 35 as.toNatClampNeg = x_3 := (ex_3.symm)
  have wx_3 : tY M 60 35 as.toNatClampNeg = x_3 := ((cg (tY_nE hM_2 (nk (by decide))) as.toNatClampNeg)).symm.trans yx_3
  refine ti_iast (ci := 10) (k := 35) (n := 23) C hw ob_60 (by decide) (fun _ _ => rfl) (vp_in_iff.mpr (by omega)) dX10_copies_23 (fun H locs hw => ?_)
  obtain ⟨M_4, hM_4⟩ : ∃ z : ti_M, z = uY M_2 60 35 (upd (tY M_2 60 35) (to : Int32).toNatClampNeg x_3) := ⟨_, rfl⟩
  have hw := hw.to hM_4.symm
  have iM_4 : mI Tm M_4 := mI_up (i := to.toNatClampNeg) iM_2 hM_4 trivial
  refine lv_aload_n hx hb dX10_copies_24 rfl (lv_at hl 0 rfl) ?_
  refine ti_get (ci := 10) (k := 36) (N := 67) (T := TX10) (v := .ref (A 60 37)) C hw iw_10 rfl ob_60 (by decide) (by decide) fl_X10_75 rfl rfl dX10_copies_25 ?_
  refine lv_iload_n hx hb dX10_copies_28 rfl (lv_at hl 1 rfl) ?_
  refine lv_aload_n hx hb dX10_copies_29 rfl (lv_at hl 0 rfl) ?_
  refine ti_get (ci := 10) (k := 36) (N := 67) (T := TX10) (v := .ref (A 60 37)) C hw iw_10 rfl ob_60 (by decide) (by decide) fl_X10_75 rfl rfl dX10_copies_30 ?_
  refine lv_iload_n hx hb dX10_copies_33 rfl (lv_at hl 2 rfl) ?_
  refine ti_iald (ci := 10) (k := 36) (n := 23) C hw ob_60 (by decide) (fun _ _ => rfl) (vp_in_iff.mpr (by omega)) dX10_copies_34 ?_
  refine lv_topi (fun x_5 ex_5 => ?_)
  have yx_5 : tY M_4 60 36 as.toNatClampNeg = x_5 := (ex_5.symm)
  have wx_5 : tY M 60 36 as.toNatClampNeg = x_5 := (((cg (tY_nE hM_4 (nk (by decide))) as.toNatClampNeg).trans (cg (tY_nE hM_2 (nk (by decide))) as.toNatClampNeg))).symm.trans yx_5
  refine ti_iast (ci := 10) (k := 36) (n := 23) C hw ob_60 (by decide) (fun _ _ => rfl) (vp_in_iff.mpr (by omega)) dX10_copies_35 (fun H locs hw => ?_)
  obtain ⟨M_6, hM_6⟩ : ∃ z : ti_M, z = uY M_4 60 36 (upd (tY M_4 60 36) (to : Int32).toNatClampNeg x_5) := ⟨_, rfl⟩
  have hw := hw.to hM_6.symm
  have iM_6 : mI Tm M_6 := mI_up (i := to.toNatClampNeg) iM_4 hM_6 trivial
  refine lv_aload_n hx hb dX10_copies_36 rfl (lv_at hl 0 rfl) ?_
  refine ti_get (ci := 10) (k := 37) (N := 67) (T := TX10) (v := .ref (A 60 38)) C hw iw_10 rfl ob_60 (by decide) (by decide) fl_X10_78 rfl rfl dX10_copies_37 ?_
  refine lv_iload_n hx hb dX10_copies_40 rfl (lv_at hl 1 rfl) ?_
  refine lv_aload_n hx hb dX10_copies_41 rfl (lv_at hl 0 rfl) ?_
  refine ti_get (ci := 10) (k := 37) (N := 67) (T := TX10) (v := .ref (A 60 38)) C hw iw_10 rfl ob_60 (by decide) (by decide) fl_X10_78 rfl rfl dX10_copies_42 ?_
  refine lv_iload_n hx hb dX10_copies_45 rfl (lv_at hl 2 rfl) ?_
  refine ti_iald (ci := 10) (k := 37) (n := 23) C hw ob_60 (by decide) (fun _ _ => rfl) (vp_in_iff.mpr (by omega)) dX10_copies_46 ?_
  refine lv_topi (fun x_7 ex_7 => ?_)
  have yx_7 : tY M_6 60 37 as.toNatClampNeg = x_7 := (ex_7.symm)
  have wx_7 : tY M 60 37 as.toNatClampNeg = x_7 := (((cg (tY_nE hM_6 (nk (by decide))) as.toNatClampNeg).trans ((cg (tY_nE hM_4 (nk (by decide))) as.toNatClampNeg).trans (cg (tY_nE hM_2 (nk (by decide))) as.toNatClampNeg)))).symm.trans yx_7
  refine ti_iast (ci := 10) (k := 37) (n := 23) C hw ob_60 (by decide) (fun _ _ => rfl) (vp_in_iff.mpr (by omega)) dX10_copies_47 (fun H locs hw => ?_)
  obtain ⟨M_8, hM_8⟩ : ∃ z : ti_M, z = uY M_6 60 37 (upd (tY M_6 60 37) (to : Int32).toNatClampNeg x_7) := ⟨_, rfl⟩
  have hw := hw.to hM_8.symm
  have iM_8 : mI Tm M_8 := mI_up (i := to.toNatClampNeg) iM_6 hM_8 trivial
  refine lv_aload_n hx hb dX10_copies_48 rfl (lv_at hl 0 rfl) ?_
  refine ti_get (ci := 10) (k := 38) (N := 67) (T := TX10) (v := .ref (A 60 39)) C hw iw_10 rfl ob_60 (by decide) (by decide) fl_X10_81 rfl rfl dX10_copies_49 ?_
  refine lv_iload_n hx hb dX10_copies_52 rfl (lv_at hl 1 rfl) ?_
  refine lv_aload_n hx hb dX10_copies_53 rfl (lv_at hl 0 rfl) ?_
  refine ti_get (ci := 10) (k := 38) (N := 67) (T := TX10) (v := .ref (A 60 39)) C hw iw_10 rfl ob_60 (by decide) (by decide) fl_X10_81 rfl rfl dX10_copies_54 ?_
  refine lv_iload_n hx hb dX10_copies_57 rfl (lv_at hl 2 rfl) ?_
  refine ti_iald (ci := 10) (k := 38) (n := 23) C hw ob_60 (by decide) (fun _ _ => rfl) (vp_in_iff.mpr (by omega)) dX10_copies_58 ?_
  refine lv_topi (fun x_9 ex_9 => ?_)
  have yx_9 : tY M_8 60 38 as.toNatClampNeg = x_9 := (ex_9.symm)
  have bx_9 : 0 ≤ x_9.toInt ∧ x_9.toInt ≤ 8 := mI_ry (k := 38) (i := as.toNatClampNeg) iM_8 yx_9.symm
  have zx_9 : (tY M_8 60 38 as.toNatClampNeg).toInt = x_9.toInt := by rw [yx_9]
  have wx_9 : tY M 60 38 as.toNatClampNeg = x_9 := (((cg (tY_nE hM_8 (nk (by decide))) as.toNatClampNeg).trans ((cg (tY_nE hM_6 (nk (by decide))) as.toNatClampNeg).trans ((cg (tY_nE hM_4 (nk (by decide))) as.toNatClampNeg).trans (cg (tY_nE hM_2 (nk (by decide))) as.toNatClampNeg))))).symm.trans yx_9
  have zwx_9 : (tY M 60 38 as.toNatClampNeg).toInt = x_9.toInt := by rw [wx_9]
  refine ti_iast (ci := 10) (k := 38) (n := 23) C hw ob_60 (by decide) (fun _ _ => rfl) (vp_in_iff.mpr (by omega)) dX10_copies_59 (fun H locs hw => ?_)
  obtain ⟨M_10, hM_10⟩ : ∃ z : ti_M, z = uY M_8 60 38 (upd (tY M_8 60 38) (to : Int32).toNatClampNeg x_9) := ⟨_, rfl⟩
  have hw := hw.to hM_10.symm
  have iM_10 : mI Tm M_10 := mI_up (i := to.toNatClampNeg) iM_8 hM_10 (ib_mk (lo := 0) (hi := 8) (by omega) (by omega))
  refine lv_iconst (v := 0) hx hb dX10_copies_60 (by decide) ?_
  refine lv_istore_n (lv' := [(3, .int 0), (0, .ref (A 60 0)), (1, .int to), (2, .int as)]) hx hb dX10_copies_61 rfl hl (by decide) rfl (fun ls hl => ?_)
  have hl_62_19 : ∀ (n_20 : Nat) (x_11 : Int32) (M_14 : ti_M) (H : Heap) (locs : List Loc) (ls : Array Slot), (8 - x_11.toInt : Int).toNat < n_20 → (0 ≤ x_11.toInt) → (x_11.toInt ≤ 8) → (mI Tm M_14) → (lk M_14 M) → (eR to.toInt.toNat M_14 M) → (cpq M M_14 to.toNatClampNeg as.toNatClampNeg x_11.toInt) → (cxh to.toInt.toNat as.toInt.toNat M_14 M) → (cxm to.toInt.toNat as.toInt.toNat (x_11.toInt).toNat M_14 M) → ti_H ti_LM D A cy H0 M_14 H locs → lv_has ls 6 [(3, .int x_11), (0, .ref (A 60 0)), (1, .int to), (2, .int as)] → W p l e (ti_rm 0) s m args below meth c H locs 0 0 Q (F0 m 62 ls []) := by
    intro n_20
    induction n_20 with
    | zero => intro x_11 M_14 H locs ls hf_20; exact absurd hf_20 (Nat.not_lt_zero _)
    | succ n_20 ih_20 =>
      intro x_11 M_14 H locs ls hf_20 b_12 b_13 iM_14 f_15 f_16 j_17 j_18 j_19 hw hl
      refine lv_iload_n hx hb dX10_copies_62 rfl (lv_at hl 0 rfl) ?_
      refine lv_bipush (v := 8) hx hb dX10_copies_63 (by decide) ?_
      refine sb_icmp_ge (tgt := 230) hx hb rfl (by decide : (8 : Int32).toInt = 8) dX10_copies_65 (by decide) (fun c_65_20 => ?_) (fun c_65_20 => ?_)
      · refine lv_iconst (v := 0) hx hb dX10_copies_230 (by decide) ?_
        refine lv_istore_n (lv' := [(3, .int 0), (0, .ref (A 60 0)), (1, .int to), (2, .int as)]) hx hb dX10_copies_231 rfl hl (by decide) rfl (fun ls hl => ?_)
        have hl_232_56 : ∀ (n_57 : Nat) (x_47 : Int32) (M_50 : ti_M) (H : Heap) (locs : List Loc) (ls : Array Slot), (3 - x_47.toInt : Int).toNat < n_57 → (0 ≤ x_47.toInt) → (x_47.toInt ≤ 3) → (mI Tm M_50) → (lk M_50 M) → (eR to.toInt.toNat M_50 M) → (cpq M M_50 to.toNatClampNeg as.toNatClampNeg 8) → (cxh to.toInt.toNat as.toInt.toNat M_50 M) → (cxm to.toInt.toNat as.toInt.toNat 8 M_50 M) → (cxp to.toInt.toNat as.toInt.toNat (x_47.toInt).toNat M_50 M) → ti_H ti_LM D A cy H0 M_50 H locs → lv_has ls 6 [(3, .int x_47), (0, .ref (A 60 0)), (1, .int to), (2, .int as)] → W p l e (ti_rm 0) s m args below meth c H locs 0 0 Q (F0 m 232 ls []) := by
          intro n_57
          induction n_57 with
          | zero => intro x_47 M_50 H locs ls hf_57; exact absurd hf_57 (Nat.not_lt_zero _)
          | succ n_57 ih_57 =>
            intro x_47 M_50 H locs ls hf_57 b_48 b_49 iM_50 f_51 f_52 j_53 j_54 j_55 j_56 hw hl
            refine lv_iload_n hx hb dX10_copies_232 rfl (lv_at hl 0 rfl) ?_
            refine lv_iconst (v := 3) hx hb dX10_copies_233 (by decide) ?_
            refine sb_icmp_ge (tgt := 263) hx hb rfl (by decide : (3 : Int32).toInt = 3) dX10_copies_234 (by decide) (fun c_234_57 => ?_) (fun c_234_57 => ?_)
            · exact hQ _ _ _ _ _ hw (⟨f_52, ⟨j_54, j_55, (by have h := j_56; rwa [show x_47.toInt.toNat = 3 by omega] at h)⟩, iM_50, f_51, q_copy hI j_53 f_51⟩) dX10_copies_263
            · refine lv_aload_n hx hb dX10_copies_237 rfl (lv_at hl 1 rfl) ?_
              refine ti_get (ci := 10) (k := 49) (N := 67) (T := TX10) (v := .ref (A 60 50)) C hw iw_10 rfl ob_60 (by decide) (by decide) fl_X10_114 rfl rfl dX10_copies_238 ?_
              refine lv_iconst (v := 3) hx hb dX10_copies_241 (by decide) ?_
              refine lv_iload_n hx hb dX10_copies_242 rfl (lv_at hl 2 rfl) ?_
              refine lv_imul hx hb dX10_copies_243 ?_
              refine lv_topi (fun x_59 ex_59 => ?_)
              have tx_59 : x_59.toInt = 3 * to.toInt := i_mul ex_59 (by decide : (3 : Int32).toInt = 3) rfl (by omega) (by omega)
              refine lv_iload_n hx hb dX10_copies_244 rfl (lv_at hl 0 rfl) ?_
              refine lv_iadd hx hb dX10_copies_245 ?_
              refine lv_topi (fun x_60 ex_60 => ?_)
              have tx_60 : x_60.toInt = x_59.toInt + x_47.toInt := i_add ex_60 rfl rfl (by omega) (by omega)
              refine lv_aload_n hx hb dX10_copies_246 rfl (lv_at hl 1 rfl) ?_
              refine ti_get (ci := 10) (k := 49) (N := 67) (T := TX10) (v := .ref (A 60 50)) C hw iw_10 rfl ob_60 (by decide) (by decide) fl_X10_114 rfl rfl dX10_copies_247 ?_
              refine lv_iconst (v := 3) hx hb dX10_copies_250 (by decide) ?_
              refine lv_iload_n hx hb dX10_copies_251 rfl (lv_at hl 3 rfl) ?_
              refine lv_imul hx hb dX10_copies_252 ?_
              refine lv_topi (fun x_61 ex_61 => ?_)
              have tx_61 : x_61.toInt = 3 * as.toInt := i_mul ex_61 (by decide : (3 : Int32).toInt = 3) rfl (by omega) (by omega)
              refine lv_iload_n hx hb dX10_copies_253 rfl (lv_at hl 0 rfl) ?_
              refine lv_iadd hx hb dX10_copies_254 ?_
              refine lv_topi (fun x_62 ex_62 => ?_)
              have tx_62 : x_62.toInt = x_61.toInt + x_47.toInt := i_add ex_62 rfl rfl (by omega) (by omega)
              refine ti_iald (ci := 10) (k := 49) (n := 69) C hw ob_60 (by decide) (fun _ _ => rfl) (vp_in_iff.mpr (by omega)) dX10_copies_255 ?_
              refine lv_topi (fun x_63 ex_63 => ?_)
              have yx_63 : tY M_50 60 49 x_62.toNatClampNeg = x_63 := (ex_63.symm)
              have bx_63 : 0 ≤ x_63.toInt ∧ x_63.toInt ≤ 7 := mI_ry (k := 49) (i := x_62.toNatClampNeg) iM_50 yx_63.symm
              refine ti_iast (ci := 10) (k := 49) (n := 69) C hw ob_60 (by decide) (fun _ _ => rfl) (vp_in_iff.mpr (by omega)) dX10_copies_256 (fun H locs hw => ?_)
              obtain ⟨M_64, hM_64⟩ : ∃ z : ti_M, z = uY M_50 60 49 (upd (tY M_50 60 49) (x_60 : Int32).toNatClampNeg x_63) := ⟨_, rfl⟩
              have hw := hw.to hM_64.symm
              have iM_64 : mI Tm M_64 := mI_up (i := x_60.toNatClampNeg) iM_50 hM_64 (ib_mk (lo := 0) (hi := 7) (by omega) (by omega))
              obtain ⟨x_65, ex_65⟩ : ∃ z : Int32, z = x_47 + 1 := ⟨_, rfl⟩
              have tx_65 : x_65.toInt = x_47.toInt + 1 := i_add ex_65 rfl (by decide) (by omega) (by omega)
              refine lv_iinc (v := x_65) (lv' := [(3, .int x_65), (0, .ref (A 60 0)), (1, .int to), (2, .int as)]) hx hb dX10_copies_257 hl (k := 0) rfl (by rw [ex_65]; rfl) (by decide) rfl (fun ls hl => ?_)
              refine lv_goto (tgt := 232) hx hb dX10_copies_260 (by decide) ?_
              exact ih_57 x_65 M_64 _ _ _ (by omega) (by first | omega | decide) (by first | omega | decide) iM_64 (lk.trans (lk_Y hM_64 (by decide)) f_51) (eR.trans (eR_Y hM_64 (bk_p (z := x_60) (by omega))) f_52) (cpq_qw j_53 (qw_Y hM_64 (by decide))) (cxh_k j_54 (fun k h1 h2 => (tY_nE hM_64 (nk (by omega))))) (cxm_k j_55 (fun k h1 h2 => (tY_nE hM_64 (nk (by omega))))) (by rw [show x_65.toInt.toNat = x_47.toInt.toNat + 1 by omega]; exact cxp_s j_56 f_52 (by omega) (by omega) (i_cl (by omega)) (i_cl (by omega)) (tY_uE hM_64) yx_63 rfl) hw (lv_sub hl [0, 1, 2, 3] rfl)
        exact hl_232_56 ((3 - 0 : Int).toNat + 1) 0 M_14 _ _ _ (Nat.lt_succ_self _) (by have lt0 : (0 : Int32).toInt = 0 := (by decide); first | omega | decide) (by have lt0 : (0 : Int32).toInt = 0 := (by decide); first | omega | decide) iM_14 f_15 f_16 (by have h := j_17; rwa [show x_11.toInt = 8 by omega] at h) j_18 (by have h := j_19; rwa [show x_11.toInt.toNat = 8 by omega] at h) cxp_0 hw (lv_sub hl [0, 1, 2, 3] rfl)
      · refine lv_bipush (v := 8) hx hb dX10_copies_68 (by decide) ?_
        refine lv_iload_n hx hb dX10_copies_70 rfl (lv_at hl 2 rfl) ?_
        refine lv_imul hx hb dX10_copies_71 ?_
        refine lv_topi (fun x_22 ex_22 => ?_)
        have tx_22 : x_22.toInt = 8 * to.toInt := i_mul ex_22 (by decide : (8 : Int32).toInt = 8) rfl (by omega) (by omega)
        refine lv_iload_n hx hb dX10_copies_72 rfl (lv_at hl 0 rfl) ?_
        refine lv_iadd hx hb dX10_copies_73 ?_
        refine lv_topi (fun x_23 ex_23 => ?_)
        have tx_23 : x_23.toInt = x_22.toInt + x_11.toInt := i_add ex_23 rfl rfl (by omega) (by omega)
        refine lv_istore (lv' := [(4, .int x_23), (3, .int x_11), (0, .ref (A 60 0)), (1, .int to), (2, .int as)]) hx hb dX10_copies_74 hl (by decide) rfl (fun ls hl => ?_)
        refine lv_bipush (v := 8) hx hb dX10_copies_76 (by decide) ?_
        refine lv_iload_n hx hb dX10_copies_78 rfl (lv_at hl 4 rfl) ?_
        refine lv_imul hx hb dX10_copies_79 ?_
        refine lv_topi (fun x_24 ex_24 => ?_)
        have tx_24 : x_24.toInt = 8 * as.toInt := i_mul ex_24 (by decide : (8 : Int32).toInt = 8) rfl (by omega) (by omega)
        refine lv_iload_n hx hb dX10_copies_80 rfl (lv_at hl 1 rfl) ?_
        refine lv_iadd hx hb dX10_copies_81 ?_
        refine lv_topi (fun x_25 ex_25 => ?_)
        have tx_25 : x_25.toInt = x_24.toInt + x_11.toInt := i_add ex_25 rfl rfl (by omega) (by omega)
        refine lv_istore (lv' := [(5, .int x_25), (4, .int x_23), (3, .int x_11), (0, .ref (A 60 0)), (1, .int to), (2, .int as)]) hx hb dX10_copies_82 hl (by decide) rfl (fun ls hl => ?_)
        refine lv_aload_n hx hb dX10_copies_84 rfl (lv_at hl 3 rfl) ?_
        refine ti_get (ci := 10) (k := 39) (N := 67) (T := TX10) (v := .ref (A 60 40)) C hw iw_10 rfl ob_60 (by decide) (by decide) fl_X10_84 rfl rfl dX10_copies_85 ?_
        refine lv_iload hx hb dX10_copies_88 (lv_at hl 1 rfl) ?_
        refine lv_aload_n hx hb dX10_copies_90 rfl (lv_at hl 3 rfl) ?_
        refine ti_get (ci := 10) (k := 39) (N := 67) (T := TX10) (v := .ref (A 60 40)) C hw iw_10 rfl ob_60 (by decide) (by decide) fl_X10_84 rfl rfl dX10_copies_91 ?_
        refine lv_iload hx hb dX10_copies_94 (lv_at hl 0 rfl) ?_
        refine ti_iald (ci := 10) (k := 39) (n := 184) C hw ob_60 (by decide) (fun _ _ => rfl) (vp_in_iff.mpr (by omega)) dX10_copies_96 ?_
        refine lv_topi (fun x_26 ex_26 => ?_)
        have yx_26 : tY M_14 60 39 x_25.toNatClampNeg = x_26 := (ex_26.symm)
        have bx_26 : 0 ≤ x_26.toInt ∧ x_26.toInt ≤ 7 := mI_ry (k := 39) (i := x_25.toNatClampNeg) iM_14 yx_26.symm
        refine ti_iast (ci := 10) (k := 39) (n := 184) C hw ob_60 (by decide) (fun _ _ => rfl) (vp_in_iff.mpr (by omega)) dX10_copies_97 (fun H locs hw => ?_)
        obtain ⟨M_27, hM_27⟩ : ∃ z : ti_M, z = uY M_14 60 39 (upd (tY M_14 60 39) (x_23 : Int32).toNatClampNeg x_26) := ⟨_, rfl⟩
        have hw := hw.to hM_27.symm
        have iM_27 : mI Tm M_27 := mI_up (i := x_23.toNatClampNeg) iM_14 hM_27 (ib_mk (lo := 0) (hi := 7) (by omega) (by omega))
        refine lv_aload_n hx hb dX10_copies_98 rfl (lv_at hl 3 rfl) ?_
        refine ti_get (ci := 10) (k := 40) (N := 67) (T := TX10) (v := .ref (A 60 41)) C hw iw_10 rfl ob_60 (by decide) (by decide) fl_X10_87 rfl rfl dX10_copies_99 ?_
        refine lv_iload hx hb dX10_copies_102 (lv_at hl 1 rfl) ?_
        refine lv_aload_n hx hb dX10_copies_104 rfl (lv_at hl 3 rfl) ?_
        refine ti_get (ci := 10) (k := 40) (N := 67) (T := TX10) (v := .ref (A 60 41)) C hw iw_10 rfl ob_60 (by decide) (by decide) fl_X10_87 rfl rfl dX10_copies_105 ?_
        refine lv_iload hx hb dX10_copies_108 (lv_at hl 0 rfl) ?_
        refine ti_iald (ci := 10) (k := 40) (n := 184) C hw ob_60 (by decide) (fun _ _ => rfl) (vp_in_iff.mpr (by omega)) dX10_copies_110 ?_
        refine lv_topi (fun x_28 ex_28 => ?_)
        have yx_28 : tY M_27 60 40 x_25.toNatClampNeg = x_28 := (ex_28.symm)
        have zx_28 : (tY M_27 60 40 x_25.toNatClampNeg).toInt = x_28.toInt := by rw [yx_28]
        have wx_28 : tY M_14 60 40 x_25.toNatClampNeg = x_28 := ((cg (tY_nE hM_27 (nk (by decide))) x_25.toNatClampNeg)).symm.trans yx_28
        have zwx_28 : (tY M_14 60 40 x_25.toNatClampNeg).toInt = x_28.toInt := by rw [wx_28]
        refine ti_iast (ci := 10) (k := 40) (n := 184) C hw ob_60 (by decide) (fun _ _ => rfl) (vp_in_iff.mpr (by omega)) dX10_copies_111 (fun H locs hw => ?_)
        obtain ⟨M_29, hM_29⟩ : ∃ z : ti_M, z = uY M_27 60 40 (upd (tY M_27 60 40) (x_23 : Int32).toNatClampNeg x_28) := ⟨_, rfl⟩
        have hw := hw.to hM_29.symm
        have iM_29 : mI Tm M_29 := mI_up (i := x_23.toNatClampNeg) iM_27 hM_29 trivial
        refine lv_aload_n hx hb dX10_copies_112 rfl (lv_at hl 3 rfl) ?_
        refine ti_get (ci := 10) (k := 41) (N := 67) (T := TX10) (v := .ref (A 60 42)) C hw iw_10 rfl ob_60 (by decide) (by decide) fl_X10_90 rfl rfl dX10_copies_113 ?_
        refine lv_iload hx hb dX10_copies_116 (lv_at hl 1 rfl) ?_
        refine lv_aload_n hx hb dX10_copies_118 rfl (lv_at hl 3 rfl) ?_
        refine ti_get (ci := 10) (k := 41) (N := 67) (T := TX10) (v := .ref (A 60 42)) C hw iw_10 rfl ob_60 (by decide) (by decide) fl_X10_90 rfl rfl dX10_copies_119 ?_
        refine lv_iload hx hb dX10_copies_122 (lv_at hl 0 rfl) ?_
        refine ti_iald (ci := 10) (k := 41) (n := 184) C hw ob_60 (by decide) (fun _ _ => rfl) (vp_in_iff.mpr (by omega)) dX10_copies_124 ?_
        refine lv_topi (fun x_30 ex_30 => ?_)
        have yx_30 : tY M_29 60 41 x_25.toNatClampNeg = x_30 := (ex_30.symm)
        have wx_30 : tY M_14 60 41 x_25.toNatClampNeg = x_30 := (((cg (tY_nE hM_29 (nk (by decide))) x_25.toNatClampNeg).trans (cg (tY_nE hM_27 (nk (by decide))) x_25.toNatClampNeg))).symm.trans yx_30
        refine ti_iast (ci := 10) (k := 41) (n := 184) C hw ob_60 (by decide) (fun _ _ => rfl) (vp_in_iff.mpr (by omega)) dX10_copies_125 (fun H locs hw => ?_)
        obtain ⟨M_31, hM_31⟩ : ∃ z : ti_M, z = uY M_29 60 41 (upd (tY M_29 60 41) (x_23 : Int32).toNatClampNeg x_30) := ⟨_, rfl⟩
        have hw := hw.to hM_31.symm
        have iM_31 : mI Tm M_31 := mI_up (i := x_23.toNatClampNeg) iM_29 hM_31 trivial
        refine lv_aload_n hx hb dX10_copies_126 rfl (lv_at hl 3 rfl) ?_
        refine ti_get (ci := 10) (k := 42) (N := 67) (T := TX10) (v := .ref (A 60 43)) C hw iw_10 rfl ob_60 (by decide) (by decide) fl_X10_93 rfl rfl dX10_copies_127 ?_
        refine lv_iload hx hb dX10_copies_130 (lv_at hl 1 rfl) ?_
        refine lv_aload_n hx hb dX10_copies_132 rfl (lv_at hl 3 rfl) ?_
        refine ti_get (ci := 10) (k := 42) (N := 67) (T := TX10) (v := .ref (A 60 43)) C hw iw_10 rfl ob_60 (by decide) (by decide) fl_X10_93 rfl rfl dX10_copies_133 ?_
        refine lv_iload hx hb dX10_copies_136 (lv_at hl 0 rfl) ?_
        refine ti_iald (ci := 10) (k := 42) (n := 184) C hw ob_60 (by decide) (fun _ _ => rfl) (vp_in_iff.mpr (by omega)) dX10_copies_138 ?_
        refine lv_topi (fun x_32 ex_32 => ?_)
        have yx_32 : tY M_31 60 42 x_25.toNatClampNeg = x_32 := (ex_32.symm)
        have wx_32 : tY M_14 60 42 x_25.toNatClampNeg = x_32 := (((cg (tY_nE hM_31 (nk (by decide))) x_25.toNatClampNeg).trans ((cg (tY_nE hM_29 (nk (by decide))) x_25.toNatClampNeg).trans (cg (tY_nE hM_27 (nk (by decide))) x_25.toNatClampNeg)))).symm.trans yx_32
        refine ti_iast (ci := 10) (k := 42) (n := 184) C hw ob_60 (by decide) (fun _ _ => rfl) (vp_in_iff.mpr (by omega)) dX10_copies_139 (fun H locs hw => ?_)
        obtain ⟨M_33, hM_33⟩ : ∃ z : ti_M, z = uY M_31 60 42 (upd (tY M_31 60 42) (x_23 : Int32).toNatClampNeg x_32) := ⟨_, rfl⟩
        have hw := hw.to hM_33.symm
        have iM_33 : mI Tm M_33 := mI_up (i := x_23.toNatClampNeg) iM_31 hM_33 trivial
        refine lv_aload_n hx hb dX10_copies_140 rfl (lv_at hl 3 rfl) ?_
        refine ti_get (ci := 10) (k := 43) (N := 67) (T := TX10) (v := .ref (A 60 44)) C hw iw_10 rfl ob_60 (by decide) (by decide) fl_X10_96 rfl rfl dX10_copies_141 ?_
        refine lv_iload hx hb dX10_copies_144 (lv_at hl 1 rfl) ?_
        refine lv_aload_n hx hb dX10_copies_146 rfl (lv_at hl 3 rfl) ?_
        refine ti_get (ci := 10) (k := 43) (N := 67) (T := TX10) (v := .ref (A 60 44)) C hw iw_10 rfl ob_60 (by decide) (by decide) fl_X10_96 rfl rfl dX10_copies_147 ?_
        refine lv_iload hx hb dX10_copies_150 (lv_at hl 0 rfl) ?_
        refine ti_iald (ci := 10) (k := 43) (n := 184) C hw ob_60 (by decide) (fun _ _ => rfl) (vp_in_iff.mpr (by omega)) dX10_copies_152 ?_
        refine lv_topi (fun x_34 ex_34 => ?_)
        have yx_34 : tY M_33 60 43 x_25.toNatClampNeg = x_34 := (ex_34.symm)
        have wx_34 : tY M_14 60 43 x_25.toNatClampNeg = x_34 := (((cg (tY_nE hM_33 (nk (by decide))) x_25.toNatClampNeg).trans ((cg (tY_nE hM_31 (nk (by decide))) x_25.toNatClampNeg).trans ((cg (tY_nE hM_29 (nk (by decide))) x_25.toNatClampNeg).trans (cg (tY_nE hM_27 (nk (by decide))) x_25.toNatClampNeg))))).symm.trans yx_34
        refine ti_iast (ci := 10) (k := 43) (n := 184) C hw ob_60 (by decide) (fun _ _ => rfl) (vp_in_iff.mpr (by omega)) dX10_copies_153 (fun H locs hw => ?_)
        obtain ⟨M_35, hM_35⟩ : ∃ z : ti_M, z = uY M_33 60 43 (upd (tY M_33 60 43) (x_23 : Int32).toNatClampNeg x_34) := ⟨_, rfl⟩
        have hw := hw.to hM_35.symm
        have iM_35 : mI Tm M_35 := mI_up (i := x_23.toNatClampNeg) iM_33 hM_35 trivial
        refine lv_aload_n hx hb dX10_copies_154 rfl (lv_at hl 3 rfl) ?_
        refine ti_get (ci := 10) (k := 44) (N := 67) (T := TX10) (v := .ref (A 60 45)) C hw iw_10 rfl ob_60 (by decide) (by decide) fl_X10_99 rfl rfl dX10_copies_155 ?_
        refine lv_iload hx hb dX10_copies_158 (lv_at hl 1 rfl) ?_
        refine lv_aload_n hx hb dX10_copies_160 rfl (lv_at hl 3 rfl) ?_
        refine ti_get (ci := 10) (k := 44) (N := 67) (T := TX10) (v := .ref (A 60 45)) C hw iw_10 rfl ob_60 (by decide) (by decide) fl_X10_99 rfl rfl dX10_copies_161 ?_
        refine lv_iload hx hb dX10_copies_164 (lv_at hl 0 rfl) ?_
        refine ti_iald (ci := 10) (k := 44) (n := 184) C hw ob_60 (by decide) (fun _ _ => rfl) (vp_in_iff.mpr (by omega)) dX10_copies_166 ?_
        refine lv_topi (fun x_36 ex_36 => ?_)
        have yx_36 : tY M_35 60 44 x_25.toNatClampNeg = x_36 := (ex_36.symm)
        have wx_36 : tY M_14 60 44 x_25.toNatClampNeg = x_36 := (((cg (tY_nE hM_35 (nk (by decide))) x_25.toNatClampNeg).trans ((cg (tY_nE hM_33 (nk (by decide))) x_25.toNatClampNeg).trans ((cg (tY_nE hM_31 (nk (by decide))) x_25.toNatClampNeg).trans ((cg (tY_nE hM_29 (nk (by decide))) x_25.toNatClampNeg).trans (cg (tY_nE hM_27 (nk (by decide))) x_25.toNatClampNeg)))))).symm.trans yx_36
        refine ti_iast (ci := 10) (k := 44) (n := 184) C hw ob_60 (by decide) (fun _ _ => rfl) (vp_in_iff.mpr (by omega)) dX10_copies_167 (fun H locs hw => ?_)
        obtain ⟨M_37, hM_37⟩ : ∃ z : ti_M, z = uY M_35 60 44 (upd (tY M_35 60 44) (x_23 : Int32).toNatClampNeg x_36) := ⟨_, rfl⟩
        have hw := hw.to hM_37.symm
        have iM_37 : mI Tm M_37 := mI_up (i := x_23.toNatClampNeg) iM_35 hM_37 trivial
        refine lv_aload_n hx hb dX10_copies_168 rfl (lv_at hl 3 rfl) ?_
        refine ti_get (ci := 10) (k := 45) (N := 67) (T := TX10) (v := .ref (A 60 46)) C hw iw_10 rfl ob_60 (by decide) (by decide) fl_X10_102 rfl rfl dX10_copies_169 ?_
        refine lv_iload hx hb dX10_copies_172 (lv_at hl 1 rfl) ?_
        refine lv_aload_n hx hb dX10_copies_174 rfl (lv_at hl 3 rfl) ?_
        refine ti_get (ci := 10) (k := 45) (N := 67) (T := TX10) (v := .ref (A 60 46)) C hw iw_10 rfl ob_60 (by decide) (by decide) fl_X10_102 rfl rfl dX10_copies_175 ?_
        refine lv_iload hx hb dX10_copies_178 (lv_at hl 0 rfl) ?_
        refine ti_iald (ci := 10) (k := 45) (n := 184) C hw ob_60 (by decide) (fun _ _ => rfl) (vp_in_iff.mpr (by omega)) dX10_copies_180 ?_
        refine lv_topi (fun x_38 ex_38 => ?_)
        have yx_38 : tY M_37 60 45 x_25.toNatClampNeg = x_38 := (ex_38.symm)
        have wx_38 : tY M_14 60 45 x_25.toNatClampNeg = x_38 := (((cg (tY_nE hM_37 (nk (by decide))) x_25.toNatClampNeg).trans ((cg (tY_nE hM_35 (nk (by decide))) x_25.toNatClampNeg).trans ((cg (tY_nE hM_33 (nk (by decide))) x_25.toNatClampNeg).trans ((cg (tY_nE hM_31 (nk (by decide))) x_25.toNatClampNeg).trans ((cg (tY_nE hM_29 (nk (by decide))) x_25.toNatClampNeg).trans (cg (tY_nE hM_27 (nk (by decide))) x_25.toNatClampNeg))))))).symm.trans yx_38
        refine ti_iast (ci := 10) (k := 45) (n := 184) C hw ob_60 (by decide) (fun _ _ => rfl) (vp_in_iff.mpr (by omega)) dX10_copies_181 (fun H locs hw => ?_)
        obtain ⟨M_39, hM_39⟩ : ∃ z : ti_M, z = uY M_37 60 45 (upd (tY M_37 60 45) (x_23 : Int32).toNatClampNeg x_38) := ⟨_, rfl⟩
        have hw := hw.to hM_39.symm
        have iM_39 : mI Tm M_39 := mI_up (i := x_23.toNatClampNeg) iM_37 hM_39 trivial
        refine lv_aload_n hx hb dX10_copies_182 rfl (lv_at hl 3 rfl) ?_
        refine ti_get (ci := 10) (k := 46) (N := 67) (T := TX10) (v := .ref (A 60 47)) C hw iw_10 rfl ob_60 (by decide) (by decide) fl_X10_105 rfl rfl dX10_copies_183 ?_
        refine lv_iload hx hb dX10_copies_186 (lv_at hl 1 rfl) ?_
        refine lv_aload_n hx hb dX10_copies_188 rfl (lv_at hl 3 rfl) ?_
        refine ti_get (ci := 10) (k := 46) (N := 67) (T := TX10) (v := .ref (A 60 47)) C hw iw_10 rfl ob_60 (by decide) (by decide) fl_X10_105 rfl rfl dX10_copies_189 ?_
        refine lv_iload hx hb dX10_copies_192 (lv_at hl 0 rfl) ?_
        refine ti_iald (ci := 10) (k := 46) (n := 184) C hw ob_60 (by decide) (fun _ _ => rfl) (vp_in_iff.mpr (by omega)) dX10_copies_194 ?_
        refine lv_topi (fun x_40 ex_40 => ?_)
        have yx_40 : tY M_39 60 46 x_25.toNatClampNeg = x_40 := (ex_40.symm)
        have wx_40 : tY M_14 60 46 x_25.toNatClampNeg = x_40 := (((cg (tY_nE hM_39 (nk (by decide))) x_25.toNatClampNeg).trans ((cg (tY_nE hM_37 (nk (by decide))) x_25.toNatClampNeg).trans ((cg (tY_nE hM_35 (nk (by decide))) x_25.toNatClampNeg).trans ((cg (tY_nE hM_33 (nk (by decide))) x_25.toNatClampNeg).trans ((cg (tY_nE hM_31 (nk (by decide))) x_25.toNatClampNeg).trans ((cg (tY_nE hM_29 (nk (by decide))) x_25.toNatClampNeg).trans (cg (tY_nE hM_27 (nk (by decide))) x_25.toNatClampNeg)))))))).symm.trans yx_40
        refine ti_iast (ci := 10) (k := 46) (n := 184) C hw ob_60 (by decide) (fun _ _ => rfl) (vp_in_iff.mpr (by omega)) dX10_copies_195 (fun H locs hw => ?_)
        obtain ⟨M_41, hM_41⟩ : ∃ z : ti_M, z = uY M_39 60 46 (upd (tY M_39 60 46) (x_23 : Int32).toNatClampNeg x_40) := ⟨_, rfl⟩
        have hw := hw.to hM_41.symm
        have iM_41 : mI Tm M_41 := mI_up (i := x_23.toNatClampNeg) iM_39 hM_41 trivial
        refine lv_aload_n hx hb dX10_copies_196 rfl (lv_at hl 3 rfl) ?_
        refine ti_get (ci := 10) (k := 47) (N := 67) (T := TX10) (v := .ref (A 60 48)) C hw iw_10 rfl ob_60 (by decide) (by decide) fl_X10_108 rfl rfl dX10_copies_197 ?_
        refine lv_iload hx hb dX10_copies_200 (lv_at hl 1 rfl) ?_
        refine lv_aload_n hx hb dX10_copies_202 rfl (lv_at hl 3 rfl) ?_
        refine ti_get (ci := 10) (k := 47) (N := 67) (T := TX10) (v := .ref (A 60 48)) C hw iw_10 rfl ob_60 (by decide) (by decide) fl_X10_108 rfl rfl dX10_copies_203 ?_
        refine lv_iload hx hb dX10_copies_206 (lv_at hl 0 rfl) ?_
        refine ti_iald (ci := 10) (k := 47) (n := 184) C hw ob_60 (by decide) (fun _ _ => rfl) (vp_in_iff.mpr (by omega)) dX10_copies_208 ?_
        refine lv_topi (fun x_42 ex_42 => ?_)
        have yx_42 : tY M_41 60 47 x_25.toNatClampNeg = x_42 := (ex_42.symm)
        have wx_42 : tY M_14 60 47 x_25.toNatClampNeg = x_42 := (((cg (tY_nE hM_41 (nk (by decide))) x_25.toNatClampNeg).trans ((cg (tY_nE hM_39 (nk (by decide))) x_25.toNatClampNeg).trans ((cg (tY_nE hM_37 (nk (by decide))) x_25.toNatClampNeg).trans ((cg (tY_nE hM_35 (nk (by decide))) x_25.toNatClampNeg).trans ((cg (tY_nE hM_33 (nk (by decide))) x_25.toNatClampNeg).trans ((cg (tY_nE hM_31 (nk (by decide))) x_25.toNatClampNeg).trans ((cg (tY_nE hM_29 (nk (by decide))) x_25.toNatClampNeg).trans (cg (tY_nE hM_27 (nk (by decide))) x_25.toNatClampNeg))))))))).symm.trans yx_42
        refine ti_iast (ci := 10) (k := 47) (n := 184) C hw ob_60 (by decide) (fun _ _ => rfl) (vp_in_iff.mpr (by omega)) dX10_copies_209 (fun H locs hw => ?_)
        obtain ⟨M_43, hM_43⟩ : ∃ z : ti_M, z = uY M_41 60 47 (upd (tY M_41 60 47) (x_23 : Int32).toNatClampNeg x_42) := ⟨_, rfl⟩
        have hw := hw.to hM_43.symm
        have iM_43 : mI Tm M_43 := mI_up (i := x_23.toNatClampNeg) iM_41 hM_43 trivial
        refine lv_aload_n hx hb dX10_copies_210 rfl (lv_at hl 3 rfl) ?_
        refine ti_get (ci := 10) (k := 48) (N := 67) (T := TX10) (v := .ref (A 60 49)) C hw iw_10 rfl ob_60 (by decide) (by decide) fl_X10_111 rfl rfl dX10_copies_211 ?_
        refine lv_iload hx hb dX10_copies_214 (lv_at hl 1 rfl) ?_
        refine lv_aload_n hx hb dX10_copies_216 rfl (lv_at hl 3 rfl) ?_
        refine ti_get (ci := 10) (k := 48) (N := 67) (T := TX10) (v := .ref (A 60 49)) C hw iw_10 rfl ob_60 (by decide) (by decide) fl_X10_111 rfl rfl dX10_copies_217 ?_
        refine lv_iload hx hb dX10_copies_220 (lv_at hl 0 rfl) ?_
        refine ti_iald (ci := 10) (k := 48) (n := 184) C hw ob_60 (by decide) (fun _ _ => rfl) (vp_in_iff.mpr (by omega)) dX10_copies_222 ?_
        refine lv_topi (fun x_44 ex_44 => ?_)
        have yx_44 : tY M_43 60 48 x_25.toNatClampNeg = x_44 := (ex_44.symm)
        have wx_44 : tY M_14 60 48 x_25.toNatClampNeg = x_44 := (((cg (tY_nE hM_43 (nk (by decide))) x_25.toNatClampNeg).trans ((cg (tY_nE hM_41 (nk (by decide))) x_25.toNatClampNeg).trans ((cg (tY_nE hM_39 (nk (by decide))) x_25.toNatClampNeg).trans ((cg (tY_nE hM_37 (nk (by decide))) x_25.toNatClampNeg).trans ((cg (tY_nE hM_35 (nk (by decide))) x_25.toNatClampNeg).trans ((cg (tY_nE hM_33 (nk (by decide))) x_25.toNatClampNeg).trans ((cg (tY_nE hM_31 (nk (by decide))) x_25.toNatClampNeg).trans ((cg (tY_nE hM_29 (nk (by decide))) x_25.toNatClampNeg).trans (cg (tY_nE hM_27 (nk (by decide))) x_25.toNatClampNeg)))))))))).symm.trans yx_44
        refine ti_iast (ci := 10) (k := 48) (n := 184) C hw ob_60 (by decide) (fun _ _ => rfl) (vp_in_iff.mpr (by omega)) dX10_copies_223 (fun H locs hw => ?_)
        obtain ⟨M_45, hM_45⟩ : ∃ z : ti_M, z = uY M_43 60 48 (upd (tY M_43 60 48) (x_23 : Int32).toNatClampNeg x_44) := ⟨_, rfl⟩
        have hw := hw.to hM_45.symm
        have iM_45 : mI Tm M_45 := mI_up (i := x_23.toNatClampNeg) iM_43 hM_45 trivial
        obtain ⟨x_46, ex_46⟩ : ∃ z : Int32, z = x_11 + 1 := ⟨_, rfl⟩
        have tx_46 : x_46.toInt = x_11.toInt + 1 := i_add ex_46 rfl (by decide) (by omega) (by omega)
        refine lv_iinc (v := x_46) (lv' := [(3, .int x_46), (5, .int x_25), (4, .int x_23), (0, .ref (A 60 0)), (1, .int to), (2, .int as)]) hx hb dX10_copies_224 hl (k := 2) rfl (by rw [ex_46]; rfl) (by decide) rfl (fun ls hl => ?_)
        refine lv_goto (tgt := 62) hx hb dX10_copies_227 (by decide) ?_
        exact ih_20 x_46 M_45 _ _ _ (by omega) (by first | omega | decide) (by first | omega | decide) iM_45 (lk.trans (lk_Y hM_45 (by decide)) (lk.trans (lk_Y hM_43 (by decide)) (lk.trans (lk_Y hM_41 (by decide)) (lk.trans (lk_Y hM_39 (by decide)) (lk.trans (lk_Y hM_37 (by decide)) (lk.trans (lk_Y hM_35 (by decide)) (lk.trans (lk_Y hM_33 (by decide)) (lk.trans (lk_Y hM_31 (by decide)) (lk.trans (lk_Y hM_29 (by decide)) (lk.trans (lk_Y hM_27 (by decide)) f_15)))))))))) (eR.trans (eR_Y hM_45 (bk_m (z := x_23) (by omega) (by decide))) (eR.trans (eR_Y hM_43 (bk_m (z := x_23) (by omega) (by decide))) (eR.trans (eR_Y hM_41 (bk_m (z := x_23) (by omega) (by decide))) (eR.trans (eR_Y hM_39 (bk_m (z := x_23) (by omega) (by decide))) (eR.trans (eR_Y hM_37 (bk_m (z := x_23) (by omega) (by decide))) (eR.trans (eR_Y hM_35 (bk_m (z := x_23) (by omega) (by decide))) (eR.trans (eR_Y hM_33 (bk_m (z := x_23) (by omega) (by decide))) (eR.trans (eR_Y hM_31 (bk_m (z := x_23) (by omega) (by decide))) (eR.trans (eR_Y hM_29 (bk_m (z := x_23) (by omega) (by decide))) (eR.trans (eR_Y hM_27 (bk_m (z := x_23) (by omega) (by decide))) f_16)))))))))) (cpq_s j_17 hM_27 yx_26 hM_29 yx_28 (qw.trans (qw_Y hM_45 (by decide)) (qw.trans (qw_Y hM_43 (by decide)) (qw.trans (qw_Y hM_41 (by decide)) (qw.trans (qw_Y hM_39 (by decide)) (qw.trans (qw_Y hM_37 (by decide)) (qw.trans (qw_Y hM_35 (by decide)) (qw.trans (qw_Y hM_33 (by decide)) (qw_Y hM_31 (by decide))))))))) (by show ((x_23.toInt.toNat : Nat) : Int) = 8 * ((to.toInt.toNat : Nat) : Int) + _; omega) (by show ((x_25.toInt.toNat : Nat) : Int) = 8 * ((as.toInt.toNat : Nat) : Int) + _; omega) (by show to.toInt.toNat ≠ as.toInt.toNat; omega) (by omega) (by omega) (by omega)) (cxh_k j_18 (fun k h1 h2 => ((tY_nE hM_45 (nk (by omega))).trans ((tY_nE hM_43 (nk (by omega))).trans ((tY_nE hM_41 (nk (by omega))).trans ((tY_nE hM_39 (nk (by omega))).trans ((tY_nE hM_37 (nk (by omega))).trans ((tY_nE hM_35 (nk (by omega))).trans ((tY_nE hM_33 (nk (by omega))).trans ((tY_nE hM_31 (nk (by omega))).trans ((tY_nE hM_29 (nk (by omega))).trans (tY_nE hM_27 (nk (by omega)))))))))))))) (by rw [show x_46.toInt.toNat = x_11.toInt.toNat + 1 by omega]; exact cxm_s (cx_row (k := 39) (by decide) j_19 f_16 (by omega) (by omega) (i_cl (by omega)) (i_cl (by omega)) ((((tY_nE hM_45 (nk (by decide))).trans ((tY_nE hM_43 (nk (by decide))).trans ((tY_nE hM_41 (nk (by decide))).trans ((tY_nE hM_39 (nk (by decide))).trans ((tY_nE hM_37 (nk (by decide))).trans ((tY_nE hM_35 (nk (by decide))).trans ((tY_nE hM_33 (nk (by decide))).trans ((tY_nE hM_31 (nk (by decide))).trans (tY_nE hM_29 (nk (by decide)))))))))))).trans (tY_uE hM_27)) yx_26 rfl) (cx_row (k := 40) (by decide) j_19 f_16 (by omega) (by omega) (i_cl (by omega)) (i_cl (by omega)) ((((tY_nE hM_45 (nk (by decide))).trans ((tY_nE hM_43 (nk (by decide))).trans ((tY_nE hM_41 (nk (by decide))).trans ((tY_nE hM_39 (nk (by decide))).trans ((tY_nE hM_37 (nk (by decide))).trans ((tY_nE hM_35 (nk (by decide))).trans ((tY_nE hM_33 (nk (by decide))).trans (tY_nE hM_31 (nk (by decide))))))))))).trans ((tY_uE hM_29).trans (congrArg (fun z => upd z _ _) ((tY_nE hM_27 (nk (by decide))))))) yx_28 ((tY_nE hM_27 (nk (by decide))))) (cx_row (k := 41) (by decide) j_19 f_16 (by omega) (by omega) (i_cl (by omega)) (i_cl (by omega)) ((((tY_nE hM_45 (nk (by decide))).trans ((tY_nE hM_43 (nk (by decide))).trans ((tY_nE hM_41 (nk (by decide))).trans ((tY_nE hM_39 (nk (by decide))).trans ((tY_nE hM_37 (nk (by decide))).trans ((tY_nE hM_35 (nk (by decide))).trans (tY_nE hM_33 (nk (by decide)))))))))).trans ((tY_uE hM_31).trans (congrArg (fun z => upd z _ _) (((tY_nE hM_29 (nk (by decide))).trans (tY_nE hM_27 (nk (by decide)))))))) yx_30 (((tY_nE hM_29 (nk (by decide))).trans (tY_nE hM_27 (nk (by decide)))))) (cx_row (k := 42) (by decide) j_19 f_16 (by omega) (by omega) (i_cl (by omega)) (i_cl (by omega)) ((((tY_nE hM_45 (nk (by decide))).trans ((tY_nE hM_43 (nk (by decide))).trans ((tY_nE hM_41 (nk (by decide))).trans ((tY_nE hM_39 (nk (by decide))).trans ((tY_nE hM_37 (nk (by decide))).trans (tY_nE hM_35 (nk (by decide))))))))).trans ((tY_uE hM_33).trans (congrArg (fun z => upd z _ _) (((tY_nE hM_31 (nk (by decide))).trans ((tY_nE hM_29 (nk (by decide))).trans (tY_nE hM_27 (nk (by decide))))))))) yx_32 (((tY_nE hM_31 (nk (by decide))).trans ((tY_nE hM_29 (nk (by decide))).trans (tY_nE hM_27 (nk (by decide))))))) (cx_row (k := 43) (by decide) j_19 f_16 (by omega) (by omega) (i_cl (by omega)) (i_cl (by omega)) ((((tY_nE hM_45 (nk (by decide))).trans ((tY_nE hM_43 (nk (by decide))).trans ((tY_nE hM_41 (nk (by decide))).trans ((tY_nE hM_39 (nk (by decide))).trans (tY_nE hM_37 (nk (by decide)))))))).trans ((tY_uE hM_35).trans (congrArg (fun z => upd z _ _) (((tY_nE hM_33 (nk (by decide))).trans ((tY_nE hM_31 (nk (by decide))).trans ((tY_nE hM_29 (nk (by decide))).trans (tY_nE hM_27 (nk (by decide)))))))))) yx_34 (((tY_nE hM_33 (nk (by decide))).trans ((tY_nE hM_31 (nk (by decide))).trans ((tY_nE hM_29 (nk (by decide))).trans (tY_nE hM_27 (nk (by decide)))))))) (cx_row (k := 44) (by decide) j_19 f_16 (by omega) (by omega) (i_cl (by omega)) (i_cl (by omega)) ((((tY_nE hM_45 (nk (by decide))).trans ((tY_nE hM_43 (nk (by decide))).trans ((tY_nE hM_41 (nk (by decide))).trans (tY_nE hM_39 (nk (by decide))))))).trans ((tY_uE hM_37).trans (congrArg (fun z => upd z _ _) (((tY_nE hM_35 (nk (by decide))).trans ((tY_nE hM_33 (nk (by decide))).trans ((tY_nE hM_31 (nk (by decide))).trans ((tY_nE hM_29 (nk (by decide))).trans (tY_nE hM_27 (nk (by decide))))))))))) yx_36 (((tY_nE hM_35 (nk (by decide))).trans ((tY_nE hM_33 (nk (by decide))).trans ((tY_nE hM_31 (nk (by decide))).trans ((tY_nE hM_29 (nk (by decide))).trans (tY_nE hM_27 (nk (by decide))))))))) (cx_row (k := 45) (by decide) j_19 f_16 (by omega) (by omega) (i_cl (by omega)) (i_cl (by omega)) ((((tY_nE hM_45 (nk (by decide))).trans ((tY_nE hM_43 (nk (by decide))).trans (tY_nE hM_41 (nk (by decide)))))).trans ((tY_uE hM_39).trans (congrArg (fun z => upd z _ _) (((tY_nE hM_37 (nk (by decide))).trans ((tY_nE hM_35 (nk (by decide))).trans ((tY_nE hM_33 (nk (by decide))).trans ((tY_nE hM_31 (nk (by decide))).trans ((tY_nE hM_29 (nk (by decide))).trans (tY_nE hM_27 (nk (by decide)))))))))))) yx_38 (((tY_nE hM_37 (nk (by decide))).trans ((tY_nE hM_35 (nk (by decide))).trans ((tY_nE hM_33 (nk (by decide))).trans ((tY_nE hM_31 (nk (by decide))).trans ((tY_nE hM_29 (nk (by decide))).trans (tY_nE hM_27 (nk (by decide)))))))))) (cx_row (k := 46) (by decide) j_19 f_16 (by omega) (by omega) (i_cl (by omega)) (i_cl (by omega)) ((((tY_nE hM_45 (nk (by decide))).trans (tY_nE hM_43 (nk (by decide))))).trans ((tY_uE hM_41).trans (congrArg (fun z => upd z _ _) (((tY_nE hM_39 (nk (by decide))).trans ((tY_nE hM_37 (nk (by decide))).trans ((tY_nE hM_35 (nk (by decide))).trans ((tY_nE hM_33 (nk (by decide))).trans ((tY_nE hM_31 (nk (by decide))).trans ((tY_nE hM_29 (nk (by decide))).trans (tY_nE hM_27 (nk (by decide))))))))))))) yx_40 (((tY_nE hM_39 (nk (by decide))).trans ((tY_nE hM_37 (nk (by decide))).trans ((tY_nE hM_35 (nk (by decide))).trans ((tY_nE hM_33 (nk (by decide))).trans ((tY_nE hM_31 (nk (by decide))).trans ((tY_nE hM_29 (nk (by decide))).trans (tY_nE hM_27 (nk (by decide))))))))))) (cx_row (k := 47) (by decide) j_19 f_16 (by omega) (by omega) (i_cl (by omega)) (i_cl (by omega)) (((tY_nE hM_45 (nk (by decide)))).trans ((tY_uE hM_43).trans (congrArg (fun z => upd z _ _) (((tY_nE hM_41 (nk (by decide))).trans ((tY_nE hM_39 (nk (by decide))).trans ((tY_nE hM_37 (nk (by decide))).trans ((tY_nE hM_35 (nk (by decide))).trans ((tY_nE hM_33 (nk (by decide))).trans ((tY_nE hM_31 (nk (by decide))).trans ((tY_nE hM_29 (nk (by decide))).trans (tY_nE hM_27 (nk (by decide)))))))))))))) yx_42 (((tY_nE hM_41 (nk (by decide))).trans ((tY_nE hM_39 (nk (by decide))).trans ((tY_nE hM_37 (nk (by decide))).trans ((tY_nE hM_35 (nk (by decide))).trans ((tY_nE hM_33 (nk (by decide))).trans ((tY_nE hM_31 (nk (by decide))).trans ((tY_nE hM_29 (nk (by decide))).trans (tY_nE hM_27 (nk (by decide)))))))))))) (cx_row (k := 48) (by decide) j_19 f_16 (by omega) (by omega) (i_cl (by omega)) (i_cl (by omega)) ((tY_uE hM_45).trans (congrArg (fun z => upd z _ _) (((tY_nE hM_43 (nk (by decide))).trans ((tY_nE hM_41 (nk (by decide))).trans ((tY_nE hM_39 (nk (by decide))).trans ((tY_nE hM_37 (nk (by decide))).trans ((tY_nE hM_35 (nk (by decide))).trans ((tY_nE hM_33 (nk (by decide))).trans ((tY_nE hM_31 (nk (by decide))).trans ((tY_nE hM_29 (nk (by decide))).trans (tY_nE hM_27 (nk (by decide)))))))))))))) yx_44 (((tY_nE hM_43 (nk (by decide))).trans ((tY_nE hM_41 (nk (by decide))).trans ((tY_nE hM_39 (nk (by decide))).trans ((tY_nE hM_37 (nk (by decide))).trans ((tY_nE hM_35 (nk (by decide))).trans ((tY_nE hM_33 (nk (by decide))).trans ((tY_nE hM_31 (nk (by decide))).trans ((tY_nE hM_29 (nk (by decide))).trans (tY_nE hM_27 (nk (by decide)))))))))))))) hw (lv_sub hl [0, 3, 4, 5] rfl)
  exact hl_62_19 ((8 - 0 : Int).toNat + 1) 0 M_10 _ _ _ (Nat.lt_succ_self _) (by have lt0 : (0 : Int32).toInt = 0 := (by decide); first | omega | decide) (by have lt0 : (0 : Int32).toInt = 0 := (by decide); first | omega | decide) iM_10 (lk.trans (lk_Y hM_10 (by decide)) (lk.trans (lk_Y hM_8 (by decide)) (lk.trans (lk_Y hM_6 (by decide)) (lk.trans (lk_Y hM_4 (by decide)) (lk_Y hM_2 (by decide)))))) (eR.trans (eR_Y hM_10 (bk_q (z := to) (by omega) (by decide))) (eR.trans (eR_Y hM_8 (bk_q (z := to) (by omega) (by decide))) (eR.trans (eR_Y hM_6 (bk_q (z := to) (by omega) (by decide))) (eR.trans (eR_Y hM_4 (bk_q (z := to) (by omega) (by decide))) (eR_Y hM_2 (bk_q (z := to) (by omega) (by decide))))))) (cpq_0 (qw.trans (qw_Y hM_8 (by decide)) (qw.trans (qw_Y hM_6 (by decide)) (qw.trans (qw_Y hM_4 (by decide)) (qw_Y hM_2 (by decide))))) hM_10 rfl rfl (wx_9)) ⟨(cx_h1 ((((tY_nE hM_10 (nk (by decide))).trans ((tY_nE hM_8 (nk (by decide))).trans ((tY_nE hM_6 (nk (by decide))).trans (tY_nE hM_4 (nk (by decide))))))).trans (tY_uE hM_2)) yx_1 rfl (i_cl (by omega)) (i_cl (by omega))), (cx_h1 ((((tY_nE hM_10 (nk (by decide))).trans ((tY_nE hM_8 (nk (by decide))).trans (tY_nE hM_6 (nk (by decide)))))).trans ((tY_uE hM_4).trans (congrArg (fun z => upd z _ _) ((tY_nE hM_2 (nk (by decide))))))) yx_3 ((tY_nE hM_2 (nk (by decide)))) (i_cl (by omega)) (i_cl (by omega))), (cx_h1 ((((tY_nE hM_10 (nk (by decide))).trans (tY_nE hM_8 (nk (by decide))))).trans ((tY_uE hM_6).trans (congrArg (fun z => upd z _ _) (((tY_nE hM_4 (nk (by decide))).trans (tY_nE hM_2 (nk (by decide)))))))) yx_5 (((tY_nE hM_4 (nk (by decide))).trans (tY_nE hM_2 (nk (by decide))))) (i_cl (by omega)) (i_cl (by omega))), (cx_h1 (((tY_nE hM_10 (nk (by decide)))).trans ((tY_uE hM_8).trans (congrArg (fun z => upd z _ _) (((tY_nE hM_6 (nk (by decide))).trans ((tY_nE hM_4 (nk (by decide))).trans (tY_nE hM_2 (nk (by decide))))))))) yx_7 (((tY_nE hM_6 (nk (by decide))).trans ((tY_nE hM_4 (nk (by decide))).trans (tY_nE hM_2 (nk (by decide)))))) (i_cl (by omega)) (i_cl (by omega))), (cx_h1 ((tY_uE hM_10).trans (congrArg (fun z => upd z _ _) (((tY_nE hM_8 (nk (by decide))).trans ((tY_nE hM_6 (nk (by decide))).trans ((tY_nE hM_4 (nk (by decide))).trans (tY_nE hM_2 (nk (by decide))))))))) yx_9 (((tY_nE hM_8 (nk (by decide))).trans ((tY_nE hM_6 (nk (by decide))).trans ((tY_nE hM_4 (nk (by decide))).trans (tY_nE hM_2 (nk (by decide))))))) (i_cl (by omega)) (i_cl (by omega)))⟩ cxm_0 hw (lv_sub hl [0, 1, 2, 3] rfl)

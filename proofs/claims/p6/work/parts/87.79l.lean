section
variable {Tc : gC} {Tm : gM}
variable {Tc : gC} {Tm : gM}
/-- the queue t is as the queue a was -/
def cxh (t a : Nat) (N M : ti_M) : Prop := tY N 60 34 t = tY M 60 34 a ∧ tY N 60 35 t = tY M 60 35 a ∧ tY N 60 36 t = tY M 60 36 a ∧ tY N 60 37 t = tY M 60 37 a ∧ tY N 60 38 t = tY M 60 38 a
def cxm (t a n : Nat) (N M : ti_M) : Prop := ∀ k : Nat, 39 ≤ k → k ≤ 48 → ∀ i : Nat, i < n → tY N 60 k (8 * t + i) = tY M 60 k (8 * a + i)
def cxp (t a n : Nat) (N M : ti_M) : Prop := ∀ i : Nat, i < n → i < 3 → tY N 60 49 (3 * t + i) = tY M 60 49 (3 * a + i)
def cx (t a : Nat) (N M : ti_M) : Prop := cxh t a N M ∧ cxm t a 8 N M ∧ cxp t a 3 N M
theorem cxm_0 {t a : Nat} {N M : ti_M} : cxm t a 0 N M := fun _ _ _ i h => absurd h (Nat.not_lt_zero i)
theorem cxp_0 {t a : Nat} {N M : ti_M} : cxp t a 0 N M := fun i h => absurd h (Nat.not_lt_zero i)
theorem cxh_k {t a : Nat} {G N M : ti_M} (h : cxh t a G M) (e : ∀ k : Nat, 34 ≤ k → k ≤ 38 → tY N 60 k = tY G 60 k) : cxh t a N M := by
  unfold cxh; rw [e 34 (by decide) (by decide), e 35 (by decide) (by decide), e 36 (by decide) (by decide), e 37 (by decide) (by decide), e 38 (by decide) (by decide)]; exact h
theorem cxm_k {t a n : Nat} {G N M : ti_M} (h : cxm t a n G M) (e : ∀ k : Nat, 39 ≤ k → k ≤ 48 → tY N 60 k = tY G 60 k) : cxm t a n N M := fun k h1 h2 i hi => by rw [e k h1 h2]; exact h k h1 h2 i hi
theorem cx_h1 {t a i j k : Nat} {N M P : ti_M} {v : Int32} (e : tY N 60 k = upd (tY M 60 k) i v) (y : tY P 60 k j = v) (p : tY P 60 k = tY M 60 k) (hi : i = t) (hj : j = a) : tY N 60 k t = tY M 60 k a := by
  subst hi hj; rw [e, pk_us, ← y, p]
theorem cx_row {G N M P : ti_M} {k t a n i j : Nat} {v : Int32} (hk : 39 ≤ k ∧ k ≤ 48) (h : cxm t a n G M) (er : eR t G M) (hne : t ≠ a) (hn : n < 8) (hi : i = 8 * t + n) (hj : j = 8 * a + n) (e : tY N 60 k = upd (tY G 60 k) i v) (y : tY P 60 k j = v) (p : tY P 60 k = tY G 60 k) : ∀ i2 : Nat, i2 < n + 1 → tY N 60 k (8 * t + i2) = tY M 60 k (8 * a + i2) := by
  subst hi hj
  intro i2 h2
  rw [e]
  by_cases c : i2 = n
  · subst c
    rw [pk_us, ← y, p]
    refine er.2 k _ (fun b => ?_)
    have b2 := b.2.2
    rw [if_neg (by omega), if_pos (by omega)] at b2
    omega
  · rw [pk_un (by omega)]; exact h k hk.1 hk.2 i2 (by omega)
theorem cxm_s {t a n : Nat} {N M : ti_M} (r39 : ∀ i2 : Nat, i2 < n + 1 → tY N 60 39 (8 * t + i2) = tY M 60 39 (8 * a + i2)) (r40 : ∀ i2 : Nat, i2 < n + 1 → tY N 60 40 (8 * t + i2) = tY M 60 40 (8 * a + i2)) (r41 : ∀ i2 : Nat, i2 < n + 1 → tY N 60 41 (8 * t + i2) = tY M 60 41 (8 * a + i2)) (r42 : ∀ i2 : Nat, i2 < n + 1 → tY N 60 42 (8 * t + i2) = tY M 60 42 (8 * a + i2)) (r43 : ∀ i2 : Nat, i2 < n + 1 → tY N 60 43 (8 * t + i2) = tY M 60 43 (8 * a + i2)) (r44 : ∀ i2 : Nat, i2 < n + 1 → tY N 60 44 (8 * t + i2) = tY M 60 44 (8 * a + i2)) (r45 : ∀ i2 : Nat, i2 < n + 1 → tY N 60 45 (8 * t + i2) = tY M 60 45 (8 * a + i2)) (r46 : ∀ i2 : Nat, i2 < n + 1 → tY N 60 46 (8 * t + i2) = tY M 60 46 (8 * a + i2)) (r47 : ∀ i2 : Nat, i2 < n + 1 → tY N 60 47 (8 * t + i2) = tY M 60 47 (8 * a + i2)) (r48 : ∀ i2 : Nat, i2 < n + 1 → tY N 60 48 (8 * t + i2) = tY M 60 48 (8 * a + i2)) : cxm t a (n + 1) N M := by
  intro k h1 h2
  rcases (show k = 39 ∨ k = 40 ∨ k = 41 ∨ k = 42 ∨ k = 43 ∨ k = 44 ∨ k = 45 ∨ k = 46 ∨ k = 47 ∨ k = 48 by omega) with rfl | rfl | rfl | rfl | rfl | rfl | rfl | rfl | rfl | rfl
  · exact r39
  · exact r40
  · exact r41
  · exact r42
  · exact r43
  · exact r44
  · exact r45
  · exact r46
  · exact r47
  · exact r48
theorem cxp_s {G N M P : ti_M} {t a n i j : Nat} {v : Int32} (h : cxp t a n G M) (er : eR t G M) (hne : t ≠ a) (hn : n < 3) (hi : i = 3 * t + n) (hj : j = 3 * a + n) (e : tY N 60 49 = upd (tY G 60 49) i v) (y : tY P 60 49 j = v) (p : tY P 60 49 = tY G 60 49) : cxp t a (n + 1) N M := by
  subst hi hj
  intro i2 h2 h3
  rw [e]
  by_cases c : i2 = n
  · subst c
    rw [pk_us, ← y, p]
    refine er.2 49 _ (fun b => ?_)
    have b2 := b.2.2
    rw [if_neg (by omega), if_neg (by omega)] at b2
    omega
  · rw [pk_un (by omega)]; exact h i2 (by omega) h3
theorem cx_qR {n t a : Nat} {s : Nat → Int} {N M : ti_M} (hn : n ≤ 8) (x : cx t a N M) (h : qR n a s M) : qR n t s N := by
  obtain ⟨⟨c34, c35, c36, c37, c38⟩, cm, cp⟩ := x
  obtain ⟨a1, b, c, d, f, g⟩ := h
  have q : ∀ k m : Nat, 39 ≤ k → k ≤ 48 → m < 8 → (tY N 60 k (8 * t + m)).toInt = (tY M 60 k (8 * a + m)).toInt := fun k m h1 h2 h3 => congrArg Int32.toInt (cm k h1 h2 m h3)
  refine ⟨⟨a1.1.trans (congrArg Int32.toInt c34.symm), a1.2.1.trans (congrArg Int32.toInt c38.symm), a1.2.2.1.trans (congrArg Int32.toInt c35.symm), a1.2.2.2.trans (congrArg Int32.toInt c36.symm)⟩, fun p h1 h2 => (b p h1 h2).trans (q 39 p (by decide) (by decide) h1).symm, fun k hk => (c k hk).trans (congrArg Int32.toInt (cp k hk hk).symm), fun m hm => ?_, fun m hm => ?_, ?_⟩
  · rw [q 40 m (by decide) (by decide) (by omega), q 41 m (by decide) (by decide) (by omega), q 42 m (by decide) (by decide) (by omega), q 43 m (by decide) (by decide) (by omega), q 44 m (by decide) (by decide) (by omega), q 47 m (by decide) (by decide) (by omega)]; exact d m hm
  · rw [q 45 m (by decide) (by decide) (by omega), q 46 m (by decide) (by decide) (by omega)]; exact f m hm
  · rw [c37]; exact g
theorem cx_qV {n t a : Nat} {s : Nat → Int} {N M : ti_M} (hn : n ≤ 8) (x : cx t a N M) (h : qV n a s M) : qV n t s N := fun m hm => (congrArg Int32.toInt (x.2.1 48 (by decide) (by decide) m (by omega))).trans (h m hm)
set_option maxHeartbeats 4000000 in
set_option maxRecDepth 100000 in
theorem z_X10_copies (l : Launch) (D : va_G) (A : Nat → Nat → Nat) (cy : Nat → ClassId) (hJ : ti_inj ti_LM A) (M : ti_M) (hI : mI Tm M) (to as : Int32) (h1 : 0 ≤ to.toInt) (h2 : to.toInt ≤ 22) (h3 : 0 ≤ as.toInt) (h4 : as.toInt ≤ 22) (h5 : as.toInt ≠ 1) (h6 : to.toInt ≠ as.toInt) : ti_Kv l yX10_copies cX10_copies 6 0 ti_LM D A cy M [.ref (A 60 0), .int to, .int as] (fun M2 => eR to.toInt.toNat M2 M ∧ cx to.toInt.toNat as.toInt.toNat M2 M ∧ mI Tm M2 ∧ lk M2 M ∧ cq to.toNatClampNeg as.toNatClampNeg M2 M) := by
  refine ti_eV yp_X10_copies hJ ti_LM_nd (Nat.le_of_ble_eq_true rfl) ?_
  intro p e s m args below meth c Q H0 C hQ hw ls hl
  have hx := C.1
  have hb := C.2.1
  have hl : lv_has ls 6 [(0, .ref (A 60 0)), (1, .int to), (2, .int as)] := hl
  refine lv_aload_n hx hb dX10_copies_0 rfl (lv_at hl 0 rfl) ?_
  refine ti_get (ci := 10) (k := 34) (N := 67) (T := TX10) (v := .ref (A 60 35)) C hw iw_10 rfl ob_60 (by decide) (by decide) fl_X10_69 rfl rfl dX10_copies_1 ?_
  refine lv_iload_n hx hb dX10_copies_4 rfl (lv_at hl 1 rfl) ?_
  refine lv_aload_n hx hb dX10_copies_5 rfl (lv_at hl 0 rfl) ?_
  refine ti_get (ci := 10) (k := 34) (N := 67) (T := TX10) (v := .ref (A 60 35)) C hw iw_10 rfl ob_60 (by decide) (by decide) fl_X10_69 rfl rfl dX10_copies_6 ?_
  refine lv_iload_n hx hb dX10_copies_9 rfl (lv_at hl 2 rfl) ?_
  refine ti_iald (ci := 10) (k := 34) (n := 23) C hw ob_60 (by decide) (fun _ _ => rfl) (vp_in_iff.mpr (by omega)) dX10_copies_10 ?_
  refine lv_topi (fun x_1 ex_1 => ?_)
  have yx_1 : tY M 60 34 as.toNatClampNeg = x_1 := (ex_1.symm)
  have bx_1 : 0 ≤ x_1.toInt ∧ x_1.toInt ≤ 120 := mI_ry (k := 34) (i := as.toNatClampNeg) hI yx_1.symm (by show as.toInt.toNat ≠ 1; omega)
  have zx_1 : (tY M 60 34 as.toNatClampNeg).toInt = x_1.toInt := by rw [yx_1]
  refine ti_iast (ci := 10) (k := 34) (n := 23) C hw ob_60 (by decide) (fun _ _ => rfl) (vp_in_iff.mpr (by omega)) dX10_copies_11 (fun H locs hw => ?_)
  obtain ⟨M_2, hM_2⟩ : ∃ z : ti_M, z = uY M 60 34 (upd (tY M 60 34) (to : Int32).toNatClampNeg x_1) := ⟨_, rfl⟩
  have hw := hw.to hM_2.symm
  have iM_2 : mI Tm M_2 := mI_up (i := to.toNatClampNeg) hI hM_2 (fun _ => (ib_mk (lo := 0) (hi := 120) (by omega) (by omega)))
  refine lv_aload_n hx hb dX10_copies_12 rfl (lv_at hl 0 rfl) ?_
  refine ti_get (ci := 10) (k := 35) (N := 67) (T := TX10) (v := .ref (A 60 36)) C hw iw_10 rfl ob_60 (by decide) (by decide) fl_X10_72 rfl rfl dX10_copies_13 ?_
  refine lv_iload_n hx hb dX10_copies_16 rfl (lv_at hl 1 rfl) ?_
  refine lv_aload_n hx hb dX10_copies_17 rfl (lv_at hl 0 rfl) ?_
  refine ti_get (ci := 10) (k := 35) (N := 67) (T := TX10) (v := .ref (A 60 36)) C hw iw_10 rfl ob_60 (by decide) (by decide) fl_X10_72 rfl rfl dX10_copies_18 ?_
  refine lv_iload_n hx hb dX10_copies_21 rfl (lv_at hl 2 rfl) ?_
  refine ti_iald (ci := 10) (k := 35) (n := 23) C hw ob_60 (by decide) (fun _ _ => rfl) (vp_in_iff.mpr (by omega)) dX10_copies_22 ?_
  refine lv_topi (fun x_3 ex_3 => ?_)
  have yx_3 : tY M_2 60 35 as.toNatClampNeg = x_3 := (ex_3.symm)
  have wx_3 : tY M 60 35 as.toNatClampNeg = x_3 := ((cg (tY_nE hM_2 (nk (by decide))) as.toNatClampNeg)).symm.trans yx_3
  refine ti_iast (ci := 10) (k := 35) (n := 23) C hw ob_60 (by decide) (fun _ _ => rfl) (vp_in_iff.mpr (by omega)) dX10_copies_23 (fun H locs hw => ?_)
  obtain ⟨M_4, hM_4⟩ : ∃ z : ti_M, z = uY M_2 60 35 (upd (tY M_2 60 35) (to : Int32).toNatClampNeg x_3) := ⟨_, rfl⟩
  have hw := hw.to hM_4.symm
  have iM_4 : mI Tm M_4 := mI_up (i := to.toNatClampNeg) iM_2 hM_4 trivial
  refine lv_aload_n hx hb dX10_copies_24 rfl (lv_at hl 0 rfl) ?_
  refine ti_get (ci := 10) (k := 36) (N := 67) (T := TX10) (v := .ref (A 60 37)) C hw iw_10 rfl ob_60 (by decide) (by decide) fl_X10_75 rfl rfl dX10_copies_25 ?_
  refine lv_iload_n hx hb dX10_copies_28 rfl (lv_at hl 1 rfl) ?_
  refine lv_aload_n hx hb dX10_copies_29 rfl (lv_at hl 0 rfl) ?_
  refine ti_get (ci := 10) (k := 36) (N := 67) (T := TX10) (v := .ref (A 60 37)) C hw iw_10 rfl ob_60 (by decide) (by decide) fl_X10_75 rfl rfl dX10_copies_30 ?_
  refine lv_iload_n hx hb dX10_copies_33 rfl (lv_at hl 2 rfl) ?_
  refine ti_iald (ci := 10) (k := 36) (n := 23) C hw ob_60 (by decide) (fun _ _ => rfl) (vp_in_iff.mpr (by omega)) dX10_copies_34 ?_
  refine lv_topi (fun x_5 ex_5 => ?_)
  have yx_5 : tY M_4 60 36 as.toNatClampNeg = x_5 := (ex_5.symm)
  have wx_5 : tY M 60 36 as.toNatClampNeg = x_5 := (((cg (tY_nE hM_4 (nk (by decide))) as.toNatClampNeg).trans (cg (tY_nE hM_2 (nk (by decide))) as.toNatClampNeg))).symm.trans yx_5
  refine ti_iast (ci := 10) (k := 36) (n := 23) C hw ob_60 (by decide) (fun _ _ => rfl) (vp_in_iff.mpr (by omega)) dX10_copies_35 (fun H locs hw => ?_)
  obtain ⟨M_6, hM_6⟩ : ∃ z : ti_M, z = uY M_4 60 36 (upd (tY M_4 60 36) (to : Int32).toNatClampNeg x_5) := ⟨_, rfl⟩
  have hw := hw.to hM_6.symm
  have iM_6 : mI Tm M_6 := mI_up (i := to.toNatClampNeg) iM_4 hM_6 trivial
  refine lv_aload_n hx hb dX10_copies_36 rfl (lv_at hl 0 rfl) ?_
  refine ti_get (ci := 10) (k := 37) (N := 67) (T := TX10) (v := .ref (A 60 38)) C hw iw_10 rfl ob_60 (by decide) (by decide) fl_X10_78 rfl rfl dX10_copies_37 ?_
  refine lv_iload_n hx hb dX10_copies_40 rfl (lv_at hl 1 rfl) ?_
  refine lv_aload_n hx hb dX10_copies_41 rfl (lv_at hl 0 rfl) ?_
  refine ti_get (ci := 10) (k := 37) (N := 67) (T := TX10) (v := .ref (A 60 38)) C hw iw_10 rfl ob_60 (by decide) (by decide) fl_X10_78 rfl rfl dX10_copies_42 ?_
  refine lv_iload_n hx hb dX10_copies_45 rfl (lv_at hl 2 rfl) ?_
  refine ti_iald (ci := 10) (k := 37) (n := 23) C hw ob_60 (by decide) (fun _ _ => rfl) (vp_in_iff.mpr (by omega)) dX10_copies_46 ?_
  refine lv_topi (fun x_7 ex_7 => ?_)
  have yx_7 : tY M_6 60 37 as.toNatClampNeg = x_7 := (ex_7.symm)
  have wx_7 : tY M 60 37 as.toNatClampNeg = x_7 := (((cg (tY_nE hM_6 (nk (by decide))) as.toNatClampNeg).trans ((cg (tY_nE hM_4 (nk (by decide))) as.toNatClampNeg).trans (cg (tY_nE hM_2 (nk (by decide))) as.toNatClampNeg)))).symm.trans yx_7
  refine ti_iast (ci := 10) (k := 37) (n := 23) C hw ob_60 (by decide) (fun _ _ => rfl) (vp_in_iff.mpr (by omega)) dX10_copies_47 (fun H locs hw => ?_)
  obtain ⟨M_8, hM_8⟩ : ∃ z : ti_M, z = uY M_6 60 37 (upd (tY M_6 60 37) (to : Int32).toNatClampNeg x_7) := ⟨_, rfl⟩
  have hw := hw.to hM_8.symm
  have iM_8 : mI Tm M_8 := mI_up (i := to.toNatClampNeg) iM_6 hM_8 trivial
  refine lv_aload_n hx hb dX10_copies_48 rfl (lv_at hl 0 rfl) ?_
  refine ti_get (ci := 10) (k := 38) (N := 67) (T := TX10) (v := .ref (A 60 39)) C hw iw_10 rfl ob_60 (by decide) (by decide) fl_X10_81 rfl rfl dX10_copies_49 ?_
  refine lv_iload_n hx hb dX10_copies_52 rfl (lv_at hl 1 rfl) ?_
  refine lv_aload_n hx hb dX10_copies_53 rfl (lv_at hl 0 rfl) ?_
  refine ti_get (ci := 10) (k := 38) (N := 67) (T := TX10) (v := .ref (A 60 39)) C hw iw_10 rfl ob_60 (by decide) (by decide) fl_X10_81 rfl rfl dX10_copies_54 ?_
  refine lv_iload_n hx hb dX10_copies_57 rfl (lv_at hl 2 rfl) ?_
  refine ti_iald (ci := 10) (k := 38) (n := 23) C hw ob_60 (by decide) (fun _ _ => rfl) (vp_in_iff.mpr (by omega)) dX10_copies_58 ?_
  refine lv_topi (fun x_9 ex_9 => ?_)
  have yx_9 : tY M_8 60 38 as.toNatClampNeg = x_9 := (ex_9.symm)
  have bx_9 : 0 ≤ x_9.toInt ∧ x_9.toInt ≤ 8 := mI_ry (k := 38) (i := as.toNatClampNeg) iM_8 yx_9.symm
  have zx_9 : (tY M_8 60 38 as.toNatClampNeg).toInt = x_9.toInt := by rw [yx_9]
  have wx_9 : tY M 60 38 as.toNatClampNeg = x_9 := (((cg (tY_nE hM_8 (nk (by decide))) as.toNatClampNeg).trans ((cg (tY_nE hM_6 (nk (by decide))) as.toNatClampNeg).trans ((cg (tY_nE hM_4 (nk (by decide))) as.toNatClampNeg).trans (cg (tY_nE hM_2 (nk (by decide))) as.toNatClampNeg))))).symm.trans yx_9
  have zwx_9 : (tY M 60 38 as.toNatClampNeg).toInt = x_9.toInt := by rw [wx_9]
  refine ti_iast (ci := 10) (k := 38) (n := 23) C hw ob_60 (by decide) (fun _ _ => rfl) (vp_in_iff.mpr (by omega)) dX10_copies_59 (fun H locs hw => ?_)
  obtain ⟨M_10, hM_10⟩ : ∃ z : ti_M, z = uY M_8 60 38 (upd (tY M_8 60 38) (to : Int32).toNatClampNeg x_9) := ⟨_, rfl⟩
  have hw := hw.to hM_10.symm
  have iM_10 : mI Tm M_10 := mI_up (i := to.toNatClampNeg) iM_8 hM_10 (ib_mk (lo := 0) (hi := 8) (by omega) (by omega))
  refine lv_iconst (v := 0) hx hb dX10_copies_60 (by decide) ?_
  refine lv_istore_n (lv' := [(3, .int 0), (0, .ref (A 60 0)), (1, .int to), (2, .int as)]) hx hb dX10_copies_61 rfl hl (by decide) rfl (fun ls hl => ?_)
  have hl_62_19 : ∀ (n_20 : Nat) (x_11 : Int32) (M_14 : ti_M) (H : Heap) (locs : List Loc) (ls : Array Slot), (8 - x_11.toInt : Int).toNat < n_20 → (0 ≤ x_11.toInt) → (x_11.toInt ≤ 8) → (mI Tm M_14) → (lk M_14 M) → (eR to.toInt.toNat M_14 M) → (cpq M M_14 to.toNatClampNeg as.toNatClampNeg x_11.toInt) → (cxh to.toInt.toNat as.toInt.toNat M_14 M) → (cxm to.toInt.toNat as.toInt.toNat (x_11.toInt).toNat M_14 M) → ti_H ti_LM D A cy H0 M_14 H locs → lv_has ls 6 [(3, .int x_11), (0, .ref (A 60 0)), (1, .int to), (2, .int as)] → W p l e (ti_rm 0) s m args below meth c H locs 0 0 Q (F0 m 62 ls []) := by
    intro n_20
    induction n_20 with
    | zero => intro x_11 M_14 H locs ls hf_20; exact absurd hf_20 (Nat.not_lt_zero _)
    | succ n_20 ih_20 =>
      intro x_11 M_14 H locs ls hf_20 b_12 b_13 iM_14 f_15 f_16 j_17 j_18 j_19 hw hl
      refine lv_iload_n hx hb dX10_copies_62 rfl (lv_at hl 0 rfl) ?_
      refine lv_bipush (v := 8) hx hb dX10_copies_63 (by decide) ?_
      refine sb_icmp_ge (tgt := 230) hx hb rfl (by decide : (8 : Int32).toInt = 8) dX10_copies_65 (by decide) (fun c_65_20 => ?_) (fun c_65_20 => ?_)
      · refine lv_iconst (v := 0) hx hb dX10_copies_230 (by decide) ?_
        refine lv_istore_n (lv' := [(3, .int 0), (0, .ref (A 60 0)), (1, .int to), (2, .int as)]) hx hb dX10_copies_231 rfl hl (by decide) rfl (fun ls hl => ?_)
        have hl_232_56 : ∀ (n_57 : Nat) (x_47 : Int32) (M_50 : ti_M) (H : Heap) (locs : List Loc) (ls : Array Slot), (3 - x_47.toInt : Int).toNat < n_57 → (0 ≤ x_47.toInt) → (x_47.toInt ≤ 3) → (mI Tm M_50) → (lk M_50 M) → (eR to.toInt.toNat M_50 M) → (cpq M M_50 to.toNatClampNeg as.toNatClampNeg 8) → (cxh to.toInt.toNat as.toInt.toNat M_50 M) → (cxm to.toInt.toNat as.toInt.toNat 8 M_50 M) → (cxp to.toInt.toNat as.toInt.toNat (x_47.toInt).toNat M_50 M) → ti_H ti_LM D A cy H0 M_50 H locs → lv_has ls 6 [(3, .int x_47), (0, .ref (A 60 0)), (1, .int to), (2, .int as)] → W p l e (ti_rm 0) s m args below meth c H locs 0 0 Q (F0 m 232 ls []) := by
          intro n_57
          induction n_57 with
          | zero => intro x_47 M_50 H locs ls hf_57; exact absurd hf_57 (Nat.not_lt_zero _)
          | succ n_57 ih_57 =>
            intro x_47 M_50 H locs ls hf_57 b_48 b_49 iM_50 f_51 f_52 j_53 j_54 j_55 j_56 hw hl
            refine lv_iload_n hx hb dX10_copies_232 rfl (lv_at hl 0 rfl) ?_
            refine lv_iconst (v := 3) hx hb dX10_copies_233 (by decide) ?_
            refine sb_icmp_ge (tgt := 263) hx hb rfl (by decide : (3 : Int32).toInt = 3) dX10_copies_234 (by decide) (fun c_234_57 => ?_) (fun c_234_57 => ?_)
            · exact hQ _ _ _ _ _ hw (⟨f_52, ⟨j_54, j_55, (by have h := j_56; rwa [show x_47.toInt.toNat = 3 by omega] at h)⟩, iM_50, f_51, q_copy hI j_53 f_51⟩) dX10_copies_263
            · refine lv_aload_n hx hb dX10_copies_237 rfl (lv_at hl 1 rfl) ?_
              refine ti_get (ci := 10) (k := 49) (N := 67) (T := TX10) (v := .ref (A 60 50)) C hw iw_10 rfl ob_60 (by decide) (by decide) fl_X10_114 rfl rfl dX10_copies_238 ?_
              refine lv_iconst (v := 3) hx hb dX10_copies_241 (by decide) ?_
              refine lv_iload_n hx hb dX10_copies_242 rfl (lv_at hl 2 rfl) ?_
              refine lv_imul hx hb dX10_copies_243 ?_
              refine lv_topi (fun x_59 ex_59 => ?_)
              have tx_59 : x_59.toInt = 3 * to.toInt := i_mul ex_59 (by decide : (3 : Int32).toInt = 3) rfl (by omega) (by omega)
              refine lv_iload_n hx hb dX10_copies_244 rfl (lv_at hl 0 rfl) ?_
              refine lv_iadd hx hb dX10_copies_245 ?_
              refine lv_topi (fun x_60 ex_60 => ?_)
              have tx_60 : x_60.toInt = x_59.toInt + x_47.toInt := i_add ex_60 rfl rfl (by omega) (by omega)
              refine lv_aload_n hx hb dX10_copies_246 rfl (lv_at hl 1 rfl) ?_
              refine ti_get (ci := 10) (k := 49) (N := 67) (T := TX10) (v := .ref (A 60 50)) C hw iw_10 rfl ob_60 (by decide) (by decide) fl_X10_114 rfl rfl dX10_copies_247 ?_
              refine lv_iconst (v := 3) hx hb dX10_copies_250 (by decide) ?_
              refine lv_iload_n hx hb dX10_copies_251 rfl (lv_at hl 3 rfl) ?_
              refine lv_imul hx hb dX10_copies_252 ?_
              refine lv_topi (fun x_61 ex_61 => ?_)
              have tx_61 : x_61.toInt = 3 * as.toInt := i_mul ex_61 (by decide : (3 : Int32).toInt = 3) rfl (by omega) (by omega)
              refine lv_iload_n hx hb dX10_copies_253 rfl (lv_at hl 0 rfl) ?_
              refine lv_iadd hx hb dX10_copies_254 ?_
              refine lv_topi (fun x_62 ex_62 => ?_)
              have tx_62 : x_62.toInt = x_61.toInt + x_47.toInt := i_add ex_62 rfl rfl (by omega) (by omega)
              refine ti_iald (ci := 10) (k := 49) (n := 69) C hw ob_60 (by decide) (fun _ _ => rfl) (vp_in_iff.mpr (by omega)) dX10_copies_255 ?_
              refine lv_topi (fun x_63 ex_63 => ?_)
              have yx_63 : tY M_50 60 49 x_62.toNatClampNeg = x_63 := (ex_63.symm)
              have bx_63 : 0 ≤ x_63.toInt ∧ x_63.toInt ≤ 7 := mI_ry (k := 49) (i := x_62.toNatClampNeg) iM_50 yx_63.symm
              refine ti_iast (ci := 10) (k := 49) (n := 69) C hw ob_60 (by decide) (fun _ _ => rfl) (vp_in_iff.mpr (by omega)) dX10_copies_256 (fun H locs hw => ?_)
              obtain ⟨M_64, hM_64⟩ : ∃ z : ti_M, z = uY M_50 60 49 (upd (tY M_50 60 49) (x_60 : Int32).toNatClampNeg x_63) := ⟨_, rfl⟩
              have hw := hw.to hM_64.symm
              have iM_64 : mI Tm M_64 := mI_up (i := x_60.toNatClampNeg) iM_50 hM_64 (ib_mk (lo := 0) (hi := 7) (by omega) (by omega))
              obtain ⟨x_65, ex_65⟩ : ∃ z : Int32, z = x_47 + 1 := ⟨_, rfl⟩
              have tx_65 : x_65.toInt = x_47.toInt + 1 := i_add ex_65 rfl (by decide) (by omega) (by omega)
              refine lv_iinc (v := x_65) (lv' := [(3, .int x_65), (0, .ref (A 60 0)), (1, .int to), (2, .int as)]) hx hb dX10_copies_257 hl (k := 0) rfl (by rw [ex_65]; rfl) (by decide) rfl (fun ls hl => ?_)
              refine lv_goto (tgt := 232) hx hb dX10_copies_260 (by decide) ?_
              exact ih_57 x_65 M_64 _ _ _ (by omega) (by first | omega | decide) (by first | omega | decide) iM_64 (lk.trans (lk_Y hM_64 (by decide)) f_51) (eR.trans (eR_Y hM_64 (bk_p (z := x_60) (by omega))) f_52) (cpq_qw j_53 (qw_Y hM_64 (by decide))) (cxh_k j_54 (fun k h1 h2 => (tY_nE hM_64 (nk (by omega))))) (cxm_k j_55 (fun k h1 h2 => (tY_nE hM_64 (nk (by omega))))) (by rw [show x_65.toInt.toNat = x_47.toInt.toNat + 1 by omega]; exact cxp_s j_56 f_52 (by omega) (by omega) (i_cl (by omega)) (i_cl (by omega)) (tY_uE hM_64) yx_63 rfl) hw (lv_sub hl [0, 1, 2, 3] rfl)
        exact hl_232_56 ((3 - 0 : Int).toNat + 1) 0 M_14 _ _ _ (Nat.lt_succ_self _) (by have lt0 : (0 : Int32).toInt = 0 := (by decide); first | omega | decide) (by have lt0 : (0 : Int32).toInt = 0 := (by decide); first | omega | decide) iM_14 f_15 f_16 (by have h := j_17; rwa [show x_11.toInt = 8 by omega] at h) j_18 (by have h := j_19; rwa [show x_11.toInt.toNat = 8 by omega] at h) cxp_0 hw (lv_sub hl [0, 1, 2, 3] rfl)
      · refine lv_bipush (v := 8) hx hb dX10_copies_68 (by decide) ?_
        refine lv_iload_n hx hb dX10_copies_70 rfl (lv_at hl 2 rfl) ?_
        refine lv_imul hx hb dX10_copies_71 ?_
        refine lv_topi (fun x_22 ex_22 => ?_)
        have tx_22 : x_22.toInt = 8 * to.toInt := i_mul ex_22 (by decide : (8 : Int32).toInt = 8) rfl (by omega) (by omega)
        refine lv_iload_n hx hb dX10_copies_72 rfl (lv_at hl 0 rfl) ?_
        refine lv_iadd hx hb dX10_copies_73 ?_
        refine lv_topi (fun x_23 ex_23 => ?_)
        have tx_23 : x_23.toInt = x_22.toInt + x_11.toInt := i_add ex_23 rfl rfl (by omega) (by omega)
        refine lv_istore (lv' := [(4, .int x_23), (3, .int x_11), (0, .ref (A 60 0)), (1, .int to), (2, .int as)]) hx hb dX10_copies_74 hl (by decide) rfl (fun ls hl => ?_)
        refine lv_bipush (v := 8) hx hb dX10_copies_76 (by decide) ?_
        refine lv_iload_n hx hb dX10_copies_78 rfl (lv_at hl 4 rfl) ?_
        refine lv_imul hx hb dX10_copies_79 ?_
        refine lv_topi (fun x_24 ex_24 => ?_)
        have tx_24 : x_24.toInt = 8 * as.toInt := i_mul ex_24 (by decide : (8 : Int32).toInt = 8) rfl (by omega) (by omega)
        refine lv_iload_n hx hb dX10_copies_80 rfl (lv_at hl 1 rfl) ?_
        refine lv_iadd hx hb dX10_copies_81 ?_
        refine lv_topi (fun x_25 ex_25 => ?_)
        have tx_25 : x_25.toInt = x_24.toInt + x_11.toInt := i_add ex_25 rfl rfl (by omega) (by omega)
        refine lv_istore (lv' := [(5, .int x_25), (4, .int x_23), (3, .int x_11), (0, .ref (A 60 0)), (1, .int to), (2, .int as)]) hx hb dX10_copies_82 hl (by decide) rfl (fun ls hl => ?_)
        refine lv_aload_n hx hb dX10_copies_84 rfl (lv_at hl 3 rfl) ?_
        refine ti_get (ci := 10) (k := 39) (N := 67) (T := TX10) (v := .ref (A 60 40)) C hw iw_10 rfl ob_60 (by decide) (by decide) fl_X10_84 rfl rfl dX10_copies_85 ?_
        refine lv_iload hx hb dX10_copies_88 (lv_at hl 1 rfl) ?_
        refine lv_aload_n hx hb dX10_copies_90 rfl (lv_at hl 3 rfl) ?_
        refine ti_get (ci := 10) (k := 39) (N := 67) (T := TX10) (v := .ref (A 60 40)) C hw iw_10 rfl ob_60 (by decide) (by decide) fl_X10_84 rfl rfl dX10_copies_91 ?_
        refine lv_iload hx hb dX10_copies_94 (lv_at hl 0 rfl) ?_
        refine ti_iald (ci := 10) (k := 39) (n := 184) C hw ob_60 (by decide) (fun _ _ => rfl) (vp_in_iff.mpr (by omega)) dX10_copies_96 ?_
        refine lv_topi (fun x_26 ex_26 => ?_)
        have yx_26 : tY M_14 60 39 x_25.toNatClampNeg = x_26 := (ex_26.symm)
        have bx_26 : 0 ≤ x_26.toInt ∧ x_26.toInt ≤ 7 := mI_ry (k := 39) (i := x_25.toNatClampNeg) iM_14 yx_26.symm
        refine ti_iast (ci := 10) (k := 39) (n := 184) C hw ob_60 (by decide) (fun _ _ => rfl) (vp_in_iff.mpr (by omega)) dX10_copies_97 (fun H locs hw => ?_)
        obtain ⟨M_27, hM_27⟩ : ∃ z : ti_M, z = uY M_14 60 39 (upd (tY M_14 60 39) (x_23 : Int32).toNatClampNeg x_26) := ⟨_, rfl⟩
        have hw := hw.to hM_27.symm
        have iM_27 : mI Tm M_27 := mI_up (i := x_23.toNatClampNeg) iM_14 hM_27 (ib_mk (lo := 0) (hi := 7) (by omega) (by omega))
        refine lv_aload_n hx hb dX10_copies_98 rfl (lv_at hl 3 rfl) ?_
        refine ti_get (ci := 10) (k := 40) (N := 67) (T := TX10) (v := .ref (A 60 41)) C hw iw_10 rfl ob_60 (by decide) (by decide) fl_X10_87 rfl rfl dX10_copies_99 ?_
        refine lv_iload hx hb dX10_copies_102 (lv_at hl 1 rfl) ?_
        refine lv_aload_n hx hb dX10_copies_104 rfl (lv_at hl 3 rfl) ?_
        refine ti_get (ci := 10) (k := 40) (N := 67) (T := TX10) (v := .ref (A 60 41)) C hw iw_10 rfl ob_60 (by decide) (by decide) fl_X10_87 rfl rfl dX10_copies_105 ?_
        refine lv_iload hx hb dX10_copies_108 (lv_at hl 0 rfl) ?_
        refine ti_iald (ci := 10) (k := 40) (n := 184) C hw ob_60 (by decide) (fun _ _ => rfl) (vp_in_iff.mpr (by omega)) dX10_copies_110 ?_
        refine lv_topi (fun x_28 ex_28 => ?_)
        have yx_28 : tY M_27 60 40 x_25.toNatClampNeg = x_28 := (ex_28.symm)
        have zx_28 : (tY M_27 60 40 x_25.toNatClampNeg).toInt = x_28.toInt := by rw [yx_28]
        have wx_28 : tY M_14 60 40 x_25.toNatClampNeg = x_28 := ((cg (tY_nE hM_27 (nk (by decide))) x_25.toNatClampNeg)).symm.trans yx_28
        have zwx_28 : (tY M_14 60 40 x_25.toNatClampNeg).toInt = x_28.toInt := by rw [wx_28]
        refine ti_iast (ci := 10) (k := 40) (n := 184) C hw ob_60 (by decide) (fun _ _ => rfl) (vp_in_iff.mpr (by omega)) dX10_copies_111 (fun H locs hw => ?_)
        obtain ⟨M_29, hM_29⟩ : ∃ z : ti_M, z = uY M_27 60 40 (upd (tY M_27 60 40) (x_23 : Int32).toNatClampNeg x_28) := ⟨_, rfl⟩
        have hw := hw.to hM_29.symm
        have iM_29 : mI Tm M_29 := mI_up (i := x_23.toNatClampNeg) iM_27 hM_29 trivial
        refine lv_aload_n hx hb dX10_copies_112 rfl (lv_at hl 3 rfl) ?_
        refine ti_get (ci := 10) (k := 41) (N := 67) (T := TX10) (v := .ref (A 60 42)) C hw iw_10 rfl ob_60 (by decide) (by decide) fl_X10_90 rfl rfl dX10_copies_113 ?_
        refine lv_iload hx hb dX10_copies_116 (lv_at hl 1 rfl) ?_
        refine lv_aload_n hx hb dX10_copies_118 rfl (lv_at hl 3 rfl) ?_
        refine ti_get (ci := 10) (k := 41) (N := 67) (T := TX10) (v := .ref (A 60 42)) C hw iw_10 rfl ob_60 (by decide) (by decide) fl_X10_90 rfl rfl dX10_copies_119 ?_
        refine lv_iload hx hb dX10_copies_122 (lv_at hl 0 rfl) ?_
        refine ti_iald (ci := 10) (k := 41) (n := 184) C hw ob_60 (by decide) (fun _ _ => rfl) (vp_in_iff.mpr (by omega)) dX10_copies_124 ?_
        refine lv_topi (fun x_30 ex_30 => ?_)
        have yx_30 : tY M_29 60 41 x_25.toNatClampNeg = x_30 := (ex_30.symm)
        have wx_30 : tY M_14 60 41 x_25.toNatClampNeg = x_30 := (((cg (tY_nE hM_29 (nk (by decide))) x_25.toNatClampNeg).trans (cg (tY_nE hM_27 (nk (by decide))) x_25.toNatClampNeg))).symm.trans yx_30
        refine ti_iast (ci := 10) (k := 41) (n := 184) C hw ob_60 (by decide) (fun _ _ => rfl) (vp_in_iff.mpr (by omega)) dX10_copies_125 (fun H locs hw => ?_)
        obtain ⟨M_31, hM_31⟩ : ∃ z : ti_M, z = uY M_29 60 41 (upd (tY M_29 60 41) (x_23 : Int32).toNatClampNeg x_30) := ⟨_, rfl⟩
        have hw := hw.to hM_31.symm
        have iM_31 : mI Tm M_31 := mI_up (i := x_23.toNatClampNeg) iM_29 hM_31 trivial
        refine lv_aload_n hx hb dX10_copies_126 rfl (lv_at hl 3 rfl) ?_
        refine ti_get (ci := 10) (k := 42) (N := 67) (T := TX10) (v := .ref (A 60 43)) C hw iw_10 rfl ob_60 (by decide) (by decide) fl_X10_93 rfl rfl dX10_copies_127 ?_
        refine lv_iload hx hb dX10_copies_130 (lv_at hl 1 rfl) ?_
        refine lv_aload_n hx hb dX10_copies_132 rfl (lv_at hl 3 rfl) ?_
        refine ti_get (ci := 10) (k := 42) (N := 67) (T := TX10) (v := .ref (A 60 43)) C hw iw_10 rfl ob_60 (by decide) (by decide) fl_X10_93 rfl rfl dX10_copies_133 ?_
        refine lv_iload hx hb dX10_copies_136 (lv_at hl 0 rfl) ?_
        refine ti_iald (ci := 10) (k := 42) (n := 184) C hw ob_60 (by decide) (fun _ _ => rfl) (vp_in_iff.mpr (by omega)) dX10_copies_138 ?_
        refine lv_topi (fun x_32 ex_32 => ?_)
        have yx_32 : tY M_31 60 42 x_25.toNatClampNeg = x_32 := (ex_32.symm)
        have wx_32 : tY M_14 60 42 x_25.toNatClampNeg = x_32 := (((cg (tY_nE hM_31 (nk (by decide))) x_25.toNatClampNeg).trans ((cg (tY_nE hM_29 (nk (by decide))) x_25.toNatClampNeg).trans (cg (tY_nE hM_27 (nk (by decide))) x_25.toNatClampNeg)))).symm.trans yx_32
        refine ti_iast (ci := 10) (k := 42) (n := 184) C hw ob_60 (by decide) (fun _ _ => rfl) (vp_in_iff.mpr (by omega)) dX10_copies_139 (fun H locs hw => ?_)
        obtain ⟨M_33, hM_33⟩ : ∃ z : ti_M, z = uY M_31 60 42 (upd (tY M_31 60 42) (x_23 : Int32).toNatClampNeg x_32) := ⟨_, rfl⟩
        have hw := hw.to hM_33.symm
        have iM_33 : mI Tm M_33 := mI_up (i := x_23.toNatClampNeg) iM_31 hM_33 trivial
        refine lv_aload_n hx hb dX10_copies_140 rfl (lv_at hl 3 rfl) ?_
        refine ti_get (ci := 10) (k := 43) (N := 67) (T := TX10) (v := .ref (A 60 44)) C hw iw_10 rfl ob_60 (by decide) (by decide) fl_X10_96 rfl rfl dX10_copies_141 ?_
        refine lv_iload hx hb dX10_copies_144 (lv_at hl 1 rfl) ?_
        refine lv_aload_n hx hb dX10_copies_146 rfl (lv_at hl 3 rfl) ?_
        refine ti_get (ci := 10) (k := 43) (N := 67) (T := TX10) (v := .ref (A 60 44)) C hw iw_10 rfl ob_60 (by decide) (by decide) fl_X10_96 rfl rfl dX10_copies_147 ?_
        refine lv_iload hx hb dX10_copies_150 (lv_at hl 0 rfl) ?_
        refine ti_iald (ci := 10) (k := 43) (n := 184) C hw ob_60 (by decide) (fun _ _ => rfl) (vp_in_iff.mpr (by omega)) dX10_copies_152 ?_
        refine lv_topi (fun x_34 ex_34 => ?_)
        have yx_34 : tY M_33 60 43 x_25.toNatClampNeg = x_34 := (ex_34.symm)
        have wx_34 : tY M_14 60 43 x_25.toNatClampNeg = x_34 := (((cg (tY_nE hM_33 (nk (by decide))) x_25.toNatClampNeg).trans ((cg (tY_nE hM_31 (nk (by decide))) x_25.toNatClampNeg).trans ((cg (tY_nE hM_29 (nk (by decide))) x_25.toNatClampNeg).trans (cg (tY_nE hM_27 (nk (by decide))) x_25.toNatClampNeg))))).symm.trans yx_34
        refine ti_iast (ci := 10) (k := 43) (n := 184) C hw ob_60 (by decide) (fun _ _ => rfl) (vp_in_iff.mpr (by omega)) dX10_copies_153 (fun H locs hw => ?_)
        obtain ⟨M_35, hM_35⟩ : ∃ z : ti_M, z = uY M_33 60 43 (upd (tY M_33 60 43) (x_23 : Int32).toNatClampNeg x_34) := ⟨_, rfl⟩
        have hw := hw.to hM_35.symm
        have iM_35 : mI Tm M_35 := mI_up (i := x_23.toNatClampNeg) iM_33 hM_35 trivial
        refine lv_aload_n hx hb dX10_copies_154 rfl (lv_at hl 3 rfl) ?_
        refine ti_get (ci := 10) (k := 44) (N := 67) (T := TX10) (v := .ref (A 60 45)) C hw iw_10 rfl ob_60 (by decide) (by decide) fl_X10_99 rfl rfl dX10_copies_155 ?_
        refine lv_iload hx hb dX10_copies_158 (lv_at hl 1 rfl) ?_
        refine lv_aload_n hx hb dX10_copies_160 rfl (lv_at hl 3 rfl) ?_
        refine ti_get (ci := 10) (k := 44) (N := 67) (T := TX10) (v := .ref (A 60 45)) C hw iw_10 rfl ob_60 (by decide) (by decide) fl_X10_99 rfl rfl dX10_copies_161 ?_
        refine lv_iload hx hb dX10_copies_164 (lv_at hl 0 rfl) ?_
        refine ti_iald (ci := 10) (k := 44) (n := 184) C hw ob_60 (by decide) (fun _ _ => rfl) (vp_in_iff.mpr (by omega)) dX10_copies_166 ?_
        refine lv_topi (fun x_36 ex_36 => ?_)
        have yx_36 : tY M_35 60 44 x_25.toNatClampNeg = x_36 := (ex_36.symm)
        have wx_36 : tY M_14 60 44 x_25.toNatClampNeg = x_36 := (((cg (tY_nE hM_35 (nk (by decide))) x_25.toNatClampNeg).trans ((cg (tY_nE hM_33 (nk (by decide))) x_25.toNatClampNeg).trans ((cg (tY_nE hM_31 (nk (by decide))) x_25.toNatClampNeg).trans ((cg (tY_nE hM_29 (nk (by decide))) x_25.toNatClampNeg).trans (cg (tY_nE hM_27 (nk (by decide))) x_25.toNatClampNeg)))))).symm.trans yx_36
        refine ti_iast (ci := 10) (k := 44) (n := 184) C hw ob_60 (by decide) (fun _ _ => rfl) (vp_in_iff.mpr (by omega)) dX10_copies_167 (fun H locs hw => ?_)
        obtain ⟨M_37, hM_37⟩ : ∃ z : ti_M, z = uY M_35 60 44 (upd (tY M_35 60 44) (x_23 : Int32).toNatClampNeg x_36) := ⟨_, rfl⟩
        have hw := hw.to hM_37.symm
        have iM_37 : mI Tm M_37 := mI_up (i := x_23.toNatClampNeg) iM_35 hM_37 trivial
        refine lv_aload_n hx hb dX10_copies_168 rfl (lv_at hl 3 rfl) ?_
        refine ti_get (ci := 10) (k := 45) (N := 67) (T := TX10) (v := .ref (A 60 46)) C hw iw_10 rfl ob_60 (by decide) (by decide) fl_X10_102 rfl rfl dX10_copies_169 ?_
        refine lv_iload hx hb dX10_copies_172 (lv_at hl 1 rfl) ?_
        refine lv_aload_n hx hb dX10_copies_174 rfl (lv_at hl 3 rfl) ?_
        refine ti_get (ci := 10) (k := 45) (N := 67) (T := TX10) (v := .ref (A 60 46)) C hw iw_10 rfl ob_60 (by decide) (by decide) fl_X10_102 rfl rfl dX10_copies_175 ?_
        refine lv_iload hx hb dX10_copies_178 (lv_at hl 0 rfl) ?_
        refine ti_iald (ci := 10) (k := 45) (n := 184) C hw ob_60 (by decide) (fun _ _ => rfl) (vp_in_iff.mpr (by omega)) dX10_copies_180 ?_
        refine lv_topi (fun x_38 ex_38 => ?_)
        have yx_38 : tY M_37 60 45 x_25.toNatClampNeg = x_38 := (ex_38.symm)
        have wx_38 : tY M_14 60 45 x_25.toNatClampNeg = x_38 := (((cg (tY_nE hM_37 (nk (by decide))) x_25.toNatClampNeg).trans ((cg (tY_nE hM_35 (nk (by decide))) x_25.toNatClampNeg).trans ((cg (tY_nE hM_33 (nk (by decide))) x_25.toNatClampNeg).trans ((cg (tY_nE hM_31 (nk (by decide))) x_25.toNatClampNeg).trans ((cg (tY_nE hM_29 (nk (by decide))) x_25.toNatClampNeg).trans (cg (tY_nE hM_27 (nk (by decide))) x_25.toNatClampNeg))))))).symm.trans yx_38
        refine ti_iast (ci := 10) (k := 45) (n := 184) C hw ob_60 (by decide) (fun _ _ => rfl) (vp_in_iff.mpr (by omega)) dX10_copies_181 (fun H locs hw => ?_)
        obtain ⟨M_39, hM_39⟩ : ∃ z : ti_M, z = uY M_37 60 45 (upd (tY M_37 60 45) (x_23 : Int32).toNatClampNeg x_38) := ⟨_, rfl⟩
        have hw := hw.to hM_39.symm
        have iM_39 : mI Tm M_39 := mI_up (i := x_23.toNatClampNeg) iM_37 hM_39 trivial
        refine lv_aload_n hx hb dX10_copies_182 rfl (lv_at hl 3 rfl) ?_
        refine ti_get (ci := 10) (k := 46) (N := 67) (T := TX10) (v := .ref (A 60 47)) C hw iw_10 rfl ob_60 (by decide) (by decide) fl_X10_105 rfl rfl dX10_copies_183 ?_
        refine lv_iload hx hb dX10_copies_186 (lv_at hl 1 rfl) ?_
        refine lv_aload_n hx hb dX10_copies_188 rfl (lv_at hl 3 rfl) ?_
        refine ti_get (ci := 10) (k := 46) (N := 67) (T := TX10) (v := .ref (A 60 47)) C hw iw_10 rfl ob_60 (by decide) (by decide) fl_X10_105 rfl rfl dX10_copies_189 ?_
        refine lv_iload hx hb dX10_copies_192 (lv_at hl 0 rfl) ?_
        refine ti_iald (ci := 10) (k := 46) (n := 184) C hw ob_60 (by decide) (fun _ _ => rfl) (vp_in_iff.mpr (by omega)) dX10_copies_194 ?_
        refine lv_topi (fun x_40 ex_40 => ?_)
        have yx_40 : tY M_39 60 46 x_25.toNatClampNeg = x_40 := (ex_40.symm)
        have wx_40 : tY M_14 60 46 x_25.toNatClampNeg = x_40 := (((cg (tY_nE hM_39 (nk (by decide))) x_25.toNatClampNeg).trans ((cg (tY_nE hM_37 (nk (by decide))) x_25.toNatClampNeg).trans ((cg (tY_nE hM_35 (nk (by decide))) x_25.toNatClampNeg).trans ((cg (tY_nE hM_33 (nk (by decide))) x_25.toNatClampNeg).trans ((cg (tY_nE hM_31 (nk (by decide))) x_25.toNatClampNeg).trans ((cg (tY_nE hM_29 (nk (by decide))) x_25.toNatClampNeg).trans (cg (tY_nE hM_27 (nk (by decide))) x_25.toNatClampNeg)))))))).symm.trans yx_40
        refine ti_iast (ci := 10) (k := 46) (n := 184) C hw ob_60 (by decide) (fun _ _ => rfl) (vp_in_iff.mpr (by omega)) dX10_copies_195 (fun H locs hw => ?_)
        obtain ⟨M_41, hM_41⟩ : ∃ z : ti_M, z = uY M_39 60 46 (upd (tY M_39 60 46) (x_23 : Int32).toNatClampNeg x_40) := ⟨_, rfl⟩
        have hw := hw.to hM_41.symm
        have iM_41 : mI Tm M_41 := mI_up (i := x_23.toNatClampNeg) iM_39 hM_41 trivial
        refine lv_aload_n hx hb dX10_copies_196 rfl (lv_at hl 3 rfl) ?_
        refine ti_get (ci := 10) (k := 47) (N := 67) (T := TX10) (v := .ref (A 60 48)) C hw iw_10 rfl ob_60 (by decide) (by decide) fl_X10_108 rfl rfl dX10_copies_197 ?_
        refine lv_iload hx hb dX10_copies_200 (lv_at hl 1 rfl) ?_
        refine lv_aload_n hx hb dX10_copies_202 rfl (lv_at hl 3 rfl) ?_
        refine ti_get (ci := 10) (k := 47) (N := 67) (T := TX10) (v := .ref (A 60 48)) C hw iw_10 rfl ob_60 (by decide) (by decide) fl_X10_108 rfl rfl dX10_copies_203 ?_
        refine lv_iload hx hb dX10_copies_206 (lv_at hl 0 rfl) ?_
        refine ti_iald (ci := 10) (k := 47) (n := 184) C hw ob_60 (by decide) (fun _ _ => rfl) (vp_in_iff.mpr (by omega)) dX10_copies_208 ?_
        refine lv_topi (fun x_42 ex_42 => ?_)
        have yx_42 : tY M_41 60 47 x_25.toNatClampNeg = x_42 := (ex_42.symm)
        have wx_42 : tY M_14 60 47 x_25.toNatClampNeg = x_42 := (((cg (tY_nE hM_41 (nk (by decide))) x_25.toNatClampNeg).trans ((cg (tY_nE hM_39 (nk (by decide))) x_25.toNatClampNeg).trans ((cg (tY_nE hM_37 (nk (by decide))) x_25.toNatClampNeg).trans ((cg (tY_nE hM_35 (nk (by decide))) x_25.toNatClampNeg).trans ((cg (tY_nE hM_33 (nk (by decide))) x_25.toNatClampNeg).trans ((cg (tY_nE hM_31 (nk (by decide))) x_25.toNatClampNeg).trans ((cg (tY_nE hM_29 (nk (by decide))) x_25.toNatClampNeg).trans (cg (tY_nE hM_27 (nk (by decide))) x_25.toNatClampNeg))))))))).symm.trans yx_42
        refine ti_iast (ci := 10) (k := 47) (n := 184) C hw ob_60 (by decide) (fun _ _ => rfl) (vp_in_iff.mpr (by omega)) dX10_copies_209 (fun H locs hw => ?_)
        obtain ⟨M_43, hM_43⟩ : ∃ z : ti_M, z = uY M_41 60 47 (upd (tY M_41 60 47) (x_23 : Int32).toNatClampNeg x_42) := ⟨_, rfl⟩
        have hw := hw.to hM_43.symm
        have iM_43 : mI Tm M_43 := mI_up (i := x_23.toNatClampNeg) iM_41 hM_43 trivial
        refine lv_aload_n hx hb dX10_copies_210 rfl (lv_at hl 3 rfl) ?_
        refine ti_get (ci := 10) (k := 48) (N := 67) (T := TX10) (v := .ref (A 60 49)) C hw iw_10 rfl ob_60 (by decide) (by decide) fl_X10_111 rfl rfl dX10_copies_211 ?_
        refine lv_iload hx hb dX10_copies_214 (lv_at hl 1 rfl) ?_
        refine lv_aload_n hx hb dX10_copies_216 rfl (lv_at hl 3 rfl) ?_
        refine ti_get (ci := 10) (k := 48) (N := 67) (T := TX10) (v := .ref (A 60 49)) C hw iw_10 rfl ob_60 (by decide) (by decide) fl_X10_111 rfl rfl dX10_copies_217 ?_
        refine lv_iload hx hb dX10_copies_220 (lv_at hl 0 rfl) ?_
        refine ti_iald (ci := 10) (k := 48) (n := 184) C hw ob_60 (by decide) (fun _ _ => rfl) (vp_in_iff.mpr (by omega)) dX10_copies_222 ?_
        refine lv_topi (fun x_44 ex_44 => ?_)
        have yx_44 : tY M_43 60 48 x_25.toNatClampNeg = x_44 := (ex_44.symm)
        have wx_44 : tY M_14 60 48 x_25.toNatClampNeg = x_44 := (((cg (tY_nE hM_43 (nk (by decide))) x_25.toNatClampNeg).trans ((cg (tY_nE hM_41 (nk (by decide))) x_25.toNatClampNeg).trans ((cg (tY_nE hM_39 (nk (by decide))) x_25.toNatClampNeg).trans ((cg (tY_nE hM_37 (nk (by decide))) x_25.toNatClampNeg).trans ((cg (tY_nE hM_35 (nk (by decide))) x_25.toNatClampNeg).trans ((cg (tY_nE hM_33 (nk (by decide))) x_25.toNatClampNeg).trans ((cg (tY_nE hM_31 (nk (by decide))) x_25.toNatClampNeg).trans ((cg (tY_nE hM_29 (nk (by decide))) x_25.toNatClampNeg).trans (cg (tY_nE hM_27 (nk (by decide))) x_25.toNatClampNeg)))))))))).symm.trans yx_44
        refine ti_iast (ci := 10) (k := 48) (n := 184) C hw ob_60 (by decide) (fun _ _ => rfl) (vp_in_iff.mpr (by omega)) dX10_copies_223 (fun H locs hw => ?_)
        obtain ⟨M_45, hM_45⟩ : ∃ z : ti_M, z = uY M_43 60 48 (upd (tY M_43 60 48) (x_23 : Int32).toNatClampNeg x_44) := ⟨_, rfl⟩
        have hw := hw.to hM_45.symm
        have iM_45 : mI Tm M_45 := mI_up (i := x_23.toNatClampNeg) iM_43 hM_45 trivial
        obtain ⟨x_46, ex_46⟩ : ∃ z : Int32, z = x_11 + 1 := ⟨_, rfl⟩
        have tx_46 : x_46.toInt = x_11.toInt + 1 := i_add ex_46 rfl (by decide) (by omega) (by omega)
        refine lv_iinc (v := x_46) (lv' := [(3, .int x_46), (5, .int x_25), (4, .int x_23), (0, .ref (A 60 0)), (1, .int to), (2, .int as)]) hx hb dX10_copies_224 hl (k := 2) rfl (by rw [ex_46]; rfl) (by decide) rfl (fun ls hl => ?_)
        refine lv_goto (tgt := 62) hx hb dX10_copies_227 (by decide) ?_
        exact ih_20 x_46 M_45 _ _ _ (by omega) (by first | omega | decide) (by first | omega | decide) iM_45 (lk.trans (lk_Y hM_45 (by decide)) (lk.trans (lk_Y hM_43 (by decide)) (lk.trans (lk_Y hM_41 (by decide)) (lk.trans (lk_Y hM_39 (by decide)) (lk.trans (lk_Y hM_37 (by decide)) (lk.trans (lk_Y hM_35 (by decide)) (lk.trans (lk_Y hM_33 (by decide)) (lk.trans (lk_Y hM_31 (by decide)) (lk.trans (lk_Y hM_29 (by decide)) (lk.trans (lk_Y hM_27 (by decide)) f_15)))))))))) (eR.trans (eR_Y hM_45 (bk_m (z := x_23) (by omega) (by decide))) (eR.trans (eR_Y hM_43 (bk_m (z := x_23) (by omega) (by decide))) (eR.trans (eR_Y hM_41 (bk_m (z := x_23) (by omega) (by decide))) (eR.trans (eR_Y hM_39 (bk_m (z := x_23) (by omega) (by decide))) (eR.trans (eR_Y hM_37 (bk_m (z := x_23) (by omega) (by decide))) (eR.trans (eR_Y hM_35 (bk_m (z := x_23) (by omega) (by decide))) (eR.trans (eR_Y hM_33 (bk_m (z := x_23) (by omega) (by decide))) (eR.trans (eR_Y hM_31 (bk_m (z := x_23) (by omega) (by decide))) (eR.trans (eR_Y hM_29 (bk_m (z := x_23) (by omega) (by decide))) (eR.trans (eR_Y hM_27 (bk_m (z := x_23) (by omega) (by decide))) f_16)))))))))) (cpq_s j_17 hM_27 yx_26 hM_29 yx_28 (qw.trans (qw_Y hM_45 (by decide)) (qw.trans (qw_Y hM_43 (by decide)) (qw.trans (qw_Y hM_41 (by decide)) (qw.trans (qw_Y hM_39 (by decide)) (qw.trans (qw_Y hM_37 (by decide)) (qw.trans (qw_Y hM_35 (by decide)) (qw.trans (qw_Y hM_33 (by decide)) (qw_Y hM_31 (by decide))))))))) (by show ((x_23.toInt.toNat : Nat) : Int) = 8 * ((to.toInt.toNat : Nat) : Int) + _; omega) (by show ((x_25.toInt.toNat : Nat) : Int) = 8 * ((as.toInt.toNat : Nat) : Int) + _; omega) (by show to.toInt.toNat ≠ as.toInt.toNat; omega) (by omega) (by omega) (by omega)) (cxh_k j_18 (fun k h1 h2 => ((tY_nE hM_45 (nk (by omega))).trans ((tY_nE hM_43 (nk (by omega))).trans ((tY_nE hM_41 (nk (by omega))).trans ((tY_nE hM_39 (nk (by omega))).trans ((tY_nE hM_37 (nk (by omega))).trans ((tY_nE hM_35 (nk (by omega))).trans ((tY_nE hM_33 (nk (by omega))).trans ((tY_nE hM_31 (nk (by omega))).trans ((tY_nE hM_29 (nk (by omega))).trans (tY_nE hM_27 (nk (by omega)))))))))))))) (by rw [show x_46.toInt.toNat = x_11.toInt.toNat + 1 by omega]; exact cxm_s (cx_row (k := 39) (by decide) j_19 f_16 (by omega) (by omega) (i_cl (by omega)) (i_cl (by omega)) ((((tY_nE hM_45 (nk (by decide))).trans ((tY_nE hM_43 (nk (by decide))).trans ((tY_nE hM_41 (nk (by decide))).trans ((tY_nE hM_39 (nk (by decide))).trans ((tY_nE hM_37 (nk (by decide))).trans ((tY_nE hM_35 (nk (by decide))).trans ((tY_nE hM_33 (nk (by decide))).trans ((tY_nE hM_31 (nk (by decide))).trans (tY_nE hM_29 (nk (by decide)))))))))))).trans (tY_uE hM_27)) yx_26 rfl) (cx_row (k := 40) (by decide) j_19 f_16 (by omega) (by omega) (i_cl (by omega)) (i_cl (by omega)) ((((tY_nE hM_45 (nk (by decide))).trans ((tY_nE hM_43 (nk (by decide))).trans ((tY_nE hM_41 (nk (by decide))).trans ((tY_nE hM_39 (nk (by decide))).trans ((tY_nE hM_37 (nk (by decide))).trans ((tY_nE hM_35 (nk (by decide))).trans ((tY_nE hM_33 (nk (by decide))).trans (tY_nE hM_31 (nk (by decide))))))))))).trans ((tY_uE hM_29).trans (congrArg (fun z => upd z _ _) ((tY_nE hM_27 (nk (by decide))))))) yx_28 ((tY_nE hM_27 (nk (by decide))))) (cx_row (k := 41) (by decide) j_19 f_16 (by omega) (by omega) (i_cl (by omega)) (i_cl (by omega)) ((((tY_nE hM_45 (nk (by decide))).trans ((tY_nE hM_43 (nk (by decide))).trans ((tY_nE hM_41 (nk (by decide))).trans ((tY_nE hM_39 (nk (by decide))).trans ((tY_nE hM_37 (nk (by decide))).trans ((tY_nE hM_35 (nk (by decide))).trans (tY_nE hM_33 (nk (by decide)))))))))).trans ((tY_uE hM_31).trans (congrArg (fun z => upd z _ _) (((tY_nE hM_29 (nk (by decide))).trans (tY_nE hM_27 (nk (by decide)))))))) yx_30 (((tY_nE hM_29 (nk (by decide))).trans (tY_nE hM_27 (nk (by decide)))))) (cx_row (k := 42) (by decide) j_19 f_16 (by omega) (by omega) (i_cl (by omega)) (i_cl (by omega)) ((((tY_nE hM_45 (nk (by decide))).trans ((tY_nE hM_43 (nk (by decide))).trans ((tY_nE hM_41 (nk (by decide))).trans ((tY_nE hM_39 (nk (by decide))).trans ((tY_nE hM_37 (nk (by decide))).trans (tY_nE hM_35 (nk (by decide))))))))).trans ((tY_uE hM_33).trans (congrArg (fun z => upd z _ _) (((tY_nE hM_31 (nk (by decide))).trans ((tY_nE hM_29 (nk (by decide))).trans (tY_nE hM_27 (nk (by decide))))))))) yx_32 (((tY_nE hM_31 (nk (by decide))).trans ((tY_nE hM_29 (nk (by decide))).trans (tY_nE hM_27 (nk (by decide))))))) (cx_row (k := 43) (by decide) j_19 f_16 (by omega) (by omega) (i_cl (by omega)) (i_cl (by omega)) ((((tY_nE hM_45 (nk (by decide))).trans ((tY_nE hM_43 (nk (by decide))).trans ((tY_nE hM_41 (nk (by decide))).trans ((tY_nE hM_39 (nk (by decide))).trans (tY_nE hM_37 (nk (by decide)))))))).trans ((tY_uE hM_35).trans (congrArg (fun z => upd z _ _) (((tY_nE hM_33 (nk (by decide))).trans ((tY_nE hM_31 (nk (by decide))).trans ((tY_nE hM_29 (nk (by decide))).trans (tY_nE hM_27 (nk (by decide)))))))))) yx_34 (((tY_nE hM_33 (nk (by decide))).trans ((tY_nE hM_31 (nk (by decide))).trans ((tY_nE hM_29 (nk (by decide))).trans (tY_nE hM_27 (nk (by decide)))))))) (cx_row (k := 44) (by decide) j_19 f_16 (by omega) (by omega) (i_cl (by omega)) (i_cl (by omega)) ((((tY_nE hM_45 (nk (by decide))).trans ((tY_nE hM_43 (nk (by decide))).trans ((tY_nE hM_41 (nk (by decide))).trans (tY_nE hM_39 (nk (by decide))))))).trans ((tY_uE hM_37).trans (congrArg (fun z => upd z _ _) (((tY_nE hM_35 (nk (by decide))).trans ((tY_nE hM_33 (nk (by decide))).trans ((tY_nE hM_31 (nk (by decide))).trans ((tY_nE hM_29 (nk (by decide))).trans (tY_nE hM_27 (nk (by decide))))))))))) yx_36 (((tY_nE hM_35 (nk (by decide))).trans ((tY_nE hM_33 (nk (by decide))).trans ((tY_nE hM_31 (nk (by decide))).trans ((tY_nE hM_29 (nk (by decide))).trans (tY_nE hM_27 (nk (by decide))))))))) (cx_row (k := 45) (by decide) j_19 f_16 (by omega) (by omega) (i_cl (by omega)) (i_cl (by omega)) ((((tY_nE hM_45 (nk (by decide))).trans ((tY_nE hM_43 (nk (by decide))).trans (tY_nE hM_41 (nk (by decide)))))).trans ((tY_uE hM_39).trans (congrArg (fun z => upd z _ _) (((tY_nE hM_37 (nk (by decide))).trans ((tY_nE hM_35 (nk (by decide))).trans ((tY_nE hM_33 (nk (by decide))).trans ((tY_nE hM_31 (nk (by decide))).trans ((tY_nE hM_29 (nk (by decide))).trans (tY_nE hM_27 (nk (by decide)))))))))))) yx_38 (((tY_nE hM_37 (nk (by decide))).trans ((tY_nE hM_35 (nk (by decide))).trans ((tY_nE hM_33 (nk (by decide))).trans ((tY_nE hM_31 (nk (by decide))).trans ((tY_nE hM_29 (nk (by decide))).trans (tY_nE hM_27 (nk (by decide)))))))))) (cx_row (k := 46) (by decide) j_19 f_16 (by omega) (by omega) (i_cl (by omega)) (i_cl (by omega)) ((((tY_nE hM_45 (nk (by decide))).trans (tY_nE hM_43 (nk (by decide))))).trans ((tY_uE hM_41).trans (congrArg (fun z => upd z _ _) (((tY_nE hM_39 (nk (by decide))).trans ((tY_nE hM_37 (nk (by decide))).trans ((tY_nE hM_35 (nk (by decide))).trans ((tY_nE hM_33 (nk (by decide))).trans ((tY_nE hM_31 (nk (by decide))).trans ((tY_nE hM_29 (nk (by decide))).trans (tY_nE hM_27 (nk (by decide))))))))))))) yx_40 (((tY_nE hM_39 (nk (by decide))).trans ((tY_nE hM_37 (nk (by decide))).trans ((tY_nE hM_35 (nk (by decide))).trans ((tY_nE hM_33 (nk (by decide))).trans ((tY_nE hM_31 (nk (by decide))).trans ((tY_nE hM_29 (nk (by decide))).trans (tY_nE hM_27 (nk (by decide))))))))))) (cx_row (k := 47) (by decide) j_19 f_16 (by omega) (by omega) (i_cl (by omega)) (i_cl (by omega)) (((tY_nE hM_45 (nk (by decide)))).trans ((tY_uE hM_43).trans (congrArg (fun z => upd z _ _) (((tY_nE hM_41 (nk (by decide))).trans ((tY_nE hM_39 (nk (by decide))).trans ((tY_nE hM_37 (nk (by decide))).trans ((tY_nE hM_35 (nk (by decide))).trans ((tY_nE hM_33 (nk (by decide))).trans ((tY_nE hM_31 (nk (by decide))).trans ((tY_nE hM_29 (nk (by decide))).trans (tY_nE hM_27 (nk (by decide)))))))))))))) yx_42 (((tY_nE hM_41 (nk (by decide))).trans ((tY_nE hM_39 (nk (by decide))).trans ((tY_nE hM_37 (nk (by decide))).trans ((tY_nE hM_35 (nk (by decide))).trans ((tY_nE hM_33 (nk (by decide))).trans ((tY_nE hM_31 (nk (by decide))).trans ((tY_nE hM_29 (nk (by decide))).trans (tY_nE hM_27 (nk (by decide)))))))))))) (cx_row (k := 48) (by decide) j_19 f_16 (by omega) (by omega) (i_cl (by omega)) (i_cl (by omega)) ((tY_uE hM_45).trans (congrArg (fun z => upd z _ _) (((tY_nE hM_43 (nk (by decide))).trans ((tY_nE hM_41 (nk (by decide))).trans ((tY_nE hM_39 (nk (by decide))).trans ((tY_nE hM_37 (nk (by decide))).trans ((tY_nE hM_35 (nk (by decide))).trans ((tY_nE hM_33 (nk (by decide))).trans ((tY_nE hM_31 (nk (by decide))).trans ((tY_nE hM_29 (nk (by decide))).trans (tY_nE hM_27 (nk (by decide)))))))))))))) yx_44 (((tY_nE hM_43 (nk (by decide))).trans ((tY_nE hM_41 (nk (by decide))).trans ((tY_nE hM_39 (nk (by decide))).trans ((tY_nE hM_37 (nk (by decide))).trans ((tY_nE hM_35 (nk (by decide))).trans ((tY_nE hM_33 (nk (by decide))).trans ((tY_nE hM_31 (nk (by decide))).trans ((tY_nE hM_29 (nk (by decide))).trans (tY_nE hM_27 (nk (by decide)))))))))))))) hw (lv_sub hl [0, 3, 4, 5] rfl)
  exact hl_62_19 ((8 - 0 : Int).toNat + 1) 0 M_10 _ _ _ (Nat.lt_succ_self _) (by have lt0 : (0 : Int32).toInt = 0 := (by decide); first | omega | decide) (by have lt0 : (0 : Int32).toInt = 0 := (by decide); first | omega | decide) iM_10 (lk.trans (lk_Y hM_10 (by decide)) (lk.trans (lk_Y hM_8 (by decide)) (lk.trans (lk_Y hM_6 (by decide)) (lk.trans (lk_Y hM_4 (by decide)) (lk_Y hM_2 (by decide)))))) (eR.trans (eR_Y hM_10 (bk_q (z := to) (by omega) (by decide))) (eR.trans (eR_Y hM_8 (bk_q (z := to) (by omega) (by decide))) (eR.trans (eR_Y hM_6 (bk_q (z := to) (by omega) (by decide))) (eR.trans (eR_Y hM_4 (bk_q (z := to) (by omega) (by decide))) (eR_Y hM_2 (bk_q (z := to) (by omega) (by decide))))))) (cpq_0 (qw.trans (qw_Y hM_8 (by decide)) (qw.trans (qw_Y hM_6 (by decide)) (qw.trans (qw_Y hM_4 (by decide)) (qw_Y hM_2 (by decide))))) hM_10 rfl rfl (wx_9)) ⟨(cx_h1 ((((tY_nE hM_10 (nk (by decide))).trans ((tY_nE hM_8 (nk (by decide))).trans ((tY_nE hM_6 (nk (by decide))).trans (tY_nE hM_4 (nk (by decide))))))).trans (tY_uE hM_2)) yx_1 rfl (i_cl (by omega)) (i_cl (by omega))), (cx_h1 ((((tY_nE hM_10 (nk (by decide))).trans ((tY_nE hM_8 (nk (by decide))).trans (tY_nE hM_6 (nk (by decide)))))).trans ((tY_uE hM_4).trans (congrArg (fun z => upd z _ _) ((tY_nE hM_2 (nk (by decide))))))) yx_3 ((tY_nE hM_2 (nk (by decide)))) (i_cl (by omega)) (i_cl (by omega))), (cx_h1 ((((tY_nE hM_10 (nk (by decide))).trans (tY_nE hM_8 (nk (by decide))))).trans ((tY_uE hM_6).trans (congrArg (fun z => upd z _ _) (((tY_nE hM_4 (nk (by decide))).trans (tY_nE hM_2 (nk (by decide)))))))) yx_5 (((tY_nE hM_4 (nk (by decide))).trans (tY_nE hM_2 (nk (by decide))))) (i_cl (by omega)) (i_cl (by omega))), (cx_h1 (((tY_nE hM_10 (nk (by decide)))).trans ((tY_uE hM_8).trans (congrArg (fun z => upd z _ _) (((tY_nE hM_6 (nk (by decide))).trans ((tY_nE hM_4 (nk (by decide))).trans (tY_nE hM_2 (nk (by decide))))))))) yx_7 (((tY_nE hM_6 (nk (by decide))).trans ((tY_nE hM_4 (nk (by decide))).trans (tY_nE hM_2 (nk (by decide)))))) (i_cl (by omega)) (i_cl (by omega))), (cx_h1 ((tY_uE hM_10).trans (congrArg (fun z => upd z _ _) (((tY_nE hM_8 (nk (by decide))).trans ((tY_nE hM_6 (nk (by decide))).trans ((tY_nE hM_4 (nk (by decide))).trans (tY_nE hM_2 (nk (by decide))))))))) yx_9 (((tY_nE hM_8 (nk (by decide))).trans ((tY_nE hM_6 (nk (by decide))).trans ((tY_nE hM_4 (nk (by decide))).trans (tY_nE hM_2 (nk (by decide))))))) (i_cl (by omega)) (i_cl (by omega)))⟩ cxm_0 hw (lv_sub hl [0, 1, 2, 3] rfl)
end
section
variable {Tc : gC} {Tm : gM}
/-- all objects but the queues, the steps, the image keep ints and rows (the holders' log apart), and what is told stays -/
def kG (N M : ti_M) : Prop := (∀ o k : Nat, o < 27 ∨ 48 < o → tI N o k = tI M o k ∧ (¬ (o = 0 ∧ k = 4) → tY N o k = tY M o k)) ∧ tT N 0 1 = tT M 0 1 ∧ tT N 0 2 = tT M 0 2 ∧ tT N 49 0 = tT M 49 0
theorem kG.refl {M : ti_M} : kG M M := ⟨fun _ _ _ => ⟨rfl, fun _ => rfl⟩, rfl, rfl, rfl⟩
theorem kG.trans {K N M : ti_M} (x : kG K N) (y : kG N M) : kG K M := ⟨fun o k h => ⟨(x.1 o k h).1.trans (y.1 o k h).1, fun q => ((x.1 o k h).2 q).trans ((y.1 o k h).2 q)⟩, x.2.1.trans y.2.1, x.2.2.1.trans y.2.2.1, x.2.2.2.trans y.2.2.2⟩
/-- the holders' log of the class: 120 a power -/
def pC (p : Nat → Int) (M : ti_M) : Prop := ∀ i : Nat, i < 360 → p i = (tY M 0 4 i).toInt
/-- the ring: c entries, the eldest first -/
def rg5 (t : Nat) (u : Nat → Nat → Int) (c : Int) (M : ti_M) : Prop := (tI M 28 2).toInt = c ∧ ∀ i : Nat, (i : Int) < c → qC (29 + ((tI M 28 1).toInt.toNat + i) % 20) (u i) M ∧ tT M (29 + ((tI M 28 1).toInt.toNat + i) % 20) 0 = some t
/-- a state is remembered; the eldest of twenty goes -/
def bq_rb (u : Nat → Nat → Int) (c : Int) (s : Nat → Int) (i : Nat) : Nat → Int := if c < 20 then (if (i : Int) = c then s else u i) else (if i = 19 then s else u (i + 1))
def bq_rc (c : Int) : Int := if c < 20 then c + 1 else c
/-- the class between calls: what is told, the queue that is, the ring, the log -/
def kC (t : Nat) (tx s : Nat → Int) (u : Nat → Nat → Int) (c : Int) (p : Nat → Int) (M : ti_M) : Prop := tC t tx M ∧ tT M 0 1 = some t ∧ tT M 27 0 = some t ∧ qC 27 s M ∧ rg5 t u c M ∧ pC p M
section
variable {t : Nat} {tx s s2 p p2 : Nat → Int} {u : Nat → Nat → Int} {c : Int} {K N M : ti_M}
theorem kG_eo (E : eo 27 N M) (T : N.2.2.2 = M.2.2.2) : kG N M := ⟨fun o k h => ⟨E.1 o k (by omega), fun _ => E.2 o k (by omega)⟩, tT_fr T, tT_fr T, tT_fr T⟩
theorem fX_eo (E : eo 27 N M) : fX N M := fun k => ⟨E.1 0 k (by decide), E.1 2 k (by decide), E.1 28 k (by decide), fun o h => E.1 o k (by omega)⟩
theorem qC_same {q : Nat} (h : qC q s M) (e : ∀ k : Nat, tI N q k = tI M q k ∧ tY N q k = tY M q k) : qC q s N := ⟨fun k h1 h2 => by rw [(e k).1]; exact h.1 k h1 h2, fun k i h1 h2 hi h7 => by rw [(e k).2]; exact h.2 k i h1 h2 hi h7⟩
theorem rg5_to (h : rg5 t u c M) (e : ∀ o k : Nat, 28 ≤ o → o ≤ 48 → tI N o k = tI M o k ∧ tY N o k = tY M o k) (eT : ∀ o : Nat, 29 ≤ o → o ≤ 48 → tT N o 0 = tT M o 0) : rg5 t u c N := by
  refine ⟨by rw [(e 28 2 (by decide) (by decide)).1]; exact h.1, fun i hi => ?_⟩
  rw [(e 28 1 (by decide) (by decide)).1]
  have b : ((tI M 28 1).toInt.toNat + i) % 20 < 20 := Nat.mod_lt _ (by decide)
  exact ⟨qC_same (h.2 i hi).1 (fun k => e _ k (by omega) (by omega)), (eT _ (by omega) (by omega)).trans (h.2 i hi).2⟩
theorem pC_to (h : pC p M) (e : tY N 0 4 = tY M 0 4) : pC p N := fun i hi => by rw [e]; exact h i hi
theorem pC_Y {i v : Int32} {j : Nat} {z : Int} (h : pC p M) (hi : i.toInt = (j : Int)) (hv : v.toInt = z) (e : N = uY M 0 4 (upd (tY M 0 4) i.toNatClampNeg v)) : pC (pp_su p j z) N := by
  rw [i_cl hi] at e
  intro k hk
  rw [tY_uE e]
  by_cases r : k = j
  · subst r; rw [su_s, pk_us, hv]
  · rw [su_n r, pk_un r]; exact h k hk
theorem k27 {o ci : Nat} (hc : ti_cls o = ci) (h : ci = 1 ∨ ci = 2 ∨ ci = 8) : 1 ≤ o ∧ o < 27 := by
  unfold ti_cls at hc
  repeat' split at hc
  all_goals omega
theorem tC_lo (ht : t = 3 ∨ t = 4) (h : tC t tx M) (e : ∀ o k : Nat, 1 ≤ o → o < 27 → tI N o k = tI M o k ∧ tY N o k = tY M o k) : tC t tx N := by
  have e2 : ∀ i : Nat, i < 8 → 1 ≤ ti_men t i ∧ ti_men t i < 27 := fun i hi => k27 (ob_m ht hi).1 (by decide)
  have e3 : ∀ i : Nat, i < 3 → 1 ≤ ti_laws t i ∧ ti_laws t i < 27 := fun i hi => k27 (ob_l ht hi).1 (by decide)
  refine ⟨fun k h1 h2 => ?_, fun i hi => ?_, fun i k hi h1 h2 => ?_, fun j hj => ⟨?_, fun n hn => ?_⟩⟩
  · rw [(e t k (by omega) (by omega)).1]; exact h.1 k h1 h2
  · rw [(e t 1 (by omega) (by omega)).2]; exact h.2.1 i hi
  · rw [(e _ k (e2 i hi).1 (e2 i hi).2).1]; exact h.2.2.1 i k hi h1 h2
  · rw [(e _ 3 (e3 j hj).1 (e3 j hj).2).1]; exact (h.2.2.2 j hj).1
  · rw [(e _ 0 (e3 j hj).1 (e3 j hj).2).2]; exact (h.2.2.2 j hj).2 n hn
theorem tC_kG (ht : t = 3 ∨ t = 4) (h : tC t tx M) (e : kG N M) : tC t tx N := tC_lo ht h (fun o k a b => ⟨(e.1 o k (by omega)).1, (e.1 o k (by omega)).2 (by omega)⟩)
theorem kC_eo (ht : t = 3 ∨ t = 4) (h : kC t tx s u c p M) (E : eo 27 N M) (T : N.2.2.2 = M.2.2.2) (hq : qC 27 s2 N) : kC t tx s2 u c p N :=
  ⟨tC_eo ht ob_27.1 h.1 E, (tT_fr T).trans h.2.1, (tT_fr T).trans h.2.2.1, hq, rg5_to h.2.2.2.2.1 (fun o k a b => ⟨E.1 o k (by omega), E.2 o k (by omega)⟩) (fun _ _ _ => tT_fr T), pC_to h.2.2.2.2.2 (E.2 0 4 (by decide))⟩
/-- a state remembered -/
theorem kC_rem {i kk : Nat} {f n f2 n2 v : Int32} (ht : t = 3 ∨ t = 4) (h : kC t tx s u c p M) (E : eo (29 + i) K M) (eT : N.2.2.2 = (uT M (29 + i) 0 (some t)).2.2.2) (eN : N = uI K 28 kk v) (hf : tI M 28 1 = f) (hn : tI M 28 2 = n) (b1 : 0 ≤ f.toInt) (b2 : f.toInt ≤ 19) (b3 : 0 ≤ n.toInt) (b4 : n.toInt ≤ 20) (hi : (i : Int) = (f.toInt + n.toInt) % 20) (hq : qC (29 + i) s K) (hf2 : tI N 28 1 = f2) (hn2 : tI N 28 2 = n2)
    (hh : (n.toInt < 20 ∧ f2.toInt = f.toInt ∧ n2.toInt = n.toInt + 1) ∨ (n.toInt = 20 ∧ n2.toInt = 20 ∧ f2.toInt = (f.toInt + 1) % 20)) : kG N M ∧ kC t tx s (bq_rb u c s) (bq_rc c) p N := by
  have hi20 : i < 20 := by omega
  have keep : ∀ o k : Nat, ¬ (k = 0 ∧ o = 29 + i) → tT N o k = tT M o k := fun o k q => (tT_fr eT).trans (tT_n _ _ _ _ q)
  have new : tT N (29 + i) 0 = some t := (tT_fr eT).trans (tT_u _ _ _ _)
  have hK : ∀ o k : Nat, o ≠ 28 → o ≠ 29 + i → tI N o k = tI M o k ∧ tY N o k = tY M o k := fun o k a b => ⟨(tI_nE eN (no a)).trans (E.1 o k b), (tY_uIE eN).trans (E.2 o k b)⟩
  have hG : kG N M := ⟨fun o k a => ⟨(hK o k (by omega) (by omega)).1, fun _ => (hK o k (by omega) (by omega)).2⟩, keep 0 1 (by omega), keep 0 2 (by omega), keep 49 0 (by omega)⟩
  have hq2 : qC (29 + i) s N := qC_same hq (fun k => ⟨tI_nE eN (no (by omega)), tY_uIE eN⟩)
  obtain ⟨h1, h2, h3, h4, ⟨h5, h6⟩, h7⟩ := h
  rw [hn] at h5
  rw [hf] at h6
  refine ⟨hG, tC_kG ht h1 hG, (keep 0 1 (by omega)).trans h2, (keep 27 0 (by omega)).trans h3, qC_same h4 (fun k => hK 27 k (by omega) (by omega)), ⟨?_, fun j hj => ?_⟩, pC_to h7 (hK 0 4 (by omega) (by omega)).2⟩
  · unfold bq_rc
    rw [hn2]
    rcases hh with ⟨a0, a1, a2⟩ | ⟨a0, a1, a2⟩ <;> split <;> omega
  · rw [hf2]
    unfold bq_rc at hj
    unfold bq_rb
    rcases hh with ⟨a0, a1, a2⟩ | ⟨a0, a1, a2⟩
    · rw [if_pos (by omega)] at hj
      rw [if_pos (by omega)]
      by_cases q : (j : Int) = c
      · rw [if_pos q, show (f2.toInt.toNat + j) % 20 = i by omega]
        exact ⟨hq2, new⟩
      · rw [if_neg q, show (f2.toInt.toNat + j) % 20 = (f.toInt.toNat + j) % 20 by omega]
        have x := h6 j (by omega)
        exact ⟨qC_same x.1 (fun k => hK _ k (by omega) (by omega)), (keep _ _ (by omega)).trans x.2⟩
    · rw [if_neg (by omega)] at hj
      rw [if_neg (by omega)]
      by_cases q : j = 19
      · rw [if_pos q, show (f2.toInt.toNat + j) % 20 = i by omega]
        exact ⟨hq2, new⟩
      · rw [if_neg q, show (f2.toInt.toNat + j) % 20 = (f.toInt.toNat + (j + 1)) % 20 by omega]
        have x := h6 (j + 1) (by omega)
        exact ⟨qC_same x.1 (fun k => hK _ k (by omega) (by omega)), (keep _ _ (by omega)).trans x.2⟩
/-- the latest entry of the ring -/
theorem kC_get {i : Nat} {f n : Int32} (h : kC t tx s u c p M) (hf : tI M 28 1 = f) (hn : tI M 28 2 = n) (b1 : 0 ≤ f.toInt) (b3 : 0 < n.toInt) (b4 : n.toInt ≤ 20) (hi : (i : Int) = (f.toInt + (n.toInt - 1)) % 20) : qC (29 + i) (u (c - 1).toNat) M ∧ tT M (29 + i) 0 = some t := by
  obtain ⟨-, -, -, -, ⟨h5, h6⟩, -⟩ := h
  rw [hn] at h5
  rw [hf] at h6
  have x := h6 (c - 1).toNat (by omega)
  rwa [show (f.toInt.toNat + (c - 1).toNat) % 20 = i by omega] at x
theorem kC_tb {n n2 : Int32} (ht : t = 3 ∨ t = 4) (h : kC t tx s u c p M) (eK : K = uI M 28 2 n2) (E : eo 27 N K) (eT : N.2.2.2 = (uT M 27 0 (some t)).2.2.2) (hn : tI M 28 2 = n) (b3 : 0 < n.toInt) (e2 : n2.toInt = n.toInt - 1) (hq : qC 27 s2 N) : kG N M ∧ kC t tx s2 u (c - 1) p N := by
  have keep : ∀ o k : Nat, ¬ (k = 0 ∧ o = 27) → tT N o k = tT M o k := fun o k q => (tT_fr eT).trans (tT_n _ _ _ _ q)
  have hK : ∀ o k : Nat, o ≠ 28 → o ≠ 27 → tI N o k = tI M o k ∧ tY N o k = tY M o k := fun o k a b => ⟨(E.1 o k b).trans (tI_nE eK (no a)), (E.2 o k b).trans (tY_uIE eK)⟩
  have hG : kG N M := ⟨fun o k a => ⟨(hK o k (by omega) (by omega)).1, fun _ => (hK o k (by omega) (by omega)).2⟩, keep 0 1 (by omega), keep 0 2 (by omega), keep 49 0 (by omega)⟩
  obtain ⟨h1, h2, h3, h4, ⟨h5, h6⟩, h7⟩ := h
  rw [hn] at h5
  have e1 : tI N 28 1 = tI M 28 1 := (E.1 28 1 (by decide)).trans (tI_nE eK (nk (by decide)))
  refine ⟨hG, tC_kG ht h1 hG, (keep 0 1 (by omega)).trans h2, (tT_fr eT).trans (tT_u _ _ _ _), hq, ⟨?_, fun j hj => ?_⟩, pC_to h7 (hK 0 4 (by omega) (by omega)).2⟩
  · rw [(E.1 28 2 (by decide)).trans (tI_uE eK)]; omega
  · rw [e1]
    have x := h6 j (by omega)
    exact ⟨qC_same x.1 (fun k => hK _ k (by omega) (by omega)), (keep _ _ (by omega)).trans x.2⟩
end
/-- holders written down for a minute -/
def bq_hp (s : Nat → Int) (mi : Nat) (p : Nat → Int) : Nat → Int := pp_su (pp_su (pp_su p mi (bq_ma s (s 112))) (120 + mi) (bq_ma s (s 113))) (240 + mi) (bq_ma s (s 114))
/-- holders written down while minutes go by -/
def bq_gh (tx : Nat → Int) : Nat → (Nat → Int) → (Nat → Int) → Nat → Int
  | 0, _, p => p
  | f + 1, s, p => bq_gh tx f (bq_ps tx s) (bq_hp (bq_ps tx s) (s 2).toNat p)
theorem gh_go {tx : Nat → Int} {f f' : Nat} {s p : Nat → Int} (e : f = f' + 1) : bq_gh tx f s p = bq_gh tx f' (bq_ps tx s) (bq_hp (bq_ps tx s) (s 2).toNat p) := by subst e; rfl
/-- coin given for a place -/
def bq_s1w (s : Nat → Int) (a b k : Int) : Nat → Int := pp_su (bq_ex s a b) (192 + a.toNat) (bw (bq_ex s a b (192 + a.toNat) - k))
def bq_sw (s : Nat → Int) (a b k : Int) : Nat → Int := pp_su (bq_s1w s a b k) (192 + b.toNat) (bw (bq_s1w s a b k (192 + b.toNat) + k))
set_option maxHeartbeats 4000000 in
set_option maxRecDepth 100000 in
theorem z_X5_remember (l : Launch) (D : va_G) (A : Nat → Nat → Nat) (cy : Nat → ClassId) (hJ : ti_inj ti_LT A) (M : ti_M) (hI : cI Tc M) (hF : cF Tc M) (t : Nat) (ht : t = 3 ∨ t = 4) (tx rg lp : Nat → Int) (ug : Nat → Nat → Int) (cu : Int) (hk : kC t tx rg ug cu lp M) : ti_Kv l yX5_remember cX5_remember 2 2 ti_LT D A cy M [.ref (A 28 0), .ref (A 27 0)] (fun M2 => cF Tc M2 ∧ kG M2 M ∧ kC t tx rg (bq_rb ug cu rg) (bq_rc cu) lp M2) := by
  refine ti_eV yp_X5_remember hJ ti_LT_nd (Nat.le_of_ble_eq_true rfl) ?_
  intro p e s m args below meth c Q H0 C hQ hw ls hl
  have hx := C.1
  have hb := C.2.1
  have hl : lv_has ls 2 [(0, .ref (A 28 0)), (1, .ref (A 27 0))] := hl
  obtain ⟨htx, hT1, hT, hs, hr, hp0⟩ := id hk
  have l4 : 0 ≤ tx 4 ∧ tx 4 ≤ 8 := by rw [htx.1 4 (by decide) (by decide)]; exact cI_rd (k := 4) hI (ob_t ht).1 rfl
  have h4 : tx 4 = (tI M t 4).toInt := htx.1 4 (by decide) (by decide)
  refine lv_aload_n hx hb dX5_remember_0 rfl (lv_at hl 0 rfl) ?_
  refine ti_get (ci := 5) (k := 0) (N := 3) (T := TX5) (v := .ref (A 28 1)) C hw iw_5 rfl ob_28 (by decide) (by decide) fl_X5_11 rfl rfl dX5_remember_1 ?_
  refine lv_aload_n hx hb dX5_remember_4 rfl (lv_at hl 0 rfl) ?_
  refine ti_get (ci := 5) (k := 1) (N := 3) (T := TX5) C hw iw_5 rfl ob_28 (by decide) (by decide) fl_X5_17 rfl rfl dX5_remember_5 ?_
  refine lv_topi (fun x_1 ex_1 => ?_)
  have bx_1 : 0 ≤ x_1.toInt ∧ x_1.toInt ≤ 19 := cI_rd hI ob_28.1 ex_1
  have ux_1 : (tI M 28 1).toInt = x_1.toInt := by rw [ex_1]
  refine lv_aload_n hx hb dX5_remember_8 rfl (lv_at hl 0 rfl) ?_
  refine ti_get (ci := 5) (k := 2) (N := 3) (T := TX5) C hw iw_5 rfl ob_28 (by decide) (by decide) fl_X5_21 rfl rfl dX5_remember_9 ?_
  refine lv_topi (fun x_2 ex_2 => ?_)
  have bx_2 : 0 ≤ x_2.toInt ∧ x_2.toInt ≤ 20 := cI_rd hI ob_28.1 ex_2
  have ux_2 : (tI M 28 2).toInt = x_2.toInt := by rw [ex_2]
  refine lv_iadd hx hb dX5_remember_12 ?_
  refine lv_topi (fun x_3 ex_3 => ?_)
  have tx_3 : x_3.toInt = x_1.toInt + x_2.toInt := i_add ex_3 rfl rfl (by omega) (by omega)
  refine lv_bipush (v := 20) hx hb dX5_remember_13 (by decide) ?_
  refine lv_irem hx hb dX5_remember_15 (by decide) ?_
  refine lv_topi (fun x_4 ex_4 => ?_)
  have bx_4 := i_rem ex_4 rfl (by decide : (20 : Int32).toInt = 20) (by omega) (by decide)
  refine ti_aald (ci := 5) (k := 0) (n := 20) (t0 := 6) (Cn := RX3) (gg := (fun i => 29 + i)) (j := x_4.toNatClampNeg) C hw ob_28 (by decide) (fun _ _ => rfl) rfl (vp_in_iff.mpr (by omega)) rfl dX5_remember_16 ?_
  have ob_5 : ti_ob ti_LT (29 + x_4.toNatClampNeg) 3 := ob_r (i_nt rfl (by omega) (by omega))
  refine lv_aload_n hx hb dX5_remember_17 rfl (lv_at hl 1 rfl) ?_
  refine ti_callVv (ci := 3) (av := [.ref (A 27 0)]) C hw (z_X3_copy l D A cy hJ M hI (29 + x_4.toNatClampNeg) 27 t ob_5 ob_27 ht (hT) (fun _ => Or.inl rfl) (by omega) rg hs) ⟨ml_X5_25, ym_X3_copy, yv_X3_copy, yi_X3_copy, yc_X3_copy⟩ yd_X3_copy ob_5 (by decide) rfl rfl hl.1 (Nat.le_of_ble_eq_true rfl) ⟨by decide, by decide⟩ ⟨Nat.zero_le _, Nat.zero_le _⟩ dX5_remember_18 (fun M_7 H locs hp_7 hw => ?_)
  obtain ⟨iM_7, q_8, q_9, hs_10⟩ := hp_7
  refine lv_aload_n hx hb dX5_remember_21 rfl (lv_at hl 0 rfl) ?_
  refine ti_get (ci := 5) (k := 2) (N := 3) (T := TX5) C hw iw_5 rfl ob_28 (by decide) (by decide) fl_X5_21 rfl rfl dX5_remember_22 ?_
  refine ti_top (y := x_2) (((q_9.1 28 2 (cls_ne ob_28.1 ob_5.1 (by decide)))).trans ex_2.symm) ?_
  have u_11 : (tI M_7 28 2).toInt = (x_2 : Int32).toInt := by rw [(((q_9.1 28 2 (cls_ne ob_28.1 ob_5.1 (by decide)))).trans ex_2.symm)]
  refine lv_bipush (v := 20) hx hb dX5_remember_25 (by decide) ?_
  refine sb_icmp_ge (tgt := 43) hx hb rfl (by decide : (20 : Int32).toInt = 20) dX5_remember_27 (by decide) (fun c_27_11 => ?_) (fun c_27_11 => ?_)
  · refine lv_aload_n hx hb dX5_remember_43 rfl (lv_at hl 0 rfl) ?_
    refine lv_aload_n hx hb dX5_remember_44 rfl (lv_at hl 0 rfl) ?_
    refine ti_get (ci := 5) (k := 1) (N := 3) (T := TX5) C hw iw_5 rfl ob_28 (by decide) (by decide) fl_X5_17 rfl rfl dX5_remember_45 ?_
    refine ti_top (y := x_1) (((q_9.1 28 1 (cls_ne ob_28.1 ob_5.1 (by decide)))).trans ex_1.symm) ?_
    have u_16 : (tI M_7 28 1).toInt = (x_1 : Int32).toInt := by rw [(((q_9.1 28 1 (cls_ne ob_28.1 ob_5.1 (by decide)))).trans ex_1.symm)]
    refine lv_iconst (v := 1) hx hb dX5_remember_48 (by decide) ?_
    refine lv_iadd hx hb dX5_remember_49 ?_
    refine lv_topi (fun x_17 ex_17 => ?_)
    have tx_17 : x_17.toInt = x_1.toInt + 1 := i_add ex_17 rfl (by decide : (1 : Int32).toInt = 1) (by omega) (by omega)
    refine lv_bipush (v := 20) hx hb dX5_remember_50 (by decide) ?_
    refine lv_irem hx hb dX5_remember_52 (by decide) ?_
    refine lv_topi (fun x_18 ex_18 => ?_)
    have bx_18 := i_rem ex_18 rfl (by decide : (20 : Int32).toInt = 20) (by omega) (by decide)
    refine ti_putI (ci := 5) (k := 1) (N := 3) (T := TX5) C hw iw_5 tyX5 tyX5_ok nmX5 rfl ob_28 (by decide) (by decide) fl_X5_17 rfl rfl rfl rfl (fn_5 A _) fs_5_1 dX5_remember_53 (fun H locs hw => ?_)
    obtain ⟨M_19, hM_19⟩ : ∃ z : ti_M, z = uI M_7 28 1 x_18 := ⟨_, rfl⟩
    have hw := hw.to hM_19.symm
    have iM_19 : cI Tc M_19 := cI_uI iM_7 hM_19 ob_28.1 (ib_mk (lo := 0) (hi := 19) (by omega) (by omega))
    have vM_19 : (tI M_19 28 1).toInt = (x_18 : Int32).toInt := by rw [tI_uE hM_19]
    exact hQ _ _ _ _ _ hw (⟨cF_rem hF iM_19 ht ((rf_I hM_19).trans q_8) (ex_1.symm) (ex_2.symm) (by omega) (by omega) (by omega) (by omega) (by show ((x_4.toInt.toNat : Nat) : Int) = _; omega) (fun k => (tI_nE hM_19 (no (by decide))).trans (q_9.1 0 k (by omega))) (tI_uE hM_19) ((tI_nE hM_19 (nk (by decide))).trans (((q_9.1 28 2 (cls_ne ob_28.1 ob_5.1 (by decide)))).trans ex_2.symm)) (Or.inr ⟨by omega, by omega, by omega⟩), kC_rem ht hk q_9 ((rf_I hM_19).trans q_8) hM_19 (ex_1.symm) (ex_2.symm) (by omega) (by omega) (by omega) (by omega) (by show ((x_4.toInt.toNat : Nat) : Int) = _; omega) hs_10 (tI_uE hM_19) ((tI_nE hM_19 (nk (by decide))).trans (((q_9.1 28 2 (cls_ne ob_28.1 ob_5.1 (by decide)))).trans ex_2.symm)) (Or.inr ⟨by omega, by omega, by omega⟩)⟩) dX5_remember_56
  · refine lv_aload_n hx hb dX5_remember_30 rfl (lv_at hl 0 rfl) ?_
    refine lv_dup hx hb dX5_remember_31 rfl ?_
    refine ti_get (ci := 5) (k := 2) (N := 3) (T := TX5) C hw iw_5 rfl ob_28 (by decide) (by decide) fl_X5_21 rfl rfl dX5_remember_32 ?_
    refine ti_top (y := x_2) (((q_9.1 28 2 (cls_ne ob_28.1 ob_5.1 (by decide)))).trans ex_2.symm) ?_
    have u_13 : (tI M_7 28 2).toInt = (x_2 : Int32).toInt := by rw [(((q_9.1 28 2 (cls_ne ob_28.1 ob_5.1 (by decide)))).trans ex_2.symm)]
    refine lv_iconst (v := 1) hx hb dX5_remember_35 (by decide) ?_
    refine lv_iadd hx hb dX5_remember_36 ?_
    refine lv_topi (fun x_14 ex_14 => ?_)
    have tx_14 : x_14.toInt = x_2.toInt + 1 := i_add ex_14 rfl (by decide : (1 : Int32).toInt = 1) (by omega) (by omega)
    refine ti_putI (ci := 5) (k := 2) (N := 3) (T := TX5) C hw iw_5 tyX5 tyX5_ok nmX5 rfl ob_28 (by decide) (by decide) fl_X5_21 rfl rfl rfl rfl (fn_5 A _) fs_5_2 dX5_remember_37 (fun H locs hw => ?_)
    obtain ⟨M_15, hM_15⟩ : ∃ z : ti_M, z = uI M_7 28 2 x_14 := ⟨_, rfl⟩
    have hw := hw.to hM_15.symm
    have iM_15 : cI Tc M_15 := cI_uI iM_7 hM_15 ob_28.1 (ib_mk (lo := 0) (hi := 20) (by omega) (by omega))
    have vM_15 : (tI M_15 28 2).toInt = (x_14 : Int32).toInt := by rw [tI_uE hM_15]
    refine lv_goto (tgt := 56) hx hb dX5_remember_40 (by decide) ?_
    exact hQ _ _ _ _ _ hw (⟨cF_rem hF iM_15 ht ((rf_I hM_15).trans q_8) (ex_1.symm) (ex_2.symm) (by omega) (by omega) (by omega) (by omega) (by show ((x_4.toInt.toNat : Nat) : Int) = _; omega) (fun k => (tI_nE hM_15 (no (by decide))).trans (q_9.1 0 k (by omega))) ((tI_nE hM_15 (nk (by decide))).trans (((q_9.1 28 1 (cls_ne ob_28.1 ob_5.1 (by decide)))).trans ex_1.symm)) (tI_uE hM_15) (Or.inl ⟨rfl, by omega⟩), kC_rem ht hk q_9 ((rf_I hM_15).trans q_8) hM_15 (ex_1.symm) (ex_2.symm) (by omega) (by omega) (by omega) (by omega) (by show ((x_4.toInt.toNat : Nat) : Int) = _; omega) hs_10 ((tI_nE hM_15 (nk (by decide))).trans (((q_9.1 28 1 (cls_ne ob_28.1 ob_5.1 (by decide)))).trans ex_1.symm)) (tI_uE hM_15) (Or.inl ⟨by omega, rfl, by omega⟩)⟩) dX5_remember_56
set_option maxHeartbeats 4000000 in
set_option maxRecDepth 100000 in
theorem z_X5_takeBack (l : Launch) (D : va_G) (A : Nat → Nat → Nat) (cy : Nat → ClassId) (hJ : ti_inj ti_LT A) (M : ti_M) (hI : cI Tc M) (hF : cF Tc M) (t : Nat) (ht : t = 3 ∨ t = 4) (tx rg lp : Nat → Int) (ug : Nat → Nat → Int) (cu : Int) (hk : kC t tx rg ug cu lp M) : ti_Ki l yX5_takeBack cX5_takeBack 2 (some .boolean) 2 ti_LT D A cy M [.ref (A 28 0), .ref (A 27 0)] (fun r M2 => (cu = 0 ∧ r = 0 ∧ M2 = M) ∨ (0 < cu ∧ r = 1 ∧ cF Tc M2 ∧ kG M2 M ∧ kC t tx (ug (cu - 1).toNat) ug (cu - 1) lp M2)) := by
  refine ti_eI yp_X5_takeBack hJ ti_LT_nd (Nat.le_of_ble_eq_true rfl) ?_
  intro p e s m args below meth c Q H0 C hQ hw ls hl
  have hx := C.1
  have hb := C.2.1
  have hl : lv_has ls 2 [(0, .ref (A 28 0)), (1, .ref (A 27 0))] := hl
  obtain ⟨htx, hT1, hT, hs, hr, hp0⟩ := id hk
  have l4 : 0 ≤ tx 4 ∧ tx 4 ≤ 8 := by rw [htx.1 4 (by decide) (by decide)]; exact cI_rd (k := 4) hI (ob_t ht).1 rfl
  have h4 : tx 4 = (tI M t 4).toInt := htx.1 4 (by decide) (by decide)
  have hc : (tI M 28 2).toInt = cu := hr.1
  refine lv_aload_n hx hb dX5_takeBack_0 rfl (lv_at hl 0 rfl) ?_
  refine ti_get (ci := 5) (k := 2) (N := 3) (T := TX5) C hw iw_5 rfl ob_28 (by decide) (by decide) fl_X5_21 rfl rfl dX5_takeBack_1 ?_
  refine lv_topi (fun x_1 ex_1 => ?_)
  have bx_1 : 0 ≤ x_1.toInt ∧ x_1.toInt ≤ 20 := cI_rd hI ob_28.1 ex_1
  have ux_1 : (tI M 28 2).toInt = x_1.toInt := by rw [ex_1]
  refine sb_if_ne (tgt := 9) hx hb rfl dX5_takeBack_4 (by decide) (fun c_4_1 => ?_) (fun c_4_1 => ?_)
  · refine lv_aload_n hx hb dX5_takeBack_9 rfl (lv_at hl 0 rfl) ?_
    refine lv_dup hx hb dX5_takeBack_10 rfl ?_
    refine ti_get (ci := 5) (k := 2) (N := 3) (T := TX5) C hw iw_5 rfl ob_28 (by decide) (by decide) fl_X5_21 rfl rfl dX5_takeBack_11 ?_
    refine ti_top (y := x_1) (ex_1.symm) ?_
    have u_3 : (tI M 28 2).toInt = (x_1 : Int32).toInt := by rw [(ex_1.symm)]
    refine lv_iconst (v := 1) hx hb dX5_takeBack_14 (by decide) ?_
    refine lv_isub hx hb dX5_takeBack_15 ?_
    refine lv_topi (fun x_4 ex_4 => ?_)
    have tx_4 : x_4.toInt = x_1.toInt - 1 := i_sub ex_4 rfl (by decide : (1 : Int32).toInt = 1) (by omega) (by omega)
    refine ti_putI (ci := 5) (k := 2) (N := 3) (T := TX5) C hw iw_5 tyX5 tyX5_ok nmX5 rfl ob_28 (by decide) (by decide) fl_X5_21 rfl rfl rfl rfl (fn_5 A _) fs_5_2 dX5_takeBack_16 (fun H locs hw => ?_)
    obtain ⟨M_5, hM_5⟩ : ∃ z : ti_M, z = uI M 28 2 x_4 := ⟨_, rfl⟩
    have hw := hw.to hM_5.symm
    have iM_5 : cI Tc M_5 := cI_uI hI hM_5 ob_28.1 (ib_mk (lo := 0) (hi := 20) (by omega) (by omega))
    have vM_5 : (tI M_5 28 2).toInt = (x_4 : Int32).toInt := by rw [tI_uE hM_5]
    refine lv_aload_n hx hb dX5_takeBack_19 rfl (lv_at hl 1 rfl) ?_
    refine lv_aload_n hx hb dX5_takeBack_20 rfl (lv_at hl 0 rfl) ?_
    refine ti_get (ci := 5) (k := 0) (N := 3) (T := TX5) (v := .ref (A 28 1)) C hw iw_5 rfl ob_28 (by decide) (by decide) fl_X5_11 rfl rfl dX5_takeBack_21 ?_
    refine lv_aload_n hx hb dX5_takeBack_24 rfl (lv_at hl 0 rfl) ?_
    refine ti_get (ci := 5) (k := 1) (N := 3) (T := TX5) C hw iw_5 rfl ob_28 (by decide) (by decide) fl_X5_17 rfl rfl dX5_takeBack_25 ?_
    refine lv_topi (fun x_6 ex_6 => ?_)
    have bx_6 : 0 ≤ x_6.toInt ∧ x_6.toInt ≤ 19 := cI_rd iM_5 ob_28.1 ex_6
    have ux_6 : (tI M_5 28 1).toInt = x_6.toInt := by rw [ex_6]
    refine lv_aload_n hx hb dX5_takeBack_28 rfl (lv_at hl 0 rfl) ?_
    refine ti_get (ci := 5) (k := 2) (N := 3) (T := TX5) C hw iw_5 rfl ob_28 (by decide) (by decide) fl_X5_21 rfl rfl dX5_takeBack_29 ?_
    refine ti_top (y := x_4) (tI_uE hM_5) ?_
    have u_7 : (tI M_5 28 2).toInt = (x_4 : Int32).toInt := by rw [(tI_uE hM_5)]
    refine lv_iadd hx hb dX5_takeBack_32 ?_
    refine lv_topi (fun x_8 ex_8 => ?_)
    have tx_8 : x_8.toInt = x_6.toInt + x_4.toInt := i_add ex_8 rfl rfl (by omega) (by omega)
    refine lv_bipush (v := 20) hx hb dX5_takeBack_33 (by decide) ?_
    refine lv_irem hx hb dX5_takeBack_35 (by decide) ?_
    refine lv_topi (fun x_9 ex_9 => ?_)
    have bx_9 := i_rem ex_9 rfl (by decide : (20 : Int32).toInt = 20) (by omega) (by decide)
    refine ti_aald (ci := 5) (k := 0) (n := 20) (t0 := 6) (Cn := RX3) (gg := (fun i => 29 + i)) (j := x_9.toNatClampNeg) C hw ob_28 (by decide) (fun _ _ => rfl) rfl (vp_in_iff.mpr (by omega)) rfl dX5_takeBack_36 ?_
    have ob_10 : ti_ob ti_LT (29 + x_9.toNatClampNeg) 3 := ob_r (i_nt rfl (by omega) (by omega))
    obtain ⟨hq9, hT9⟩ := kC_get (i := x_9.toNatClampNeg) hk (((tI_nE hM_5 (nk (by decide)))).symm.trans ex_6.symm) (ex_1.symm) (by omega) (by omega) (by omega) (by show ((x_9.toInt.toNat : Nat) : Int) = _; omega)
    refine ti_callVv (ci := 3) (av := [.ref (A (29 + x_9.toNatClampNeg) 0)]) C hw (z_X3_copy l D A cy hJ M_5 iM_5 27 (29 + x_9.toNatClampNeg) t ob_27 ob_10 ht ((tT_uIE hM_5).trans hT9) (fun _ => cPr (i_nt (x := x_9) rfl (by omega) (by omega))) (by omega) (ug (cu - 1).toNat) (qC_same hq9 (fun k => ⟨tI_nE hM_5 (no (by omega)), tY_uIE hM_5⟩))) ⟨ml_X5_25, ym_X3_copy, yv_X3_copy, yi_X3_copy, yc_X3_copy⟩ yd_X3_copy ob_27 (by decide) rfl rfl hl.1 (Nat.le_of_ble_eq_true rfl) ⟨by decide, by decide⟩ ⟨Nat.zero_le _, Nat.zero_le _⟩ dX5_takeBack_37 (fun M_12 H locs hp_12 hw => ?_)
    obtain ⟨iM_12, q_13, q_14, hs_15⟩ := hp_12
    refine lv_iconst (v := 1) hx hb dX5_takeBack_40 (by decide) ?_
    exact hQ _ _ _ _ _ _ hw rfl (Or.inr ⟨by omega, rfl, cF_back hF iM_12 ht (rf_TTc (q_13) (rf_I hM_5)) (ex_1.symm) (fun k => (q_14.1 0 k (by decide)).trans (tI_nE hM_5 (no (by decide)))) ((q_14.1 28 1 (by decide)).trans (tI_nE hM_5 (nk (by decide)))) (((q_14.1 28 2 (by decide))).trans (tI_uE hM_5)) (by omega) (by omega), kC_tb ht hk hM_5 q_14 (rf_TTc (q_13) (rf_I hM_5)) (ex_1.symm) (by omega) (by omega) hs_15⟩) dX5_takeBack_41
  · refine lv_iconst (v := 0) hx hb dX5_takeBack_7 (by decide) ?_
    exact hQ _ _ _ _ _ _ hw rfl (Or.inl ⟨by omega, rfl, rfl⟩) dX5_takeBack_8
set_option maxHeartbeats 4000000 in
set_option maxRecDepth 100000 in
theorem z_X9_isPower (l : Launch) (D : va_G) (A : Nat → Nat → Nat) (cy : Nat → ClassId) (hJ : ti_inj ti_LT A) (M : ti_M) (hI : cI Tc M)  (mn : Int32) : ti_Ki l yX9_isPower cX9_isPower 2 (some .boolean) 0 ti_LT D A cy M [.ref (A 0 0), .int mn] (fun r M2 => M2 = M ∧ ((r = 1 ∧ 0 ≤ mn.toInt ∧ mn.toInt ≤ 2) ∨ (r = 0 ∧ (mn.toInt < 0 ∨ 2 < mn.toInt)))) := by
  refine ti_eI yp_X9_isPower hJ ti_LT_nd (Nat.le_of_ble_eq_true rfl) ?_
  intro p e s m args below meth c Q H0 C hQ hw ls hl
  have hx := C.1
  have hb := C.2.1
  have hl : lv_has ls 2 [(0, .ref (A 0 0)), (1, .int mn)] := hl
  refine lv_iload_n hx hb dX9_isPower_0 rfl (lv_at hl 1 rfl) ?_
  refine sb_if_lt (tgt := 13) hx hb rfl dX9_isPower_1 (by decide) (fun c_1_0 => ?_) (fun c_1_0 => ?_)
  · refine lv_iconst (v := 0) hx hb dX9_isPower_13 (by decide) ?_
    exact hQ _ _ _ _ _ _ hw rfl (⟨rfl, Or.inr ⟨rfl, by omega⟩⟩) dX9_isPower_14
  · refine lv_iload_n hx hb dX9_isPower_4 rfl (lv_at hl 1 rfl) ?_
    refine lv_iconst (v := 3) hx hb dX9_isPower_5 (by decide) ?_
    refine sb_icmp_ge (tgt := 13) hx hb rfl (by decide : (3 : Int32).toInt = 3) dX9_isPower_6 (by decide) (fun c_6_1 => ?_) (fun c_6_1 => ?_)
    · refine lv_iconst (v := 0) hx hb dX9_isPower_13 (by decide) ?_
      exact hQ _ _ _ _ _ _ hw rfl (⟨rfl, Or.inr ⟨rfl, by omega⟩⟩) dX9_isPower_14
    · refine lv_iconst (v := 1) hx hb dX9_isPower_9 (by decide) ?_
      refine lv_goto (tgt := 14) hx hb dX9_isPower_10 (by decide) ?_
      exact hQ _ _ _ _ _ _ hw rfl (⟨rfl, Or.inl ⟨rfl, by omega, by omega⟩⟩) dX9_isPower_14
set_option maxHeartbeats 4000000 in
set_option maxRecDepth 100000 in
theorem z_X9_isToCome (l : Launch) (D : va_G) (A : Nat → Nat → Nat) (cy : Nat → ClassId) (hJ : ti_inj ti_LT A) (M : ti_M) (hI : cI Tc M)  (t : Nat) (ht : t = 3 ∨ t = 4) (tx rg lp : Nat → Int) (ug : Nat → Nat → Int) (cu : Int) (hk : kC t tx rg ug cu lp M) (mn : Int32) : ti_Ki l yX9_isToCome cX9_isToCome 2 (some .boolean) 1 ti_LT D A cy M [.ref (A 0 0), .int mn] (fun r M2 => M2 = M ∧ ((r = 1 ∧ 0 ≤ mn.toInt ∧ mn.toInt < tx 4 ∧ rg (128 + mn.toInt.toNat) = 0) ∨ (r = 0 ∧ ¬ (0 ≤ mn.toInt ∧ mn.toInt < tx 4 ∧ rg (128 + mn.toInt.toNat) = 0)))) := by
  refine ti_eI yp_X9_isToCome hJ ti_LT_nd (Nat.le_of_ble_eq_true rfl) ?_
  intro p e s m args below meth c Q H0 C hQ hw ls hl
  have hx := C.1
  have hb := C.2.1
  have hl : lv_has ls 2 [(0, .ref (A 0 0)), (1, .int mn)] := hl
  obtain ⟨htx, hT1, hT, hs, hr, hp0⟩ := id hk
  have l4 : 0 ≤ tx 4 ∧ tx 4 ≤ 8 := by rw [htx.1 4 (by decide) (by decide)]; exact cI_rd (k := 4) hI (ob_t ht).1 rfl
  have h4 : tx 4 = (tI M t 4).toInt := htx.1 4 (by decide) (by decide)
  refine lv_aload_n hx hb dX9_isToCome_0 rfl (lv_at hl 0 rfl) ?_
  refine lv_iload_n hx hb dX9_isToCome_1 rfl (lv_at hl 1 rfl) ?_
  refine ti_callVi (ci := 9) (av := [.int mn]) C hw (x_X9_isMan l D A cy hJ M hI t ht (hT1) mn) ⟨ml_X9_104, ym_X9_isMan, yv_X9_isMan, yi_X9_isMan, yc_X9_isMan⟩ yd_X9_isMan ob_0 (by decide) rfl rfl hl.1 (Nat.le_of_ble_eq_true rfl) ⟨by decide, by decide⟩ ⟨Nat.zero_le _, Nat.zero_le _⟩ dX9_isToCome_2 (fun r_1 M_2 H locs hp_2 hw => ?_)
  obtain ⟨hm, hz⟩ := hp_2
  have hw := hw.to hm
  rcases hz with ⟨rfl, d0_3, d1_3⟩ | ⟨rfl, e_3⟩
  · refine sb_if_eq (tgt := 24) hx hb (by decide : (1 : Int32).toInt = 1) dX9_isToCome_5 (by decide) (fun h => absurd h (by decide)) (fun c_5_3 => ?_)
    refine lv_aload_n hx hb dX9_isToCome_8 rfl (lv_at hl 0 rfl) ?_
    refine ti_get (ci := 9) (k := 3) (N := 10) (T := TX9) (v := .ref (A 27 0)) C hw iw_9 rfl ob_0 (by decide) (by decide) fl_X9_29 rfl rfl dX9_isToCome_9 ?_
    refine ti_get (ci := 3) (k := 8) (N := 17) (T := TX3) (v := .ref (A 27 9)) C hw iw_3 rfl ob_27 (by decide) (by decide) fl_X9_139 rfl rfl dX9_isToCome_12 ?_
    refine lv_iload_n hx hb dX9_isToCome_15 rfl (lv_at hl 1 rfl) ?_
    refine ti_iald (ci := 3) (k := 8) (n := 8) C hw ob_27 (by decide) (fun _ _ => rfl) (vp_in_iff.mpr (by omega)) dX9_isToCome_16 ?_
    refine lv_topi (fun x_6 ex_6 => ?_)
    have L_7 : rg (128 + mn.toInt.toNat) = x_6.toInt := qC_y (k := 8) hs rfl (by omega) (by omega) (by decide) (by decide) ex_6
    refine sb_if_ne (tgt := 24) hx hb rfl dX9_isToCome_17 (by decide) (fun c_17_7 => ?_) (fun c_17_7 => ?_)
    · refine lv_iconst (v := 0) hx hb dX9_isToCome_24 (by decide) ?_
      exact hQ _ _ _ _ _ _ hw rfl (⟨rfl, Or.inr ⟨rfl, by omega⟩⟩) dX9_isToCome_25
    · refine lv_iconst (v := 1) hx hb dX9_isToCome_20 (by decide) ?_
      refine lv_goto (tgt := 25) hx hb dX9_isToCome_21 (by decide) ?_
      exact hQ _ _ _ _ _ _ hw rfl (⟨rfl, Or.inl ⟨rfl, by omega, by omega, by omega⟩⟩) dX9_isToCome_25
  · refine sb_if_eq (tgt := 24) hx hb (by decide : (0 : Int32).toInt = 0) dX9_isToCome_5 (by decide) (fun c_5_4 => ?_) (fun h => absurd h (by decide))
    refine lv_iconst (v := 0) hx hb dX9_isToCome_24 (by decide) ?_
    exact hQ _ _ _ _ _ _ hw rfl (⟨rfl, Or.inr ⟨rfl, by omega⟩⟩) dX9_isToCome_25
set_option maxHeartbeats 4000000 in
set_option maxRecDepth 100000 in
theorem z_X9_isInQueue (l : Launch) (D : va_G) (A : Nat → Nat → Nat) (cy : Nat → ClassId) (hJ : ti_inj ti_LT A) (M : ti_M) (hI : cI Tc M)  (t : Nat) (ht : t = 3 ∨ t = 4) (tx rg lp : Nat → Int) (ug : Nat → Nat → Int) (cu : Int) (hk : kC t tx rg ug cu lp M) (mn : Int32) : ti_Ki l yX9_isInQueue cX9_isInQueue 2 (some .boolean) 1 ti_LT D A cy M [.ref (A 0 0), .int mn] (fun r M2 => M2 = M ∧ ((r = 1 ∧ 0 ≤ mn.toInt ∧ mn.toInt < tx 4 ∧ rg (128 + mn.toInt.toNat) = 1) ∨ (r = 0 ∧ ¬ (0 ≤ mn.toInt ∧ mn.toInt < tx 4 ∧ rg (128 + mn.toInt.toNat) = 1)))) := by
  refine ti_eI yp_X9_isInQueue hJ ti_LT_nd (Nat.le_of_ble_eq_true rfl) ?_
  intro p e s m args below meth c Q H0 C hQ hw ls hl
  have hx := C.1
  have hb := C.2.1
  have hl : lv_has ls 2 [(0, .ref (A 0 0)), (1, .int mn)] := hl
  obtain ⟨htx, hT1, hT, hs, hr, hp0⟩ := id hk
  have l4 : 0 ≤ tx 4 ∧ tx 4 ≤ 8 := by rw [htx.1 4 (by decide) (by decide)]; exact cI_rd (k := 4) hI (ob_t ht).1 rfl
  have h4 : tx 4 = (tI M t 4).toInt := htx.1 4 (by decide) (by decide)
  refine lv_aload_n hx hb dX9_isInQueue_0 rfl (lv_at hl 0 rfl) ?_
  refine lv_iload_n hx hb dX9_isInQueue_1 rfl (lv_at hl 1 rfl) ?_
  refine ti_callVi (ci := 9) (av := [.int mn]) C hw (x_X9_isMan l D A cy hJ M hI t ht (hT1) mn) ⟨ml_X9_104, ym_X9_isMan, yv_X9_isMan, yi_X9_isMan, yc_X9_isMan⟩ yd_X9_isMan ob_0 (by decide) rfl rfl hl.1 (Nat.le_of_ble_eq_true rfl) ⟨by decide, by decide⟩ ⟨Nat.zero_le _, Nat.zero_le _⟩ dX9_isInQueue_2 (fun r_1 M_2 H locs hp_2 hw => ?_)
  obtain ⟨hm, hz⟩ := hp_2
  have hw := hw.to hm
  rcases hz with ⟨rfl, d0_3, d1_3⟩ | ⟨rfl, e_3⟩
  · refine sb_if_eq (tgt := 25) hx hb (by decide : (1 : Int32).toInt = 1) dX9_isInQueue_5 (by decide) (fun h => absurd h (by decide)) (fun c_5_3 => ?_)
    refine lv_aload_n hx hb dX9_isInQueue_8 rfl (lv_at hl 0 rfl) ?_
    refine ti_get (ci := 9) (k := 3) (N := 10) (T := TX9) (v := .ref (A 27 0)) C hw iw_9 rfl ob_0 (by decide) (by decide) fl_X9_29 rfl rfl dX9_isInQueue_9 ?_
    refine ti_get (ci := 3) (k := 8) (N := 17) (T := TX3) (v := .ref (A 27 9)) C hw iw_3 rfl ob_27 (by decide) (by decide) fl_X9_139 rfl rfl dX9_isInQueue_12 ?_
    refine lv_iload_n hx hb dX9_isInQueue_15 rfl (lv_at hl 1 rfl) ?_
    refine ti_iald (ci := 3) (k := 8) (n := 8) C hw ob_27 (by decide) (fun _ _ => rfl) (vp_in_iff.mpr (by omega)) dX9_isInQueue_16 ?_
    refine lv_topi (fun x_6 ex_6 => ?_)
    have L_7 : rg (128 + mn.toInt.toNat) = x_6.toInt := qC_y (k := 8) hs rfl (by omega) (by omega) (by decide) (by decide) ex_6
    refine lv_iconst (v := 1) hx hb dX9_isInQueue_17 (by decide) ?_
    refine sb_icmp_ne (tgt := 25) hx hb rfl (by decide : (1 : Int32).toInt = 1) dX9_isInQueue_18 (by decide) (fun c_18_7 => ?_) (fun c_18_7 => ?_)
    · refine lv_iconst (v := 0) hx hb dX9_isInQueue_25 (by decide) ?_
      exact hQ _ _ _ _ _ _ hw rfl (⟨rfl, Or.inr ⟨rfl, by omega⟩⟩) dX9_isInQueue_26
    · refine lv_iconst (v := 1) hx hb dX9_isInQueue_21 (by decide) ?_
      refine lv_goto (tgt := 26) hx hb dX9_isInQueue_22 (by decide) ?_
      exact hQ _ _ _ _ _ _ hw rfl (⟨rfl, Or.inl ⟨rfl, by omega, by omega, by omega⟩⟩) dX9_isInQueue_26
  · refine sb_if_eq (tgt := 25) hx hb (by decide : (0 : Int32).toInt = 0) dX9_isInQueue_5 (by decide) (fun c_5_4 => ?_) (fun h => absurd h (by decide))
    refine lv_iconst (v := 0) hx hb dX9_isInQueue_25 (by decide) ?_
    exact hQ _ _ _ _ _ _ hw rfl (⟨rfl, Or.inr ⟨rfl, by omega⟩⟩) dX9_isInQueue_26
set_option maxHeartbeats 4000000 in
set_option maxRecDepth 100000 in
theorem z_X9_join (l : Launch) (D : va_G) (A : Nat → Nat → Nat) (cy : Nat → ClassId) (hJ : ti_inj ti_LT A) (M : ti_M) (hI : cI Tc M) (hF : cF Tc M) (t : Nat) (ht : t = 3 ∨ t = 4) (tx rg lp : Nat → Int) (ug : Nat → Nat → Int) (cu : Int) (hk : kC t tx rg ug cu lp M) (za : Int32) : ti_Ki l yX9_join cX9_join 2 (some .int) 3 ti_LT D A cy M [.ref (A 0 0), .int za] (fun r M2 => (¬ (0 ≤ za.toInt ∧ za.toInt < tx 4 ∧ rg (128 + za.toInt.toNat) = 0) ∧ r.toInt = -1 ∧ M2 = M) ∨ ((0 ≤ za.toInt ∧ za.toInt < tx 4 ∧ rg (128 + za.toInt.toNat) = 0) ∧ r.toInt = bq_po (bq_ap rg za.toInt) za.toInt 0 ∧ cF Tc M2 ∧ kG M2 M ∧ kC t tx (bq_ap rg za.toInt) (bq_rb ug cu rg) (bq_rc cu) lp M2)) := by
  refine ti_eI yp_X9_join hJ ti_LT_nd (Nat.le_of_ble_eq_true rfl) ?_
  intro p e s m args below meth c Q H0 C hQ hw ls hl
  have hx := C.1
  have hb := C.2.1
  have hl : lv_has ls 2 [(0, .ref (A 0 0)), (1, .int za)] := hl
  obtain ⟨htx, hT1, hT, hs, hr, hp0⟩ := id hk
  have l4 : 0 ≤ tx 4 ∧ tx 4 ≤ 8 := by rw [htx.1 4 (by decide) (by decide)]; exact cI_rd (k := 4) hI (ob_t ht).1 rfl
  have h4 : tx 4 = (tI M t 4).toInt := htx.1 4 (by decide) (by decide)
  refine lv_aload_n hx hb dX9_join_0 rfl (lv_at hl 0 rfl) ?_
  refine lv_iload_n hx hb dX9_join_1 rfl (lv_at hl 1 rfl) ?_
  refine ti_callVi (ci := 9) (av := [.int za]) C hw (z_X9_isToCome l D A cy hJ M hI t ht tx rg lp ug cu hk za) ⟨ml_X9_195, ym_X9_isToCome, yv_X9_isToCome, yi_X9_isToCome, yc_X9_isToCome⟩ yd_X9_isToCome ob_0 (by decide) rfl rfl hl.1 (Nat.le_of_ble_eq_true rfl) ⟨by decide, by decide⟩ ⟨Nat.zero_le _, Nat.zero_le _⟩ dX9_join_2 (fun r_1 M_2 H locs hp_2 hw => ?_)
  obtain ⟨hm, hz⟩ := hp_2
  have hw := hw.to hm
  rcases hz with ⟨rfl, d0_3, d1_3, d2_3⟩ | ⟨rfl, e_3⟩
  · refine sb_if_ne (tgt := 10) hx hb (by decide : (1 : Int32).toInt = 1) dX9_join_5 (by decide) (fun c_5_3 => ?_) (fun h => absurd h (by decide))
    refine lv_aload_n hx hb dX9_join_10 rfl (lv_at hl 0 rfl) ?_
    refine ti_get (ci := 9) (k := 5) (N := 10) (T := TX9) (v := .ref (A 28 0)) C hw iw_9 rfl ob_0 (by decide) (by decide) fl_X9_40 rfl rfl dX9_join_11 ?_
    refine lv_aload_n hx hb dX9_join_14 rfl (lv_at hl 0 rfl) ?_
    refine ti_get (ci := 9) (k := 3) (N := 10) (T := TX9) (v := .ref (A 27 0)) C hw iw_9 rfl ob_0 (by decide) (by decide) fl_X9_29 rfl rfl dX9_join_15 ?_
    refine ti_callVv (ci := 5) (av := [.ref (A 27 0)]) C hw (z_X5_remember l D A cy hJ M hI hF t ht tx rg lp ug cu hk) ⟨ml_X9_198, ym_X5_remember, yv_X5_remember, yi_X5_remember, yc_X5_remember⟩ yd_X5_remember ob_28 (by decide) rfl rfl hl.1 (Nat.le_of_ble_eq_true rfl) ⟨by decide, by decide⟩ ⟨Nat.zero_le _, Nat.zero_le _⟩ dX9_join_18 (fun M_7 H locs hp_7 hw => ?_)
    obtain ⟨cf_8, kg_9, kc_10⟩ := hp_7
    obtain ⟨tx10, ta10, tb10, hs10, -, -⟩ := id kc_10
    refine lv_aload_n hx hb dX9_join_21 rfl (lv_at hl 0 rfl) ?_
    refine ti_get (ci := 9) (k := 3) (N := 10) (T := TX9) (v := .ref (A 27 0)) C hw iw_9 rfl ob_0 (by decide) (by decide) fl_X9_29 rfl rfl dX9_join_22 ?_
    refine lv_iload_n hx hb dX9_join_25 rfl (lv_at hl 1 rfl) ?_
    refine ti_callVv (ci := 3) (av := [.int za]) C hw (z_X3_append l D A cy hJ M_7 cf_8.1 27 ob_27 za (by omega) (by omega) rg hs10) ⟨ml_X9_202, ym_X3_append, yv_X3_append, yi_X3_append, yc_X3_append⟩ yd_X3_append ob_27 (by decide) rfl rfl hl.1 (Nat.le_of_ble_eq_true rfl) ⟨by decide, by decide⟩ ⟨Nat.zero_le _, Nat.zero_le _⟩ dX9_join_26 (fun M_12 H locs hp_12 hw => ?_)
    obtain ⟨iM_12, q_13, q_14, hs_15⟩ := hp_12
    obtain ⟨g_16, eg_16⟩ : ∃ z : Nat → Int, z = bq_ap rg za.toInt := ⟨_, rfl⟩
    rw [← eg_16] at hs_15
    refine lv_aload_n hx hb dX9_join_29 rfl (lv_at hl 0 rfl) ?_
    refine ti_get (ci := 9) (k := 3) (N := 10) (T := TX9) (v := .ref (A 27 0)) C hw iw_9 rfl ob_0 (by decide) (by decide) fl_X9_29 rfl rfl dX9_join_30 ?_
    refine lv_iload_n hx hb dX9_join_33 rfl (lv_at hl 1 rfl) ?_
    refine ti_callVi (ci := 3) (av := [.int za]) C hw (z_X3_placeOf l D A cy hJ M_12 iM_12 27 ob_27 za g_16 hs_15) ⟨ml_X9_136, ym_X3_placeOf, yv_X3_placeOf, yi_X3_placeOf, yc_X3_placeOf⟩ yd_X3_placeOf ob_27 (by decide) rfl rfl hl.1 (Nat.le_of_ble_eq_true rfl) ⟨by decide, by decide⟩ ⟨Nat.zero_le _, Nat.zero_le _⟩ dX9_join_34 (fun r_17 M_18 H locs hp_18 hw => ?_)
    obtain ⟨hm, b0r_17, b1r_17, pr_17⟩ := hp_18
    have hw := hw.to hm
    exact hQ _ _ _ _ _ _ hw rfl (Or.inr ⟨by omega, by rw [pr_17, eg_16], cF_fr cf_8 iM_12 (rs_of (q_13)) (fX_eo q_14), kG.trans (kG_eo q_14 (q_13)) kg_9, kC_eo ht kc_10 q_14 (q_13) (by rw [← eg_16]; exact hs_15)⟩) dX9_join_37
  · refine sb_if_ne (tgt := 10) hx hb (by decide : (0 : Int32).toInt = 0) dX9_join_5 (by decide) (fun h => absurd h (by decide)) (fun c_5_4 => ?_)
    refine lv_iconst (v := (-1)) hx hb dX9_join_8 (by decide) ?_
    exact hQ _ _ _ _ _ _ hw rfl (Or.inl ⟨by first | omega | (intro hz; omega), by first | omega | decide, rfl⟩) dX9_join_9
set_option maxHeartbeats 4000000 in
set_option maxRecDepth 100000 in
theorem z_X9_out (l : Launch) (D : va_G) (A : Nat → Nat → Nat) (cy : Nat → ClassId) (hJ : ti_inj ti_LT A) (M : ti_M) (hI : cI Tc M) (hF : cF Tc M) (t : Nat) (ht : t = 3 ∨ t = 4) (tx rg lp : Nat → Int) (ug : Nat → Nat → Int) (cu : Int) (hk : kC t tx rg ug cu lp M) (za : Int32) : ti_Ki l yX9_out cX9_out 2 (some .boolean) 3 ti_LT D A cy M [.ref (A 0 0), .int za] (fun r M2 => (¬ (0 ≤ za.toInt ∧ za.toInt < tx 4 ∧ rg (128 + za.toInt.toNat) = 1) ∧ r.toInt = 0 ∧ M2 = M) ∨ ((0 ≤ za.toInt ∧ za.toInt < tx 4 ∧ rg (128 + za.toInt.toNat) = 1) ∧ r.toInt = 1 ∧ cF Tc M2 ∧ kG M2 M ∧ kC t tx (bq_rm rg (bq_po rg za.toInt 0) 3) (bq_rb ug cu rg) (bq_rc cu) lp M2)) := by
  refine ti_eI yp_X9_out hJ ti_LT_nd (Nat.le_of_ble_eq_true rfl) ?_
  intro p e s m args below meth c Q H0 C hQ hw ls hl
  have hx := C.1
  have hb := C.2.1
  have hl : lv_has ls 2 [(0, .ref (A 0 0)), (1, .int za)] := hl
  obtain ⟨htx, hT1, hT, hs, hr, hp0⟩ := id hk
  have l4 : 0 ≤ tx 4 ∧ tx 4 ≤ 8 := by rw [htx.1 4 (by decide) (by decide)]; exact cI_rd (k := 4) hI (ob_t ht).1 rfl
  have h4 : tx 4 = (tI M t 4).toInt := htx.1 4 (by decide) (by decide)
  refine lv_aload_n hx hb dX9_out_0 rfl (lv_at hl 0 rfl) ?_
  refine lv_iload_n hx hb dX9_out_1 rfl (lv_at hl 1 rfl) ?_
  refine ti_callVi (ci := 9) (av := [.int za]) C hw (z_X9_isInQueue l D A cy hJ M hI t ht tx rg lp ug cu hk za) ⟨ml_X9_205, ym_X9_isInQueue, yv_X9_isInQueue, yi_X9_isInQueue, yc_X9_isInQueue⟩ yd_X9_isInQueue ob_0 (by decide) rfl rfl hl.1 (Nat.le_of_ble_eq_true rfl) ⟨by decide, by decide⟩ ⟨Nat.zero_le _, Nat.zero_le _⟩ dX9_out_2 (fun r_1 M_2 H locs hp_2 hw => ?_)
  obtain ⟨hm, hz⟩ := hp_2
  have hw := hw.to hm
  rcases hz with ⟨rfl, d0_3, d1_3, d2_3⟩ | ⟨rfl, e_3⟩
  · refine sb_if_ne (tgt := 10) hx hb (by decide : (1 : Int32).toInt = 1) dX9_out_5 (by decide) (fun c_5_3 => ?_) (fun h => absurd h (by decide))
    refine lv_aload_n hx hb dX9_out_10 rfl (lv_at hl 0 rfl) ?_
    refine ti_get (ci := 9) (k := 5) (N := 10) (T := TX9) (v := .ref (A 28 0)) C hw iw_9 rfl ob_0 (by decide) (by decide) fl_X9_40 rfl rfl dX9_out_11 ?_
    refine lv_aload_n hx hb dX9_out_14 rfl (lv_at hl 0 rfl) ?_
    refine ti_get (ci := 9) (k := 3) (N := 10) (T := TX9) (v := .ref (A 27 0)) C hw iw_9 rfl ob_0 (by decide) (by decide) fl_X9_29 rfl rfl dX9_out_15 ?_
    refine ti_callVv (ci := 5) (av := [.ref (A 27 0)]) C hw (z_X5_remember l D A cy hJ M hI hF t ht tx rg lp ug cu hk) ⟨ml_X9_198, ym_X5_remember, yv_X5_remember, yi_X5_remember, yc_X5_remember⟩ yd_X5_remember ob_28 (by decide) rfl rfl hl.1 (Nat.le_of_ble_eq_true rfl) ⟨by decide, by decide⟩ ⟨Nat.zero_le _, Nat.zero_le _⟩ dX9_out_18 (fun M_7 H locs hp_7 hw => ?_)
    obtain ⟨cf_8, kg_9, kc_10⟩ := hp_7
    obtain ⟨tx10, ta10, tb10, hs10, -, -⟩ := id kc_10
    refine lv_aload_n hx hb dX9_out_21 rfl (lv_at hl 0 rfl) ?_
    refine ti_get (ci := 9) (k := 3) (N := 10) (T := TX9) (v := .ref (A 27 0)) C hw iw_9 rfl ob_0 (by decide) (by decide) fl_X9_29 rfl rfl dX9_out_22 ?_
    refine lv_aload_n hx hb dX9_out_25 rfl (lv_at hl 0 rfl) ?_
    refine ti_get (ci := 9) (k := 3) (N := 10) (T := TX9) (v := .ref (A 27 0)) C hw iw_9 rfl ob_0 (by decide) (by decide) fl_X9_29 rfl rfl dX9_out_26 ?_
    refine lv_iload_n hx hb dX9_out_29 rfl (lv_at hl 1 rfl) ?_
    refine ti_callVi (ci := 3) (av := [.int za]) C hw (z_X3_placeOf l D A cy hJ M_7 cf_8.1 27 ob_27 za rg hs10) ⟨ml_X9_136, ym_X3_placeOf, yv_X3_placeOf, yi_X3_placeOf, yc_X3_placeOf⟩ yd_X3_placeOf ob_27 (by decide) rfl rfl hl.1 (Nat.le_of_ble_eq_true rfl) ⟨by decide, by decide⟩ ⟨Nat.zero_le _, Nat.zero_le _⟩ dX9_out_30 (fun r_11 M_12 H locs hp_12 hw => ?_)
    obtain ⟨hm, b0r_11, b1r_11, pr_11⟩ := hp_12
    have hw := hw.to hm
    refine lv_iconst (v := 3) hx hb dX9_out_33 (by decide) ?_
    refine ti_callVv (ci := 3) (av := [.int r_11, .int 3]) C hw (z_X3_remove l D A cy hJ M_7 cf_8.1 27 ob_27 r_11 3 rg hs10) ⟨ml_X9_208, ym_X3_remove, yv_X3_remove, yi_X3_remove, yc_X3_remove⟩ yd_X3_remove ob_27 (by decide) rfl rfl hl.1 (Nat.le_of_ble_eq_true rfl) ⟨by decide, by decide⟩ ⟨Nat.zero_le _, Nat.zero_le _⟩ dX9_out_34 (fun M_14 H locs hp_14 hw => ?_)
    obtain ⟨iM_14, q_15, q_16, hs_17⟩ := hp_14
    try simp only [show (3 : Int32).toInt = 3 by decide] at hs_17
    obtain ⟨g_18, eg_18⟩ : ∃ z : Nat → Int, z = bq_rm rg r_11.toInt 3 := ⟨_, rfl⟩
    rw [← eg_18] at hs_17
    refine lv_iconst (v := 1) hx hb dX9_out_37 (by decide) ?_
    exact hQ _ _ _ _ _ _ hw rfl (Or.inr ⟨by omega, by first | omega | decide, cF_fr cf_8 iM_14 (rs_of (q_15)) (fX_eo q_16), kG.trans (kG_eo q_16 (q_15)) kg_9, kC_eo ht kc_10 q_16 (q_15) (by rw [← pr_11, ← eg_18]; exact hs_17)⟩) dX9_out_38
  · refine sb_if_ne (tgt := 10) hx hb (by decide : (0 : Int32).toInt = 0) dX9_out_5 (by decide) (fun h => absurd h (by decide)) (fun c_5_4 => ?_)
    refine lv_iconst (v := 0) hx hb dX9_out_8 (by decide) ?_
    exact hQ _ _ _ _ _ _ hw rfl (Or.inl ⟨by first | omega | (intro hz; omega), by first | omega | decide, rfl⟩) dX9_out_9
set_option maxHeartbeats 4000000 in
set_option maxRecDepth 100000 in
theorem z_X9_swap (l : Launch) (D : va_G) (A : Nat → Nat → Nat) (cy : Nat → ClassId) (hJ : ti_inj ti_LT A) (M : ti_M) (hI : cI Tc M) (hF : cF Tc M) (t : Nat) (ht : t = 3 ∨ t = 4) (tx rg lp : Nat → Int) (ug : Nat → Nat → Int) (cu : Int) (hk : kC t tx rg ug cu lp M) (z1 : Int32) (z2 : Int32) (z3 : Int32) : ti_Ki l yX9_swap cX9_swap 4 (some .boolean) 3 ti_LT D A cy M [.ref (A 0 0), .int z1, .int z2, .int z3] (fun r M2 => (¬ ((0 ≤ z1.toInt ∧ z1.toInt < tx 4 ∧ rg (128 + z1.toInt.toNat) = 1) ∧ (0 ≤ z2.toInt ∧ z2.toInt < tx 4 ∧ rg (128 + z2.toInt.toNat) = 1) ∧ z1.toInt ≠ z2.toInt ∧ 0 ≤ z3.toInt ∧ z3.toInt ≤ 99 ∧ z3.toInt ≤ rg (192 + z1.toInt.toNat)) ∧ r.toInt = 0 ∧ M2 = M) ∨ (((0 ≤ z1.toInt ∧ z1.toInt < tx 4 ∧ rg (128 + z1.toInt.toNat) = 1) ∧ (0 ≤ z2.toInt ∧ z2.toInt < tx 4 ∧ rg (128 + z2.toInt.toNat) = 1) ∧ z1.toInt ≠ z2.toInt ∧ 0 ≤ z3.toInt ∧ z3.toInt ≤ 99 ∧ z3.toInt ≤ rg (192 + z1.toInt.toNat)) ∧ r.toInt = 1 ∧ cF Tc M2 ∧ kG M2 M ∧ kC t tx (bq_sw rg z1.toInt z2.toInt z3.toInt) (bq_rb ug cu rg) (bq_rc cu) lp M2)) := by
  refine ti_eI yp_X9_swap hJ ti_LT_nd (Nat.le_of_ble_eq_true rfl) ?_
  intro p e s m args below meth c Q H0 C hQ hw ls hl
  have hx := C.1
  have hb := C.2.1
  have hl : lv_has ls 4 [(0, .ref (A 0 0)), (1, .int z1), (2, .int z2), (3, .int z3)] := hl
  obtain ⟨htx, hT1, hT, hs, hr, hp0⟩ := id hk
  have l4 : 0 ≤ tx 4 ∧ tx 4 ≤ 8 := by rw [htx.1 4 (by decide) (by decide)]; exact cI_rd (k := 4) hI (ob_t ht).1 rfl
  have h4 : tx 4 = (tI M t 4).toInt := htx.1 4 (by decide) (by decide)
  refine lv_aload_n hx hb dX9_swap_0 rfl (lv_at hl 0 rfl) ?_
  refine lv_iload_n hx hb dX9_swap_1 rfl (lv_at hl 1 rfl) ?_
  refine ti_callVi (ci := 9) (av := [.int z1]) C hw (z_X9_isInQueue l D A cy hJ M hI t ht tx rg lp ug cu hk z1) ⟨ml_X9_205, ym_X9_isInQueue, yv_X9_isInQueue, yi_X9_isInQueue, yc_X9_isInQueue⟩ yd_X9_isInQueue ob_0 (by decide) rfl rfl hl.1 (Nat.le_of_ble_eq_true rfl) ⟨by decide, by decide⟩ ⟨Nat.zero_le _, Nat.zero_le _⟩ dX9_swap_2 (fun r_1 M_2 H locs hp_2 hw => ?_)
  obtain ⟨hm, hz⟩ := hp_2
  have hw := hw.to hm
  rcases hz with ⟨rfl, d0_3, d1_3, d2_3⟩ | ⟨rfl, e_3⟩
  · refine sb_if_eq (tgt := 21) hx hb (by decide : (1 : Int32).toInt = 1) dX9_swap_5 (by decide) (fun h => absurd h (by decide)) (fun c_5_3 => ?_)
    refine lv_aload_n hx hb dX9_swap_8 rfl (lv_at hl 0 rfl) ?_
    refine lv_iload_n hx hb dX9_swap_9 rfl (lv_at hl 2 rfl) ?_
    refine ti_callVi (ci := 9) (av := [.int z2]) C hw (z_X9_isInQueue l D A cy hJ M hI t ht tx rg lp ug cu hk z2) ⟨ml_X9_205, ym_X9_isInQueue, yv_X9_isInQueue, yi_X9_isInQueue, yc_X9_isInQueue⟩ yd_X9_isInQueue ob_0 (by decide) rfl rfl hl.1 (Nat.le_of_ble_eq_true rfl) ⟨by decide, by decide⟩ ⟨Nat.zero_le _, Nat.zero_le _⟩ dX9_swap_10 (fun r_6 M_7 H locs hp_7 hw => ?_)
    obtain ⟨hm, hz⟩ := hp_7
    have hw := hw.to hm
    rcases hz with ⟨rfl, d0_8, d1_8, d2_8⟩ | ⟨rfl, e_8⟩
    · refine sb_if_eq (tgt := 21) hx hb (by decide : (1 : Int32).toInt = 1) dX9_swap_13 (by decide) (fun h => absurd h (by decide)) (fun c_13_8 => ?_)
      refine lv_iload_n hx hb dX9_swap_16 rfl (lv_at hl 1 rfl) ?_
      refine lv_iload_n hx hb dX9_swap_17 rfl (lv_at hl 2 rfl) ?_
      refine sb_icmp_ne (tgt := 23) hx hb rfl rfl dX9_swap_18 (by decide) (fun c_18_10 => ?_) (fun c_18_10 => ?_)
      · refine lv_iload_n hx hb dX9_swap_23 rfl (lv_at hl 3 rfl) ?_
        refine sb_if_lt (tgt := 46) hx hb rfl dX9_swap_24 (by decide) (fun c_24_11 => ?_) (fun c_24_11 => ?_)
        · refine lv_iconst (v := 0) hx hb dX9_swap_46 (by decide) ?_
          exact hQ _ _ _ _ _ _ hw rfl (Or.inl ⟨by first | omega | (intro hz; omega), by first | omega | decide, rfl⟩) dX9_swap_47
        · refine lv_iload_n hx hb dX9_swap_27 rfl (lv_at hl 3 rfl) ?_
          refine lv_bipush (v := 99) hx hb dX9_swap_28 (by decide) ?_
          refine sb_icmp_gt (tgt := 46) hx hb rfl (by decide : (99 : Int32).toInt = 99) dX9_swap_30 (by decide) (fun c_30_12 => ?_) (fun c_30_12 => ?_)
          · refine lv_iconst (v := 0) hx hb dX9_swap_46 (by decide) ?_
            exact hQ _ _ _ _ _ _ hw rfl (Or.inl ⟨by first | omega | (intro hz; omega), by first | omega | decide, rfl⟩) dX9_swap_47
          · refine lv_iload_n hx hb dX9_swap_33 rfl (lv_at hl 3 rfl) ?_
            refine lv_aload_n hx hb dX9_swap_34 rfl (lv_at hl 0 rfl) ?_
            refine ti_get (ci := 9) (k := 3) (N := 10) (T := TX9) (v := .ref (A 27 0)) C hw iw_9 rfl ob_0 (by decide) (by decide) fl_X9_29 rfl rfl dX9_swap_35 ?_
            refine ti_get (ci := 3) (k := 12) (N := 17) (T := TX3) (v := .ref (A 27 13)) C hw iw_3 rfl ob_27 (by decide) (by decide) fl_X9_133 rfl rfl dX9_swap_38 ?_
            refine lv_iload_n hx hb dX9_swap_41 rfl (lv_at hl 1 rfl) ?_
            refine ti_iald (ci := 3) (k := 12) (n := 8) C hw ob_27 (by decide) (fun _ _ => rfl) (vp_in_iff.mpr (by omega)) dX9_swap_42 ?_
            refine lv_topi (fun x_14 ex_14 => ?_)
            have L_15 : rg (192 + z1.toInt.toNat) = x_14.toInt := qC_y (k := 12) hs rfl (by omega) (by omega) (by decide) (by decide) ex_14
            refine sb_icmp_le (tgt := 48) hx hb rfl rfl dX9_swap_43 (by decide) (fun c_43_15 => ?_) (fun c_43_15 => ?_)
            · refine lv_aload_n hx hb dX9_swap_48 rfl (lv_at hl 0 rfl) ?_
              refine ti_get (ci := 9) (k := 5) (N := 10) (T := TX9) (v := .ref (A 28 0)) C hw iw_9 rfl ob_0 (by decide) (by decide) fl_X9_40 rfl rfl dX9_swap_49 ?_
              refine lv_aload_n hx hb dX9_swap_52 rfl (lv_at hl 0 rfl) ?_
              refine ti_get (ci := 9) (k := 3) (N := 10) (T := TX9) (v := .ref (A 27 0)) C hw iw_9 rfl ob_0 (by decide) (by decide) fl_X9_29 rfl rfl dX9_swap_53 ?_
              refine ti_callVv (ci := 5) (av := [.ref (A 27 0)]) C hw (z_X5_remember l D A cy hJ M hI hF t ht tx rg lp ug cu hk) ⟨ml_X9_198, ym_X5_remember, yv_X5_remember, yi_X5_remember, yc_X5_remember⟩ yd_X5_remember ob_28 (by decide) rfl rfl hl.1 (Nat.le_of_ble_eq_true rfl) ⟨by decide, by decide⟩ ⟨Nat.zero_le _, Nat.zero_le _⟩ dX9_swap_56 (fun M_18 H locs hp_18 hw => ?_)
              obtain ⟨cf_19, kg_20, kc_21⟩ := hp_18
              obtain ⟨tx21, ta21, tb21, hs21, -, -⟩ := id kc_21
              refine lv_aload_n hx hb dX9_swap_59 rfl (lv_at hl 0 rfl) ?_
              refine ti_get (ci := 9) (k := 3) (N := 10) (T := TX9) (v := .ref (A 27 0)) C hw iw_9 rfl ob_0 (by decide) (by decide) fl_X9_29 rfl rfl dX9_swap_60 ?_
              refine lv_iload_n hx hb dX9_swap_63 rfl (lv_at hl 1 rfl) ?_
              refine lv_iload_n hx hb dX9_swap_64 rfl (lv_at hl 2 rfl) ?_
              refine ti_callVv (ci := 3) (av := [.int z1, .int z2]) C hw (z_X3_exchange l D A cy hJ M_18 cf_19.1 27 ob_27 z1 z2 (by omega) (by omega) (by omega) (by omega) rg hs21) ⟨ml_X9_212, ym_X3_exchange, yv_X3_exchange, yi_X3_exchange, yc_X3_exchange⟩ yd_X3_exchange ob_27 (by decide) rfl rfl hl.1 (Nat.le_of_ble_eq_true rfl) ⟨by decide, by decide⟩ ⟨Nat.zero_le _, Nat.zero_le _⟩ dX9_swap_65 (fun M_23 H locs hp_23 hw => ?_)
              obtain ⟨iM_23, q_24, q_25, hs_26⟩ := hp_23
              obtain ⟨g_27, eg_27⟩ : ∃ z : Nat → Int, z = bq_ex rg z1.toInt z2.toInt := ⟨_, rfl⟩
              rw [← eg_27] at hs_26
              refine lv_aload_n hx hb dX9_swap_68 rfl (lv_at hl 0 rfl) ?_
              refine ti_get (ci := 9) (k := 3) (N := 10) (T := TX9) (v := .ref (A 27 0)) C hw iw_9 rfl ob_0 (by decide) (by decide) fl_X9_29 rfl rfl dX9_swap_69 ?_
              refine ti_get (ci := 3) (k := 12) (N := 17) (T := TX3) (v := .ref (A 27 13)) C hw iw_3 rfl ob_27 (by decide) (by decide) fl_X9_133 rfl rfl dX9_swap_72 ?_
              refine lv_iload_n hx hb dX9_swap_75 rfl (lv_at hl 1 rfl) ?_
              refine lv_dup2_11 hx hb dX9_swap_76 rfl rfl ?_
              refine ti_iald (ci := 3) (k := 12) (n := 8) C hw ob_27 (by decide) (fun _ _ => rfl) (vp_in_iff.mpr (by omega)) dX9_swap_77 ?_
              refine lv_topi (fun x_28 ex_28 => ?_)
              have L_29 : g_27 (192 + z1.toInt.toNat) = x_28.toInt := qC_y (k := 12) hs_26 rfl (by omega) (by omega) (by decide) (by decide) ex_28
              refine lv_iload_n hx hb dX9_swap_78 rfl (lv_at hl 3 rfl) ?_
              refine lv_isub hx hb dX9_swap_79 ?_
              refine lv_topi (fun x_30 ex_30 => ?_)
              have tx_30 : x_30.toInt = bw (x_28.toInt - z3.toInt) := bw_sub ex_30 rfl rfl
              refine ti_iast (ci := 3) (k := 12) (n := 8) C hw ob_27 (by decide) (fun _ _ => rfl) (vp_in_iff.mpr (by omega)) dX9_swap_80 (fun H locs hw => ?_)
              obtain ⟨M_31, hM_31⟩ : ∃ z : ti_M, z = uY M_23 27 12 (upd (tY M_23 27 12) (z1 : Int32).toNatClampNeg x_30) := ⟨_, rfl⟩
              have hw := hw.to hM_31.symm
              have iM_31 : cI Tc M_31 := cI_up iM_23 hM_31 ob_27.1 trivial
              have hs_32 : qC 27 (pp_su g_27 (192 + z1.toInt.toNat) x_30.toInt) M_31 := qC_Y (k := 12) (j := z1.toInt.toNat) (i := z1) hs_26 (by omega) rfl hM_31 (by decide) (by omega)
              obtain ⟨g_33, eg_33⟩ : ∃ z : Nat → Int, z = pp_su g_27 (192 + z1.toInt.toNat) x_30.toInt := ⟨_, rfl⟩
              rw [← eg_33] at hs_32
              refine lv_aload_n hx hb dX9_swap_81 rfl (lv_at hl 0 rfl) ?_
              refine ti_get (ci := 9) (k := 3) (N := 10) (T := TX9) (v := .ref (A 27 0)) C hw iw_9 rfl ob_0 (by decide) (by decide) fl_X9_29 rfl rfl dX9_swap_82 ?_
              refine ti_get (ci := 3) (k := 12) (N := 17) (T := TX3) (v := .ref (A 27 13)) C hw iw_3 rfl ob_27 (by decide) (by decide) fl_X9_133 rfl rfl dX9_swap_85 ?_
              refine lv_iload_n hx hb dX9_swap_88 rfl (lv_at hl 2 rfl) ?_
              refine lv_dup2_11 hx hb dX9_swap_89 rfl rfl ?_
              refine ti_iald (ci := 3) (k := 12) (n := 8) C hw ob_27 (by decide) (fun _ _ => rfl) (vp_in_iff.mpr (by omega)) dX9_swap_90 ?_
              refine lv_topi (fun x_34 ex_34 => ?_)
              have L_35 : g_33 (192 + z2.toInt.toNat) = x_34.toInt := qC_y (k := 12) hs_32 rfl (by omega) (by omega) (by decide) (by decide) ex_34
              refine lv_iload_n hx hb dX9_swap_91 rfl (lv_at hl 3 rfl) ?_
              refine lv_iadd hx hb dX9_swap_92 ?_
              refine lv_topi (fun x_36 ex_36 => ?_)
              have tx_36 : x_36.toInt = bw (x_34.toInt + z3.toInt) := bw_add ex_36 rfl rfl
              refine ti_iast (ci := 3) (k := 12) (n := 8) C hw ob_27 (by decide) (fun _ _ => rfl) (vp_in_iff.mpr (by omega)) dX9_swap_93 (fun H locs hw => ?_)
              obtain ⟨M_37, hM_37⟩ : ∃ z : ti_M, z = uY M_31 27 12 (upd (tY M_31 27 12) (z2 : Int32).toNatClampNeg x_36) := ⟨_, rfl⟩
              have hw := hw.to hM_37.symm
              have iM_37 : cI Tc M_37 := cI_up iM_31 hM_37 ob_27.1 trivial
              have hs_38 : qC 27 (pp_su g_33 (192 + z2.toInt.toNat) x_36.toInt) M_37 := qC_Y (k := 12) (j := z2.toInt.toNat) (i := z2) hs_32 (by omega) rfl hM_37 (by decide) (by omega)
              obtain ⟨g_39, eg_39⟩ : ∃ z : Nat → Int, z = pp_su g_33 (192 + z2.toInt.toNat) x_36.toInt := ⟨_, rfl⟩
              rw [← eg_39] at hs_38
              refine lv_iconst (v := 1) hx hb dX9_swap_94 (by decide) ?_
              have E_40 : bq_sw rg z1.toInt z2.toInt z3.toInt = g_39 := by unfold bq_sw bq_s1w; rw [← eg_27, L_29, ← tx_30, ← eg_33, L_35, ← tx_36, ← eg_39]
              exact hQ _ _ _ _ _ _ hw rfl (Or.inr ⟨by omega, by first | omega | decide, cF_fr cf_19 iM_37 (rs_of ((rf_Y hM_37).trans ((rf_Y hM_31).trans q_24))) (fX_eo (eo.trans (eo_Y hM_37) (eo.trans (eo_Y hM_31) q_25))), kG.trans (kG_eo (eo.trans (eo_Y hM_37) (eo.trans (eo_Y hM_31) q_25)) ((rf_Y hM_37).trans ((rf_Y hM_31).trans q_24))) kg_20, kC_eo ht kc_21 (eo.trans (eo_Y hM_37) (eo.trans (eo_Y hM_31) q_25)) ((rf_Y hM_37).trans ((rf_Y hM_31).trans q_24)) (by rw [E_40]; exact hs_38)⟩) dX9_swap_95
            · refine lv_iconst (v := 0) hx hb dX9_swap_46 (by decide) ?_
              exact hQ _ _ _ _ _ _ hw rfl (Or.inl ⟨by first | omega | (intro hz; omega), by first | omega | decide, rfl⟩) dX9_swap_47
      · refine lv_iconst (v := 0) hx hb dX9_swap_21 (by decide) ?_
        exact hQ _ _ _ _ _ _ hw rfl (Or.inl ⟨by first | omega | (intro hz; omega), by first | omega | decide, rfl⟩) dX9_swap_22
    · refine sb_if_eq (tgt := 21) hx hb (by decide : (0 : Int32).toInt = 0) dX9_swap_13 (by decide) (fun c_13_9 => ?_) (fun h => absurd h (by decide))
      refine lv_iconst (v := 0) hx hb dX9_swap_21 (by decide) ?_
      exact hQ _ _ _ _ _ _ hw rfl (Or.inl ⟨by first | omega | (intro hz; omega), by first | omega | decide, rfl⟩) dX9_swap_22
  · refine sb_if_eq (tgt := 21) hx hb (by decide : (0 : Int32).toInt = 0) dX9_swap_5 (by decide) (fun c_5_4 => ?_) (fun h => absurd h (by decide))
    refine lv_iconst (v := 0) hx hb dX9_swap_21 (by decide) ?_
    exact hQ _ _ _ _ _ _ hw rfl (Or.inl ⟨by first | omega | (intro hz; omega), by first | omega | decide, rfl⟩) dX9_swap_22
set_option maxHeartbeats 4000000 in
set_option maxRecDepth 100000 in
theorem z_X9_kneel (l : Launch) (D : va_G) (A : Nat → Nat → Nat) (cy : Nat → ClassId) (hJ : ti_inj ti_LT A) (M : ti_M) (hI : cI Tc M) (hF : cF Tc M) (t : Nat) (ht : t = 3 ∨ t = 4) (tx rg lp : Nat → Int) (ug : Nat → Nat → Int) (cu : Int) (hk : kC t tx rg ug cu lp M) (z1 : Int32) (z2 : Int32) : ti_Ki l yX9_kneel cX9_kneel 3 (some .boolean) 3 ti_LT D A cy M [.ref (A 0 0), .int z1, .int z2] (fun r M2 => (¬ ((0 ≤ z1.toInt ∧ z1.toInt < tx 4 ∧ rg (128 + z1.toInt.toNat) = 1) ∧ 1 ≤ z2.toInt ∧ z2.toInt ≤ 20 ∧ rg (240 + z1.toInt.toNat) ≠ z2.toInt) ∧ r.toInt = 0 ∧ M2 = M) ∨ (((0 ≤ z1.toInt ∧ z1.toInt < tx 4 ∧ rg (128 + z1.toInt.toNat) = 1) ∧ 1 ≤ z2.toInt ∧ z2.toInt ≤ 20 ∧ rg (240 + z1.toInt.toNat) ≠ z2.toInt) ∧ r.toInt = 1 ∧ cF Tc M2 ∧ kG M2 M ∧ kC t tx (pp_su rg (240 + z1.toInt.toNat) z2.toInt) (bq_rb ug cu rg) (bq_rc cu) lp M2)) := by
  refine ti_eI yp_X9_kneel hJ ti_LT_nd (Nat.le_of_ble_eq_true rfl) ?_
  intro p e s m args below meth c Q H0 C hQ hw ls hl
  have hx := C.1
  have hb := C.2.1
  have hl : lv_has ls 3 [(0, .ref (A 0 0)), (1, .int z1), (2, .int z2)] := hl
  obtain ⟨htx, hT1, hT, hs, hr, hp0⟩ := id hk
  have l4 : 0 ≤ tx 4 ∧ tx 4 ≤ 8 := by rw [htx.1 4 (by decide) (by decide)]; exact cI_rd (k := 4) hI (ob_t ht).1 rfl
  have h4 : tx 4 = (tI M t 4).toInt := htx.1 4 (by decide) (by decide)
  refine lv_aload_n hx hb dX9_kneel_0 rfl (lv_at hl 0 rfl) ?_
  refine lv_iload_n hx hb dX9_kneel_1 rfl (lv_at hl 1 rfl) ?_
  refine ti_callVi (ci := 9) (av := [.int z1]) C hw (z_X9_isInQueue l D A cy hJ M hI t ht tx rg lp ug cu hk z1) ⟨ml_X9_205, ym_X9_isInQueue, yv_X9_isInQueue, yi_X9_isInQueue, yc_X9_isInQueue⟩ yd_X9_isInQueue ob_0 (by decide) rfl rfl hl.1 (Nat.le_of_ble_eq_true rfl) ⟨by decide, by decide⟩ ⟨Nat.zero_le _, Nat.zero_le _⟩ dX9_kneel_2 (fun r_1 M_2 H locs hp_2 hw => ?_)
  obtain ⟨hm, hz⟩ := hp_2
  have hw := hw.to hm
  rcases hz with ⟨rfl, d0_3, d1_3, d2_3⟩ | ⟨rfl, e_3⟩
  · refine sb_if_eq (tgt := 19) hx hb (by decide : (1 : Int32).toInt = 1) dX9_kneel_5 (by decide) (fun h => absurd h (by decide)) (fun c_5_3 => ?_)
    refine lv_iload_n hx hb dX9_kneel_8 rfl (lv_at hl 2 rfl) ?_
    refine lv_iconst (v := 1) hx hb dX9_kneel_9 (by decide) ?_
    refine sb_icmp_lt (tgt := 19) hx hb rfl (by decide : (1 : Int32).toInt = 1) dX9_kneel_10 (by decide) (fun c_10_5 => ?_) (fun c_10_5 => ?_)
    · refine lv_iconst (v := 0) hx hb dX9_kneel_19 (by decide) ?_
      exact hQ _ _ _ _ _ _ hw rfl (Or.inl ⟨by first | omega | (intro hz; omega), by first | omega | decide, rfl⟩) dX9_kneel_20
    · refine lv_iload_n hx hb dX9_kneel_13 rfl (lv_at hl 2 rfl) ?_
      refine lv_bipush (v := 20) hx hb dX9_kneel_14 (by decide) ?_
      refine sb_icmp_le (tgt := 21) hx hb rfl (by decide : (20 : Int32).toInt = 20) dX9_kneel_16 (by decide) (fun c_16_6 => ?_) (fun c_16_6 => ?_)
      · refine lv_aload_n hx hb dX9_kneel_21 rfl (lv_at hl 0 rfl) ?_
        refine ti_get (ci := 9) (k := 3) (N := 10) (T := TX9) (v := .ref (A 27 0)) C hw iw_9 rfl ob_0 (by decide) (by decide) fl_X9_29 rfl rfl dX9_kneel_22 ?_
        refine ti_get (ci := 3) (k := 15) (N := 17) (T := TX3) (v := .ref (A 27 16)) C hw iw_3 rfl ob_27 (by decide) (by decide) fl_X9_145 rfl rfl dX9_kneel_25 ?_
        refine lv_iload_n hx hb dX9_kneel_28 rfl (lv_at hl 1 rfl) ?_
        refine ti_iald (ci := 3) (k := 15) (n := 8) C hw ob_27 (by decide) (fun _ _ => rfl) (vp_in_iff.mpr (by omega)) dX9_kneel_29 ?_
        refine lv_topi (fun x_8 ex_8 => ?_)
        have L_9 : rg (240 + z1.toInt.toNat) = x_8.toInt := qC_y (k := 15) hs rfl (by omega) (by omega) (by decide) (by decide) ex_8
        refine lv_iload_n hx hb dX9_kneel_30 rfl (lv_at hl 2 rfl) ?_
        refine sb_icmp_ne (tgt := 36) hx hb rfl rfl dX9_kneel_31 (by decide) (fun c_31_9 => ?_) (fun c_31_9 => ?_)
        · refine lv_aload_n hx hb dX9_kneel_36 rfl (lv_at hl 0 rfl) ?_
          refine ti_get (ci := 9) (k := 5) (N := 10) (T := TX9) (v := .ref (A 28 0)) C hw iw_9 rfl ob_0 (by decide) (by decide) fl_X9_40 rfl rfl dX9_kneel_37 ?_
          refine lv_aload_n hx hb dX9_kneel_40 rfl (lv_at hl 0 rfl) ?_
          refine ti_get (ci := 9) (k := 3) (N := 10) (T := TX9) (v := .ref (A 27 0)) C hw iw_9 rfl ob_0 (by decide) (by decide) fl_X9_29 rfl rfl dX9_kneel_41 ?_
          refine ti_callVv (ci := 5) (av := [.ref (A 27 0)]) C hw (z_X5_remember l D A cy hJ M hI hF t ht tx rg lp ug cu hk) ⟨ml_X9_198, ym_X5_remember, yv_X5_remember, yi_X5_remember, yc_X5_remember⟩ yd_X5_remember ob_28 (by decide) rfl rfl hl.1 (Nat.le_of_ble_eq_true rfl) ⟨by decide, by decide⟩ ⟨Nat.zero_le _, Nat.zero_le _⟩ dX9_kneel_44 (fun M_12 H locs hp_12 hw => ?_)
          obtain ⟨cf_13, kg_14, kc_15⟩ := hp_12
          obtain ⟨tx15, ta15, tb15, hs15, -, -⟩ := id kc_15
          refine lv_aload_n hx hb dX9_kneel_47 rfl (lv_at hl 0 rfl) ?_
          refine ti_get (ci := 9) (k := 3) (N := 10) (T := TX9) (v := .ref (A 27 0)) C hw iw_9 rfl ob_0 (by decide) (by decide) fl_X9_29 rfl rfl dX9_kneel_48 ?_
          refine ti_get (ci := 3) (k := 15) (N := 17) (T := TX3) (v := .ref (A 27 16)) C hw iw_3 rfl ob_27 (by decide) (by decide) fl_X9_145 rfl rfl dX9_kneel_51 ?_
          refine lv_iload_n hx hb dX9_kneel_54 rfl (lv_at hl 1 rfl) ?_
          refine lv_iload_n hx hb dX9_kneel_55 rfl (lv_at hl 2 rfl) ?_
          refine ti_iast (ci := 3) (k := 15) (n := 8) C hw ob_27 (by decide) (fun _ _ => rfl) (vp_in_iff.mpr (by omega)) dX9_kneel_56 (fun H locs hw => ?_)
          obtain ⟨M_16, hM_16⟩ : ∃ z : ti_M, z = uY M_12 27 15 (upd (tY M_12 27 15) (z1 : Int32).toNatClampNeg z2) := ⟨_, rfl⟩
          have hw := hw.to hM_16.symm
          have iM_16 : cI Tc M_16 := cI_up cf_13.1 hM_16 ob_27.1 trivial
          have hs_17 : qC 27 (pp_su rg (240 + z1.toInt.toNat) z2.toInt) M_16 := qC_Y (k := 15) (j := z1.toInt.toNat) (i := z1) hs15 (by omega) rfl hM_16 (by decide) (by omega)
          obtain ⟨g_18, eg_18⟩ : ∃ z : Nat → Int, z = pp_su rg (240 + z1.toInt.toNat) z2.toInt := ⟨_, rfl⟩
          rw [← eg_18] at hs_17
          refine lv_iconst (v := 1) hx hb dX9_kneel_57 (by decide) ?_
          have E_19 : (pp_su rg (240 + z1.toInt.toNat) z2.toInt) = g_18 := by
            
            (repeat (first | rw [if_pos (by omega)] | rw [if_neg (by omega)]))
            all_goals subst eg_18
            all_goals ((repeat' (first | rfl | assumption | refine su_cg ?_ ?_ ?_)) <;> first | omega | (exact congrArg bw (by omega)))
          exact hQ _ _ _ _ _ _ hw rfl (Or.inr ⟨by omega, by first | omega | decide, cF_fr cf_13 iM_16 (rs_of (rf_Y hM_16)) (fX_eo (eo_Y hM_16)), kG.trans (kG_eo (eo_Y hM_16) (rf_Y hM_16)) kg_14, kC_eo ht kc_15 (eo_Y hM_16) (rf_Y hM_16) (by rw [E_19]; exact hs_17)⟩) dX9_kneel_58
        · refine lv_iconst (v := 0) hx hb dX9_kneel_34 (by decide) ?_
          exact hQ _ _ _ _ _ _ hw rfl (Or.inl ⟨by first | omega | (intro hz; omega), by first | omega | decide, rfl⟩) dX9_kneel_35
      · refine lv_iconst (v := 0) hx hb dX9_kneel_19 (by decide) ?_
        exact hQ _ _ _ _ _ _ hw rfl (Or.inl ⟨by first | omega | (intro hz; omega), by first | omega | decide, rfl⟩) dX9_kneel_20
  · refine sb_if_eq (tgt := 19) hx hb (by decide : (0 : Int32).toInt = 0) dX9_kneel_5 (by decide) (fun c_5_4 => ?_) (fun h => absurd h (by decide))
    refine lv_iconst (v := 0) hx hb dX9_kneel_19 (by decide) ?_
    exact hQ _ _ _ _ _ _ hw rfl (Or.inl ⟨by first | omega | (intro hz; omega), by first | omega | decide, rfl⟩) dX9_kneel_20
set_option maxHeartbeats 4000000 in
set_option maxRecDepth 100000 in
theorem z_X9_cough (l : Launch) (D : va_G) (A : Nat → Nat → Nat) (cy : Nat → ClassId) (hJ : ti_inj ti_LT A) (M : ti_M) (hI : cI Tc M) (hF : cF Tc M) (t : Nat) (ht : t = 3 ∨ t = 4) (tx rg lp : Nat → Int) (ug : Nat → Nat → Int) (cu : Int) (hk : kC t tx rg ug cu lp M) (za : Int32) : ti_Ki l yX9_cough cX9_cough 2 (some .boolean) 3 ti_LT D A cy M [.ref (A 0 0), .int za] (fun r M2 => (¬ ((0 ≤ za.toInt ∧ za.toInt < tx 4 ∧ rg (128 + za.toInt.toNat) = 1) ∧ rg (256 + za.toInt.toNat) = 0) ∧ r.toInt = 0 ∧ M2 = M) ∨ (((0 ≤ za.toInt ∧ za.toInt < tx 4 ∧ rg (128 + za.toInt.toNat) = 1) ∧ rg (256 + za.toInt.toNat) = 0) ∧ r.toInt = 1 ∧ cF Tc M2 ∧ kG M2 M ∧ kC t tx (pp_su rg (256 + za.toInt.toNat) 1) (bq_rb ug cu rg) (bq_rc cu) lp M2)) := by
  refine ti_eI yp_X9_cough hJ ti_LT_nd (Nat.le_of_ble_eq_true rfl) ?_
  intro p e s m args below meth c Q H0 C hQ hw ls hl
  have hx := C.1
  have hb := C.2.1
  have hl : lv_has ls 2 [(0, .ref (A 0 0)), (1, .int za)] := hl
  obtain ⟨htx, hT1, hT, hs, hr, hp0⟩ := id hk
  have l4 : 0 ≤ tx 4 ∧ tx 4 ≤ 8 := by rw [htx.1 4 (by decide) (by decide)]; exact cI_rd (k := 4) hI (ob_t ht).1 rfl
  have h4 : tx 4 = (tI M t 4).toInt := htx.1 4 (by decide) (by decide)
  refine lv_aload_n hx hb dX9_cough_0 rfl (lv_at hl 0 rfl) ?_
  refine lv_iload_n hx hb dX9_cough_1 rfl (lv_at hl 1 rfl) ?_
  refine ti_callVi (ci := 9) (av := [.int za]) C hw (z_X9_isInQueue l D A cy hJ M hI t ht tx rg lp ug cu hk za) ⟨ml_X9_205, ym_X9_isInQueue, yv_X9_isInQueue, yi_X9_isInQueue, yc_X9_isInQueue⟩ yd_X9_isInQueue ob_0 (by decide) rfl rfl hl.1 (Nat.le_of_ble_eq_true rfl) ⟨by decide, by decide⟩ ⟨Nat.zero_le _, Nat.zero_le _⟩ dX9_cough_2 (fun r_1 M_2 H locs hp_2 hw => ?_)
  obtain ⟨hm, hz⟩ := hp_2
  have hw := hw.to hm
  rcases hz with ⟨rfl, d0_3, d1_3, d2_3⟩ | ⟨rfl, e_3⟩
  · refine sb_if_eq (tgt := 20) hx hb (by decide : (1 : Int32).toInt = 1) dX9_cough_5 (by decide) (fun h => absurd h (by decide)) (fun c_5_3 => ?_)
    refine lv_aload_n hx hb dX9_cough_8 rfl (lv_at hl 0 rfl) ?_
    refine ti_get (ci := 9) (k := 3) (N := 10) (T := TX9) (v := .ref (A 27 0)) C hw iw_9 rfl ob_0 (by decide) (by decide) fl_X9_29 rfl rfl dX9_cough_9 ?_
    refine ti_get (ci := 3) (k := 16) (N := 17) (T := TX3) (v := .ref (A 27 17)) C hw iw_3 rfl ob_27 (by decide) (by decide) fl_X9_148 rfl rfl dX9_cough_12 ?_
    refine lv_iload_n hx hb dX9_cough_15 rfl (lv_at hl 1 rfl) ?_
    refine ti_iald (ci := 3) (k := 16) (n := 8) C hw ob_27 (by decide) (fun _ _ => rfl) (vp_in_iff.mpr (by omega)) dX9_cough_16 ?_
    refine lv_topi (fun x_6 ex_6 => ?_)
    have L_7 : rg (256 + za.toInt.toNat) = x_6.toInt := qC_y (k := 16) hs rfl (by omega) (by omega) (by decide) (by decide) ex_6
    refine sb_if_eq (tgt := 22) hx hb rfl dX9_cough_17 (by decide) (fun c_17_7 => ?_) (fun c_17_7 => ?_)
    · refine lv_aload_n hx hb dX9_cough_22 rfl (lv_at hl 0 rfl) ?_
      refine ti_get (ci := 9) (k := 5) (N := 10) (T := TX9) (v := .ref (A 28 0)) C hw iw_9 rfl ob_0 (by decide) (by decide) fl_X9_40 rfl rfl dX9_cough_23 ?_
      refine lv_aload_n hx hb dX9_cough_26 rfl (lv_at hl 0 rfl) ?_
      refine ti_get (ci := 9) (k := 3) (N := 10) (T := TX9) (v := .ref (A 27 0)) C hw iw_9 rfl ob_0 (by decide) (by decide) fl_X9_29 rfl rfl dX9_cough_27 ?_
      refine ti_callVv (ci := 5) (av := [.ref (A 27 0)]) C hw (z_X5_remember l D A cy hJ M hI hF t ht tx rg lp ug cu hk) ⟨ml_X9_198, ym_X5_remember, yv_X5_remember, yi_X5_remember, yc_X5_remember⟩ yd_X5_remember ob_28 (by decide) rfl rfl hl.1 (Nat.le_of_ble_eq_true rfl) ⟨by decide, by decide⟩ ⟨Nat.zero_le _, Nat.zero_le _⟩ dX9_cough_30 (fun M_10 H locs hp_10 hw => ?_)
      obtain ⟨cf_11, kg_12, kc_13⟩ := hp_10
      obtain ⟨tx13, ta13, tb13, hs13, -, -⟩ := id kc_13
      refine lv_aload_n hx hb dX9_cough_33 rfl (lv_at hl 0 rfl) ?_
      refine ti_get (ci := 9) (k := 3) (N := 10) (T := TX9) (v := .ref (A 27 0)) C hw iw_9 rfl ob_0 (by decide) (by decide) fl_X9_29 rfl rfl dX9_cough_34 ?_
      refine ti_get (ci := 3) (k := 16) (N := 17) (T := TX3) (v := .ref (A 27 17)) C hw iw_3 rfl ob_27 (by decide) (by decide) fl_X9_148 rfl rfl dX9_cough_37 ?_
      refine lv_iload_n hx hb dX9_cough_40 rfl (lv_at hl 1 rfl) ?_
      refine lv_iconst (v := 1) hx hb dX9_cough_41 (by decide) ?_
      refine ti_iast (ci := 3) (k := 16) (n := 8) C hw ob_27 (by decide) (fun _ _ => rfl) (vp_in_iff.mpr (by omega)) dX9_cough_42 (fun H locs hw => ?_)
      obtain ⟨M_14, hM_14⟩ : ∃ z : ti_M, z = uY M_10 27 16 (upd (tY M_10 27 16) (za : Int32).toNatClampNeg 1) := ⟨_, rfl⟩
      have hw := hw.to hM_14.symm
      have iM_14 : cI Tc M_14 := cI_up cf_11.1 hM_14 ob_27.1 trivial
      have hs_15 : qC 27 (pp_su rg (256 + za.toInt.toNat) 1) M_14 := qC_Y (k := 16) (j := za.toInt.toNat) (i := za) hs13 (by omega) (by decide : (1 : Int32).toInt = 1) hM_14 (by decide) (by omega)
      obtain ⟨g_16, eg_16⟩ : ∃ z : Nat → Int, z = pp_su rg (256 + za.toInt.toNat) 1 := ⟨_, rfl⟩
      rw [← eg_16] at hs_15
      refine lv_iconst (v := 1) hx hb dX9_cough_43 (by decide) ?_
      have E_17 : (pp_su rg (256 + za.toInt.toNat) 1) = g_16 := by
        
        (repeat (first | rw [if_pos (by omega)] | rw [if_neg (by omega)]))
        all_goals subst eg_16
        all_goals ((repeat' (first | rfl | assumption | refine su_cg ?_ ?_ ?_)) <;> first | omega | (exact congrArg bw (by omega)))
      exact hQ _ _ _ _ _ _ hw rfl (Or.inr ⟨by omega, by first | omega | decide, cF_fr cf_11 iM_14 (rs_of (rf_Y hM_14)) (fX_eo (eo_Y hM_14)), kG.trans (kG_eo (eo_Y hM_14) (rf_Y hM_14)) kg_12, kC_eo ht kc_13 (eo_Y hM_14) (rf_Y hM_14) (by rw [E_17]; exact hs_15)⟩) dX9_cough_44
    · refine lv_iconst (v := 0) hx hb dX9_cough_20 (by decide) ?_
      exact hQ _ _ _ _ _ _ hw rfl (Or.inl ⟨by first | omega | (intro hz; omega), by first | omega | decide, rfl⟩) dX9_cough_21
  · refine sb_if_eq (tgt := 20) hx hb (by decide : (0 : Int32).toInt = 0) dX9_cough_5 (by decide) (fun c_5_4 => ?_) (fun h => absurd h (by decide))
    refine lv_iconst (v := 0) hx hb dX9_cough_20 (by decide) ?_
    exact hQ _ _ _ _ _ _ hw rfl (Or.inl ⟨by first | omega | (intro hz; omega), by first | omega | decide, rfl⟩) dX9_cough_21
set_option maxHeartbeats 4000000 in
set_option maxRecDepth 100000 in
theorem z_X9_move (l : Launch) (D : va_G) (A : Nat → Nat → Nat) (cy : Nat → ClassId) (hJ : ti_inj ti_LT A) (M : ti_M) (hI : cI Tc M) (hF : cF Tc M) (t : Nat) (ht : t = 3 ∨ t = 4) (tx rg lp : Nat → Int) (ug : Nat → Nat → Int) (cu : Int) (hk : kC t tx rg ug cu lp M) (z1 : Int32) (z2 : Int32) : ti_Ki l yX9_move cX9_move 3 (some .boolean) 3 ti_LT D A cy M [.ref (A 0 0), .int z1, .int z2] (fun r M2 => (¬ (0 ≤ z1.toInt ∧ z1.toInt ≤ 2 ∧ 0 ≤ z2.toInt ∧ z2.toInt ≤ 7 ∧ rg (112 + z1.toInt.toNat) ≠ z2.toInt) ∧ r.toInt = 0 ∧ M2 = M) ∨ ((0 ≤ z1.toInt ∧ z1.toInt ≤ 2 ∧ 0 ≤ z2.toInt ∧ z2.toInt ≤ 7 ∧ rg (112 + z1.toInt.toNat) ≠ z2.toInt) ∧ r.toInt = 1 ∧ cF Tc M2 ∧ kG M2 M ∧ kC t tx (pp_su rg (112 + z1.toInt.toNat) z2.toInt) (bq_rb ug cu rg) (bq_rc cu) lp M2)) := by
  refine ti_eI yp_X9_move hJ ti_LT_nd (Nat.le_of_ble_eq_true rfl) ?_
  intro p e s m args below meth c Q H0 C hQ hw ls hl
  have hx := C.1
  have hb := C.2.1
  have hl : lv_has ls 3 [(0, .ref (A 0 0)), (1, .int z1), (2, .int z2)] := hl
  obtain ⟨htx, hT1, hT, hs, hr, hp0⟩ := id hk
  have l4 : 0 ≤ tx 4 ∧ tx 4 ≤ 8 := by rw [htx.1 4 (by decide) (by decide)]; exact cI_rd (k := 4) hI (ob_t ht).1 rfl
  have h4 : tx 4 = (tI M t 4).toInt := htx.1 4 (by decide) (by decide)
  refine lv_aload_n hx hb dX9_move_0 rfl (lv_at hl 0 rfl) ?_
  refine lv_iload_n hx hb dX9_move_1 rfl (lv_at hl 1 rfl) ?_
  refine ti_callVi (ci := 9) (av := [.int z1]) C hw (z_X9_isPower l D A cy hJ M hI z1) ⟨ml_X9_165, ym_X9_isPower, yv_X9_isPower, yi_X9_isPower, yc_X9_isPower⟩ yd_X9_isPower ob_0 (by decide) rfl rfl hl.1 (Nat.le_of_ble_eq_true rfl) ⟨by decide, by decide⟩ ⟨Nat.zero_le _, Nat.zero_le _⟩ dX9_move_2 (fun r_1 M_2 H locs hp_2 hw => ?_)
  obtain ⟨hm, hz⟩ := hp_2
  have hw := hw.to hm
  rcases hz with ⟨rfl, d0_3, d1_3⟩ | ⟨rfl, e_3⟩
  · refine sb_if_eq (tgt := 29) hx hb (by decide : (1 : Int32).toInt = 1) dX9_move_5 (by decide) (fun h => absurd h (by decide)) (fun c_5_3 => ?_)
    refine lv_aload_n hx hb dX9_move_8 rfl (lv_at hl 0 rfl) ?_
    refine lv_iload_n hx hb dX9_move_9 rfl (lv_at hl 2 rfl) ?_
    refine ti_callVi (ci := 9) (av := [.int z2]) C hw (x_X9_isPlace l D A cy hJ M hI z2) ⟨ml_X9_159, ym_X9_isPlace, yv_X9_isPlace, yi_X9_isPlace, yc_X9_isPlace⟩ yd_X9_isPlace ob_0 (by decide) rfl rfl hl.1 (Nat.le_of_ble_eq_true rfl) ⟨by decide, by decide⟩ ⟨Nat.zero_le _, Nat.zero_le _⟩ dX9_move_10 (fun r_6 M_7 H locs hp_7 hw => ?_)
    obtain ⟨hm, hz⟩ := hp_7
    have hw := hw.to hm
    rcases hz with ⟨rfl, d0_8, d1_8⟩ | ⟨rfl, e_8⟩
    · refine sb_if_eq (tgt := 29) hx hb (by decide : (1 : Int32).toInt = 1) dX9_move_13 (by decide) (fun h => absurd h (by decide)) (fun c_13_8 => ?_)
      refine lv_aload_n hx hb dX9_move_16 rfl (lv_at hl 0 rfl) ?_
      refine ti_get (ci := 9) (k := 3) (N := 10) (T := TX9) (v := .ref (A 27 0)) C hw iw_9 rfl ob_0 (by decide) (by decide) fl_X9_29 rfl rfl dX9_move_17 ?_
      refine ti_get (ci := 3) (k := 7) (N := 17) (T := TX3) (v := .ref (A 27 8)) C hw iw_3 rfl ob_27 (by decide) (by decide) fl_X9_168 rfl rfl dX9_move_20 ?_
      refine lv_iload_n hx hb dX9_move_23 rfl (lv_at hl 1 rfl) ?_
      refine ti_iald (ci := 3) (k := 7) (n := 3) C hw ob_27 (by decide) (fun _ _ => rfl) (vp_in_iff.mpr (by omega)) dX9_move_24 ?_
      refine lv_topi (fun x_11 ex_11 => ?_)
      have L_12 : rg (112 + z1.toInt.toNat) = x_11.toInt := qC_y (k := 7) hs rfl (by omega) (by omega) (by decide) (by decide) ex_11
      refine lv_iload_n hx hb dX9_move_25 rfl (lv_at hl 2 rfl) ?_
      refine sb_icmp_ne (tgt := 31) hx hb rfl rfl dX9_move_26 (by decide) (fun c_26_12 => ?_) (fun c_26_12 => ?_)
      · refine lv_aload_n hx hb dX9_move_31 rfl (lv_at hl 0 rfl) ?_
        refine ti_get (ci := 9) (k := 5) (N := 10) (T := TX9) (v := .ref (A 28 0)) C hw iw_9 rfl ob_0 (by decide) (by decide) fl_X9_40 rfl rfl dX9_move_32 ?_
        refine lv_aload_n hx hb dX9_move_35 rfl (lv_at hl 0 rfl) ?_
        refine ti_get (ci := 9) (k := 3) (N := 10) (T := TX9) (v := .ref (A 27 0)) C hw iw_9 rfl ob_0 (by decide) (by decide) fl_X9_29 rfl rfl dX9_move_36 ?_
        refine ti_callVv (ci := 5) (av := [.ref (A 27 0)]) C hw (z_X5_remember l D A cy hJ M hI hF t ht tx rg lp ug cu hk) ⟨ml_X9_198, ym_X5_remember, yv_X5_remember, yi_X5_remember, yc_X5_remember⟩ yd_X5_remember ob_28 (by decide) rfl rfl hl.1 (Nat.le_of_ble_eq_true rfl) ⟨by decide, by decide⟩ ⟨Nat.zero_le _, Nat.zero_le _⟩ dX9_move_39 (fun M_15 H locs hp_15 hw => ?_)
        obtain ⟨cf_16, kg_17, kc_18⟩ := hp_15
        obtain ⟨tx18, ta18, tb18, hs18, -, -⟩ := id kc_18
        refine lv_aload_n hx hb dX9_move_42 rfl (lv_at hl 0 rfl) ?_
        refine ti_get (ci := 9) (k := 3) (N := 10) (T := TX9) (v := .ref (A 27 0)) C hw iw_9 rfl ob_0 (by decide) (by decide) fl_X9_29 rfl rfl dX9_move_43 ?_
        refine ti_get (ci := 3) (k := 7) (N := 17) (T := TX3) (v := .ref (A 27 8)) C hw iw_3 rfl ob_27 (by decide) (by decide) fl_X9_168 rfl rfl dX9_move_46 ?_
        refine lv_iload_n hx hb dX9_move_49 rfl (lv_at hl 1 rfl) ?_
        refine lv_iload_n hx hb dX9_move_50 rfl (lv_at hl 2 rfl) ?_
        refine ti_iast (ci := 3) (k := 7) (n := 3) C hw ob_27 (by decide) (fun _ _ => rfl) (vp_in_iff.mpr (by omega)) dX9_move_51 (fun H locs hw => ?_)
        obtain ⟨M_19, hM_19⟩ : ∃ z : ti_M, z = uY M_15 27 7 (upd (tY M_15 27 7) (z1 : Int32).toNatClampNeg z2) := ⟨_, rfl⟩
        have hw := hw.to hM_19.symm
        have iM_19 : cI Tc M_19 := cI_up cf_16.1 hM_19 ob_27.1 trivial
        have hs_20 : qC 27 (pp_su rg (112 + z1.toInt.toNat) z2.toInt) M_19 := qC_Y (k := 7) (j := z1.toInt.toNat) (i := z1) hs18 (by omega) rfl hM_19 (by decide) (by omega)
        obtain ⟨g_21, eg_21⟩ : ∃ z : Nat → Int, z = pp_su rg (112 + z1.toInt.toNat) z2.toInt := ⟨_, rfl⟩
        rw [← eg_21] at hs_20
        refine lv_iconst (v := 1) hx hb dX9_move_52 (by decide) ?_
        have E_22 : (pp_su rg (112 + z1.toInt.toNat) z2.toInt) = g_21 := by
          
          (repeat (first | rw [if_pos (by omega)] | rw [if_neg (by omega)]))
          all_goals subst eg_21
          all_goals ((repeat' (first | rfl | assumption | refine su_cg ?_ ?_ ?_)) <;> first | omega | (exact congrArg bw (by omega)))
        exact hQ _ _ _ _ _ _ hw rfl (Or.inr ⟨by omega, by first | omega | decide, cF_fr cf_16 iM_19 (rs_of (rf_Y hM_19)) (fX_eo (eo_Y hM_19)), kG.trans (kG_eo (eo_Y hM_19) (rf_Y hM_19)) kg_17, kC_eo ht kc_18 (eo_Y hM_19) (rf_Y hM_19) (by rw [E_22]; exact hs_20)⟩) dX9_move_53
      · refine lv_iconst (v := 0) hx hb dX9_move_29 (by decide) ?_
        exact hQ _ _ _ _ _ _ hw rfl (Or.inl ⟨by first | omega | (intro hz; omega), by first | omega | decide, rfl⟩) dX9_move_30
    · refine sb_if_eq (tgt := 29) hx hb (by decide : (0 : Int32).toInt = 0) dX9_move_13 (by decide) (fun c_13_9 => ?_) (fun h => absurd h (by decide))
      refine lv_iconst (v := 0) hx hb dX9_move_29 (by decide) ?_
      exact hQ _ _ _ _ _ _ hw rfl (Or.inl ⟨by first | omega | (intro hz; omega), by first | omega | decide, rfl⟩) dX9_move_30
  · refine sb_if_eq (tgt := 29) hx hb (by decide : (0 : Int32).toInt = 0) dX9_move_5 (by decide) (fun c_5_4 => ?_) (fun h => absurd h (by decide))
    refine lv_iconst (v := 0) hx hb dX9_move_29 (by decide) ?_
    exact hQ _ _ _ _ _ _ hw rfl (Or.inl ⟨by first | omega | (intro hz; omega), by first | omega | decide, rfl⟩) dX9_move_30
set_option maxHeartbeats 4000000 in
set_option maxRecDepth 100000 in
theorem z_X9_undo (l : Launch) (D : va_G) (A : Nat → Nat → Nat) (cy : Nat → ClassId) (hJ : ti_inj ti_LT A) (M : ti_M) (hI : cI Tc M) (hF : cF Tc M) (t : Nat) (ht : t = 3 ∨ t = 4) (tx rg lp : Nat → Int) (ug : Nat → Nat → Int) (cu : Int) (hk : kC t tx rg ug cu lp M) : ti_Ki l yX9_undo cX9_undo 1 (some .int) 3 ti_LT D A cy M [.ref (A 0 0)] (fun r M2 => (cu = 0 ∧ r.toInt = -1 ∧ M2 = M) ∨ (0 < cu ∧ r.toInt = cu - 1 ∧ cF Tc M2 ∧ kG M2 M ∧ kC t tx (ug (cu - 1).toNat) ug (cu - 1) lp M2)) := by
  refine ti_eI yp_X9_undo hJ ti_LT_nd (Nat.le_of_ble_eq_true rfl) ?_
  intro p e s m args below meth c Q H0 C hQ hw ls hl
  have hx := C.1
  have hb := C.2.1
  have hl : lv_has ls 1 [(0, .ref (A 0 0))] := hl
  obtain ⟨htx, hT1, hT, hs, hr, hp0⟩ := id hk
  have l4 : 0 ≤ tx 4 ∧ tx 4 ≤ 8 := by rw [htx.1 4 (by decide) (by decide)]; exact cI_rd (k := 4) hI (ob_t ht).1 rfl
  have h4 : tx 4 = (tI M t 4).toInt := htx.1 4 (by decide) (by decide)
  refine lv_aload_n hx hb dX9_undo_0 rfl (lv_at hl 0 rfl) ?_
  refine ti_get (ci := 9) (k := 5) (N := 10) (T := TX9) (v := .ref (A 28 0)) C hw iw_9 rfl ob_0 (by decide) (by decide) fl_X9_40 rfl rfl dX9_undo_1 ?_
  refine lv_aload_n hx hb dX9_undo_4 rfl (lv_at hl 0 rfl) ?_
  refine ti_get (ci := 9) (k := 3) (N := 10) (T := TX9) (v := .ref (A 27 0)) C hw iw_9 rfl ob_0 (by decide) (by decide) fl_X9_29 rfl rfl dX9_undo_5 ?_
  refine ti_callVi (ci := 5) (av := [.ref (A 27 0)]) C hw (z_X5_takeBack l D A cy hJ M hI hF t ht tx rg lp ug cu hk) ⟨ml_X9_293, ym_X5_takeBack, yv_X5_takeBack, yi_X5_takeBack, yc_X5_takeBack⟩ yd_X5_takeBack ob_28 (by decide) rfl rfl hl.1 (Nat.le_of_ble_eq_true rfl) ⟨by decide, by decide⟩ ⟨Nat.zero_le _, Nat.zero_le _⟩ dX9_undo_8 (fun r_1 M_2 H locs hp_2 hw => ?_)
  rcases hp_2 with ⟨z0_3, rfl, hm⟩ | ⟨z0_3, rfl, z1_3, z2_3, z3_3⟩
  · have hw := hw.to hm
    refine sb_if_eq (tgt := 24) hx hb (by decide : (0 : Int32).toInt = 0) dX9_undo_11 (by decide) (fun c_11_3 => ?_) (fun h => absurd h (by decide))
    refine lv_iconst (v := (-1)) hx hb dX9_undo_24 (by decide) ?_
    exact hQ _ _ _ _ _ _ hw rfl (Or.inl ⟨by omega, by decide, rfl⟩) dX9_undo_25
  · obtain ⟨tx3, ta3, tb3, hs3, ⟨hc3, -⟩, -⟩ := id z3_3
    refine sb_if_eq (tgt := 24) hx hb (by decide : (1 : Int32).toInt = 1) dX9_undo_11 (by decide) (fun h => absurd h (by decide)) (fun c_11_4 => ?_)
    refine lv_aload_n hx hb dX9_undo_14 rfl (lv_at hl 0 rfl) ?_
    refine ti_get (ci := 9) (k := 5) (N := 10) (T := TX9) (v := .ref (A 28 0)) C hw iw_9 rfl ob_0 (by decide) (by decide) fl_X9_40 rfl rfl dX9_undo_15 ?_
    refine ti_get (ci := 5) (k := 2) (N := 3) (T := TX5) C hw iw_5 rfl ob_28 (by decide) (by decide) fl_X9_297 rfl rfl dX9_undo_18 ?_
    refine lv_topi (fun x_6 ex_6 => ?_)
    have bx_6 : 0 ≤ x_6.toInt ∧ x_6.toInt ≤ 20 := cI_rd z1_3.1 ob_28.1 ex_6
    have ux_6 : (tI M_2 28 2).toInt = x_6.toInt := by rw [ex_6]
    have hn9 : x_6.toInt = cu - 1 := by rw [← hc3, ← ux_6]
    refine lv_goto (tgt := 25) hx hb dX9_undo_21 (by decide) ?_
    exact hQ _ _ _ _ _ _ hw rfl (Or.inr ⟨by omega, by omega, z1_3, z2_3, z3_3⟩) dX9_undo_25
end
section
variable {Tc : gC} {Tm : gM}
/-- all but the queue that is and the log stays -/
def kP (N M : ti_M) : Prop := (∀ o k : Nat, o ≠ 27 → tI N o k = tI M o k) ∧ ∀ o k : Nat, o ≠ 27 → ¬ (o = 0 ∧ k = 4) → tY N o k = tY M o k
/-- all but the image stays -/
def kK (N M : ti_M) : Prop := (∀ o k : Nat, o ≠ 49 → ¬ (o = 0 ∧ k = 7) → tI N o k = tI M o k) ∧ (∀ o k : Nat, o ≠ 49 → tY N o k = tY M o k) ∧ tT N 0 1 = tT M 0 1 ∧ tT N 0 2 = tT M 0 2
section
variable {t : Nat} {tx s s2 p p2 : Nat → Int} {u : Nat → Nat → Int} {c : Int} {K N M : ti_M}
theorem kP.refl : kP M M := ⟨fun _ _ _ => rfl, fun _ _ _ _ => rfl⟩
theorem kP.trans (x : kP K N) (y : kP N M) : kP K M := ⟨fun o k h => (x.1 o k h).trans (y.1 o k h), fun o k h q => (x.2 o k h q).trans (y.2 o k h q)⟩
theorem kP_eo (E : eo 27 N M) : kP N M := ⟨fun o k h => E.1 o k h, fun o k h _ => E.2 o k h⟩
theorem kP_ai (e : N.1 = M.1) (h : ∀ o k : Nat, ¬ (o = 0 ∧ k = 4) → tY N o k = tY M o k) : kP N M := ⟨fun _ _ _ => tI_fr e, fun o k _ q => h o k q⟩
theorem kP_fX (h : kP N M) : fX N M := fun k => ⟨h.1 0 k (by decide), h.1 2 k (by decide), h.1 28 k (by decide), fun o q => h.1 o k (by omega)⟩
theorem kP_kG (h : kP N M) (T : N.2.2.2 = M.2.2.2) : kG N M := ⟨fun o k q => ⟨h.1 o k (by omega), fun r => h.2 o k (by omega) r⟩, tT_fr T, tT_fr T, tT_fr T⟩
theorem kP_kC (ht : t = 3 ∨ t = 4) (h : kC t tx s u c p M) (x : kP N M) (T : N.2.2.2 = M.2.2.2) (hq : qC 27 s2 N) (hp : pC p2 N) : kC t tx s2 u c p2 N :=
  ⟨tC_kG ht h.1 (kP_kG x T), (tT_fr T).trans h.2.1, (tT_fr T).trans h.2.2.1, hq, rg5_to h.2.2.2.2.1 (fun o k a b => ⟨x.1 o k (by omega), x.2 o k (by omega) (by omega)⟩) (fun _ _ _ => tT_fr T), hp⟩
theorem kG_clear (e : N = uI M 28 2 0) : kG N M := ⟨fun o k q => ⟨tI_nE e (no (by omega)), fun _ => tY_uIE e⟩, tT_uIE e, tT_uIE e, tT_uIE e⟩
theorem kC_clear (ht : t = 3 ∨ t = 4) (h : kC t tx s u c p M) (e : N = uI M 28 2 0) : kC t tx s u 0 p N :=
  ⟨tC_kG ht h.1 (kG_clear e), (tT_uIE e).trans h.2.1, (tT_uIE e).trans h.2.2.1, qC_same h.2.2.2.1 (fun k => ⟨tI_nE e (no (by decide)), tY_uIE e⟩), ⟨by rw [tI_uE e]; decide, fun i hi => by omega⟩, pC_to h.2.2.2.2.2 (tY_uIE e)⟩
end
set_option maxHeartbeats 4000000 in
set_option maxRecDepth 100000 in
theorem z_X9_recordHolders (l : Launch) (D : va_G) (A : Nat → Nat → Nat) (cy : Nat → ClassId) (hJ : ti_inj ti_LT A) (M : ti_M) (hI : cI Tc M)  (rg lp : Nat → Int) (hs : qC 27 rg M) (hp0 : pC lp M) (mi : Int32) (h1 : 0 ≤ mi.toInt) (h2 : mi.toInt ≤ 119) : ti_Kv l yX9_recordHolders cX9_recordHolders 3 1 ti_LT D A cy M [.ref (A 0 0), .int mi] (fun M2 => cI Tc M2 ∧ M2.2.2.2 = M.2.2.2 ∧ M2.1 = M.1 ∧ (∀ o k : Nat, ¬ (o = 0 ∧ k = 4) → tY M2 o k = tY M o k) ∧ pC (bq_hp rg mi.toInt.toNat lp) M2) := by
  refine ti_eV yp_X9_recordHolders hJ ti_LT_nd (Nat.le_of_ble_eq_true rfl) ?_
  intro p e s m args below meth c Q H0 C hQ hw ls hl
  have hx := C.1
  have hb := C.2.1
  have hl : lv_has ls 3 [(0, .ref (A 0 0)), (1, .int mi)] := hl
  refine lv_iconst (v := 0) hx hb dX9_recordHolders_0 (by decide) ?_
  refine lv_istore_n (lv' := [(2, .int 0), (0, .ref (A 0 0)), (1, .int mi)]) hx hb dX9_recordHolders_1 rfl hl (by decide) rfl (fun ls hl => ?_)
  refine lv_iload_n hx hb dX9_recordHolders_2 rfl (lv_at hl 0 rfl) ?_
  refine lv_iconst (v := 3) hx hb dX9_recordHolders_3 (by decide) ?_
  refine sb_icmp_ge (tgt := 40) hx hb (by decide : (0 : Int32).toInt = 0) (by decide : (3 : Int32).toInt = 3) dX9_recordHolders_4 (by decide) (fun h => absurd h (by decide)) (fun c_4_0 => ?_)
  refine lv_aload_n hx hb dX9_recordHolders_7 rfl (lv_at hl 1 rfl) ?_
  refine ti_get (ci := 9) (k := 4) (N := 10) (T := TX9) (v := .ref (A 0 5)) C hw iw_9 rfl ob_0 (by decide) (by decide) fl_X9_33 rfl rfl dX9_recordHolders_8 ?_
  refine lv_iload_n hx hb dX9_recordHolders_11 rfl (lv_at hl 0 rfl) ?_
  refine lv_bipush (v := 120) hx hb dX9_recordHolders_12 (by decide) ?_
  refine lv_imul hx hb dX9_recordHolders_14 ?_
  refine ti_top (y := 0) (by decide) ?_
  refine lv_iload_n hx hb dX9_recordHolders_15 rfl (lv_at hl 2 rfl) ?_
  refine lv_iadd hx hb dX9_recordHolders_16 ?_
  refine lv_topi (fun x_2 ex_2 => ?_)
  have tx_2 : x_2.toInt = 0 + mi.toInt := i_add ex_2 (by decide : (0 : Int32).toInt = 0) rfl (by omega) (by omega)
  refine lv_aload_n hx hb dX9_recordHolders_17 rfl (lv_at hl 1 rfl) ?_
  refine ti_get (ci := 9) (k := 3) (N := 10) (T := TX9) (v := .ref (A 27 0)) C hw iw_9 rfl ob_0 (by decide) (by decide) fl_X9_29 rfl rfl dX9_recordHolders_18 ?_
  refine lv_aload_n hx hb dX9_recordHolders_21 rfl (lv_at hl 1 rfl) ?_
  refine ti_get (ci := 9) (k := 3) (N := 10) (T := TX9) (v := .ref (A 27 0)) C hw iw_9 rfl ob_0 (by decide) (by decide) fl_X9_29 rfl rfl dX9_recordHolders_22 ?_
  refine ti_get (ci := 3) (k := 7) (N := 17) (T := TX3) (v := .ref (A 27 8)) C hw iw_3 rfl ob_27 (by decide) (by decide) fl_X9_168 rfl rfl dX9_recordHolders_25 ?_
  refine lv_iload_n hx hb dX9_recordHolders_28 rfl (lv_at hl 0 rfl) ?_
  refine ti_iald (ci := 3) (k := 7) (n := 3) C hw ob_27 (by decide) (fun _ _ => rfl) (by unfold vp_in; decide) dX9_recordHolders_29 ?_
  refine lv_topi (fun x_3 ex_3 => ?_)
  have L_4 : rg 112 = x_3.toInt := (hs.2 7 0 (by decide) (by decide) (by decide) (by decide)).trans (congrArg Int32.toInt ex_3.symm)
  refine ti_callVi (ci := 3) (av := [.int x_3]) C hw (z_X3_manAt l D A cy hJ M hI 27 ob_27 x_3 rg hs) ⟨ml_X9_162, ym_X3_manAt, yv_X3_manAt, yi_X3_manAt, yc_X3_manAt⟩ yd_X3_manAt ob_27 (by decide) rfl rfl hl.1 (Nat.le_of_ble_eq_true rfl) ⟨by decide, by decide⟩ ⟨Nat.zero_le _, Nat.zero_le _⟩ dX9_recordHolders_30 (fun r_5 M_6 H locs hp_6 hw => ?_)
  obtain ⟨hm, b0r_5, b1r_5, pr_5, p0r_5⟩ := hp_6
  have hw := hw.to hm
  refine ti_iast (ci := 9) (k := 4) (n := 360) C hw ob_0 (by decide) (fun _ _ => rfl) (vp_in_iff.mpr (by omega)) dX9_recordHolders_33 (fun H locs hw => ?_)
  obtain ⟨M_7, hM_7⟩ : ∃ z : ti_M, z = uY M 0 4 (upd (tY M 0 4) (x_2 : Int32).toNatClampNeg r_5) := ⟨_, rfl⟩
  have hw := hw.to hM_7.symm
  have iM_7 : cI Tc M_7 := cI_up hI hM_7 ob_0.1 trivial
  have hs_8 : qC 27 rg M_7 := qC_same hs (fun k => ⟨tI_uYE hM_7, tY_nE hM_7 (no (by decide))⟩)
  have hp_9 : pC (pp_su lp (mi.toInt.toNat) r_5.toInt) M_7 := pC_Y (i := x_2) hp0 (by omega) rfl hM_7
  refine lv_iinc (v := 1) (lv' := [(2, .int 1), (0, .ref (A 0 0)), (1, .int mi)]) hx hb dX9_recordHolders_34 hl (k := 0) rfl (by decide) (by decide) rfl (fun ls hl => ?_)
  refine lv_goto (tgt := 2) hx hb dX9_recordHolders_37 (by decide) ?_
  refine lv_iload_n hx hb dX9_recordHolders_2 rfl (lv_at hl 0 rfl) ?_
  refine lv_iconst (v := 3) hx hb dX9_recordHolders_3 (by decide) ?_
  refine sb_icmp_ge (tgt := 40) hx hb (by decide : (1 : Int32).toInt = 1) (by decide : (3 : Int32).toInt = 3) dX9_recordHolders_4 (by decide) (fun h => absurd h (by decide)) (fun c_4_9 => ?_)
  refine lv_aload_n hx hb dX9_recordHolders_7 rfl (lv_at hl 1 rfl) ?_
  refine ti_get (ci := 9) (k := 4) (N := 10) (T := TX9) (v := .ref (A 0 5)) C hw iw_9 rfl ob_0 (by decide) (by decide) fl_X9_33 rfl rfl dX9_recordHolders_8 ?_
  refine lv_iload_n hx hb dX9_recordHolders_11 rfl (lv_at hl 0 rfl) ?_
  refine lv_bipush (v := 120) hx hb dX9_recordHolders_12 (by decide) ?_
  refine lv_imul hx hb dX9_recordHolders_14 ?_
  refine ti_top (y := 120) (by decide) ?_
  refine lv_iload_n hx hb dX9_recordHolders_15 rfl (lv_at hl 2 rfl) ?_
  refine lv_iadd hx hb dX9_recordHolders_16 ?_
  refine lv_topi (fun x_11 ex_11 => ?_)
  have tx_11 : x_11.toInt = 120 + mi.toInt := i_add ex_11 (by decide : (120 : Int32).toInt = 120) rfl (by omega) (by omega)
  refine lv_aload_n hx hb dX9_recordHolders_17 rfl (lv_at hl 1 rfl) ?_
  refine ti_get (ci := 9) (k := 3) (N := 10) (T := TX9) (v := .ref (A 27 0)) C hw iw_9 rfl ob_0 (by decide) (by decide) fl_X9_29 rfl rfl dX9_recordHolders_18 ?_
  refine lv_aload_n hx hb dX9_recordHolders_21 rfl (lv_at hl 1 rfl) ?_
  refine ti_get (ci := 9) (k := 3) (N := 10) (T := TX9) (v := .ref (A 27 0)) C hw iw_9 rfl ob_0 (by decide) (by decide) fl_X9_29 rfl rfl dX9_recordHolders_22 ?_
  refine ti_get (ci := 3) (k := 7) (N := 17) (T := TX3) (v := .ref (A 27 8)) C hw iw_3 rfl ob_27 (by decide) (by decide) fl_X9_168 rfl rfl dX9_recordHolders_25 ?_
  refine lv_iload_n hx hb dX9_recordHolders_28 rfl (lv_at hl 0 rfl) ?_
  refine ti_iald (ci := 3) (k := 7) (n := 3) C hw ob_27 (by decide) (fun _ _ => rfl) (by unfold vp_in; decide) dX9_recordHolders_29 ?_
  refine lv_topi (fun x_12 ex_12 => ?_)
  have L_13 : rg 113 = x_12.toInt := (hs_8.2 7 1 (by decide) (by decide) (by decide) (by decide)).trans (congrArg Int32.toInt ex_12.symm)
  refine ti_callVi (ci := 3) (av := [.int x_12]) C hw (z_X3_manAt l D A cy hJ M_7 iM_7 27 ob_27 x_12 rg hs_8) ⟨ml_X9_162, ym_X3_manAt, yv_X3_manAt, yi_X3_manAt, yc_X3_manAt⟩ yd_X3_manAt ob_27 (by decide) rfl rfl hl.1 (Nat.le_of_ble_eq_true rfl) ⟨by decide, by decide⟩ ⟨Nat.zero_le _, Nat.zero_le _⟩ dX9_recordHolders_30 (fun r_14 M_15 H locs hp_15 hw => ?_)
  obtain ⟨hm, b0r_14, b1r_14, pr_14, p0r_14⟩ := hp_15
  have hw := hw.to hm
  refine ti_iast (ci := 9) (k := 4) (n := 360) C hw ob_0 (by decide) (fun _ _ => rfl) (vp_in_iff.mpr (by omega)) dX9_recordHolders_33 (fun H locs hw => ?_)
  obtain ⟨M_16, hM_16⟩ : ∃ z : ti_M, z = uY M_7 0 4 (upd (tY M_7 0 4) (x_11 : Int32).toNatClampNeg r_14) := ⟨_, rfl⟩
  have hw := hw.to hM_16.symm
  have iM_16 : cI Tc M_16 := cI_up iM_7 hM_16 ob_0.1 trivial
  have hs_17 : qC 27 rg M_16 := qC_same hs_8 (fun k => ⟨tI_uYE hM_16, tY_nE hM_16 (no (by decide))⟩)
  have hp_18 : pC (pp_su (pp_su lp (mi.toInt.toNat) r_5.toInt) (120 + mi.toInt.toNat) r_14.toInt) M_16 := pC_Y (i := x_11) hp_9 (by omega) rfl hM_16
  refine lv_iinc (v := 2) (lv' := [(2, .int 2), (0, .ref (A 0 0)), (1, .int mi)]) hx hb dX9_recordHolders_34 hl (k := 0) rfl (by decide) (by decide) rfl (fun ls hl => ?_)
  refine lv_goto (tgt := 2) hx hb dX9_recordHolders_37 (by decide) ?_
  refine lv_iload_n hx hb dX9_recordHolders_2 rfl (lv_at hl 0 rfl) ?_
  refine lv_iconst (v := 3) hx hb dX9_recordHolders_3 (by decide) ?_
  refine sb_icmp_ge (tgt := 40) hx hb (by decide : (2 : Int32).toInt = 2) (by decide : (3 : Int32).toInt = 3) dX9_recordHolders_4 (by decide) (fun h => absurd h (by decide)) (fun c_4_18 => ?_)
  refine lv_aload_n hx hb dX9_recordHolders_7 rfl (lv_at hl 1 rfl) ?_
  refine ti_get (ci := 9) (k := 4) (N := 10) (T := TX9) (v := .ref (A 0 5)) C hw iw_9 rfl ob_0 (by decide) (by decide) fl_X9_33 rfl rfl dX9_recordHolders_8 ?_
  refine lv_iload_n hx hb dX9_recordHolders_11 rfl (lv_at hl 0 rfl) ?_
  refine lv_bipush (v := 120) hx hb dX9_recordHolders_12 (by decide) ?_
  refine lv_imul hx hb dX9_recordHolders_14 ?_
  refine ti_top (y := 240) (by decide) ?_
  refine lv_iload_n hx hb dX9_recordHolders_15 rfl (lv_at hl 2 rfl) ?_
  refine lv_iadd hx hb dX9_recordHolders_16 ?_
  refine lv_topi (fun x_20 ex_20 => ?_)
  have tx_20 : x_20.toInt = 240 + mi.toInt := i_add ex_20 (by decide : (240 : Int32).toInt = 240) rfl (by omega) (by omega)
  refine lv_aload_n hx hb dX9_recordHolders_17 rfl (lv_at hl 1 rfl) ?_
  refine ti_get (ci := 9) (k := 3) (N := 10) (T := TX9) (v := .ref (A 27 0)) C hw iw_9 rfl ob_0 (by decide) (by decide) fl_X9_29 rfl rfl dX9_recordHolders_18 ?_
  refine lv_aload_n hx hb dX9_recordHolders_21 rfl (lv_at hl 1 rfl) ?_
  refine ti_get (ci := 9) (k := 3) (N := 10) (T := TX9) (v := .ref (A 27 0)) C hw iw_9 rfl ob_0 (by decide) (by decide) fl_X9_29 rfl rfl dX9_recordHolders_22 ?_
  refine ti_get (ci := 3) (k := 7) (N := 17) (T := TX3) (v := .ref (A 27 8)) C hw iw_3 rfl ob_27 (by decide) (by decide) fl_X9_168 rfl rfl dX9_recordHolders_25 ?_
  refine lv_iload_n hx hb dX9_recordHolders_28 rfl (lv_at hl 0 rfl) ?_
  refine ti_iald (ci := 3) (k := 7) (n := 3) C hw ob_27 (by decide) (fun _ _ => rfl) (by unfold vp_in; decide) dX9_recordHolders_29 ?_
  refine lv_topi (fun x_21 ex_21 => ?_)
  have L_22 : rg 114 = x_21.toInt := (hs_17.2 7 2 (by decide) (by decide) (by decide) (by decide)).trans (congrArg Int32.toInt ex_21.symm)
  refine ti_callVi (ci := 3) (av := [.int x_21]) C hw (z_X3_manAt l D A cy hJ M_16 iM_16 27 ob_27 x_21 rg hs_17) ⟨ml_X9_162, ym_X3_manAt, yv_X3_manAt, yi_X3_manAt, yc_X3_manAt⟩ yd_X3_manAt ob_27 (by decide) rfl rfl hl.1 (Nat.le_of_ble_eq_true rfl) ⟨by decide, by decide⟩ ⟨Nat.zero_le _, Nat.zero_le _⟩ dX9_recordHolders_30 (fun r_23 M_24 H locs hp_24 hw => ?_)
  obtain ⟨hm, b0r_23, b1r_23, pr_23, p0r_23⟩ := hp_24
  have hw := hw.to hm
  refine ti_iast (ci := 9) (k := 4) (n := 360) C hw ob_0 (by decide) (fun _ _ => rfl) (vp_in_iff.mpr (by omega)) dX9_recordHolders_33 (fun H locs hw => ?_)
  obtain ⟨M_25, hM_25⟩ : ∃ z : ti_M, z = uY M_16 0 4 (upd (tY M_16 0 4) (x_20 : Int32).toNatClampNeg r_23) := ⟨_, rfl⟩
  have hw := hw.to hM_25.symm
  have iM_25 : cI Tc M_25 := cI_up iM_16 hM_25 ob_0.1 trivial
  have hs_26 : qC 27 rg M_25 := qC_same hs_17 (fun k => ⟨tI_uYE hM_25, tY_nE hM_25 (no (by decide))⟩)
  have hp_27 : pC (pp_su (pp_su (pp_su lp (mi.toInt.toNat) r_5.toInt) (120 + mi.toInt.toNat) r_14.toInt) (240 + mi.toInt.toNat) r_23.toInt) M_25 := pC_Y (i := x_20) hp_18 (by omega) rfl hM_25
  refine lv_iinc (v := 3) (lv' := [(2, .int 3), (0, .ref (A 0 0)), (1, .int mi)]) hx hb dX9_recordHolders_34 hl (k := 0) rfl (by decide) (by decide) rfl (fun ls hl => ?_)
  refine lv_goto (tgt := 2) hx hb dX9_recordHolders_37 (by decide) ?_
  refine lv_iload_n hx hb dX9_recordHolders_2 rfl (lv_at hl 0 rfl) ?_
  refine lv_iconst (v := 3) hx hb dX9_recordHolders_3 (by decide) ?_
  refine sb_icmp_ge (tgt := 40) hx hb (by decide : (3 : Int32).toInt = 3) (by decide : (3 : Int32).toInt = 3) dX9_recordHolders_4 (by decide) (fun c_4_27 => ?_) (fun h => absurd h (by decide))
  have E_29 : bq_hp rg mi.toInt.toNat lp = (pp_su (pp_su (pp_su lp (mi.toInt.toNat) r_5.toInt) (120 + mi.toInt.toNat) r_14.toInt) (240 + mi.toInt.toNat) r_23.toInt) := by unfold bq_hp; rw [L_4, ← pr_5, L_13, ← pr_14, L_22, ← pr_23]
  exact hQ _ _ _ _ _ hw (⟨iM_25, ((rf_Y hM_25).trans ((rf_Y hM_16).trans (rf_Y hM_7))), ((ra_Y hM_25).trans ((ra_Y hM_16).trans (ra_Y hM_7))), fun o k q => ((tY_nE hM_25 (fun r => q ⟨r.2, r.1⟩)).trans ((tY_nE hM_16 (fun r => q ⟨r.2, r.1⟩)).trans (tY_nE hM_7 (fun r => q ⟨r.2, r.1⟩)))), by rw [E_29]; exact hp_27⟩) dX9_recordHolders_40
set_option maxHeartbeats 4000000 in
set_option maxRecDepth 100000 in
theorem z_X9_go (l : Launch) (D : va_G) (A : Nat → Nat → Nat) (cy : Nat → ClassId) (hJ : ti_inj ti_LT A) (M : ti_M) (hI : cI Tc M) (hF : cF Tc M) (t : Nat) (ht : t = 3 ∨ t = 4) (tx rg lp : Nat → Int) (ug : Nat → Nat → Int) (cu : Int) (hk : kC t tx rg ug cu lp M) (h1 : rg 1 = 0) (h5 : 0 ≤ rg 5) (nn : Int32) : ti_Ki l yX9_go cX9_go 3 (some .int) 6 ti_LT D A cy M [.ref (A 0 0), .int nn] (fun r M2 => (¬ (0 ≤ nn.toInt ∧ nn.toInt ≤ 120 - rg 2) ∧ r.toInt = -1 ∧ M2 = M) ∨ ((0 ≤ nn.toInt ∧ nn.toInt ≤ 120 - rg 2) ∧ r.toInt = rg 2 + nn.toInt ∧ cF Tc M2 ∧ kG M2 M ∧ kC t tx (bq_pl tx nn.toInt.toNat rg) ug (if 0 < nn.toInt then 0 else cu) (bq_gh tx nn.toInt.toNat rg lp) M2)) := by
  refine ti_eI yp_X9_go hJ ti_LT_nd (Nat.le_of_ble_eq_true rfl) ?_
  intro p e s m args below meth c Q H0 C hQ hw ls hl
  have hx := C.1
  have hb := C.2.1
  have hl : lv_has ls 3 [(0, .ref (A 0 0)), (1, .int nn)] := hl
  obtain ⟨htx, hT1, hT, hs, hr, hp0⟩ := id hk
  have l4 : 0 ≤ tx 4 ∧ tx 4 ≤ 8 := by rw [htx.1 4 (by decide) (by decide)]; exact cI_rd (k := 4) hI (ob_t ht).1 rfl
  have h4 : tx 4 = (tI M t 4).toInt := htx.1 4 (by decide) (by decide)
  refine lv_iload_n hx hb dX9_go_0 rfl (lv_at hl 1 rfl) ?_
  refine sb_if_lt (tgt := 18) hx hb rfl dX9_go_1 (by decide) (fun c_1_0 => ?_) (fun c_1_0 => ?_)
  · refine lv_iconst (v := (-1)) hx hb dX9_go_18 (by decide) ?_
    exact hQ _ _ _ _ _ _ hw rfl (Or.inl ⟨by omega, by decide, rfl⟩) dX9_go_19
  · refine lv_iload_n hx hb dX9_go_4 rfl (lv_at hl 1 rfl) ?_
    refine lv_bipush (v := 120) hx hb dX9_go_5 (by decide) ?_
    refine lv_aload_n hx hb dX9_go_7 rfl (lv_at hl 0 rfl) ?_
    refine ti_get (ci := 9) (k := 3) (N := 10) (T := TX9) (v := .ref (A 27 0)) C hw iw_9 rfl ob_0 (by decide) (by decide) fl_X9_29 rfl rfl dX9_go_8 ?_
    refine ti_get (ci := 3) (k := 2) (N := 17) (T := TX3) C hw iw_3 rfl ob_27 (by decide) (by decide) fl_X9_186 rfl rfl dX9_go_11 ?_
    refine lv_topi (fun x_2 ex_2 => ?_)
    have bx_2 : 0 ≤ x_2.toInt ∧ x_2.toInt ≤ 120 := cI_rd hI ob_27.1 ex_2 (Or.inl rfl)
    have ux_2 : (tI M 27 2).toInt = x_2.toInt := by rw [ex_2]
    have L_3 : rg 2 = x_2.toInt := ((hs.1 2 (by decide) (by decide)).trans (congrArg Int32.toInt (ex_2.symm))).trans rfl
    refine lv_isub hx hb dX9_go_14 ?_
    refine lv_topi (fun x_4 ex_4 => ?_)
    have tx_4 : x_4.toInt = 120 - x_2.toInt := i_sub ex_4 (by decide : (120 : Int32).toInt = 120) rfl (by omega) (by omega)
    refine sb_icmp_le (tgt := 20) hx hb rfl rfl dX9_go_15 (by decide) (fun c_15_4 => ?_) (fun c_15_4 => ?_)
    · refine lv_iconst (v := 0) hx hb dX9_go_20 (by decide) ?_
      refine lv_istore_n (lv' := [(2, .int 0), (0, .ref (A 0 0)), (1, .int nn)]) hx hb dX9_go_21 rfl hl (by decide) rfl (fun ls hl => ?_)
      have hl_22_21 : ∀ (n_22 : Nat) (x_6 : Int32) (M_9 : ti_M) (g_12 : Nat → Int) (p_14 : Nat → Int) (H : Heap) (locs : List Loc) (ls : Array Slot), (nn.toInt - x_6.toInt : Int).toNat < n_22 → (0 ≤ x_6.toInt) → (x_6.toInt ≤ 120) → (cI Tc M_9) → (M_9.2.2.2 = M.2.2.2) → (kP M_9 M) → (qC 27 g_12 M_9) → (pC p_14 M_9) → (x_6.toInt ≤ nn.toInt) → (bq_pl tx ((nn.toInt) - (x_6.toInt)).toNat g_12 = bq_pl tx nn.toInt.toNat rg) → (bq_gh tx ((nn.toInt) - (x_6.toInt)).toNat g_12 p_14 = bq_gh tx nn.toInt.toNat rg lp) → (g_12 2 = rg 2 + x_6.toInt) → (g_12 1 = 0) → (0 ≤ g_12 5) → ti_H ti_LT D A cy H0 M_9 H locs → lv_has ls 3 [(2, .int x_6), (0, .ref (A 0 0)), (1, .int nn)] → W p l e (ti_rm 6) s m args below meth c H locs 0 0 Q (F0 m 22 ls []) := by
        intro n_22
        induction n_22 with
        | zero => intro x_6 M_9 g_12 p_14 H locs ls hf_22; exact absurd hf_22 (Nat.not_lt_zero _)
        | succ n_22 ih_22 =>
          intro x_6 M_9 g_12 p_14 H locs ls hf_22 b_7 b_8 iM_9 f_10 f_11 hs_13 hp_15 j_16 j_17 j_18 j_19 j_20 j_21 hw hl
          refine lv_iload_n hx hb dX9_go_22 rfl (lv_at hl 0 rfl) ?_
          refine lv_iload_n hx hb dX9_go_23 rfl (lv_at hl 2 rfl) ?_
          refine sb_icmp_ge (tgt := 53) hx hb rfl rfl dX9_go_24 (by decide) (fun c_24_22 => ?_) (fun c_24_22 => ?_)
          · refine lv_iload_n hx hb dX9_go_53 rfl (lv_at hl 2 rfl) ?_
            refine sb_if_le (tgt := 64) hx hb rfl dX9_go_54 (by decide) (fun c_54_43 => ?_) (fun c_54_43 => ?_)
            · refine lv_aload_n hx hb dX9_go_64 rfl (lv_at hl 1 rfl) ?_
              refine ti_get (ci := 9) (k := 3) (N := 10) (T := TX9) (v := .ref (A 27 0)) C hw iw_9 rfl ob_0 (by decide) (by decide) fl_X9_29 rfl rfl dX9_go_65 ?_
              refine ti_get (ci := 3) (k := 2) (N := 17) (T := TX3) C hw iw_3 rfl ob_27 (by decide) (by decide) fl_X9_186 rfl rfl dX9_go_68 ?_
              refine lv_topi (fun x_48 ex_48 => ?_)
              have bx_48 : 0 ≤ x_48.toInt ∧ x_48.toInt ≤ 120 := cI_rd iM_9 ob_27.1 ex_48 (Or.inl rfl)
              have ux_48 : (tI M_9 27 2).toInt = x_48.toInt := by rw [ex_48]
              have L_49 : g_12 2 = x_48.toInt := ((hs_13.1 2 (by decide) (by decide)).trans (congrArg Int32.toInt (ex_48.symm))).trans rfl
              have E_50 : bq_pl tx nn.toInt.toNat rg = g_12 := by rw [← j_17, show (nn.toInt - x_6.toInt).toNat = 0 by omega]; rfl
              have E_51 : bq_gh tx nn.toInt.toNat rg lp = p_14 := by rw [← j_18, show (nn.toInt - x_6.toInt).toNat = 0 by omega]; rfl
              exact hQ _ _ _ _ _ _ hw rfl (Or.inr ⟨by omega, by omega, (cF_fr hF iM_9 (rs_of (f_10)) (kP_fX f_11)), (kP_kG f_11 (f_10)), (by rw [if_neg (by omega)]; exact (kP_kC ht hk f_11 (f_10) (by rw [E_50]; exact hs_13) (by rw [E_51]; exact hp_15)))⟩) dX9_go_71
            · refine lv_aload_n hx hb dX9_go_57 rfl (lv_at hl 1 rfl) ?_
              refine ti_get (ci := 9) (k := 5) (N := 10) (T := TX9) (v := .ref (A 28 0)) C hw iw_9 rfl ob_0 (by decide) (by decide) fl_X9_40 rfl rfl dX9_go_58 ?_
              refine ti_callVv (ci := 5) (av := []) C hw (s_X5_clear l D A cy hJ M_9 iM_9 ) ⟨ml_X9_87, ym_X5_clear, yv_X5_clear, yi_X5_clear, yc_X5_clear⟩ yd_X5_clear ob_28 (by decide) rfl rfl hl.1 (Nat.le_of_ble_eq_true rfl) ⟨by decide, by decide⟩ ⟨Nat.zero_le _, Nat.zero_le _⟩ dX9_go_61 (fun M_46 H locs hp_46 hw => ?_)
              have hM_46 := hp_46
              have iM_46 : cI Tc M_46 := cI_uI iM_9 hM_46 ob_28.1 (ib_mk (lo := 0) (hi := 20) (by decide) (by decide))
              have hs_47 : qC 27 g_12 M_46 := qC_same hs_13 (fun k => ⟨tI_nE hM_46 (no (by decide)), tY_uIE hM_46⟩)
              refine lv_aload_n hx hb dX9_go_64 rfl (lv_at hl 1 rfl) ?_
              refine ti_get (ci := 9) (k := 3) (N := 10) (T := TX9) (v := .ref (A 27 0)) C hw iw_9 rfl ob_0 (by decide) (by decide) fl_X9_29 rfl rfl dX9_go_65 ?_
              refine ti_get (ci := 3) (k := 2) (N := 17) (T := TX3) C hw iw_3 rfl ob_27 (by decide) (by decide) fl_X9_186 rfl rfl dX9_go_68 ?_
              refine lv_topi (fun x_52 ex_52 => ?_)
              have bx_52 : 0 ≤ x_52.toInt ∧ x_52.toInt ≤ 120 := cI_rd iM_46 ob_27.1 ex_52 (Or.inl rfl)
              have ux_52 : (tI M_46 27 2).toInt = x_52.toInt := by rw [ex_52]
              have L_53 : g_12 2 = x_52.toInt := ((hs_47.1 2 (by decide) (by decide)).trans (congrArg Int32.toInt (ex_52.symm))).trans rfl
              have E_54 : bq_pl tx nn.toInt.toNat rg = g_12 := by rw [← j_17, show (nn.toInt - x_6.toInt).toNat = 0 by omega]; rfl
              have E_55 : bq_gh tx nn.toInt.toNat rg lp = p_14 := by rw [← j_18, show (nn.toInt - x_6.toInt).toNat = 0 by omega]; rfl
              exact hQ _ _ _ _ _ _ hw rfl (Or.inr ⟨by omega, by omega, (cF_clear (cF_fr hF iM_9 (rs_of (f_10)) (kP_fX f_11)) iM_46 hM_46), (kG.trans (kG_clear hM_46) (kP_kG f_11 (f_10))), (by rw [if_pos (by omega)]; exact kC_clear ht (kP_kC ht hk f_11 (f_10) (by rw [E_54]; exact hs_13) (by rw [E_55]; exact hp_15)) hM_46)⟩) dX9_go_71
          · refine lv_aload_n hx hb dX9_go_27 rfl (lv_at hl 1 rfl) ?_
            refine ti_get (ci := 9) (k := 3) (N := 10) (T := TX9) (v := .ref (A 27 0)) C hw iw_9 rfl ob_0 (by decide) (by decide) fl_X9_29 rfl rfl dX9_go_28 ?_
            refine ti_callVv (ci := 3) (av := []) C hw (z_X3_pass l D A cy hJ M_9 iM_9 27 t ob_27 ht ((tT_fr f_10).trans hT) tx g_12 (tC_kG ht htx (kP_kG f_11 (f_10))) hs_13 (by omega) (by omega) (by omega) (fun _ => by omega)) ⟨ml_X9_189, ym_X3_pass, yv_X3_pass, yi_X3_pass, yc_X3_pass⟩ yd_X3_pass ob_27 (by decide) rfl rfl hl.1 (Nat.le_of_ble_eq_true rfl) ⟨by decide, by decide⟩ ⟨Nat.zero_le _, Nat.zero_le _⟩ dX9_go_31 (fun M_25 H locs hp_25 hw => ?_)
            obtain ⟨iM_25, q_26, q_27, hs_28⟩ := hp_25
            obtain ⟨g_29, eg_29⟩ : ∃ z : Nat → Int, z = bq_ps tx g_12 := ⟨_, rfl⟩
            rw [← eg_29] at hs_28
            have w1g_29 : g_29 1 = g_12 1 := by rw [eg_29]; exact ps_1
            have w2g_29 : g_29 2 = g_12 2 + 1 := by rw [eg_29, ps_2, bw_id (by omega) (by omega)]
            have w5g_29 : 0 ≤ g_29 5 := by rw [eg_29]; exact ps_5 (by omega)
            refine lv_aload_n hx hb dX9_go_34 rfl (lv_at hl 1 rfl) ?_
            refine lv_aload_n hx hb dX9_go_35 rfl (lv_at hl 1 rfl) ?_
            refine ti_get (ci := 9) (k := 3) (N := 10) (T := TX9) (v := .ref (A 27 0)) C hw iw_9 rfl ob_0 (by decide) (by decide) fl_X9_29 rfl rfl dX9_go_36 ?_
            refine ti_get (ci := 3) (k := 2) (N := 17) (T := TX3) C hw iw_3 rfl ob_27 (by decide) (by decide) fl_X9_186 rfl rfl dX9_go_39 ?_
            refine lv_topi (fun x_30 ex_30 => ?_)
            have bx_30 : 0 ≤ x_30.toInt ∧ x_30.toInt ≤ 120 := cI_rd iM_25 ob_27.1 ex_30 (Or.inl rfl)
            have ux_30 : (tI M_25 27 2).toInt = x_30.toInt := by rw [ex_30]
            have L_31 : g_29 2 = x_30.toInt := ((hs_28.1 2 (by decide) (by decide)).trans (congrArg Int32.toInt (ex_30.symm))).trans rfl
            refine lv_iconst (v := 1) hx hb dX9_go_42 (by decide) ?_
            refine lv_isub hx hb dX9_go_43 ?_
            refine lv_topi (fun x_32 ex_32 => ?_)
            have tx_32 : x_32.toInt = x_30.toInt - 1 := i_sub ex_32 rfl (by decide : (1 : Int32).toInt = 1) (by omega) (by omega)
            refine ti_callVv (ci := 9) (av := [.int x_32]) C hw (z_X9_recordHolders l D A cy hJ M_25 iM_25 g_29 p_14 hs_28 (pC_to hp_15 (q_27.2 0 4 (by decide))) x_32 (by omega) (by omega)) ⟨ml_X9_192, ym_X9_recordHolders, yv_X9_recordHolders, yi_X9_recordHolders, yc_X9_recordHolders⟩ yd_X9_recordHolders ob_0 (by decide) rfl rfl hl.1 (Nat.le_of_ble_eq_true rfl) ⟨by decide, by decide⟩ ⟨Nat.zero_le _, Nat.zero_le _⟩ dX9_go_44 (fun M_34 H locs hp_34 hw => ?_)
            obtain ⟨q_35, q_36, q_37, q_38, q_39⟩ := hp_34
            obtain ⟨p_40, ep_40⟩ : ∃ z : Nat → Int, z = bq_hp g_29 x_32.toInt.toNat p_14 := ⟨_, rfl⟩
            have hp_41 : pC p_40 M_34 := by rw [ep_40]; exact q_39
            have hs_42 : qC 27 g_29 M_34 := qC_same hs_28 (fun k => ⟨tI_fr q_37, q_38 27 k (by omega)⟩)
            obtain ⟨x_43, ex_43⟩ : ∃ z : Int32, z = x_6 + 1 := ⟨_, rfl⟩
            have lox_43 := x_6.le_toInt
            have hix_43 := x_6.toInt_lt
            have tx_43 : x_43.toInt = x_6.toInt + 1 := i_add ex_43 rfl (by decide) (by omega) (by omega)
            refine lv_iinc (v := x_43) (lv' := [(2, .int x_43), (0, .ref (A 0 0)), (1, .int nn)]) hx hb dX9_go_47 hl (k := 0) rfl (by rw [ex_43]; rfl) (by decide) rfl (fun ls hl => ?_)
            refine lv_goto (tgt := 22) hx hb dX9_go_50 (by decide) ?_
            exact ih_22 x_43 M_34 g_29 p_40 _ _ _ (by omega) (by first | omega | decide) (by first | omega | decide) q_35 ((q_36).trans ((q_26).trans f_10)) (kP.trans (kP_ai q_37 q_38) (kP.trans (kP_eo q_27) f_11)) hs_42 hp_41 (by first | omega | decide) (by rw [← j_17, pl_go (tx := tx) (s := g_12) (f := (nn.toInt - x_6.toInt).toNat) (f' := (nn.toInt - x_43.toInt).toNat) (by omega), ← eg_29]) (by rw [← j_18, gh_go (tx := tx) (s := g_12) (p := p_14) (f := (nn.toInt - x_6.toInt).toNat) (f' := (nn.toInt - x_43.toInt).toNat) (by omega), ← eg_29, show (g_12 2).toNat = x_32.toInt.toNat by omega, ← ep_40]) (by first | omega | decide) (by first | omega | decide) (by first | omega | decide) hw (lv_sub hl [0, 1, 2] rfl)
      exact hl_22_21 ((nn.toInt - 0 : Int).toNat + 1) 0 M rg lp _ _ _ (Nat.lt_succ_self _) (by have lt0 : (0 : Int32).toInt = 0 := (by decide); first | omega | decide) (by have lt0 : (0 : Int32).toInt = 0 := (by decide); first | omega | decide) hI rfl kP.refl hs hp0 (by have lt0 : (0 : Int32).toInt = 0 := (by decide); first | omega | decide) (by rw [show (0 : Int32).toInt = 0 by decide, show nn.toInt - 0 = nn.toInt by omega]) (by rw [show (0 : Int32).toInt = 0 by decide, show nn.toInt - 0 = nn.toInt by omega]) (by have lt0 : (0 : Int32).toInt = 0 := (by decide); first | omega | decide) (by have lt0 : (0 : Int32).toInt = 0 := (by decide); first | omega | decide) (by have lt0 : (0 : Int32).toInt = 0 := (by decide); first | omega | decide) hw (lv_sub hl [0, 1, 2] rfl)
    · refine lv_iconst (v := (-1)) hx hb dX9_go_18 (by decide) ?_
      exact hQ _ _ _ _ _ _ hw rfl (Or.inl ⟨by omega, by decide, rfl⟩) dX9_go_19
set_option maxHeartbeats 4000000 in
set_option maxRecDepth 100000 in
theorem z_X9_keep (l : Launch) (D : va_G) (A : Nat → Nat → Nat) (cy : Nat → ClassId) (hJ : ti_inj ti_LT A) (M : ti_M) (hI : cI Tc M) (hF : cF Tc M) (t : Nat) (ht : t = 3 ∨ t = 4) (tx rg lp : Nat → Int) (ug : Nat → Nat → Int) (cu : Int) (hk : kC t tx rg ug cu lp M) : ti_Ki l yX9_keep cX9_keep 1 (some .int) 2 ti_LT D A cy M [.ref (A 0 0)] (fun r M2 => r.toInt = rg 2 ∧ cF Tc M2 ∧ tI M2 0 7 = 1 ∧ kK M2 M ∧ qC 49 rg M2 ∧ tT M2 49 0 = some t ∧ kC t tx rg ug cu lp M2) := by
  refine ti_eI yp_X9_keep hJ ti_LT_nd (Nat.le_of_ble_eq_true rfl) ?_
  intro p e s m args below meth c Q H0 C hQ hw ls hl
  have hx := C.1
  have hb := C.2.1
  have hl : lv_has ls 1 [(0, .ref (A 0 0))] := hl
  obtain ⟨htx, hT1, hT, hs, hr, hp0⟩ := id hk
  have l4 : 0 ≤ tx 4 ∧ tx 4 ≤ 8 := by rw [htx.1 4 (by decide) (by decide)]; exact cI_rd (k := 4) hI (ob_t ht).1 rfl
  have h4 : tx 4 = (tI M t 4).toInt := htx.1 4 (by decide) (by decide)
  refine lv_aload_n hx hb dX9_keep_0 rfl (lv_at hl 0 rfl) ?_
  refine ti_get (ci := 9) (k := 6) (N := 10) (T := TX9) (v := .ref (A 49 0)) C hw iw_9 rfl ob_0 (by decide) (by decide) fl_X9_44 rfl rfl dX9_keep_1 ?_
  refine lv_aload_n hx hb dX9_keep_4 rfl (lv_at hl 0 rfl) ?_
  refine ti_get (ci := 9) (k := 3) (N := 10) (T := TX9) (v := .ref (A 27 0)) C hw iw_9 rfl ob_0 (by decide) (by decide) fl_X9_29 rfl rfl dX9_keep_5 ?_
  refine ti_callVv (ci := 3) (av := [.ref (A 27 0)]) C hw (z_X3_copy l D A cy hJ M hI 49 27 t ob_49 ob_27 ht (hT) (fun _ => Or.inl rfl) (by decide) rg hs) ⟨ml_X9_298, ym_X3_copy, yv_X3_copy, yi_X3_copy, yc_X3_copy⟩ yd_X3_copy ob_49 (by decide) rfl rfl hl.1 (Nat.le_of_ble_eq_true rfl) ⟨by decide, by decide⟩ ⟨Nat.zero_le _, Nat.zero_le _⟩ dX9_keep_8 (fun M_2 H locs hp_2 hw => ?_)
  obtain ⟨iM_2, q_3, q_4, hs_5⟩ := hp_2
  have hs_6 : qC 27 rg M_2 := qC_eo hs q_4 (by decide)
  refine lv_aload_n hx hb dX9_keep_11 rfl (lv_at hl 0 rfl) ?_
  refine lv_iconst (v := 1) hx hb dX9_keep_12 (by decide) ?_
  refine ti_putI (ci := 9) (k := 7) (N := 10) (T := TX9) C hw iw_9 tyX9 tyX9_ok nmX9 rfl ob_0 (by decide) (by decide) fl_X9_47 rfl rfl rfl rfl (fn_9 A _) fs_9_7 dX9_keep_13 (fun H locs hw => ?_)
  obtain ⟨M_7, hM_7⟩ : ∃ z : ti_M, z = uI M_2 0 7 1 := ⟨_, rfl⟩
  have hw := hw.to hM_7.symm
  have iM_7 : cI Tc M_7 := cI_uI iM_2 hM_7 ob_0.1 trivial
  have hs_8 : qC 27 rg M_7 := qC_same hs_6 (fun k => ⟨tI_nE hM_7 (no (by decide)), tY_uIE hM_7⟩)
  refine lv_aload_n hx hb dX9_keep_16 rfl (lv_at hl 0 rfl) ?_
  refine ti_get (ci := 9) (k := 3) (N := 10) (T := TX9) (v := .ref (A 27 0)) C hw iw_9 rfl ob_0 (by decide) (by decide) fl_X9_29 rfl rfl dX9_keep_17 ?_
  refine ti_get (ci := 3) (k := 2) (N := 17) (T := TX3) C hw iw_3 rfl ob_27 (by decide) (by decide) fl_X9_186 rfl rfl dX9_keep_20 ?_
  refine lv_topi (fun x_9 ex_9 => ?_)
  have bx_9 : 0 ≤ x_9.toInt ∧ x_9.toInt ≤ 120 := cI_rd iM_7 ob_27.1 ex_9 (Or.inl rfl)
  have ux_9 : (tI M_7 27 2).toInt = x_9.toInt := by rw [ex_9]
  have L_10 : rg 2 = x_9.toInt := ((hs_8.1 2 (by decide) (by decide)).trans (congrArg Int32.toInt (ex_9.symm))).trans rfl
  have ktkk_11 : ∀ o k : Nat, ¬ (k = 0 ∧ o = 49) → tT M_7 o k = tT M o k := fun o k q => (tT_fr ((rf_I hM_7).trans q_3)).trans (tT_n _ _ _ _ q)
  have kk_11 : kK M_7 M := ⟨fun o k a b => (tI_nE hM_7 (fun r => b ⟨r.2, r.1⟩)).trans (q_4.1 o k a), fun o k a => (tY_uIE hM_7).trans (q_4.2 o k a), ktkk_11 0 1 (by decide), ktkk_11 0 2 (by decide)⟩
  exact hQ _ _ _ _ _ _ hw rfl (⟨by omega, cF_keep hF iM_7 ht ((rf_I hM_7).trans q_3) (fun k => (tI_nE hM_7 (no (by decide))).trans (q_4.1 28 k (by decide))), tI_uE hM_7, kk_11, qC_same hs_5 (fun k => ⟨tI_nE hM_7 (no (by decide)), tY_uIE hM_7⟩), (tT_fr ((rf_I hM_7).trans q_3)).trans (tT_u _ _ _ _), tC_lo ht htx (fun o k a b => ⟨kk_11.1 o k (by omega) (by omega), kk_11.2.1 o k (by omega)⟩), (ktkk_11 0 1 (by decide)).trans hT1, (ktkk_11 27 0 (by decide)).trans hT, hs_8, rg5_to hr (fun o k a b => ⟨kk_11.1 o k (by omega) (by omega), kk_11.2.1 o k (by omega)⟩) (fun o a b => ktkk_11 o 0 (by omega)), pC_to hp0 (kk_11.2.1 0 4 (by decide))⟩) dX9_keep_23
set_option maxHeartbeats 4000000 in
set_option maxRecDepth 100000 in
theorem z_X9_back (l : Launch) (D : va_G) (A : Nat → Nat → Nat) (cy : Nat → ClassId) (hJ : ti_inj ti_LT A) (M : ti_M) (hI : cI Tc M) (hF : cF Tc M) (t : Nat) (ht : t = 3 ∨ t = 4) (tx rg lp : Nat → Int) (ug : Nat → Nat → Int) (cu : Int) (hk : kC t tx rg ug cu lp M) (si : Nat → Int) (hi9 : ¬ (tI M 0 7).toInt = 0 → qC 49 si M ∧ tT M 49 0 = some t) : ti_Ki l yX9_back cX9_back 1 (some .int) 2 ti_LT D A cy M [.ref (A 0 0)] (fun r M2 => ((tI M 0 7).toInt = 0 ∧ r.toInt = -1 ∧ M2 = M) ∨ (¬ (tI M 0 7).toInt = 0 ∧ r.toInt = si 2 ∧ cF Tc M2 ∧ kG M2 M ∧ kC t tx si ug 0 lp M2)) := by
  refine ti_eI yp_X9_back hJ ti_LT_nd (Nat.le_of_ble_eq_true rfl) ?_
  intro p e s m args below meth c Q H0 C hQ hw ls hl
  have hx := C.1
  have hb := C.2.1
  have hl : lv_has ls 1 [(0, .ref (A 0 0))] := hl
  obtain ⟨htx, hT1, hT, hs, hr, hp0⟩ := id hk
  have l4 : 0 ≤ tx 4 ∧ tx 4 ≤ 8 := by rw [htx.1 4 (by decide) (by decide)]; exact cI_rd (k := 4) hI (ob_t ht).1 rfl
  have h4 : tx 4 = (tI M t 4).toInt := htx.1 4 (by decide) (by decide)
  refine lv_aload_n hx hb dX9_back_0 rfl (lv_at hl 0 rfl) ?_
  refine ti_get (ci := 9) (k := 7) (N := 10) (T := TX9) C hw iw_9 rfl ob_0 (by decide) (by decide) fl_X9_47 rfl rfl dX9_back_1 ?_
  refine lv_topi (fun x_1 ex_1 => ?_)
  refine sb_if_ne (tgt := 9) hx hb rfl dX9_back_4 (by decide) (fun c_4_1 => ?_) (fun c_4_1 => ?_)
  · refine lv_aload_n hx hb dX9_back_9 rfl (lv_at hl 0 rfl) ?_
    refine ti_get (ci := 9) (k := 3) (N := 10) (T := TX9) (v := .ref (A 27 0)) C hw iw_9 rfl ob_0 (by decide) (by decide) fl_X9_29 rfl rfl dX9_back_10 ?_
    refine lv_aload_n hx hb dX9_back_13 rfl (lv_at hl 0 rfl) ?_
    refine ti_get (ci := 9) (k := 6) (N := 10) (T := TX9) (v := .ref (A 49 0)) C hw iw_9 rfl ob_0 (by decide) (by decide) fl_X9_44 rfl rfl dX9_back_14 ?_
    obtain ⟨hq9, hT9⟩ := hi9 (by rw [ex_1] at c_4_1; exact c_4_1)
    refine ti_callVv (ci := 3) (av := [.ref (A 49 0)]) C hw (z_X3_copy l D A cy hJ M hI 27 49 t ob_27 ob_49 ht (hT9) (fun _ => Or.inr ⟨by decide, by decide⟩) (by decide) si hq9) ⟨ml_X9_298, ym_X3_copy, yv_X3_copy, yi_X3_copy, yc_X3_copy⟩ yd_X3_copy ob_27 (by decide) rfl rfl hl.1 (Nat.le_of_ble_eq_true rfl) ⟨by decide, by decide⟩ ⟨Nat.zero_le _, Nat.zero_le _⟩ dX9_back_17 (fun M_4 H locs hp_4 hw => ?_)
    obtain ⟨iM_4, q_5, q_6, hs_7⟩ := hp_4
    refine lv_aload_n hx hb dX9_back_20 rfl (lv_at hl 0 rfl) ?_
    refine ti_get (ci := 9) (k := 5) (N := 10) (T := TX9) (v := .ref (A 28 0)) C hw iw_9 rfl ob_0 (by decide) (by decide) fl_X9_40 rfl rfl dX9_back_21 ?_
    refine ti_callVv (ci := 5) (av := []) C hw (s_X5_clear l D A cy hJ M_4 iM_4 ) ⟨ml_X9_87, ym_X5_clear, yv_X5_clear, yi_X5_clear, yc_X5_clear⟩ yd_X5_clear ob_28 (by decide) rfl rfl hl.1 (Nat.le_of_ble_eq_true rfl) ⟨by decide, by decide⟩ ⟨Nat.zero_le _, Nat.zero_le _⟩ dX9_back_24 (fun M_9 H locs hp_9 hw => ?_)
    have hM_9 := hp_9
    have iM_9 : cI Tc M_9 := cI_uI iM_4 hM_9 ob_28.1 (ib_mk (lo := 0) (hi := 20) (by decide) (by decide))
    have hs_10 : qC 27 si M_9 := qC_same hs_7 (fun k => ⟨tI_nE hM_9 (no (by decide)), tY_uIE hM_9⟩)
    refine lv_aload_n hx hb dX9_back_27 rfl (lv_at hl 0 rfl) ?_
    refine ti_get (ci := 9) (k := 3) (N := 10) (T := TX9) (v := .ref (A 27 0)) C hw iw_9 rfl ob_0 (by decide) (by decide) fl_X9_29 rfl rfl dX9_back_28 ?_
    refine ti_get (ci := 3) (k := 2) (N := 17) (T := TX3) C hw iw_3 rfl ob_27 (by decide) (by decide) fl_X9_186 rfl rfl dX9_back_31 ?_
    refine lv_topi (fun x_11 ex_11 => ?_)
    have bx_11 : 0 ≤ x_11.toInt ∧ x_11.toInt ≤ 120 := cI_rd iM_9 ob_27.1 ex_11 (Or.inl rfl)
    have ux_11 : (tI M_9 27 2).toInt = x_11.toInt := by rw [ex_11]
    have L_12 : si 2 = x_11.toInt := ((hs_10.1 2 (by decide) (by decide)).trans (congrArg Int32.toInt (ex_11.symm))).trans rfl
    have ktkk_13 : ∀ o k : Nat, ¬ (k = 0 ∧ o = 27) → tT M_4 o k = tT M o k := fun o k q => (tT_fr (q_5)).trans (tT_n _ _ _ _ q)
    have kk_13 : kG M_4 M := ⟨fun o k q => ⟨q_6.1 o k (by omega), fun _ => q_6.2 o k (by omega)⟩, ktkk_13 0 1 (by decide), ktkk_13 0 2 (by decide), ktkk_13 49 0 (by decide)⟩
    have kckk_13 : kC t tx si ug cu lp M_4 := ⟨tC_kG ht htx kk_13, (ktkk_13 0 1 (by decide)).trans hT1, (tT_fr (q_5)).trans (tT_u _ _ _ _), hs_7, rg5_to hr (fun o k a b => ⟨q_6.1 o k (by omega), q_6.2 o k (by omega)⟩) (fun o a b => ktkk_13 o 0 (by omega)), pC_to hp0 (q_6.2 0 4 (by decide))⟩
    exact hQ _ _ _ _ _ _ hw rfl (Or.inr ⟨by rw [ex_1] at c_4_1; exact c_4_1, by omega, cF_clear (cF_now hF iM_4 ht (q_5) (fX_eo q_6)) iM_9 hM_9, kG.trans (kG_clear hM_9) kk_13, kC_clear ht kckk_13 hM_9⟩) dX9_back_34
  · refine lv_iconst (v := (-1)) hx hb dX9_back_7 (by decide) ?_
    exact hQ _ _ _ _ _ _ hw rfl (Or.inl ⟨by rw [ex_1] at c_4_1; omega, by decide, rfl⟩) dX9_back_8
end
section
variable {Tc : gC} {Tm : gM}
theorem bk_1 {q q2 k i : Nat} (h : bk q k i) (h2 : bk q2 k i) : q = q2 := by
  obtain ⟨a, b, c⟩ := h
  obtain ⟨-, -, c2⟩ := h2
  by_cases x : k ≤ 38
  · rw [if_pos x] at c c2; omega
  · rw [if_neg x] at c c2
    by_cases y : k ≤ 48
    · rw [if_pos y] at c c2; omega
    · rw [if_neg y] at c c2; omega
/-- all but the steps back stays -/
def eB (N M : ti_M) : Prop := (∀ k : Nat, k ≠ 33 → k ≠ 52 → tI N 60 k = tI M 60 k) ∧ ∀ k i : Nat, (∀ q : Nat, 3 ≤ q → ¬ bk q k i) → tY N 60 k i = tY M 60 k i
theorem eB.refl {M : ti_M} : eB M M := ⟨fun _ _ _ => rfl, fun _ _ _ => rfl⟩
theorem eB.trans {K N M : ti_M} (x : eB K N) (y : eB N M) : eB K M := ⟨fun k a b => (x.1 k a b).trans (y.1 k a b), fun k i h => (x.2 k i h).trans (y.2 k i h)⟩
theorem eB_eR {t : Nat} {N M : ti_M} (h : eR t N M) (ht : 3 ≤ t) : eB N M := ⟨fun k a _ => h.1 k a, fun k i q => h.2 k i (q t ht)⟩
theorem eB_52 {v : Int32} {N M : ti_M} (e : N = uI M 60 52 v) : eB N M := ⟨fun k _ b => tI_nE e (nk b), fun _ i _ => cg (tY_uIE e) i⟩
theorem eB_lw {N M : ti_M} (e : eB N M) : lw N M := fun k h1 h2 => funext fun i => e.2 k i (fun q _ b => by have := b.1; omega)
def rgR (n : Nat) (u : Nat → Nat → Int) (c : Int) (M : ti_M) : Prop := (tI M 60 52).toInt = c ∧ ∀ i : Nat, (i : Int) < c → qR n (3 + i) (u i) M ∧ qV n (3 + i) (u i) M
/-- the log: three to a minute; h of them told -/
def hR (p : Nat → Int) (h : Int) (M : ti_M) : Prop := ∀ m k : Nat, (m : Int) < h → m < 120 → k < 3 → (tY M 60 50 (3 * m + k)).toInt = p (120 * k + m)
/-- the image's log -/
def hI3 (p : Nat → Int) (h : Int) (M : ti_M) : Prop := ∀ m k : Nat, (m : Int) < h → m < 120 → k < 3 → (tY M 60 50 (360 + (3 * m + k))).toInt = p (120 * k + m)
def kR (tx s : Nat → Int) (u : Nat → Nat → Int) (c : Int) (p : Nat → Int) (M : ti_M) : Prop := tR tx M ∧ qR (tx 4).toNat 0 s M ∧ qV (tx 4).toNat 0 s M ∧ rgR (tx 4).toNat u c M ∧ hR p (s 2) M ∧ tI M 60 53 = -1
/-- the image, its log stay -/
def iR (N M : ti_M) : Prop := tI N 60 51 = tI M 60 51 ∧ (∀ k i : Nat, bk 2 k i → tY N 60 k i = tY M 60 k i) ∧ ∀ i : Nat, 360 ≤ i → tY N 60 50 i = tY M 60 50 i
theorem iR.refl {M : ti_M} : iR M M := ⟨rfl, fun _ _ _ => rfl, fun _ _ => rfl⟩
theorem iR.trans {K N M : ti_M} (x : iR K N) (y : iR N M) : iR K M := ⟨x.1.trans y.1, fun k i b => (x.2.1 k i b).trans (y.2.1 k i b), fun i h => (x.2.2 i h).trans (y.2.2 i h)⟩
section
variable {n q t a : Nat} {tx s s2 si p p2 : Nat → Int} {u w : Nat → Nat → Int} {c c2 k k2 : Int} {K N X M : ti_M} {v : Int32}
theorem eB_qR (h : qR n q s M) (e : eB N M) (hq : q < 3) (hn : n ≤ 8) : qR n q s N := qR_rows h (fun k i b => e.2 k i (fun q2 h2 b2 => by have := bk_1 b b2; omega)) hn
theorem eB_qV (h : qV n q s M) (e : eB N M) (hq : q < 3) (hn : n ≤ 8) : qV n q s N := qV_rows h (fun k i b => e.2 k i (fun q2 h2 b2 => by have := bk_1 b b2; omega)) hn
theorem qR_ne (h : qR n q s M) (e : eR t N M) (hq : q ≠ t) (hn : n ≤ 8) : qR n q s N := qR_rows h (fun k i b => e.2 k i (fun b2 => hq (bk_1 b b2))) hn
theorem qV_ne (h : qV n q s M) (e : eR t N M) (hq : q ≠ t) (hn : n ≤ 8) : qV n q s N := qV_rows h (fun k i b => e.2 k i (fun b2 => hq (bk_1 b b2))) hn
theorem qV_I {j : Nat} (h : qV n q s M) (e : N = uI M 60 j v) : qV n q s N := by subst e; exact h
theorem iR_eR (E : eR 0 N M) : iR N M := ⟨E.1 51 (by decide), fun k i b => E.2 k i (fun b2 => absurd (bk_1 b b2) (by decide)), fun i _ => E.2 50 i (fun b => by have := b.2.1; omega)⟩
theorem iR_52 (e : N = uI M 60 52 v) : iR N M := ⟨tI_nE e (nk (by decide)), fun _ i _ => cg (tY_uIE e) i, fun i _ => cg (tY_uIE e) i⟩
theorem rgR_eR (h : rgR n u c M) (E : eR q N M) (hq : q < 3) (hn : n ≤ 8) : rgR n u c N := ⟨by rw [E.1 52 (by decide)]; exact h.1, fun i hi => ⟨qR_ne (h.2 i hi).1 E (by omega) hn, qV_ne (h.2 i hi).2 E (by omega) hn⟩⟩
theorem kR_eR (h4 : 0 ≤ tx 4 ∧ tx 4 ≤ 8) (h : kR tx s u c p M) (E : eR 0 N M) (hq : qR (tx 4).toNat 0 s2 N) (hv : qV (tx 4).toNat 0 s2 N) (h2 : s2 2 = s 2) : kR tx s2 u c p N := by
  obtain ⟨a1, a2, a3, a4, a6, a7⟩ := h
  exact ⟨tR_lw a1 (eR_lw E), hq, hv, rgR_eR a4 E (by decide) (by omega), fun m k h1 h2' h3 => by rw [h2] at h1; rw [E.2 50 _ (fun b => by have := b.2.1; omega)]; exact a6 m k h1 h2' h3, (E.1 53 (by decide)).trans a7⟩
theorem iR_0 (e : N = uI M 60 0 v) : iR N M := ⟨tI_nE e (nk (by decide)), fun _ i _ => cg (tY_uIE e) i, fun i _ => cg (tY_uIE e) i⟩
theorem kR_0 (h : kR tx s u c p M) (e : N = uI M 60 0 v) : kR tx s u c p N := by
  obtain ⟨a1, a2, a3, ⟨a4, a5⟩, a6, a7⟩ := h
  exact ⟨tR_lw a1 (fun _ _ _ => tY_uIE e), qR_I a2 e, qV_I a3 e, ⟨by rw [tI_nE e (nk (by decide))]; exact a4, fun i hi => ⟨qR_I (a5 i hi).1 e, qV_I (a5 i hi).2 e⟩⟩, fun m k h1 h2 h3 => by rw [cg (tY_uIE e) _]; exact a6 m k h1 h2 h3, (tI_nE e (nk (by decide))).trans a7⟩
theorem hi9_0 {n : Nat} (h : ¬ (tI M 60 51).toInt = 0 → qR n 2 si M ∧ qV n 2 si M ∧ hI3 p (si 2) M) (e : N = uI M 60 0 v) : ¬ (tI N 60 51).toInt = 0 → qR n 2 si N ∧ qV n 2 si N ∧ hI3 p (si 2) N := fun q => by
  rw [tI_nE e (nk (by decide))] at q
  obtain ⟨a, b, d⟩ := h q
  exact ⟨qR_I a e, qV_I b e, fun m k h1 h2 h3 => by rw [cg (tY_uIE e) _]; exact d m k h1 h2 h3⟩
/-- the ring while its eldest goes: entries below k - 1 have moved -/
def rbk (n : Nat) (k : Int) (u : Nat → Nat → Int) (M : ti_M) : Prop := ∀ i : Nat, i < 20 → qR n (3 + i) (if (i : Int) + 1 < k then u (i + 1) else u i) M ∧ qV n (3 + i) (if (i : Int) + 1 < k then u (i + 1) else u i) M
theorem rbk_0 (hk : k = 1) (h : rgR n u c M) (hc : c = 20) : rbk n k u M := fun i hi => by rw [if_neg (by omega)]; exact h.2 i (by omega)
theorem rbk_s (h : rbk n k u M) (E : eR t N M) (x : cx t a N M) (ht : (t : Int) = 3 + k - 1) (ha : (a : Int) = 3 + k) (h1 : 1 ≤ k) (h2 : k < 20) (e : k2 = k + 1) (hn : n ≤ 8) : rbk n k2 u N := by
  intro i hi
  by_cases r : (i : Int) + 1 = k
  · rw [if_pos (by omega), show 3 + i = t by omega]
    have y := h (i + 1) (by omega)
    rw [if_neg (by omega), show 3 + (i + 1) = a by omega] at y
    exact ⟨cx_qR hn x y.1, cx_qV hn x y.2⟩
  · have y := h i hi
    rw [show (if (i : Int) + 1 < k2 then u (i + 1) else u i) = (if (i : Int) + 1 < k then u (i + 1) else u i) by
      by_cases z : (i : Int) + 1 < k
      · rw [if_pos z, if_pos (by omega)]
      · rw [if_neg z, if_neg (by omega)]]
    exact ⟨qR_ne y.1 E (by omega) hn, qV_ne y.2 E (by omega) hn⟩
theorem rbk_e (h : rbk n k u M) (hk : k = 20) (e : N = uI M 60 52 v) : ∀ i : Nat, (i : Int) < 19 → qR n (3 + i) (u (i + 1)) N ∧ qV n (3 + i) (u (i + 1)) N := fun i hi => by
  have y := h i (by omega)
  rw [if_pos (by omega)] at y
  exact ⟨qR_I y.1 e, qV_I y.2 e⟩
/-- a state remembered -/
theorem kR_rem (h4 : 0 ≤ tx 4 ∧ tx 4 ≤ 8) (h : kR tx s u c p M) (B : eB X M) (hw : ∀ i : Nat, (i : Int) < c2 → qR (tx 4).toNat (3 + i) (w i) X ∧ qV (tx 4).toNat (3 + i) (w i) X) (E : eR t K X) (x : cx t 0 K X) (eN : N = uI K 60 52 v) (ht : (t : Int) = 3 + c2) (h0 : 0 ≤ c2) (hv : v.toInt = c2 + 1) (hc : (c < 20 ∧ c2 = c ∧ ∀ i : Nat, (i : Int) < c → w i = u i) ∨ (c = 20 ∧ c2 = 19 ∧ ∀ i : Nat, i < 19 → w i = u (i + 1))) : kR tx s (bq_rb u c s) (bq_rc c) p N ∧ iR N M := by
  obtain ⟨a1, a2, a3, ⟨a4, a5⟩, a6, a7⟩ := h
  have hn : (tx 4).toNat ≤ 8 := by omega
  have BN : eB N M := ((eB_52 eN).trans (eB_eR E (by omega))).trans B
  have qt : qR (tx 4).toNat t s N := qR_I (cx_qR hn x (eB_qR a2 B (by decide) hn)) eN
  have vt : qV (tx 4).toNat t s N := qV_I (cx_qV hn x (eB_qV a3 B (by decide) hn)) eN
  refine ⟨⟨tR_lw a1 (eB_lw BN), eB_qR a2 BN (by decide) hn, eB_qV a3 BN (by decide) hn, ⟨?_, fun i hi => ?_⟩, fun m k h1 h2 h3 => by rw [BN.2 50 _ (fun q _ b => by have := b.2.1; omega)]; exact a6 m k h1 h2 h3, (BN.1 53 (by decide) (by decide)).trans a7⟩, BN.1 51 (by decide) (by decide), fun k i b => BN.2 k i (fun q h3 b2 => by have := bk_1 b b2; omega), fun i _ => BN.2 50 i (fun q _ b => by have := b.2.1; omega)⟩
  · rw [tI_uE eN]
    unfold bq_rc
    rcases hc with ⟨b0, b1, b2⟩ | ⟨b0, b1, b2⟩ <;> split <;> omega
  · by_cases r : (i : Int) = c2
    · have e : bq_rb u c s i = s := by
        unfold bq_rb
        rcases hc with ⟨b0, b1, b2⟩ | ⟨b0, b1, b2⟩
        · rw [if_pos b0, if_pos (by omega)]
        · rw [if_neg (by omega), if_pos (by omega)]
      rw [e, show 3 + i = t by omega]; exact ⟨qt, vt⟩
    · have hi2 : (i : Int) < c2 := by
        unfold bq_rc at hi
        rcases hc with ⟨b0, b1, b2⟩ | ⟨b0, b1, b2⟩ <;> split at hi <;> omega
      have e : bq_rb u c s i = w i := by
        unfold bq_rb
        rcases hc with ⟨b0, b1, b2⟩ | ⟨b0, b1, b2⟩
        · rw [if_pos b0, if_neg (by omega)]; exact (b2 i (by omega)).symm
        · rw [if_neg (by omega), if_neg (by omega)]; exact (b2 i (by omega)).symm
      rw [e]
      have y := hw i hi2
      exact ⟨qR_I (qR_ne y.1 E (by omega) hn) eN, qV_I (qV_ne y.2 E (by omega) hn) eN⟩
/-- one step back -/
theorem kR_tb (h4 : 0 ≤ tx 4 ∧ tx 4 ≤ 8) (h : kR tx s u c p M) (e33 : eR 0 K M) (eX : X = uI K 60 52 v) (E : eR 0 N X) (x : cx 0 t N X) (hc : 0 < c) (hv : v.toInt = c - 1) (ht : (t : Int) = 3 + (c - 1)) (h2 : u (c - 1).toNat 2 = s 2) : kR tx (u (c - 1).toNat) u (c - 1) p N ∧ iR N M := by
  obtain ⟨a1, a2, a3, a4, a6, a7⟩ := h
  have hn : (tx 4).toNat ≤ 8 := by omega
  have a4 := rgR_eR a4 e33 (by decide) hn
  have y := a4.2 (c - 1).toNat (by omega)
  rw [show 3 + (c - 1).toNat = t by omega] at y
  have lX : lw X K := fun _ _ _ => tY_uIE eX
  refine ⟨⟨tR_lw (tR_lw (tR_lw a1 (eR_lw e33)) lX) (eR_lw E), cx_qR hn x (qR_I y.1 eX), cx_qV hn x (qV_I y.2 eX), ⟨by rw [E.1 52 (by decide), tI_uE eX, hv], fun i hi => ?_⟩, fun m k h1 h2' h3 => ?_, (E.1 53 (by decide)).trans ((tI_nE eX (nk (by decide))).trans ((e33.1 53 (by decide)).trans a7))⟩, (iR_eR E).trans ((iR_52 eX).trans (iR_eR e33))⟩
  · have z := a4.2 i (by omega)
    exact ⟨qR_ne (qR_I z.1 eX) E (by omega) hn, qV_ne (qV_I z.2 eX) E (by omega) hn⟩
  · rw [h2] at h1
    rw [E.2 50 _ (fun b => by have := b.2.1; omega), cg (tY_uIE eX) _, e33.2 50 _ (fun b => by have := b.2.1; omega)]
    exact a6 m k h1 h2' h3
theorem po_is {m : Int} {p : Nat} (h : ∀ j : Nat, j < p → s (96 + j) ≠ m) (hp : p < (s 3).toNat) (e : s (96 + p) = m) : bq_po s m 0 = p := by
  have key : ∀ i : Nat, i ≤ p → bq_po s m (p - i) = p := by
    intro i
    induction i with
    | zero => intro _; exact po_at hp e
    | succ i ih =>
      intro hi
      rw [po_go (by omega) (h (p - (i + 1)) (by omega)), show p - (i + 1) + 1 = p - i by omega]
      exact ih (by omega)
  have := key p (Nat.le_refl _)
  rwa [Nat.sub_self] at this
end
section
variable {n q p m : Nat} {s : Nat → Int} {M N : ti_M} {z v : Int32} {x : Int}
theorem qR_39 (h : qR n q s M) (hz : z.toInt = ((8 * q + p : Nat) : Int)) (hv : v.toInt = x) (e : N = uY M 60 39 (upd (tY M 60 39) z.toNatClampNeg v)) (hp : p < 8) (hn : n ≤ 8) : qR n q (pp_su s (96 + p) x) N := by
  rw [i_cl hz] at e
  obtain ⟨a, b, c, d, f, g⟩ := h
  have o : ∀ k2 : Nat, k2 ≠ 39 → tY N 60 k2 = tY M 60 k2 := fun k2 h2 => tY_nE e (nk h2)
  have gk : ∀ j : Nat, j ≠ 96 + p → pp_su s (96 + p) x j = s j := fun j hj => su_n hj
  refine ⟨by rw [gk 2 (by omega), gk 3 (by omega), gk 4 (by omega), gk 5 (by omega), o 34 (by decide), o 38 (by decide), o 35 (by decide), o 36 (by decide)]; exact a, fun p2 h1 h2 => ?_, fun j hj => by rw [gk (112 + j) (by omega), o 49 (by decide)]; exact c j hj, fun m2 h2 => ?_, fun m2 h2 => ?_, ?_⟩
  · rw [gk 3 (by omega)] at h2
    by_cases r : p2 = p
    · subst r; rw [su_s, tY_uE e, pk_us, hv]
    · rw [gk (96 + p2) (by omega), tY_uE e, pk_un (by omega)]; exact b p2 h1 h2
  · rw [gk (128 + m2) (by omega), gk (144 + m2) (by omega), gk (160 + m2) (by omega), gk (176 + m2) (by omega), gk (192 + m2) (by omega), gk (240 + m2) (by omega), o 40 (by decide), o 44 (by decide), o 41 (by decide), o 42 (by decide), o 43 (by decide), o 47 (by decide)]; exact d m2 h2
  · rw [gk (128 + m2) (by omega), gk (208 + m2) (by omega), gk (224 + m2) (by omega), o 45 (by decide), o 46 (by decide)]; exact f m2 h2
  · rw [gk 1 (by omega), o 37 (by decide)]
    split at g
    · rename_i w
      rw [if_pos w]
      intro m2 h2
      rw [gk (256 + m2) (by omega)]; exact g m2 h2
    · rename_i w
      rw [if_neg w]; exact g
theorem qR_49 (h : qR n q s M) (hz : z.toInt = ((3 * q + p : Nat) : Int)) (hv : v.toInt = x) (e : N = uY M 60 49 (upd (tY M 60 49) z.toNatClampNeg v)) (hp : p < 3) (hn : n ≤ 8) : qR n q (pp_su s (112 + p) x) N := by
  rw [i_cl hz] at e
  obtain ⟨a, b, c, d, f, g⟩ := h
  have o : ∀ k2 : Nat, k2 ≠ 49 → tY N 60 k2 = tY M 60 k2 := fun k2 h2 => tY_nE e (nk h2)
  have gk : ∀ j : Nat, j ≠ 112 + p → pp_su s (112 + p) x j = s j := fun j hj => su_n hj
  refine ⟨by rw [gk 2 (by omega), gk 3 (by omega), gk 4 (by omega), gk 5 (by omega), o 34 (by decide), o 38 (by decide), o 35 (by decide), o 36 (by decide)]; exact a, fun p2 h1 h2 => ?_, fun j hj => ?_, fun m2 h2 => ?_, fun m2 h2 => ?_, ?_⟩
  · rw [gk 3 (by omega)] at h2
    rw [gk (96 + p2) (by omega), o 39 (by decide)]; exact b p2 h1 h2
  · by_cases r : j = p
    · subst r; rw [su_s, tY_uE e, pk_us, hv]
    · rw [gk (112 + j) (by omega), tY_uE e, pk_un (by omega)]; exact c j hj
  · rw [gk (128 + m2) (by omega), gk (144 + m2) (by omega), gk (160 + m2) (by omega), gk (176 + m2) (by omega), gk (192 + m2) (by omega), gk (240 + m2) (by omega), o 40 (by decide), o 44 (by decide), o 41 (by decide), o 42 (by decide), o 43 (by decide), o 47 (by decide)]; exact d m2 h2
  · rw [gk (128 + m2) (by omega), gk (208 + m2) (by omega), gk (224 + m2) (by omega), o 45 (by decide), o 46 (by decide)]; exact f m2 h2
  · rw [gk 1 (by omega), o 37 (by decide)]
    split at g
    · rename_i w
      rw [if_pos w]
      intro m2 h2
      rw [gk (256 + m2) (by omega)]; exact g m2 h2
    · rename_i w
      rw [if_neg w]; exact g
theorem qR_37o (h : qR n q s M) (h1 : s 1 = 0) (hz : z.toInt = (q : Int)) (e : N = uY M 60 37 (upd (tY M 60 37) z.toNatClampNeg v)) (hb : ∀ j : Nat, j < 8 → pp_bt v j = if j = m then 1 else pp_bt (tY M 60 37 q) j) (hn : n ≤ 8) : qR n q (pp_su s (256 + m) 1) N := by
  rw [i_cl hz] at e
  obtain ⟨a, b, c, d, f, g⟩ := h
  have o : ∀ k2 : Nat, k2 ≠ 37 → tY N 60 k2 = tY M 60 k2 := fun k2 h2 => tY_nE e (nk h2)
  have gk : ∀ j : Nat, j ≠ 256 + m → pp_su s (256 + m) 1 j = s j := fun j hj => su_n hj
  refine ⟨by rw [gk 2 (by omega), gk 3 (by omega), gk 4 (by omega), gk 5 (by omega), o 34 (by decide), o 38 (by decide), o 35 (by decide), o 36 (by decide)]; exact a, fun p2 h1 h2 => ?_, fun j hj => by rw [gk (112 + j) (by omega), o 49 (by decide)]; exact c j hj, fun m2 h2 => ?_, fun m2 h2 => ?_, ?_⟩
  · rw [gk 3 (by omega)] at h2
    rw [gk (96 + p2) (by omega), o 39 (by decide)]; exact b p2 h1 h2
  · rw [gk (128 + m2) (by omega), gk (144 + m2) (by omega), gk (160 + m2) (by omega), gk (176 + m2) (by omega), gk (192 + m2) (by omega), gk (240 + m2) (by omega), o 40 (by decide), o 44 (by decide), o 41 (by decide), o 42 (by decide), o 43 (by decide), o 47 (by decide)]; exact d m2 h2
  · rw [gk (128 + m2) (by omega), gk (208 + m2) (by omega), gk (224 + m2) (by omega), o 45 (by decide), o 46 (by decide)]; exact f m2 h2
  · rw [gk 1 (by omega), if_pos h1]
    rw [if_pos h1] at g
    intro j hj
    rw [tY_uE e, pk_us, hb j hj]
    by_cases r : j = m
    · subst r; rw [su_s, if_pos rfl]
    · rw [gk (256 + j) (by omega), if_neg r]; exact g j hj
end
set_option maxHeartbeats 4000000 in
set_option maxRecDepth 100000 in
theorem z_X10_keepNow (l : Launch) (D : va_G) (A : Nat → Nat → Nat) (cy : Nat → ClassId) (hJ : ti_inj ti_LM A) (M : ti_M) (hI : mI Tm M) (hF : mF Tm M) (tx rg lp : Nat → Int) (ug : Nat → Nat → Int) (cu : Int) (ht4 : 0 ≤ tx 4 ∧ tx 4 ≤ 8) (hk : kR tx rg ug cu lp M) : ti_Kv l yX10_keepNow cX10_keepNow 2 1 ti_LM D A cy M [.ref (A 60 0)] (fun M2 => kR tx rg (bq_rb ug cu rg) (bq_rc cu) lp M2 ∧ iR M2 M ∧ mF Tm M2 ∧ kp M2 M) := by
  refine ti_eV yp_X10_keepNow hJ ti_LM_nd (Nat.le_of_ble_eq_true rfl) ?_
  intro p e s m args below meth c Q H0 C hQ hw ls hl
  have hx := C.1
  have hb := C.2.1
  have hl : lv_has ls 2 [(0, .ref (A 60 0))] := hl
  obtain ⟨htr, hr, hV, hu, hp0, htw⟩ := id hk
  have hu1 := hu.1
  refine lv_aload_n hx hb dX10_keepNow_0 rfl (lv_at hl 0 rfl) ?_
  refine ti_get (ci := 10) (k := 52) (N := 67) (T := TX10) C hw iw_10 rfl ob_60 (by decide) (by decide) fl_X10_317 rfl rfl dX10_keepNow_1 ?_
  refine lv_topi (fun x_1 ex_1 => ?_)
  have bx_1 : 0 ≤ x_1.toInt ∧ x_1.toInt ≤ 20 := mI_rd hI ex_1
  have ux_1 : (tI M 60 52).toInt = x_1.toInt := by rw [ex_1]
  refine lv_bipush (v := 20) hx hb dX10_keepNow_4 (by decide) ?_
  refine sb_icmp_ne (tgt := 45) hx hb rfl (by decide : (20 : Int32).toInt = 20) dX10_keepNow_6 (by decide) (fun c_6_1 => ?_) (fun c_6_1 => ?_)
  · refine lv_aload_n hx hb dX10_keepNow_45 rfl (lv_at hl 0 rfl) ?_
    refine lv_iconst (v := 3) hx hb dX10_keepNow_46 (by decide) ?_
    refine lv_aload_n hx hb dX10_keepNow_47 rfl (lv_at hl 0 rfl) ?_
    refine ti_get (ci := 10) (k := 52) (N := 67) (T := TX10) C hw iw_10 rfl ob_60 (by decide) (by decide) fl_X10_317 rfl rfl dX10_keepNow_48 ?_
    refine ti_top (y := x_1) (ex_1.symm) ?_
    have u_25 : (tI M 60 52).toInt = (x_1 : Int32).toInt := by rw [(ex_1.symm)]
    refine lv_iadd hx hb dX10_keepNow_51 ?_
    refine lv_topi (fun x_26 ex_26 => ?_)
    have tx_26 : x_26.toInt = 3 + x_1.toInt := i_add ex_26 (by decide : (3 : Int32).toInt = 3) rfl (by omega) (by omega)
    refine lv_iconst (v := 0) hx hb dX10_keepNow_52 (by decide) ?_
    refine ti_callVv (ci := 10) (av := [.int x_26, .int 0]) C hw (z_X10_copies l D A cy hJ M hI x_26 0 (by first | omega | decide | (have l0 : (0 : Int32).toInt = 0 := (by decide); have l2 : (2 : Int32).toInt = 2 := (by decide); have l3 : (3 : Int32).toInt = 3 := (by decide); omega)) (by first | omega | decide | (have l0 : (0 : Int32).toInt = 0 := (by decide); have l2 : (2 : Int32).toInt = 2 := (by decide); have l3 : (3 : Int32).toInt = 3 := (by decide); omega)) (by first | omega | decide | (have l0 : (0 : Int32).toInt = 0 := (by decide); have l2 : (2 : Int32).toInt = 2 := (by decide); have l3 : (3 : Int32).toInt = 3 := (by decide); omega)) (by first | omega | decide | (have l0 : (0 : Int32).toInt = 0 := (by decide); have l2 : (2 : Int32).toInt = 2 := (by decide); have l3 : (3 : Int32).toInt = 3 := (by decide); omega)) (by first | omega | decide | (have l0 : (0 : Int32).toInt = 0 := (by decide); have l2 : (2 : Int32).toInt = 2 := (by decide); have l3 : (3 : Int32).toInt = 3 := (by decide); omega)) (by first | omega | decide | (have l0 : (0 : Int32).toInt = 0 := (by decide); have l2 : (2 : Int32).toInt = 2 := (by decide); have l3 : (3 : Int32).toInt = 3 := (by decide); omega))) ⟨ml_X10_404, ym_X10_copies, yv_X10_copies, yi_X10_copies, yc_X10_copies⟩ yd_X10_copies ob_60 (by decide) rfl rfl hl.1 (Nat.le_of_ble_eq_true rfl) ⟨by decide, by decide⟩ ⟨Nat.zero_le _, Nat.zero_le _⟩ dX10_keepNow_53 (fun M_28 H locs hp_28 hw => ?_)
    obtain ⟨erM_28, cxM_28, hqM_28⟩ := hp_28
    rw [show (0 : Int32).toInt.toNat = 0 by decide] at cxM_28
    obtain ⟨iM_28, q_29, q_30⟩ := hqM_28
    have q_30n : cq (x_26).toInt.toNat 0 M_28 M := by rw [show (0 : Int32).toNatClampNeg = 0 from by decide] at q_30; exact q_30
    have kpM_28 : kp M_28 M := kp_cq q_29 q_30n (by show (x_26).toInt.toNat ≠ 0; omega)
    have gsM_28 : gq M 0 := hF.2.2.1
    have mfM_28 : mF Tm M_28 := mF_cq hF iM_28 q_29 q_30n gsM_28
    have gtM_28 : gq M_28 (x_26).toInt.toNat := gq_cq q_30n gsM_28
    refine lv_aload_n hx hb dX10_keepNow_56 rfl (lv_at hl 0 rfl) ?_
    refine lv_dup hx hb dX10_keepNow_57 rfl ?_
    refine ti_get (ci := 10) (k := 52) (N := 67) (T := TX10) C hw iw_10 rfl ob_60 (by decide) (by decide) fl_X10_317 rfl rfl dX10_keepNow_58 ?_
    refine ti_top (y := x_1) ((erM_28.1 52 (by decide)).trans ex_1.symm) ?_
    have u_31 : (tI M_28 60 52).toInt = (x_1 : Int32).toInt := by rw [((erM_28.1 52 (by decide)).trans ex_1.symm)]
    refine lv_iconst (v := 1) hx hb dX10_keepNow_61 (by decide) ?_
    refine lv_iadd hx hb dX10_keepNow_62 ?_
    refine lv_topi (fun x_32 ex_32 => ?_)
    have tx_32 : x_32.toInt = x_1.toInt + 1 := i_add ex_32 rfl (by decide : (1 : Int32).toInt = 1) (by omega) (by omega)
    refine ti_putI (ci := 10) (k := 52) (N := 67) (T := TX10) C hw iw_10 tyX10 tyX10_ok nmX10 rfl ob_60 (by decide) (by decide) fl_X10_317 rfl rfl rfl rfl (fn_10 A _) fs_10_52 dX10_keepNow_63 (fun H locs hw => ?_)
    obtain ⟨M_33, hM_33⟩ : ∃ z : ti_M, z = uI M_28 60 52 x_32 := ⟨_, rfl⟩
    have hw := hw.to hM_33.symm
    have iM_33 : mI Tm M_33 := mI_uI iM_28 hM_33 (by decide) (by decide) (ib_mk (lo := 0) (hi := 20) (by omega) (by omega))
    have vM_33 : (tI M_33 60 52).toInt = (x_32 : Int32).toInt := by rw [tI_uE hM_33]
    have mfM_33 : mF Tm M_33 := mF_52p mfM_28 iM_33 hM_33 (by rw [((erM_28.1 52 (by decide)).trans ex_1.symm)]; omega) (by rw [((erM_28.1 52 (by decide)).trans ex_1.symm)]; omega) (by rw [((erM_28.1 52 (by decide)).trans ex_1.symm), show 3 + x_1.toInt.toNat = (x_26).toInt.toNat by omega]; exact gtM_28)
    have kk_34 := kR_rem (w := ug) (c2 := cu) ht4 hk eB.refl (fun i hi => hu.2 i (by omega)) erM_28 cxM_28 hM_33 (by omega) (by omega) (by omega) (Or.inl ⟨by omega, rfl, fun _ _ => rfl⟩)
    exact hQ _ _ _ _ _ hw (⟨kk_34.1, kk_34.2, mfM_33, (kp.trans (kp_I hM_33 (by decide)) kpM_28)⟩) dX10_keepNow_66
  · refine lv_iconst (v := 1) hx hb dX10_keepNow_9 (by decide) ?_
    refine lv_istore_n (lv' := [(1, .int 1), (0, .ref (A 60 0))]) hx hb dX10_keepNow_10 rfl hl (by decide) rfl (fun ls hl => ?_)
    have hl_11_11 : ∀ (n_12 : Nat) (x_3 : Int32) (M_6 : ti_M) (H : Heap) (locs : List Loc) (ls : Array Slot), (20 - x_3.toInt : Int).toNat < n_12 → (1 ≤ x_3.toInt) → (x_3.toInt ≤ 20) → (mI Tm M_6) → (kp M_6 M) → (mF Tm M_6) → (eB M_6 M) → (tI M_6 60 52 = x_1) → (rbk (tx 4).toNat (x_3.toInt) ug M_6) → ti_H ti_LM D A cy H0 M_6 H locs → lv_has ls 2 [(1, .int x_3), (0, .ref (A 60 0))] → W p l e (ti_rm 1) s m args below meth c H locs 0 0 Q (F0 m 11 ls []) := by
      intro n_12
      induction n_12 with
      | zero => intro x_3 M_6 H locs ls hf_12; exact absurd hf_12 (Nat.not_lt_zero _)
      | succ n_12 ih_12 =>
        intro x_3 M_6 H locs ls hf_12 b_4 b_5 iM_6 f_7 f_8 f_9 f_10 j_11 hw hl
        refine lv_iload_n hx hb dX10_keepNow_11 rfl (lv_at hl 0 rfl) ?_
        refine lv_bipush (v := 20) hx hb dX10_keepNow_12 (by decide) ?_
        refine sb_icmp_ge (tgt := 35) hx hb rfl (by decide : (20 : Int32).toInt = 20) dX10_keepNow_14 (by decide) (fun c_14_12 => ?_) (fun c_14_12 => ?_)
        · refine lv_aload_n hx hb dX10_keepNow_35 rfl (lv_at hl 1 rfl) ?_
          refine lv_dup hx hb dX10_keepNow_36 rfl ?_
          refine ti_get (ci := 10) (k := 52) (N := 67) (T := TX10) C hw iw_10 rfl ob_60 (by decide) (by decide) fl_X10_317 rfl rfl dX10_keepNow_37 ?_
          refine ti_top (y := x_1) (f_10) ?_
          have u_22 : (tI M_6 60 52).toInt = (x_1 : Int32).toInt := by rw [(f_10)]
          refine lv_iconst (v := 1) hx hb dX10_keepNow_40 (by decide) ?_
          refine lv_isub hx hb dX10_keepNow_41 ?_
          refine lv_topi (fun x_23 ex_23 => ?_)
          have tx_23 : x_23.toInt = x_1.toInt - 1 := i_sub ex_23 rfl (by decide : (1 : Int32).toInt = 1) (by omega) (by omega)
          refine ti_putI (ci := 10) (k := 52) (N := 67) (T := TX10) C hw iw_10 tyX10 tyX10_ok nmX10 rfl ob_60 (by decide) (by decide) fl_X10_317 rfl rfl rfl rfl (fn_10 A _) fs_10_52 dX10_keepNow_42 (fun H locs hw => ?_)
          obtain ⟨M_24, hM_24⟩ : ∃ z : ti_M, z = uI M_6 60 52 x_23 := ⟨_, rfl⟩
          have hw := hw.to hM_24.symm
          have iM_24 : mI Tm M_24 := mI_uI iM_6 hM_24 (by decide) (by decide) (ib_mk (lo := 0) (hi := 20) (by omega) (by omega))
          have vM_24 : (tI M_24 60 52).toInt = (x_23 : Int32).toInt := by rw [tI_uE hM_24]
          have mfM_24 : mF Tm M_24 := mF_52 f_8 iM_24 hM_24 (by rw [(f_10)]; omega)
          refine lv_aload_n hx hb dX10_keepNow_45 rfl (lv_at hl 1 rfl) ?_
          refine lv_iconst (v := 3) hx hb dX10_keepNow_46 (by decide) ?_
          refine lv_aload_n hx hb dX10_keepNow_47 rfl (lv_at hl 1 rfl) ?_
          refine ti_get (ci := 10) (k := 52) (N := 67) (T := TX10) C hw iw_10 rfl ob_60 (by decide) (by decide) fl_X10_317 rfl rfl dX10_keepNow_48 ?_
          refine ti_top (y := x_23) (tI_uE hM_24) ?_
          have u_35 : (tI M_24 60 52).toInt = (x_23 : Int32).toInt := by rw [(tI_uE hM_24)]
          refine lv_iadd hx hb dX10_keepNow_51 ?_
          refine lv_topi (fun x_36 ex_36 => ?_)
          have tx_36 : x_36.toInt = 3 + x_23.toInt := i_add ex_36 (by decide : (3 : Int32).toInt = 3) rfl (by omega) (by omega)
          refine lv_iconst (v := 0) hx hb dX10_keepNow_52 (by decide) ?_
          refine ti_callVv (ci := 10) (av := [.int x_36, .int 0]) C hw (z_X10_copies l D A cy hJ M_24 iM_24 x_36 0 (by first | omega | decide | (have l0 : (0 : Int32).toInt = 0 := (by decide); have l2 : (2 : Int32).toInt = 2 := (by decide); have l3 : (3 : Int32).toInt = 3 := (by decide); omega)) (by first | omega | decide | (have l0 : (0 : Int32).toInt = 0 := (by decide); have l2 : (2 : Int32).toInt = 2 := (by decide); have l3 : (3 : Int32).toInt = 3 := (by decide); omega)) (by first | omega | decide | (have l0 : (0 : Int32).toInt = 0 := (by decide); have l2 : (2 : Int32).toInt = 2 := (by decide); have l3 : (3 : Int32).toInt = 3 := (by decide); omega)) (by first | omega | decide | (have l0 : (0 : Int32).toInt = 0 := (by decide); have l2 : (2 : Int32).toInt = 2 := (by decide); have l3 : (3 : Int32).toInt = 3 := (by decide); omega)) (by first | omega | decide | (have l0 : (0 : Int32).toInt = 0 := (by decide); have l2 : (2 : Int32).toInt = 2 := (by decide); have l3 : (3 : Int32).toInt = 3 := (by decide); omega)) (by first | omega | decide | (have l0 : (0 : Int32).toInt = 0 := (by decide); have l2 : (2 : Int32).toInt = 2 := (by decide); have l3 : (3 : Int32).toInt = 3 := (by decide); omega))) ⟨ml_X10_404, ym_X10_copies, yv_X10_copies, yi_X10_copies, yc_X10_copies⟩ yd_X10_copies ob_60 (by decide) rfl rfl hl.1 (Nat.le_of_ble_eq_true rfl) ⟨by decide, by decide⟩ ⟨Nat.zero_le _, Nat.zero_le _⟩ dX10_keepNow_53 (fun M_38 H locs hp_38 hw => ?_)
          obtain ⟨erM_38, cxM_38, hqM_38⟩ := hp_38
          rw [show (0 : Int32).toInt.toNat = 0 by decide] at cxM_38
          obtain ⟨iM_38, q_39, q_40⟩ := hqM_38
          have q_40n : cq (x_36).toInt.toNat 0 M_38 M_24 := by rw [show (0 : Int32).toNatClampNeg = 0 from by decide] at q_40; exact q_40
          have kpM_38 : kp M_38 M_24 := kp_cq q_39 q_40n (by show (x_36).toInt.toNat ≠ 0; omega)
          have gsM_38 : gq M_24 0 := mfM_24.2.2.1
          have mfM_38 : mF Tm M_38 := mF_cq mfM_24 iM_38 q_39 q_40n gsM_38
          have gtM_38 : gq M_38 (x_36).toInt.toNat := gq_cq q_40n gsM_38
          refine lv_aload_n hx hb dX10_keepNow_56 rfl (lv_at hl 1 rfl) ?_
          refine lv_dup hx hb dX10_keepNow_57 rfl ?_
          refine ti_get (ci := 10) (k := 52) (N := 67) (T := TX10) C hw iw_10 rfl ob_60 (by decide) (by decide) fl_X10_317 rfl rfl dX10_keepNow_58 ?_
          refine ti_top (y := x_23) ((erM_38.1 52 (by decide)).trans (tI_uE hM_24)) ?_
          have u_41 : (tI M_38 60 52).toInt = (x_23 : Int32).toInt := by rw [((erM_38.1 52 (by decide)).trans (tI_uE hM_24))]
          refine lv_iconst (v := 1) hx hb dX10_keepNow_61 (by decide) ?_
          refine lv_iadd hx hb dX10_keepNow_62 ?_
          refine lv_topi (fun x_42 ex_42 => ?_)
          have tx_42 : x_42.toInt = x_23.toInt + 1 := i_add ex_42 rfl (by decide : (1 : Int32).toInt = 1) (by omega) (by omega)
          refine ti_putI (ci := 10) (k := 52) (N := 67) (T := TX10) C hw iw_10 tyX10 tyX10_ok nmX10 rfl ob_60 (by decide) (by decide) fl_X10_317 rfl rfl rfl rfl (fn_10 A _) fs_10_52 dX10_keepNow_63 (fun H locs hw => ?_)
          obtain ⟨M_43, hM_43⟩ : ∃ z : ti_M, z = uI M_38 60 52 x_42 := ⟨_, rfl⟩
          have hw := hw.to hM_43.symm
          have iM_43 : mI Tm M_43 := mI_uI iM_38 hM_43 (by decide) (by decide) (ib_mk (lo := 0) (hi := 20) (by omega) (by omega))
          have vM_43 : (tI M_43 60 52).toInt = (x_42 : Int32).toInt := by rw [tI_uE hM_43]
          have mfM_43 : mF Tm M_43 := mF_52p mfM_38 iM_43 hM_43 (by rw [((erM_38.1 52 (by decide)).trans (tI_uE hM_24))]; omega) (by rw [((erM_38.1 52 (by decide)).trans (tI_uE hM_24))]; omega) (by rw [((erM_38.1 52 (by decide)).trans (tI_uE hM_24)), show 3 + x_23.toInt.toNat = (x_36).toInt.toNat by omega]; exact gtM_38)
          have kk_44 := kR_rem (w := fun i => ug (i + 1)) (c2 := 19) ht4 hk (eB.trans (eB_52 hM_24) f_9) (rbk_e j_11 (by omega) hM_24) erM_38 cxM_38 hM_43 (by omega) (by omega) (by omega) (Or.inr ⟨by omega, rfl, fun _ _ => rfl⟩)
          exact hQ _ _ _ _ _ hw (⟨kk_44.1, kk_44.2, mfM_43, (kp.trans (kp_I hM_43 (by decide)) (kp.trans kpM_38 (kp.trans (kp_I hM_24 (by decide)) f_7)))⟩) dX10_keepNow_66
        · refine lv_aload_n hx hb dX10_keepNow_17 rfl (lv_at hl 1 rfl) ?_
          refine lv_iconst (v := 3) hx hb dX10_keepNow_18 (by decide) ?_
          refine lv_iload_n hx hb dX10_keepNow_19 rfl (lv_at hl 0 rfl) ?_
          refine lv_iadd hx hb dX10_keepNow_20 ?_
          refine lv_topi (fun x_14 ex_14 => ?_)
          have tx_14 : x_14.toInt = 3 + x_3.toInt := i_add ex_14 (by decide : (3 : Int32).toInt = 3) rfl (by omega) (by omega)
          refine lv_iconst (v := 1) hx hb dX10_keepNow_21 (by decide) ?_
          refine lv_isub hx hb dX10_keepNow_22 ?_
          refine lv_topi (fun x_15 ex_15 => ?_)
          have tx_15 : x_15.toInt = x_14.toInt - 1 := i_sub ex_15 rfl (by decide : (1 : Int32).toInt = 1) (by omega) (by omega)
          refine lv_iconst (v := 3) hx hb dX10_keepNow_23 (by decide) ?_
          refine lv_iload_n hx hb dX10_keepNow_24 rfl (lv_at hl 0 rfl) ?_
          refine lv_iadd hx hb dX10_keepNow_25 ?_
          refine lv_topi (fun x_16 ex_16 => ?_)
          have tx_16 : x_16.toInt = 3 + x_3.toInt := i_add ex_16 (by decide : (3 : Int32).toInt = 3) rfl (by omega) (by omega)
          refine ti_callVv (ci := 10) (av := [.int x_15, .int x_16]) C hw (z_X10_copies l D A cy hJ M_6 iM_6 x_15 x_16 (by first | omega | decide | (have l0 : (0 : Int32).toInt = 0 := (by decide); have l2 : (2 : Int32).toInt = 2 := (by decide); have l3 : (3 : Int32).toInt = 3 := (by decide); omega)) (by first | omega | decide | (have l0 : (0 : Int32).toInt = 0 := (by decide); have l2 : (2 : Int32).toInt = 2 := (by decide); have l3 : (3 : Int32).toInt = 3 := (by decide); omega)) (by first | omega | decide | (have l0 : (0 : Int32).toInt = 0 := (by decide); have l2 : (2 : Int32).toInt = 2 := (by decide); have l3 : (3 : Int32).toInt = 3 := (by decide); omega)) (by first | omega | decide | (have l0 : (0 : Int32).toInt = 0 := (by decide); have l2 : (2 : Int32).toInt = 2 := (by decide); have l3 : (3 : Int32).toInt = 3 := (by decide); omega)) (by first | omega | decide | (have l0 : (0 : Int32).toInt = 0 := (by decide); have l2 : (2 : Int32).toInt = 2 := (by decide); have l3 : (3 : Int32).toInt = 3 := (by decide); omega)) (by first | omega | decide | (have l0 : (0 : Int32).toInt = 0 := (by decide); have l2 : (2 : Int32).toInt = 2 := (by decide); have l3 : (3 : Int32).toInt = 3 := (by decide); omega))) ⟨ml_X10_404, ym_X10_copies, yv_X10_copies, yi_X10_copies, yc_X10_copies⟩ yd_X10_copies ob_60 (by decide) rfl rfl hl.1 (Nat.le_of_ble_eq_true rfl) ⟨by decide, by decide⟩ ⟨Nat.zero_le _, Nat.zero_le _⟩ dX10_keepNow_26 (fun M_18 H locs hp_18 hw => ?_)
          obtain ⟨erM_18, cxM_18, hqM_18⟩ := hp_18
          obtain ⟨iM_18, q_19, q_20⟩ := hqM_18
          have q_20n : cq (x_15).toInt.toNat (x_16).toInt.toNat M_18 M_6 := by exact q_20
          have kpM_18 : kp M_18 M_6 := kp_cq q_19 q_20n (by show (x_15).toInt.toNat ≠ 0; omega)
          have gsM_18 : gq M_6 (x_16).toInt.toNat := by have g := f_8.2.2.2.2 x_3.toInt.toNat (by rw [(f_10)]; omega); rwa [show 3 + x_3.toInt.toNat = (x_16).toInt.toNat by omega] at g
          have mfM_18 : mF Tm M_18 := mF_cq f_8 iM_18 q_19 q_20n gsM_18
          have gtM_18 : gq M_18 (x_15).toInt.toNat := gq_cq q_20n gsM_18
          obtain ⟨x_21, ex_21⟩ : ∃ z : Int32, z = x_3 + 1 := ⟨_, rfl⟩
          have tx_21 : x_21.toInt = x_3.toInt + 1 := i_add ex_21 rfl (by decide) (by omega) (by omega)
          refine lv_iinc (v := x_21) (lv' := [(1, .int x_21), (0, .ref (A 60 0))]) hx hb dX10_keepNow_29 hl (k := 0) rfl (by rw [ex_21]; rfl) (by decide) rfl (fun ls hl => ?_)
          refine lv_goto (tgt := 11) hx hb dX10_keepNow_32 (by decide) ?_
          exact ih_12 x_21 M_18 _ _ _ (by omega) (by first | omega | decide) (by first | omega | decide) iM_18 (kp.trans kpM_18 f_7) mfM_18 (eB.trans (eB_eR erM_18 (by omega)) f_9) ((erM_18.1 52 (by decide)).trans f_10) (rbk_s j_11 erM_18 cxM_18 (by omega) (by omega) (by omega) (by omega) (by omega) (by omega)) hw (lv_sub hl [0, 1] rfl)
    exact hl_11_11 ((20 - 1 : Int).toNat + 1) 1 M _ _ _ (Nat.lt_succ_self _) (by have lt0 : (1 : Int32).toInt = 1 := (by decide); first | omega | decide) (by have lt0 : (1 : Int32).toInt = 1 := (by decide); first | omega | decide) hI kp.refl hF eB.refl (ex_1.symm) (rbk_0 (by decide) hu (by omega)) hw (lv_sub hl [0, 1] rfl)
set_option maxHeartbeats 4000000 in
set_option maxRecDepth 100000 in
theorem z_X10_isPlace (l : Launch) (D : va_G) (A : Nat → Nat → Nat) (cy : Nat → ClassId) (hJ : ti_inj ti_LM A) (M : ti_M) (hI : mI Tm M)  (a : Int32) : ti_Ki l yX10_isPlace cX10_isPlace 1 (some .boolean) 0 ti_LM D A cy M [.int a] (fun r M2 => M2 = M ∧ ((r = 1 ∧ 0 ≤ a.toInt ∧ a.toInt ≤ 7) ∨ (r = 0 ∧ ¬ (0 ≤ a.toInt ∧ a.toInt ≤ 7)))) := by
  refine ti_eI yp_X10_isPlace hJ ti_LM_nd (Nat.le_of_ble_eq_true rfl) ?_
  intro p e s m args below meth c Q H0 C hQ hw ls hl
  have hx := C.1
  have hb := C.2.1
  have hl : lv_has ls 1 [(0, .int a)] := hl
  refine lv_iload_n hx hb dX10_isPlace_0 rfl (lv_at hl 0 rfl) ?_
  refine sb_if_lt (tgt := 14) hx hb rfl dX10_isPlace_1 (by decide) (fun c_1_0 => ?_) (fun c_1_0 => ?_)
  · refine lv_iconst (v := 0) hx hb dX10_isPlace_14 (by decide) ?_
    exact hQ _ _ _ _ _ _ hw rfl (⟨rfl, Or.inr ⟨rfl, by omega⟩⟩) dX10_isPlace_15
  · refine lv_iload_n hx hb dX10_isPlace_4 rfl (lv_at hl 0 rfl) ?_
    refine lv_bipush (v := 8) hx hb dX10_isPlace_5 (by decide) ?_
    refine sb_icmp_ge (tgt := 14) hx hb rfl (by decide : (8 : Int32).toInt = 8) dX10_isPlace_7 (by decide) (fun c_7_1 => ?_) (fun c_7_1 => ?_)
    · refine lv_iconst (v := 0) hx hb dX10_isPlace_14 (by decide) ?_
      exact hQ _ _ _ _ _ _ hw rfl (⟨rfl, Or.inr ⟨rfl, by omega⟩⟩) dX10_isPlace_15
    · refine lv_iconst (v := 1) hx hb dX10_isPlace_10 (by decide) ?_
      refine lv_goto (tgt := 15) hx hb dX10_isPlace_11 (by decide) ?_
      exact hQ _ _ _ _ _ _ hw rfl (⟨rfl, Or.inl ⟨rfl, by omega, by omega⟩⟩) dX10_isPlace_15
set_option maxHeartbeats 4000000 in
set_option maxRecDepth 100000 in
theorem z_X10_isPower (l : Launch) (D : va_G) (A : Nat → Nat → Nat) (cy : Nat → ClassId) (hJ : ti_inj ti_LM A) (M : ti_M) (hI : mI Tm M)  (a : Int32) : ti_Ki l yX10_isPower cX10_isPower 1 (some .boolean) 0 ti_LM D A cy M [.int a] (fun r M2 => M2 = M ∧ ((r = 1 ∧ 0 ≤ a.toInt ∧ a.toInt ≤ 2) ∨ (r = 0 ∧ ¬ (0 ≤ a.toInt ∧ a.toInt ≤ 2)))) := by
  refine ti_eI yp_X10_isPower hJ ti_LM_nd (Nat.le_of_ble_eq_true rfl) ?_
  intro p e s m args below meth c Q H0 C hQ hw ls hl
  have hx := C.1
  have hb := C.2.1
  have hl : lv_has ls 1 [(0, .int a)] := hl
  refine lv_iload_n hx hb dX10_isPower_0 rfl (lv_at hl 0 rfl) ?_
  refine sb_if_lt (tgt := 13) hx hb rfl dX10_isPower_1 (by decide) (fun c_1_0 => ?_) (fun c_1_0 => ?_)
  · refine lv_iconst (v := 0) hx hb dX10_isPower_13 (by decide) ?_
    exact hQ _ _ _ _ _ _ hw rfl (⟨rfl, Or.inr ⟨rfl, by omega⟩⟩) dX10_isPower_14
  · refine lv_iload_n hx hb dX10_isPower_4 rfl (lv_at hl 0 rfl) ?_
    refine lv_iconst (v := 3) hx hb dX10_isPower_5 (by decide) ?_
    refine sb_icmp_ge (tgt := 13) hx hb rfl (by decide : (3 : Int32).toInt = 3) dX10_isPower_6 (by decide) (fun c_6_1 => ?_) (fun c_6_1 => ?_)
    · refine lv_iconst (v := 0) hx hb dX10_isPower_13 (by decide) ?_
      exact hQ _ _ _ _ _ _ hw rfl (⟨rfl, Or.inr ⟨rfl, by omega⟩⟩) dX10_isPower_14
    · refine lv_iconst (v := 1) hx hb dX10_isPower_9 (by decide) ?_
      refine lv_goto (tgt := 14) hx hb dX10_isPower_10 (by decide) ?_
      exact hQ _ _ _ _ _ _ hw rfl (⟨rfl, Or.inl ⟨rfl, by omega, by omega⟩⟩) dX10_isPower_14
set_option maxHeartbeats 4000000 in
set_option maxRecDepth 100000 in
theorem z_X10_isMan (l : Launch) (D : va_G) (A : Nat → Nat → Nat) (cy : Nat → ClassId) (hJ : ti_inj ti_LM A) (M : ti_M) (hI : mI Tm M)  (a : Int32) (tx : Nat → Int) (htr : tR tx M) : ti_Ki l yX10_isMan cX10_isMan 2 (some .boolean) 0 ti_LM D A cy M [.ref (A 60 0), .int a] (fun r M2 => M2 = M ∧ ((r = 1 ∧ 0 ≤ a.toInt ∧ a.toInt ≤ 7 ∧ a.toInt < (tY M 60 3 0).toInt ∧ a.toInt < tx 4) ∨ (r = 0 ∧ ¬ (0 ≤ a.toInt ∧ a.toInt < tx 4)))) := by
  refine ti_eI yp_X10_isMan hJ ti_LM_nd (Nat.le_of_ble_eq_true rfl) ?_
  intro p e s m args below meth c Q H0 C hQ hw ls hl
  have hx := C.1
  have hb := C.2.1
  have hl : lv_has ls 2 [(0, .ref (A 60 0)), (1, .int a)] := hl
  have t4 : tx 4 = (tY M 60 3 0).toInt := htr.1.1
  refine lv_iload_n hx hb dX10_isMan_0 rfl (lv_at hl 1 rfl) ?_
  refine sb_if_lt (tgt := 18) hx hb rfl dX10_isMan_1 (by decide) (fun c_1_0 => ?_) (fun c_1_0 => ?_)
  · refine lv_iconst (v := 0) hx hb dX10_isMan_18 (by decide) ?_
    exact hQ _ _ _ _ _ _ hw rfl (⟨rfl, Or.inr ⟨rfl, by omega⟩⟩) dX10_isMan_19
  · refine lv_iload_n hx hb dX10_isMan_4 rfl (lv_at hl 1 rfl) ?_
    refine lv_aload_n hx hb dX10_isMan_5 rfl (lv_at hl 0 rfl) ?_
    refine ti_get (ci := 10) (k := 3) (N := 67) (T := TX10) (v := .ref (A 60 4)) C hw iw_10 rfl ob_60 (by decide) (by decide) fl_X10_13 rfl rfl dX10_isMan_6 ?_
    refine lv_iconst (v := 0) hx hb dX10_isMan_9 (by decide) ?_
    refine ti_iald (ci := 10) (k := 3) (n := 22) C hw ob_60 (by decide) (fun _ _ => rfl) (by unfold vp_in; decide) dX10_isMan_10 ?_
    refine lv_topi (fun x_2 ex_2 => ?_)
    have yx_2 : tY M 60 3 0 = x_2 := ((congrArg _ (by decide)).symm.trans ex_2.symm)
    have bx_2 : 0 ≤ x_2.toInt ∧ x_2.toInt ≤ 8 := mI_rn (i := 0) hI yx_2.symm (fun _ h => h)
    have zx_2 : (tY M 60 3 0).toInt = x_2.toInt := by rw [yx_2]
    refine sb_icmp_ge (tgt := 18) hx hb rfl rfl dX10_isMan_11 (by decide) (fun c_11_2 => ?_) (fun c_11_2 => ?_)
    · refine lv_iconst (v := 0) hx hb dX10_isMan_18 (by decide) ?_
      exact hQ _ _ _ _ _ _ hw rfl (⟨rfl, Or.inr ⟨rfl, by omega⟩⟩) dX10_isMan_19
    · refine lv_iconst (v := 1) hx hb dX10_isMan_14 (by decide) ?_
      refine lv_goto (tgt := 19) hx hb dX10_isMan_15 (by decide) ?_
      exact hQ _ _ _ _ _ _ hw rfl (⟨rfl, Or.inl ⟨rfl, by omega, by omega, by rw [(yx_2)]; omega, by omega⟩⟩) dX10_isMan_19
set_option maxHeartbeats 4000000 in
set_option maxRecDepth 100000 in
theorem z_X10_isIn (l : Launch) (D : va_G) (A : Nat → Nat → Nat) (cy : Nat → ClassId) (hJ : ti_inj ti_LM A) (M : ti_M) (hI : mI Tm M)  (a : Int32) (tx rg : Nat → Int) (htr : tR tx M) (ht4 : 0 ≤ tx 4 ∧ tx 4 ≤ 8) (hr : qR (tx 4).toNat 0 rg M) : ti_Ki l yX10_isIn cX10_isIn 2 (some .boolean) 1 ti_LM D A cy M [.ref (A 60 0), .int a] (fun r M2 => M2 = M ∧ ((r = 1 ∧ 0 ≤ a.toInt ∧ a.toInt ≤ 7 ∧ a.toInt < (tY M 60 3 0).toInt ∧ (tY M 60 40 a.toNatClampNeg).toInt = 1 ∧ a.toInt < tx 4 ∧ rg (128 + a.toInt.toNat) = 1) ∨ (r = 0 ∧ ¬ (0 ≤ a.toInt ∧ a.toInt < tx 4 ∧ rg (128 + a.toInt.toNat) = 1)))) := by
  refine ti_eI yp_X10_isIn hJ ti_LM_nd (Nat.le_of_ble_eq_true rfl) ?_
  intro p e s m args below meth c Q H0 C hQ hw ls hl
  have hx := C.1
  have hb := C.2.1
  have hl : lv_has ls 2 [(0, .ref (A 60 0)), (1, .int a)] := hl
  have t4 : tx 4 = (tY M 60 3 0).toInt := htr.1.1
  refine lv_aload_n hx hb dX10_isIn_0 rfl (lv_at hl 0 rfl) ?_
  refine lv_iload_n hx hb dX10_isIn_1 rfl (lv_at hl 1 rfl) ?_
  refine ti_callVi (ci := 10) (av := [.int a]) C hw (z_X10_isMan l D A cy hJ M hI a tx htr) ⟨ml_X10_356, ym_X10_isMan, yv_X10_isMan, yi_X10_isMan, yc_X10_isMan⟩ yd_X10_isMan ob_60 (by decide) rfl rfl hl.1 (Nat.le_of_ble_eq_true rfl) ⟨by decide, by decide⟩ ⟨Nat.zero_le _, Nat.zero_le _⟩ dX10_isIn_2 (fun r_1 M_2 H locs hp_2 hw => ?_)
  obtain ⟨hm, hz⟩ := hp_2
  have hw := hw.to hm
  rcases hz with ⟨rfl, d0_3, d1_3, d2_3, d3_3⟩ | ⟨rfl, e_3⟩
  · refine sb_if_eq (tgt := 22) hx hb (by decide : (1 : Int32).toInt = 1) dX10_isIn_5 (by decide) (fun h => absurd h (by decide)) (fun c_5_3 => ?_)
    refine lv_aload_n hx hb dX10_isIn_8 rfl (lv_at hl 0 rfl) ?_
    refine ti_get (ci := 10) (k := 40) (N := 67) (T := TX10) (v := .ref (A 60 41)) C hw iw_10 rfl ob_60 (by decide) (by decide) fl_X10_87 rfl rfl dX10_isIn_9 ?_
    refine lv_iload_n hx hb dX10_isIn_12 rfl (lv_at hl 1 rfl) ?_
    refine ti_iald (ci := 10) (k := 40) (n := 184) C hw ob_60 (by decide) (fun _ _ => rfl) (vp_in_iff.mpr (by omega)) dX10_isIn_13 ?_
    refine lv_topi (fun x_6 ex_6 => ?_)
    have yx_6 : tY M 60 40 a.toNatClampNeg = x_6 := (ex_6.symm)
    have zx_6 : (tY M 60 40 a.toNatClampNeg).toInt = x_6.toInt := by rw [yx_6]
    have L_7 : rg (128 + a.toInt.toNat) = x_6.toInt := ((hr.2.2.2.1 (a.toInt.toNat) (by omega)).1).trans (rd_k (n := 8 * 0 + a.toInt.toNat) (by omega) (yx_6))
    refine lv_iconst (v := 1) hx hb dX10_isIn_14 (by decide) ?_
    refine sb_icmp_ne (tgt := 22) hx hb rfl (by decide : (1 : Int32).toInt = 1) dX10_isIn_15 (by decide) (fun c_15_7 => ?_) (fun c_15_7 => ?_)
    · refine lv_iconst (v := 0) hx hb dX10_isIn_22 (by decide) ?_
      exact hQ _ _ _ _ _ _ hw rfl (⟨rfl, Or.inr ⟨rfl, by omega⟩⟩) dX10_isIn_23
    · refine lv_iconst (v := 1) hx hb dX10_isIn_18 (by decide) ?_
      refine lv_goto (tgt := 23) hx hb dX10_isIn_19 (by decide) ?_
      exact hQ _ _ _ _ _ _ hw rfl (⟨rfl, Or.inl ⟨rfl, by omega, by omega, by omega, by rw [(yx_6)]; omega, by omega, by omega⟩⟩) dX10_isIn_23
  · refine sb_if_eq (tgt := 22) hx hb (by decide : (0 : Int32).toInt = 0) dX10_isIn_5 (by decide) (fun c_5_4 => ?_) (fun h => absurd h (by decide))
    refine lv_iconst (v := 0) hx hb dX10_isIn_22 (by decide) ?_
    exact hQ _ _ _ _ _ _ hw rfl (⟨rfl, Or.inr ⟨rfl, by omega⟩⟩) dX10_isIn_23
set_option maxHeartbeats 4000000 in
set_option maxRecDepth 100000 in
theorem z_X10_isToCome (l : Launch) (D : va_G) (A : Nat → Nat → Nat) (cy : Nat → ClassId) (hJ : ti_inj ti_LM A) (M : ti_M) (hI : mI Tm M)  (a : Int32) (tx rg : Nat → Int) (htr : tR tx M) (ht4 : 0 ≤ tx 4 ∧ tx 4 ≤ 8) (hr : qR (tx 4).toNat 0 rg M) : ti_Ki l yX10_isToCome cX10_isToCome 2 (some .boolean) 1 ti_LM D A cy M [.ref (A 60 0), .int a] (fun r M2 => M2 = M ∧ ((r = 1 ∧ 0 ≤ a.toInt ∧ a.toInt ≤ 7 ∧ a.toInt < (tY M 60 3 0).toInt ∧ (tY M 60 40 a.toNatClampNeg).toInt = 0 ∧ a.toInt < tx 4 ∧ rg (128 + a.toInt.toNat) = 0) ∨ (r = 0 ∧ ¬ (0 ≤ a.toInt ∧ a.toInt < tx 4 ∧ rg (128 + a.toInt.toNat) = 0)))) := by
  refine ti_eI yp_X10_isToCome hJ ti_LM_nd (Nat.le_of_ble_eq_true rfl) ?_
  intro p e s m args below meth c Q H0 C hQ hw ls hl
  have hx := C.1
  have hb := C.2.1
  have hl : lv_has ls 2 [(0, .ref (A 60 0)), (1, .int a)] := hl
  have t4 : tx 4 = (tY M 60 3 0).toInt := htr.1.1
  refine lv_aload_n hx hb dX10_isToCome_0 rfl (lv_at hl 0 rfl) ?_
  refine lv_iload_n hx hb dX10_isToCome_1 rfl (lv_at hl 1 rfl) ?_
  refine ti_callVi (ci := 10) (av := [.int a]) C hw (z_X10_isMan l D A cy hJ M hI a tx htr) ⟨ml_X10_356, ym_X10_isMan, yv_X10_isMan, yi_X10_isMan, yc_X10_isMan⟩ yd_X10_isMan ob_60 (by decide) rfl rfl hl.1 (Nat.le_of_ble_eq_true rfl) ⟨by decide, by decide⟩ ⟨Nat.zero_le _, Nat.zero_le _⟩ dX10_isToCome_2 (fun r_1 M_2 H locs hp_2 hw => ?_)
  obtain ⟨hm, hz⟩ := hp_2
  have hw := hw.to hm
  rcases hz with ⟨rfl, d0_3, d1_3, d2_3, d3_3⟩ | ⟨rfl, e_3⟩
  · refine sb_if_eq (tgt := 21) hx hb (by decide : (1 : Int32).toInt = 1) dX10_isToCome_5 (by decide) (fun h => absurd h (by decide)) (fun c_5_3 => ?_)
    refine lv_aload_n hx hb dX10_isToCome_8 rfl (lv_at hl 0 rfl) ?_
    refine ti_get (ci := 10) (k := 40) (N := 67) (T := TX10) (v := .ref (A 60 41)) C hw iw_10 rfl ob_60 (by decide) (by decide) fl_X10_87 rfl rfl dX10_isToCome_9 ?_
    refine lv_iload_n hx hb dX10_isToCome_12 rfl (lv_at hl 1 rfl) ?_
    refine ti_iald (ci := 10) (k := 40) (n := 184) C hw ob_60 (by decide) (fun _ _ => rfl) (vp_in_iff.mpr (by omega)) dX10_isToCome_13 ?_
    refine lv_topi (fun x_6 ex_6 => ?_)
    have yx_6 : tY M 60 40 a.toNatClampNeg = x_6 := (ex_6.symm)
    have zx_6 : (tY M 60 40 a.toNatClampNeg).toInt = x_6.toInt := by rw [yx_6]
    have L_7 : rg (128 + a.toInt.toNat) = x_6.toInt := ((hr.2.2.2.1 (a.toInt.toNat) (by omega)).1).trans (rd_k (n := 8 * 0 + a.toInt.toNat) (by omega) (yx_6))
    refine sb_if_ne (tgt := 21) hx hb rfl dX10_isToCome_14 (by decide) (fun c_14_7 => ?_) (fun c_14_7 => ?_)
    · refine lv_iconst (v := 0) hx hb dX10_isToCome_21 (by decide) ?_
      exact hQ _ _ _ _ _ _ hw rfl (⟨rfl, Or.inr ⟨rfl, by omega⟩⟩) dX10_isToCome_22
    · refine lv_iconst (v := 1) hx hb dX10_isToCome_17 (by decide) ?_
      refine lv_goto (tgt := 22) hx hb dX10_isToCome_18 (by decide) ?_
      exact hQ _ _ _ _ _ _ hw rfl (⟨rfl, Or.inl ⟨rfl, by omega, by omega, by omega, by rw [(yx_6)]; omega, by omega, by omega⟩⟩) dX10_isToCome_22
  · refine sb_if_eq (tgt := 21) hx hb (by decide : (0 : Int32).toInt = 0) dX10_isToCome_5 (by decide) (fun c_5_4 => ?_) (fun h => absurd h (by decide))
    refine lv_iconst (v := 0) hx hb dX10_isToCome_21 (by decide) ?_
    exact hQ _ _ _ _ _ _ hw rfl (⟨rfl, Or.inr ⟨rfl, by omega⟩⟩) dX10_isToCome_22
set_option maxHeartbeats 4000000 in
set_option maxRecDepth 100000 in
theorem z_X10_placeOf_0 (l : Launch) (D : va_G) (A : Nat → Nat → Nat) (cy : Nat → ClassId) (hJ : ti_inj ti_LM A) (M : ti_M) (hI : mI Tm M)  (a : Int32) (tx rg : Nat → Int) (htr : tR tx M) (ht4 : 0 ≤ tx 4 ∧ tx 4 ≤ 8) (hr : qR (tx 4).toNat 0 rg M) : ti_Ki l yX10_placeOf cX10_placeOf 4 (some .int) 0 ti_LM D A cy M [.ref (A 60 0), .int 0, .int a] (fun r M2 => r.toInt = bq_po rg a.toInt 0 ∧ M2 = M ∧ ((r = -1 ∧ ∀ j : Nat, (j : Int) < (tY M 60 38 0).toInt → (tY M 60 39 (0 + j)).toInt ≠ a.toInt) ∨ (0 ≤ r.toInt ∧ r.toInt < (tY M 60 38 0).toInt ∧ r.toInt ≤ 7 ∧ (tY M 60 39 (0 + r.toInt.toNat)).toInt = a.toInt))) := by
  refine ti_eI yp_X10_placeOf hJ ti_LM_nd (Nat.le_of_ble_eq_true rfl) ?_
  intro p e s m args below meth c Q H0 C hQ hw ls hl
  have hx := C.1
  have hb := C.2.1
  have hl : lv_has ls 4 [(0, .ref (A 60 0)), (1, .int 0), (2, .int a)] := hl
  have w83 : 0 ≤ rg 3 ∧ rg 3 ≤ 8 := by rw [hr.1.2.1]; exact hI.2.1 38 _
  refine lv_iconst (v := 0) hx hb dX10_placeOf_0 (by decide) ?_
  refine lv_istore_n (lv' := [(3, .int 0), (0, .ref (A 60 0)), (1, .int 0), (2, .int a)]) hx hb dX10_placeOf_1 rfl hl (by decide) rfl (fun ls hl => ?_)
  have hl_2_5 : ∀ (n_6 : Nat) (x_1 : Int32) (H : Heap) (locs : List Loc) (ls : Array Slot), (8 - x_1.toInt : Int).toNat < n_6 → (0 ≤ x_1.toInt) → (x_1.toInt ≤ 8) → (∀ j : Nat, (j : Int) < x_1.toInt → (tY M 60 39 (0 + j)).toInt ≠ a.toInt) → (bq_po rg a.toInt 0 = bq_po rg a.toInt (x_1.toInt).toNat) → ti_H ti_LM D A cy H0 M H locs → lv_has ls 4 [(3, .int x_1), (0, .ref (A 60 0)), (1, .int 0), (2, .int a)] → W p l e (ti_rm 0) s m args below meth c H locs 0 0 Q (F0 m 2 ls []) := by
    intro n_6
    induction n_6 with
    | zero => intro x_1 H locs ls hf_6; exact absurd hf_6 (Nat.not_lt_zero _)
    | succ n_6 ih_6 =>
      intro x_1 H locs ls hf_6 b_2 b_3 j_4 j_5 hw hl
      refine lv_iload_n hx hb dX10_placeOf_2 rfl (lv_at hl 0 rfl) ?_
      refine lv_aload_n hx hb dX10_placeOf_3 rfl (lv_at hl 1 rfl) ?_
      refine ti_get (ci := 10) (k := 38) (N := 67) (T := TX10) (v := .ref (A 60 39)) C hw iw_10 rfl ob_60 (by decide) (by decide) fl_X10_81 rfl rfl dX10_placeOf_4 ?_
      refine lv_iload_n hx hb dX10_placeOf_7 rfl (lv_at hl 2 rfl) ?_
      refine ti_iald (ci := 10) (k := 38) (n := 23) C hw ob_60 (by decide) (fun _ _ => rfl) (by unfold vp_in; decide) dX10_placeOf_8 ?_
      refine lv_topi (fun x_7 ex_7 => ?_)
      have yx_7 : tY M 60 38 0 = x_7 := ((congrArg _ (by decide)).symm.trans ex_7.symm)
      have bx_7 : 0 ≤ x_7.toInt ∧ x_7.toInt ≤ 8 := mI_ry (k := 38) (i := 0) hI yx_7.symm
      have zx_7 : (tY M 60 38 0).toInt = x_7.toInt := by rw [yx_7]
      have L_8 : rg 3 = x_7.toInt := (hr.1.2.1).trans (congrArg Int32.toInt (yx_7))
      refine sb_icmp_ge (tgt := 35) hx hb rfl rfl dX10_placeOf_9 (by decide) (fun c_9_8 => ?_) (fun c_9_8 => ?_)
      · refine lv_iconst (v := (-1)) hx hb dX10_placeOf_35 (by decide) ?_
        exact hQ _ _ _ _ _ _ hw rfl (⟨(by rw [j_5, po_end (s := rg) (m := a.toInt) (p := x_1.toInt.toNat) (by omega)]; decide), rfl, Or.inl ⟨rfl, fun j hj => j_4 j (by rw [(yx_7)] at hj; omega)⟩⟩) dX10_placeOf_36
      · refine lv_aload_n hx hb dX10_placeOf_12 rfl (lv_at hl 1 rfl) ?_
        refine ti_get (ci := 10) (k := 39) (N := 67) (T := TX10) (v := .ref (A 60 40)) C hw iw_10 rfl ob_60 (by decide) (by decide) fl_X10_84 rfl rfl dX10_placeOf_13 ?_
        refine lv_bipush (v := 8) hx hb dX10_placeOf_16 (by decide) ?_
        refine lv_iload_n hx hb dX10_placeOf_18 rfl (lv_at hl 2 rfl) ?_
        refine lv_imul hx hb dX10_placeOf_19 ?_
        refine ti_top (y := 0) (by decide) ?_
        refine lv_iload_n hx hb dX10_placeOf_20 rfl (lv_at hl 0 rfl) ?_
        refine lv_iadd hx hb dX10_placeOf_21 ?_
        refine lv_topi (fun x_10 ex_10 => ?_)
        have tx_10 : x_10.toInt = 0 + x_1.toInt := i_add ex_10 (by decide : (0 : Int32).toInt = 0) rfl (by omega) (by omega)
        refine ti_iald (ci := 10) (k := 39) (n := 184) C hw ob_60 (by decide) (fun _ _ => rfl) (vp_in_iff.mpr (by omega)) dX10_placeOf_22 ?_
        refine lv_topi (fun x_11 ex_11 => ?_)
        have yx_11 : tY M 60 39 x_10.toNatClampNeg = x_11 := (ex_11.symm)
        have bx_11 : 0 ≤ x_11.toInt ∧ x_11.toInt ≤ 7 := mI_ry (k := 39) (i := x_10.toNatClampNeg) hI yx_11.symm
        have L_12 : rg (96 + x_1.toInt.toNat) = x_11.toInt := (hr.2.1 (x_1.toInt.toNat) (by omega) (by omega)).trans (rd_k (n := 8 * 0 + x_1.toInt.toNat) (by omega) (yx_11))
        have n9 : x_10.toNatClampNeg = 0 + x_1.toInt.toNat := by show (x_10).toInt.toNat = _; omega
        have k9 : (tY M 60 39 (0 + x_1.toInt.toNat)).toInt = x_11.toInt := by rw [← n9, (yx_11)]
        refine lv_iload_n hx hb dX10_placeOf_23 rfl (lv_at hl 3 rfl) ?_
        refine sb_icmp_ne (tgt := 29) hx hb rfl rfl dX10_placeOf_24 (by decide) (fun c_24_12 => ?_) (fun c_24_12 => ?_)
        · obtain ⟨x_14, ex_14⟩ : ∃ z : Int32, z = x_1 + 1 := ⟨_, rfl⟩
          have tx_14 : x_14.toInt = x_1.toInt + 1 := i_add ex_14 rfl (by decide) (by omega) (by omega)
          refine lv_iinc (v := x_14) (lv' := [(3, .int x_14), (0, .ref (A 60 0)), (1, .int 0), (2, .int a)]) hx hb dX10_placeOf_29 hl (k := 0) rfl (by rw [ex_14]; rfl) (by decide) rfl (fun ls hl => ?_)
          refine lv_goto (tgt := 2) hx hb dX10_placeOf_32 (by decide) ?_
          exact ih_6 x_14 _ _ _ (by omega) (by first | omega | decide) (by first | omega | decide) (fun j hj => (show (j : Int) < x_1.toInt ∨ j = (x_1.toInt.toNat) by omega).elim (fun h => j_4 j h) (fun h => by subst h; intro h; omega)) (by rw [show x_14.toInt.toNat = x_1.toInt.toNat + 1 by omega, ← po_go (s := rg) (m := a.toInt) (p := x_1.toInt.toNat) (by omega) (by omega)]; exact j_5) hw (lv_sub hl [0, 1, 2, 3] rfl)
        · refine lv_iload_n hx hb dX10_placeOf_27 rfl (lv_at hl 0 rfl) ?_
          exact hQ _ _ _ _ _ _ hw rfl (⟨(by rw [j_5, po_at (s := rg) (m := a.toInt) (p := x_1.toInt.toNat) (by omega) (by omega)]; omega), rfl, Or.inr ⟨by omega, by rw [(yx_7)]; omega, by omega, by rw [k9]; omega⟩⟩) dX10_placeOf_28
  exact hl_2_5 ((8 - 0 : Int).toNat + 1) 0 _ _ _ (Nat.lt_succ_self _) (by have lt0 : (0 : Int32).toInt = 0 := (by decide); first | omega | decide) (by have lt0 : (0 : Int32).toInt = 0 := (by decide); first | omega | decide) (fun j hj => absurd hj (by have h0 : (0 : Int32).toInt = 0 := (by decide); omega)) rfl hw (lv_sub hl [0, 1, 2, 3] rfl)
set_option maxHeartbeats 4000000 in
set_option maxRecDepth 100000 in
theorem z_X10_join (l : Launch) (D : va_G) (A : Nat → Nat → Nat) (cy : Nat → ClassId) (hJ : ti_inj ti_LM A) (M : ti_M) (hI : mI Tm M) (hF : mF Tm M) (z1 : Int32) (tx rg lp : Nat → Int) (ug : Nat → Nat → Int) (cu : Int) (ht4 : 0 ≤ tx 4 ∧ tx 4 ≤ 8) (htW : tW tx) (hwf : wF tx rg) (h1r : rg 1 = 0) (hk : kR tx rg ug cu lp M) : ti_Ki l yX10_join cX10_join 2 (some .int) 2 ti_LM D A cy M [.ref (A 60 0), .int z1] (fun r M2 => ((¬ (0 ≤ z1.toInt ∧ z1.toInt < tx 4 ∧ rg (128 + z1.toInt.toNat) = 0) ∧ r.toInt = -1 ∧ kR tx rg ug cu lp M2) ∨ ((0 ≤ z1.toInt ∧ z1.toInt < tx 4 ∧ rg (128 + z1.toInt.toNat) = 0) ∧ r.toInt = rg 3 ∧ kR tx (bq_ap rg z1.toInt) (bq_rb ug cu rg) (bq_rc cu) lp M2)) ∧ iR M2 M ∧ mF Tm M2 ∧ tI M2 60 2 = tI M 60 2 ∧ lw M2 M) := by
  refine ti_eI yp_X10_join hJ ti_LM_nd (Nat.le_of_ble_eq_true rfl) ?_
  intro p e s m args below meth c Q H0 C hQ hw ls hl
  have hx := C.1
  have hb := C.2.1
  have hl : lv_has ls 2 [(0, .ref (A 60 0)), (1, .int z1)] := hl
  obtain ⟨htr, hr, hV, hu, hp0, htw⟩ := id hk
  have t4 : tx 4 = (tY M 60 3 0).toInt := htr.1.1
  have w83 := wF_8 hwf
  have q3r : rg 3 = (tY M 60 38 0).toInt := hr.1.2.1
  refine lv_aload_n hx hb dX10_join_0 rfl (lv_at hl 0 rfl) ?_
  refine lv_iconst (v := 0) hx hb dX10_join_1 (by decide) ?_
  refine ti_putI (ci := 10) (k := 0) (N := 67) (T := TX10) C hw iw_10 tyX10 tyX10_ok nmX10 rfl ob_60 (by decide) (by decide) fl_X10_154 rfl rfl rfl rfl (fn_10 A _) fs_10_0 dX10_join_2 (fun H locs hw => ?_)
  obtain ⟨M, h0⟩ : ∃ z : ti_M, z = uI M 60 0 0 := ⟨_, rfl⟩
  have hw := hw.to h0.symm
  have hI : mI Tm M := mI_uI hI h0 (by decide) (by decide) trivial
  have hF : mF Tm M := mF_qw hF hI (qw_I h0 (by decide))
  have ir0 := iR_0 h0
  have e2r := tI_nE (k2 := 2) (o2 := 60) h0 (nk (by decide))
  have e51r := tI_nE (k2 := 51) (o2 := 60) h0 (nk (by decide))
  have lwr : lw M _ := fun _ _ _ => tY_uIE h0
  have hk := kR_0 hk h0
  obtain ⟨htr, hr, hV, hu, hp0, htw⟩ := id hk
  have t4 : tx 4 = (tY M 60 3 0).toInt := htr.1.1
  have w83 := wF_8 hwf
  have q3r : rg 3 = (tY M 60 38 0).toInt := hr.1.2.1
  refine lv_aload_n hx hb dX10_join_5 rfl (lv_at hl 0 rfl) ?_
  refine lv_iload_n hx hb dX10_join_6 rfl (lv_at hl 1 rfl) ?_
  refine ti_callVi (ci := 10) (av := [.int z1]) C hw (z_X10_isToCome l D A cy hJ M hI z1 tx rg htr ht4 hr) ⟨ml_X10_433, ym_X10_isToCome, yv_X10_isToCome, yi_X10_isToCome, yc_X10_isToCome⟩ yd_X10_isToCome ob_60 (by decide) rfl rfl hl.1 (Nat.le_of_ble_eq_true rfl) ⟨by decide, by decide⟩ ⟨Nat.zero_le _, Nat.zero_le _⟩ dX10_join_7 (fun r_1 M_2 H locs hp_2 hw => ?_)
  obtain ⟨hm, hz⟩ := hp_2
  have hw := hw.to hm
  rcases hz with ⟨rfl, d0_3, d1_3, d2_3, d3_3, d4_3, d5_3⟩ | ⟨rfl, e_3⟩
  · refine sb_if_ne (tgt := 15) hx hb (by decide : (1 : Int32).toInt = 1) dX10_join_10 (by decide) (fun c_10_3 => ?_) (fun h => absurd h (by decide))
    refine lv_aload_n hx hb dX10_join_15 rfl (lv_at hl 0 rfl) ?_
    refine ti_callVv (ci := 10) (av := []) C hw (z_X10_keepNow l D A cy hJ M hI hF tx rg lp ug cu ht4 hk) ⟨ml_X10_436, ym_X10_keepNow, yv_X10_keepNow, yi_X10_keepNow, yc_X10_keepNow⟩ yd_X10_keepNow ob_60 (by decide) rfl rfl hl.1 (Nat.le_of_ble_eq_true rfl) ⟨by decide, by decide⟩ ⟨Nat.zero_le _, Nat.zero_le _⟩ dX10_join_16 (fun M H locs hp_7 hw => ?_)
    have ir0 := (hp_7).2.1.trans ((iR_eR eR.refl).trans ir0)
    have e2r := (hp_7).2.2.2.2.1.trans (rfl.trans e2r)
    have lwr := lw_t (hp_7).2.2.2.1 (lw_t (fun _ _ _ => rfl) lwr)
    obtain ⟨hk, -, hF, -⟩ := hp_7
    have hI := hF.1
    obtain ⟨htr, hr, hV, hu, hp0, htw⟩ := id hk
    have t4 : tx 4 = (tY M 60 3 0).toInt := htr.1.1
    have w83 := wF_8 hwf
    have q3r : rg 3 = (tY M 60 38 0).toInt := hr.1.2.1
    refine lv_aload_n hx hb dX10_join_19 rfl (lv_at hl 0 rfl) ?_
    refine lv_iconst (v := 0) hx hb dX10_join_20 (by decide) ?_
    refine lv_iload_n hx hb dX10_join_21 rfl (lv_at hl 1 rfl) ?_
    refine lv_aload_n hx hb dX10_join_22 rfl (lv_at hl 0 rfl) ?_
    refine ti_get (ci := 10) (k := 34) (N := 67) (T := TX10) (v := .ref (A 60 35)) C hw iw_10 rfl ob_60 (by decide) (by decide) fl_X10_69 rfl rfl dX10_join_23 ?_
    refine lv_iconst (v := 0) hx hb dX10_join_26 (by decide) ?_
    refine ti_iald (ci := 10) (k := 34) (n := 23) C hw ob_60 (by decide) (fun _ _ => rfl) (by unfold vp_in; decide) dX10_join_27 ?_
    refine lv_topi (fun x_8 ex_8 => ?_)
    have yx_8 : tY M 60 34 0 = x_8 := ((congrArg _ (by decide)).symm.trans ex_8.symm)
    have bx_8 : 0 ≤ x_8.toInt ∧ x_8.toInt ≤ 120 := mI_ry (k := 34) (i := 0) hI yx_8.symm (by decide)
    have zx_8 : (tY M 60 34 0).toInt = x_8.toInt := by rw [yx_8]
    have L_9 : rg 2 = x_8.toInt := (hr.1.1).trans (congrArg Int32.toInt (yx_8))
    have S3 := wF_s3 htW hwf (m := z1.toInt.toNat) (by omega) d5_3
    refine ti_callVv (ci := 10) (av := [.int 0, .int z1, .int x_8]) C hw (z_X10_joins_0 l D A cy hJ M hI hF.2.2.1.1 z1 x_8 (by first | omega | decide | (have l0 : (0 : Int32).toInt = 0 := (by decide); have l2 : (2 : Int32).toInt = 2 := (by decide); have l3 : (3 : Int32).toInt = 3 := (by decide); omega)) (by first | omega | decide | (have l0 : (0 : Int32).toInt = 0 := (by decide); have l2 : (2 : Int32).toInt = 2 := (by decide); have l3 : (3 : Int32).toInt = 3 := (by decide); omega)) (fun i hi => by rw [show i = 8 * 0 + z1.toInt.toNat by omega]; have z0 := (hr.2.2.2.1 z1.toInt.toNat (by omega)).1; omega) tx rg htr ht4 hr hV (by omega) d5_3 (by omega) (by omega)) ⟨ml_X10_359, ym_X10_joins, yv_X10_joins, yi_X10_joins, yc_X10_joins⟩ yd_X10_joins ob_60 (by decide) rfl rfl hl.1 (Nat.le_of_ble_eq_true rfl) ⟨by decide, by decide⟩ ⟨Nat.zero_le _, Nat.zero_le _⟩ dX10_join_28 (fun M_11 H locs hp_11 hw => ?_)
    obtain ⟨erM_11, hrM_11, qvM_11, hqM_11⟩ := hp_11
    obtain ⟨iM_11, q_12, q_13, q_14, q_15⟩ := hqM_11
    obtain ⟨g_16, eg_16⟩ : ∃ z : Nat → Int, z = bq_ap rg z1.toInt := ⟨_, rfl⟩
    rw [← eg_16] at hrM_11
    rw [← eg_16] at qvM_11
    have mfM_11 : mF Tm M_11 := mF_rq (q := 0) hF iM_11 q_12 (fun _ => q_13) (by decide)
    refine lv_aload_n hx hb dX10_join_31 rfl (lv_at hl 0 rfl) ?_
    refine ti_get (ci := 10) (k := 38) (N := 67) (T := TX10) (v := .ref (A 60 39)) C hw iw_10 rfl ob_60 (by decide) (by decide) fl_X10_81 rfl rfl dX10_join_32 ?_
    refine lv_iconst (v := 0) hx hb dX10_join_35 (by decide) ?_
    refine ti_iald (ci := 10) (k := 38) (n := 23) C hw ob_60 (by decide) (fun _ _ => rfl) (by unfold vp_in; decide) dX10_join_36 ?_
    refine lv_topi (fun x_17 ex_17 => ?_)
    have yx_17 : tY M_11 60 38 0 = x_17 := ((congrArg _ (by decide)).symm.trans ex_17.symm)
    have bx_17 : 0 ≤ x_17.toInt ∧ x_17.toInt ≤ 8 := mI_ry (k := 38) (i := 0) iM_11 yx_17.symm
    have zx_17 : (tY M_11 60 38 0).toInt = x_17.toInt := by rw [yx_17]
    have L_18 : g_16 3 = x_17.toInt := (hrM_11.1.2.1).trans (congrArg Int32.toInt (yx_17))
    refine lv_iconst (v := 1) hx hb dX10_join_37 (by decide) ?_
    refine lv_isub hx hb dX10_join_38 ?_
    refine lv_topi (fun x_19 ex_19 => ?_)
    have tx_19 : x_19.toInt = x_17.toInt - 1 := i_sub ex_19 rfl (by decide : (1 : Int32).toInt = 1) (by omega) (by omega)
    exact hQ _ _ _ _ _ _ hw rfl (⟨Or.inr ⟨by omega, (by have g3 : g_16 3 = rg 3 + 1 := (by rw [eg_16]; unfold bq_ap; rw [if_pos (by omega), su_n (by omega), su_n (by omega), su_s]); omega), kR_eR ht4 hk erM_11 (by rw [← eg_16]; exact hrM_11) (by rw [← eg_16]; exact qvM_11) (ap_k (by decide))⟩, (iR_eR erM_11).trans ir0, mfM_11, ((erM_11.1 2 (by decide))).trans e2r, lw_t q_12.1 lwr⟩) dX10_join_39
  · refine sb_if_ne (tgt := 15) hx hb (by decide : (0 : Int32).toInt = 0) dX10_join_10 (by decide) (fun h => absurd h (by decide)) (fun c_10_4 => ?_)
    refine lv_iconst (v := (-1)) hx hb dX10_join_13 (by decide) ?_
    exact hQ _ _ _ _ _ _ hw rfl (⟨Or.inl ⟨by omega, by first | omega | decide, hk⟩, (iR_eR eR.refl).trans ir0, hF, (rfl).trans e2r, lw_t (fun _ _ _ => rfl) lwr⟩) dX10_join_14
set_option maxHeartbeats 4000000 in
set_option maxRecDepth 100000 in
theorem z_X10_out (l : Launch) (D : va_G) (A : Nat → Nat → Nat) (cy : Nat → ClassId) (hJ : ti_inj ti_LM A) (M : ti_M) (hI : mI Tm M) (hF : mF Tm M) (z1 : Int32) (tx rg lp : Nat → Int) (ug : Nat → Nat → Int) (cu : Int) (ht4 : 0 ≤ tx 4 ∧ tx 4 ≤ 8) (htW : tW tx) (hwf : wF tx rg) (h1r : rg 1 = 0) (hk : kR tx rg ug cu lp M) : ti_Ki l yX10_out cX10_out 2 (some .boolean) 2 ti_LM D A cy M [.ref (A 60 0), .int z1] (fun r M2 => ((¬ (0 ≤ z1.toInt ∧ z1.toInt < tx 4 ∧ rg (128 + z1.toInt.toNat) = 1) ∧ r.toInt = 0 ∧ kR tx rg ug cu lp M2) ∨ ((0 ≤ z1.toInt ∧ z1.toInt < tx 4 ∧ rg (128 + z1.toInt.toNat) = 1) ∧ r.toInt = 1 ∧ kR tx (bq_rm rg (bq_po rg z1.toInt 0) 3) (bq_rb ug cu rg) (bq_rc cu) lp M2)) ∧ iR M2 M ∧ mF Tm M2 ∧ tI M2 60 2 = tI M 60 2 ∧ lw M2 M) := by
  refine ti_eI yp_X10_out hJ ti_LM_nd (Nat.le_of_ble_eq_true rfl) ?_
  intro p e s m args below meth c Q H0 C hQ hw ls hl
  have hx := C.1
  have hb := C.2.1
  have hl : lv_has ls 2 [(0, .ref (A 60 0)), (1, .int z1)] := hl
  obtain ⟨htr, hr, hV, hu, hp0, htw⟩ := id hk
  have t4 : tx 4 = (tY M 60 3 0).toInt := htr.1.1
  have w83 := wF_8 hwf
  have q3r : rg 3 = (tY M 60 38 0).toInt := hr.1.2.1
  refine lv_aload_n hx hb dX10_out_0 rfl (lv_at hl 0 rfl) ?_
  refine lv_iconst (v := 0) hx hb dX10_out_1 (by decide) ?_
  refine ti_putI (ci := 10) (k := 0) (N := 67) (T := TX10) C hw iw_10 tyX10 tyX10_ok nmX10 rfl ob_60 (by decide) (by decide) fl_X10_154 rfl rfl rfl rfl (fn_10 A _) fs_10_0 dX10_out_2 (fun H locs hw => ?_)
  obtain ⟨M, h0⟩ : ∃ z : ti_M, z = uI M 60 0 0 := ⟨_, rfl⟩
  have hw := hw.to h0.symm
  have hI : mI Tm M := mI_uI hI h0 (by decide) (by decide) trivial
  have hF : mF Tm M := mF_qw hF hI (qw_I h0 (by decide))
  have ir0 := iR_0 h0
  have e2r := tI_nE (k2 := 2) (o2 := 60) h0 (nk (by decide))
  have e51r := tI_nE (k2 := 51) (o2 := 60) h0 (nk (by decide))
  have lwr : lw M _ := fun _ _ _ => tY_uIE h0
  have hk := kR_0 hk h0
  obtain ⟨htr, hr, hV, hu, hp0, htw⟩ := id hk
  have t4 : tx 4 = (tY M 60 3 0).toInt := htr.1.1
  have w83 := wF_8 hwf
  have q3r : rg 3 = (tY M 60 38 0).toInt := hr.1.2.1
  refine lv_aload_n hx hb dX10_out_5 rfl (lv_at hl 0 rfl) ?_
  refine lv_iload_n hx hb dX10_out_6 rfl (lv_at hl 1 rfl) ?_
  refine ti_callVi (ci := 10) (av := [.int z1]) C hw (z_X10_isIn l D A cy hJ M hI z1 tx rg htr ht4 hr) ⟨ml_X10_423, ym_X10_isIn, yv_X10_isIn, yi_X10_isIn, yc_X10_isIn⟩ yd_X10_isIn ob_60 (by decide) rfl rfl hl.1 (Nat.le_of_ble_eq_true rfl) ⟨by decide, by decide⟩ ⟨Nat.zero_le _, Nat.zero_le _⟩ dX10_out_7 (fun r_1 M_2 H locs hp_2 hw => ?_)
  obtain ⟨hm, hz⟩ := hp_2
  have hw := hw.to hm
  rcases hz with ⟨rfl, d0_3, d1_3, d2_3, d3_3, d4_3, d5_3⟩ | ⟨rfl, e_3⟩
  · refine sb_if_ne (tgt := 15) hx hb (by decide : (1 : Int32).toInt = 1) dX10_out_10 (by decide) (fun c_10_3 => ?_) (fun h => absurd h (by decide))
    refine lv_aload_n hx hb dX10_out_15 rfl (lv_at hl 0 rfl) ?_
    refine ti_callVv (ci := 10) (av := []) C hw (z_X10_keepNow l D A cy hJ M hI hF tx rg lp ug cu ht4 hk) ⟨ml_X10_436, ym_X10_keepNow, yv_X10_keepNow, yi_X10_keepNow, yc_X10_keepNow⟩ yd_X10_keepNow ob_60 (by decide) rfl rfl hl.1 (Nat.le_of_ble_eq_true rfl) ⟨by decide, by decide⟩ ⟨Nat.zero_le _, Nat.zero_le _⟩ dX10_out_16 (fun M H locs hp_7 hw => ?_)
    have ir0 := (hp_7).2.1.trans ((iR_eR eR.refl).trans ir0)
    have e2r := (hp_7).2.2.2.2.1.trans (rfl.trans e2r)
    have lwr := lw_t (hp_7).2.2.2.1 (lw_t (fun _ _ _ => rfl) lwr)
    obtain ⟨hk, -, hF, -⟩ := hp_7
    have hI := hF.1
    obtain ⟨htr, hr, hV, hu, hp0, htw⟩ := id hk
    have t4 : tx 4 = (tY M 60 3 0).toInt := htr.1.1
    have w83 := wF_8 hwf
    have q3r : rg 3 = (tY M 60 38 0).toInt := hr.1.2.1
    refine lv_aload_n hx hb dX10_out_19 rfl (lv_at hl 0 rfl) ?_
    refine lv_iconst (v := 0) hx hb dX10_out_20 (by decide) ?_
    refine lv_aload_n hx hb dX10_out_21 rfl (lv_at hl 0 rfl) ?_
    refine lv_iconst (v := 0) hx hb dX10_out_22 (by decide) ?_
    refine lv_iload_n hx hb dX10_out_23 rfl (lv_at hl 1 rfl) ?_
    refine ti_callVi (ci := 10) (av := [.int 0, .int z1]) C hw (z_X10_placeOf_0 l D A cy hJ M hI z1 tx rg htr ht4 hr) ⟨ml_X10_411, ym_X10_placeOf, yv_X10_placeOf, yi_X10_placeOf, yc_X10_placeOf⟩ yd_X10_placeOf ob_60 (by decide) rfl rfl hl.1 (Nat.le_of_ble_eq_true rfl) ⟨by decide, by decide⟩ ⟨Nat.zero_le _, Nat.zero_le _⟩ dX10_out_24 (fun r_8 M_9 H locs hp_9 hw => ?_)
    obtain ⟨pqr_8, hqr_8⟩ := hp_9
    obtain ⟨hm, hz⟩ := hqr_8
    have hw := hw.to hm
    rcases hz with ⟨rfl, z1_10⟩ | ⟨z1_10, z2_10, z3_10, z4_10⟩
    · obtain ⟨p9, k1, k2⟩ := hwf.2.2.2.2.1 z1.toInt.toNat (by omega) (by omega); have k3 := hr.2.1 p9 (by omega) k1; exact absurd (k3.symm.trans (k2.trans (show ((z1.toInt.toNat : Nat) : Int) = z1.toInt by omega))) (z1_10 p9 (by rw [← hr.1.2.1]; exact k1))
    · refine lv_iconst (v := 3) hx hb dX10_out_27 (by decide) ?_
      refine lv_aload_n hx hb dX10_out_28 rfl (lv_at hl 0 rfl) ?_
      refine ti_get (ci := 10) (k := 34) (N := 67) (T := TX10) (v := .ref (A 60 35)) C hw iw_10 rfl ob_60 (by decide) (by decide) fl_X10_69 rfl rfl dX10_out_29 ?_
      refine lv_iconst (v := 0) hx hb dX10_out_32 (by decide) ?_
      refine ti_iald (ci := 10) (k := 34) (n := 23) C hw ob_60 (by decide) (fun _ _ => rfl) (by unfold vp_in; decide) dX10_out_33 ?_
      refine lv_topi (fun x_11 ex_11 => ?_)
      have yx_11 : tY M 60 34 0 = x_11 := ((congrArg _ (by decide)).symm.trans ex_11.symm)
      have bx_11 : 0 ≤ x_11.toInt ∧ x_11.toInt ≤ 120 := mI_ry (k := 34) (i := 0) hI yx_11.symm (by decide)
      have zx_11 : (tY M 60 34 0).toInt = x_11.toInt := by rw [yx_11]
      have L_12 : rg 2 = x_11.toInt := (hr.1.1).trans (congrArg Int32.toInt (yx_11))
      refine ti_callVv (ci := 10) (av := [.int 0, .int r_8, .int 3, .int x_11]) C hw (z_X10_leaves_0 l D A cy hJ M hI hF.2.2.1.1 r_8 3 x_11 (by first | omega | decide | (have l0 : (0 : Int32).toInt = 0 := (by decide); have l2 : (2 : Int32).toInt = 2 := (by decide); have l3 : (3 : Int32).toInt = 3 := (by decide); omega)) (by first | omega | decide | (have l0 : (0 : Int32).toInt = 0 := (by decide); have l2 : (2 : Int32).toInt = 2 := (by decide); have l3 : (3 : Int32).toInt = 3 := (by decide); omega)) (by first | omega | decide | (have l0 : (0 : Int32).toInt = 0 := (by decide); have l2 : (2 : Int32).toInt = 2 := (by decide); have l3 : (3 : Int32).toInt = 3 := (by decide); omega)) tx rg htr ht4 hr hV hwf (by omega)) ⟨ml_X10_377, ym_X10_leaves, yv_X10_leaves, yi_X10_leaves, yc_X10_leaves⟩ yd_X10_leaves ob_60 (by decide) rfl rfl hl.1 (Nat.le_of_ble_eq_true rfl) ⟨by decide, by decide⟩ ⟨Nat.zero_le _, Nat.zero_le _⟩ dX10_out_34 (fun M_14 H locs hp_14 hw => ?_)
      obtain ⟨erM_14, hrM_14, qvM_14, hqM_14⟩ := hp_14
      obtain ⟨iM_14, q_15, q_16, q_17, p0r_13⟩ := hqM_14
      simp only [show (3 : Int32).toInt = 3 by decide] at hrM_14 qvM_14
      obtain ⟨g_18, eg_18⟩ : ∃ z : Nat → Int, z = bq_rm rg r_8.toInt 3 := ⟨_, rfl⟩
      rw [← eg_18] at hrM_14
      rw [← eg_18] at qvM_14
      have wrg_18 := wF_rm htW hwf (p := r_8.toInt.toNat) (by omega) (ns := 3) (by decide)
      rw [show ((r_8.toInt.toNat : Nat) : Int) = r_8.toInt by omega, ← eg_18] at wrg_18
      have wpg_18 := wrg_18.1
      have wng_18 := wrg_18.2.1
      have mfM_14 : mF Tm M_14 := mF_rq (q := 0) hF iM_14 q_15 (fun _ => q_16) (by decide)
      refine lv_iconst (v := 1) hx hb dX10_out_37 (by decide) ?_
      exact hQ _ _ _ _ _ _ hw rfl (⟨Or.inr ⟨by omega, by first | omega | decide, kR_eR ht4 hk erM_14 (by rw [← pqr_8, ← eg_18]; exact hrM_14) (by rw [← pqr_8, ← eg_18]; exact qvM_14) (rm_k (by decide))⟩, (iR_eR erM_14).trans ir0, mfM_14, ((erM_14.1 2 (by decide))).trans e2r, lw_t q_15.1 lwr⟩) dX10_out_38
  · refine sb_if_ne (tgt := 15) hx hb (by decide : (0 : Int32).toInt = 0) dX10_out_10 (by decide) (fun h => absurd h (by decide)) (fun c_10_4 => ?_)
    refine lv_iconst (v := 0) hx hb dX10_out_13 (by decide) ?_
    exact hQ _ _ _ _ _ _ hw rfl (⟨Or.inl ⟨by omega, by first | omega | decide, hk⟩, (iR_eR eR.refl).trans ir0, hF, (rfl).trans e2r, lw_t (fun _ _ _ => rfl) lwr⟩) dX10_out_14
set_option maxHeartbeats 4000000 in
set_option maxRecDepth 100000 in
theorem z_X10_swap (l : Launch) (D : va_G) (A : Nat → Nat → Nat) (cy : Nat → ClassId) (hJ : ti_inj ti_LM A) (M : ti_M) (hI : mI Tm M) (hF : mF Tm M) (z1 : Int32) (z2 : Int32) (z3 : Int32) (tx rg lp : Nat → Int) (ug : Nat → Nat → Int) (cu : Int) (ht4 : 0 ≤ tx 4 ∧ tx 4 ≤ 8) (htW : tW tx) (hwf : wF tx rg) (h1r : rg 1 = 0) (hk : kR tx rg ug cu lp M) : ti_Ki l yX10_swap cX10_swap 6 (some .boolean) 2 ti_LM D A cy M [.ref (A 60 0), .int z1, .int z2, .int z3] (fun r M2 => ((¬ ((0 ≤ z1.toInt ∧ z1.toInt < tx 4 ∧ rg (128 + z1.toInt.toNat) = 1) ∧ (0 ≤ z2.toInt ∧ z2.toInt < tx 4 ∧ rg (128 + z2.toInt.toNat) = 1) ∧ z1.toInt ≠ z2.toInt ∧ 0 ≤ z3.toInt ∧ z3.toInt ≤ 99 ∧ z3.toInt ≤ rg (192 + z1.toInt.toNat)) ∧ r.toInt = 0 ∧ kR tx rg ug cu lp M2) ∨ (((0 ≤ z1.toInt ∧ z1.toInt < tx 4 ∧ rg (128 + z1.toInt.toNat) = 1) ∧ (0 ≤ z2.toInt ∧ z2.toInt < tx 4 ∧ rg (128 + z2.toInt.toNat) = 1) ∧ z1.toInt ≠ z2.toInt ∧ 0 ≤ z3.toInt ∧ z3.toInt ≤ 99 ∧ z3.toInt ≤ rg (192 + z1.toInt.toNat)) ∧ r.toInt = 1 ∧ kR tx (bq_sw rg z1.toInt z2.toInt z3.toInt) (bq_rb ug cu rg) (bq_rc cu) lp M2)) ∧ iR M2 M ∧ mF Tm M2 ∧ tI M2 60 2 = tI M 60 2 ∧ lw M2 M) := by
  refine ti_eI yp_X10_swap hJ ti_LM_nd (Nat.le_of_ble_eq_true rfl) ?_
  intro p e s m args below meth c Q H0 C hQ hw ls hl
  have hx := C.1
  have hb := C.2.1
  have hl : lv_has ls 6 [(0, .ref (A 60 0)), (1, .int z1), (2, .int z2), (3, .int z3)] := hl
  obtain ⟨htr, hr, hV, hu, hp0, htw⟩ := id hk
  have t4 : tx 4 = (tY M 60 3 0).toInt := htr.1.1
  have w83 := wF_8 hwf
  have q3r : rg 3 = (tY M 60 38 0).toInt := hr.1.2.1
  refine lv_aload_n hx hb dX10_swap_0 rfl (lv_at hl 0 rfl) ?_
  refine lv_iconst (v := 0) hx hb dX10_swap_1 (by decide) ?_
  refine ti_putI (ci := 10) (k := 0) (N := 67) (T := TX10) C hw iw_10 tyX10 tyX10_ok nmX10 rfl ob_60 (by decide) (by decide) fl_X10_154 rfl rfl rfl rfl (fn_10 A _) fs_10_0 dX10_swap_2 (fun H locs hw => ?_)
  obtain ⟨M, h0⟩ : ∃ z : ti_M, z = uI M 60 0 0 := ⟨_, rfl⟩
  have hw := hw.to h0.symm
  have hI : mI Tm M := mI_uI hI h0 (by decide) (by decide) trivial
  have hF : mF Tm M := mF_qw hF hI (qw_I h0 (by decide))
  have ir0 := iR_0 h0
  have e2r := tI_nE (k2 := 2) (o2 := 60) h0 (nk (by decide))
  have e51r := tI_nE (k2 := 51) (o2 := 60) h0 (nk (by decide))
  have lwr : lw M _ := fun _ _ _ => tY_uIE h0
  have hk := kR_0 hk h0
  obtain ⟨htr, hr, hV, hu, hp0, htw⟩ := id hk
  have t4 : tx 4 = (tY M 60 3 0).toInt := htr.1.1
  have w83 := wF_8 hwf
  have q3r : rg 3 = (tY M 60 38 0).toInt := hr.1.2.1
  refine lv_aload_n hx hb dX10_swap_5 rfl (lv_at hl 0 rfl) ?_
  refine lv_iload_n hx hb dX10_swap_6 rfl (lv_at hl 1 rfl) ?_
  refine ti_callVi (ci := 10) (av := [.int z1]) C hw (z_X10_isIn l D A cy hJ M hI z1 tx rg htr ht4 hr) ⟨ml_X10_423, ym_X10_isIn, yv_X10_isIn, yi_X10_isIn, yc_X10_isIn⟩ yd_X10_isIn ob_60 (by decide) rfl rfl hl.1 (Nat.le_of_ble_eq_true rfl) ⟨by decide, by decide⟩ ⟨Nat.zero_le _, Nat.zero_le _⟩ dX10_swap_7 (fun r_1 M_2 H locs hp_2 hw => ?_)
  obtain ⟨hm, hz⟩ := hp_2
  have hw := hw.to hm
  rcases hz with ⟨rfl, d0_3, d1_3, d2_3, d3_3, d4_3, d5_3⟩ | ⟨rfl, e_3⟩
  · refine sb_if_eq (tgt := 46) hx hb (by decide : (1 : Int32).toInt = 1) dX10_swap_10 (by decide) (fun h => absurd h (by decide)) (fun c_10_3 => ?_)
    refine lv_aload_n hx hb dX10_swap_13 rfl (lv_at hl 0 rfl) ?_
    refine lv_iload_n hx hb dX10_swap_14 rfl (lv_at hl 2 rfl) ?_
    refine ti_callVi (ci := 10) (av := [.int z2]) C hw (z_X10_isIn l D A cy hJ M hI z2 tx rg htr ht4 hr) ⟨ml_X10_423, ym_X10_isIn, yv_X10_isIn, yi_X10_isIn, yc_X10_isIn⟩ yd_X10_isIn ob_60 (by decide) rfl rfl hl.1 (Nat.le_of_ble_eq_true rfl) ⟨by decide, by decide⟩ ⟨Nat.zero_le _, Nat.zero_le _⟩ dX10_swap_15 (fun r_6 M_7 H locs hp_7 hw => ?_)
    obtain ⟨hm, hz⟩ := hp_7
    have hw := hw.to hm
    rcases hz with ⟨rfl, d0_8, d1_8, d2_8, d3_8, d4_8, d5_8⟩ | ⟨rfl, e_8⟩
    · refine sb_if_eq (tgt := 46) hx hb (by decide : (1 : Int32).toInt = 1) dX10_swap_18 (by decide) (fun h => absurd h (by decide)) (fun c_18_8 => ?_)
      refine lv_iload_n hx hb dX10_swap_21 rfl (lv_at hl 1 rfl) ?_
      refine lv_iload_n hx hb dX10_swap_22 rfl (lv_at hl 2 rfl) ?_
      refine sb_icmp_eq (tgt := 46) hx hb rfl rfl dX10_swap_23 (by decide) (fun c_23_10 => ?_) (fun c_23_10 => ?_)
      · refine lv_iconst (v := 0) hx hb dX10_swap_46 (by decide) ?_
        exact hQ _ _ _ _ _ _ hw rfl (⟨Or.inl ⟨by omega, by first | omega | decide, hk⟩, (iR_eR eR.refl).trans ir0, hF, (rfl).trans e2r, lw_t (fun _ _ _ => rfl) lwr⟩) dX10_swap_47
      · refine lv_iload_n hx hb dX10_swap_26 rfl (lv_at hl 3 rfl) ?_
        refine sb_if_lt (tgt := 46) hx hb rfl dX10_swap_27 (by decide) (fun c_27_11 => ?_) (fun c_27_11 => ?_)
        · refine lv_iconst (v := 0) hx hb dX10_swap_46 (by decide) ?_
          exact hQ _ _ _ _ _ _ hw rfl (⟨Or.inl ⟨by omega, by first | omega | decide, hk⟩, (iR_eR eR.refl).trans ir0, hF, (rfl).trans e2r, lw_t (fun _ _ _ => rfl) lwr⟩) dX10_swap_47
        · refine lv_iload_n hx hb dX10_swap_30 rfl (lv_at hl 3 rfl) ?_
          refine lv_bipush (v := 99) hx hb dX10_swap_31 (by decide) ?_
          refine sb_icmp_gt (tgt := 46) hx hb rfl (by decide : (99 : Int32).toInt = 99) dX10_swap_33 (by decide) (fun c_33_12 => ?_) (fun c_33_12 => ?_)
          · refine lv_iconst (v := 0) hx hb dX10_swap_46 (by decide) ?_
            exact hQ _ _ _ _ _ _ hw rfl (⟨Or.inl ⟨by omega, by first | omega | decide, hk⟩, (iR_eR eR.refl).trans ir0, hF, (rfl).trans e2r, lw_t (fun _ _ _ => rfl) lwr⟩) dX10_swap_47
          · refine lv_aload_n hx hb dX10_swap_36 rfl (lv_at hl 0 rfl) ?_
            refine ti_get (ci := 10) (k := 43) (N := 67) (T := TX10) (v := .ref (A 60 44)) C hw iw_10 rfl ob_60 (by decide) (by decide) fl_X10_96 rfl rfl dX10_swap_37 ?_
            refine lv_iload_n hx hb dX10_swap_40 rfl (lv_at hl 1 rfl) ?_
            refine ti_iald (ci := 10) (k := 43) (n := 184) C hw ob_60 (by decide) (fun _ _ => rfl) (vp_in_iff.mpr (by omega)) dX10_swap_41 ?_
            refine lv_topi (fun x_14 ex_14 => ?_)
            have yx_14 : tY M 60 43 z1.toNatClampNeg = x_14 := (ex_14.symm)
            have L_15 : rg (192 + z1.toInt.toNat) = x_14.toInt := ((hr.2.2.2.1 (z1.toInt.toNat) (by omega)).2.2.2.2.1).trans (rd_k (n := 8 * 0 + z1.toInt.toNat) (by omega) (yx_14))
            refine lv_iload_n hx hb dX10_swap_42 rfl (lv_at hl 3 rfl) ?_
            refine sb_icmp_ge (tgt := 48) hx hb rfl rfl dX10_swap_43 (by decide) (fun c_43_15 => ?_) (fun c_43_15 => ?_)
            · refine lv_aload_n hx hb dX10_swap_48 rfl (lv_at hl 0 rfl) ?_
              refine ti_callVv (ci := 10) (av := []) C hw (z_X10_keepNow l D A cy hJ M hI hF tx rg lp ug cu ht4 hk) ⟨ml_X10_436, ym_X10_keepNow, yv_X10_keepNow, yi_X10_keepNow, yc_X10_keepNow⟩ yd_X10_keepNow ob_60 (by decide) rfl rfl hl.1 (Nat.le_of_ble_eq_true rfl) ⟨by decide, by decide⟩ ⟨Nat.zero_le _, Nat.zero_le _⟩ dX10_swap_49 (fun M H locs hp_18 hw => ?_)
              have ir0 := (hp_18).2.1.trans ((iR_eR eR.refl).trans ir0)
              have e2r := (hp_18).2.2.2.2.1.trans (rfl.trans e2r)
              have lwr := lw_t (hp_18).2.2.2.1 (lw_t (fun _ _ _ => rfl) lwr)
              obtain ⟨hk, -, hF, -⟩ := hp_18
              have hI := hF.1
              obtain ⟨htr, hr, hV, hu, hp0, htw⟩ := id hk
              have t4 : tx 4 = (tY M 60 3 0).toInt := htr.1.1
              have w83 := wF_8 hwf
              have q3r : rg 3 = (tY M 60 38 0).toInt := hr.1.2.1
              refine lv_aload_n hx hb dX10_swap_52 rfl (lv_at hl 0 rfl) ?_
              refine lv_iconst (v := 0) hx hb dX10_swap_53 (by decide) ?_
              refine lv_iload_n hx hb dX10_swap_54 rfl (lv_at hl 1 rfl) ?_
              refine ti_callVi (ci := 10) (av := [.int 0, .int z1]) C hw (z_X10_placeOf_0 l D A cy hJ M hI z1 tx rg htr ht4 hr) ⟨ml_X10_411, ym_X10_placeOf, yv_X10_placeOf, yi_X10_placeOf, yc_X10_placeOf⟩ yd_X10_placeOf ob_60 (by decide) rfl rfl hl.1 (Nat.le_of_ble_eq_true rfl) ⟨by decide, by decide⟩ ⟨Nat.zero_le _, Nat.zero_le _⟩ dX10_swap_55 (fun r_19 M_20 H locs hp_20 hw => ?_)
              obtain ⟨pqr_19, hqr_19⟩ := hp_20
              obtain ⟨hm, hz⟩ := hqr_19
              have hw := hw.to hm
              rcases hz with ⟨rfl, z1_21⟩ | ⟨z1_21, z2_21, z3_21, z4_21⟩
              · obtain ⟨p9, k1, k2⟩ := hwf.2.2.2.2.1 z1.toInt.toNat (by omega) (by omega); have k3 := hr.2.1 p9 (by omega) k1; exact absurd (k3.symm.trans (k2.trans (show ((z1.toInt.toNat : Nat) : Int) = z1.toInt by omega))) (z1_21 p9 (by rw [← hr.1.2.1]; exact k1))
              · refine lv_istore (lv' := [(4, .int r_19), (0, .ref (A 60 0)), (1, .int z1), (2, .int z2), (3, .int z3)]) hx hb dX10_swap_58 hl (by decide) rfl (fun ls hl => ?_)
                refine lv_aload_n hx hb dX10_swap_60 rfl (lv_at hl 1 rfl) ?_
                refine lv_iconst (v := 0) hx hb dX10_swap_61 (by decide) ?_
                refine lv_iload_n hx hb dX10_swap_62 rfl (lv_at hl 3 rfl) ?_
                refine ti_callVi (ci := 10) (av := [.int 0, .int z2]) C hw (z_X10_placeOf_0 l D A cy hJ M hI z2 tx rg htr ht4 hr) ⟨ml_X10_411, ym_X10_placeOf, yv_X10_placeOf, yi_X10_placeOf, yc_X10_placeOf⟩ yd_X10_placeOf ob_60 (by decide) rfl rfl hl.1 (Nat.le_of_ble_eq_true rfl) ⟨by decide, by decide⟩ ⟨Nat.zero_le _, Nat.zero_le _⟩ dX10_swap_63 (fun r_22 M_23 H locs hp_23 hw => ?_)
                obtain ⟨pqr_22, hqr_22⟩ := hp_23
                obtain ⟨hm, hz⟩ := hqr_22
                have hw := hw.to hm
                rcases hz with ⟨rfl, z1_24⟩ | ⟨z1_24, z2_24, z3_24, z4_24⟩
                · obtain ⟨p9, k1, k2⟩ := hwf.2.2.2.2.1 z2.toInt.toNat (by omega) (by omega); have k3 := hr.2.1 p9 (by omega) k1; exact absurd (k3.symm.trans (k2.trans (show ((z2.toInt.toNat : Nat) : Int) = z2.toInt by omega))) (z1_24 p9 (by rw [← hr.1.2.1]; exact k1))
                · refine lv_istore (lv' := [(5, .int r_22), (4, .int r_19), (0, .ref (A 60 0)), (1, .int z1), (2, .int z2), (3, .int z3)]) hx hb dX10_swap_66 hl (by decide) rfl (fun ls hl => ?_)
                  refine lv_aload_n hx hb dX10_swap_68 rfl (lv_at hl 2 rfl) ?_
                  refine ti_get (ci := 10) (k := 39) (N := 67) (T := TX10) (v := .ref (A 60 40)) C hw iw_10 rfl ob_60 (by decide) (by decide) fl_X10_84 rfl rfl dX10_swap_69 ?_
                  refine lv_iload hx hb dX10_swap_72 (lv_at hl 1 rfl) ?_
                  refine lv_iload_n hx hb dX10_swap_74 rfl (lv_at hl 4 rfl) ?_
                  refine ti_iast (ci := 10) (k := 39) (n := 184) C hw ob_60 (by decide) (fun _ _ => rfl) (vp_in_iff.mpr (by omega)) dX10_swap_75 (fun H locs hw => ?_)
                  obtain ⟨M_25, hM_25⟩ : ∃ z : ti_M, z = uY M 60 39 (upd (tY M 60 39) (r_19 : Int32).toNatClampNeg z2) := ⟨_, rfl⟩
                  have hw := hw.to hM_25.symm
                  have iM_25 : mI Tm M_25 := mI_up (i := r_19.toNatClampNeg) hI hM_25 (ib_mk (lo := 0) (hi := 7) (by omega) (by omega))
                  have hs_27 : qR (tx 4).toNat 0 (pp_su rg (96 + r_19.toInt.toNat) z2.toInt) M_25 := qR_39 (p := r_19.toInt.toNat) (z := r_19) hr (by omega) rfl hM_25 (by omega) (by omega)
                  obtain ⟨g_28, eg_28⟩ : ∃ z : Nat → Int, z = pp_su rg (96 + r_19.toInt.toNat) z2.toInt := ⟨_, rfl⟩
                  rw [← eg_28] at hs_27
                  refine lv_aload_n hx hb dX10_swap_76 rfl (lv_at hl 2 rfl) ?_
                  refine ti_get (ci := 10) (k := 39) (N := 67) (T := TX10) (v := .ref (A 60 40)) C hw iw_10 rfl ob_60 (by decide) (by decide) fl_X10_84 rfl rfl dX10_swap_77 ?_
                  refine lv_iload hx hb dX10_swap_80 (lv_at hl 0 rfl) ?_
                  refine lv_iload_n hx hb dX10_swap_82 rfl (lv_at hl 3 rfl) ?_
                  refine ti_iast (ci := 10) (k := 39) (n := 184) C hw ob_60 (by decide) (fun _ _ => rfl) (vp_in_iff.mpr (by omega)) dX10_swap_83 (fun H locs hw => ?_)
                  obtain ⟨M_29, hM_29⟩ : ∃ z : ti_M, z = uY M_25 60 39 (upd (tY M_25 60 39) (r_22 : Int32).toNatClampNeg z1) := ⟨_, rfl⟩
                  have hw := hw.to hM_29.symm
                  have iM_29 : mI Tm M_29 := mI_up (i := r_22.toNatClampNeg) iM_25 hM_29 (ib_mk (lo := 0) (hi := 7) (by omega) (by omega))
                  have hs_31 : qR (tx 4).toNat 0 (pp_su g_28 (96 + r_22.toInt.toNat) z1.toInt) M_29 := qR_39 (p := r_22.toInt.toNat) (z := r_22) hs_27 (by omega) rfl hM_29 (by omega) (by omega)
                  obtain ⟨g_32, eg_32⟩ : ∃ z : Nat → Int, z = pp_su g_28 (96 + r_22.toInt.toNat) z1.toInt := ⟨_, rfl⟩
                  rw [← eg_32] at hs_31
                  have swM_29 := q_swap (x := z1) (y := z2) hF iM_29 hM_25 hM_29 (by show r_19.toInt.toNat < 8; omega) (by show r_22.toInt.toNat < 8; omega) (by rw [show (r_19).toNatClampNeg = 0 + r_19.toInt.toNat by (show r_19.toInt.toNat = _; omega)]; exact z4_21) (by rw [show (r_22).toNatClampNeg = 0 + r_22.toInt.toNat by (show r_22.toInt.toNat = _; omega)]; exact z4_24) (by omega) (by show ((r_19.toInt.toNat : Nat) : Int) < _; omega) (by show ((r_22.toInt.toNat : Nat) : Int) < _; omega)
                  refine lv_aload_n hx hb dX10_swap_84 rfl (lv_at hl 2 rfl) ?_
                  refine ti_get (ci := 10) (k := 43) (N := 67) (T := TX10) (v := .ref (A 60 44)) C hw iw_10 rfl ob_60 (by decide) (by decide) fl_X10_96 rfl rfl dX10_swap_85 ?_
                  refine lv_iload_n hx hb dX10_swap_88 rfl (lv_at hl 3 rfl) ?_
                  refine lv_dup2_11 hx hb dX10_swap_89 rfl rfl ?_
                  refine ti_iald (ci := 10) (k := 43) (n := 184) C hw ob_60 (by decide) (fun _ _ => rfl) (vp_in_iff.mpr (by omega)) dX10_swap_90 ?_
                  refine lv_topi (fun x_33 ex_33 => ?_)
                  have yx_33 : tY M_29 60 43 z1.toNatClampNeg = x_33 := (ex_33.symm)
                  have wx_33 : tY M 60 43 z1.toNatClampNeg = x_33 := (((cg (tY_nE hM_29 (nk (by decide))) z1.toNatClampNeg).trans (cg (tY_nE hM_25 (nk (by decide))) z1.toNatClampNeg))).symm.trans yx_33
                  have L_34 : g_32 (192 + z1.toInt.toNat) = x_33.toInt := ((hs_31.2.2.2.1 (z1.toInt.toNat) (by omega)).2.2.2.2.1).trans (rd_k (n := 8 * 0 + z1.toInt.toNat) (by omega) ((cg (tY_nE hM_29 (nk (by decide))) z1.toNatClampNeg).trans ((cg (tY_nE hM_25 (nk (by decide))) z1.toNatClampNeg).trans wx_33)))
                  have L_35 : g_28 (192 + z1.toInt.toNat) = x_33.toInt := (show g_32 (192 + z1.toInt.toNat) = g_28 (192 + z1.toInt.toNat) by rw [eg_32, su_n (by omega)]).symm.trans L_34
                  have L_36 : rg (192 + z1.toInt.toNat) = x_33.toInt := (show g_28 (192 + z1.toInt.toNat) = rg (192 + z1.toInt.toNat) by rw [eg_28, su_n (by omega)]).symm.trans L_35
                  refine lv_iload_n hx hb dX10_swap_91 rfl (lv_at hl 5 rfl) ?_
                  refine lv_isub hx hb dX10_swap_92 ?_
                  refine lv_topi (fun x_37 ex_37 => ?_)
                  have tx_37 : x_37.toInt = bw (x_33.toInt - z3.toInt) := bw_sub ex_37 rfl rfl
                  refine ti_iast (ci := 10) (k := 43) (n := 184) C hw ob_60 (by decide) (fun _ _ => rfl) (vp_in_iff.mpr (by omega)) dX10_swap_93 (fun H locs hw => ?_)
                  obtain ⟨M_38, hM_38⟩ : ∃ z : ti_M, z = uY M_29 60 43 (upd (tY M_29 60 43) (z1 : Int32).toNatClampNeg x_37) := ⟨_, rfl⟩
                  have hw := hw.to hM_38.symm
                  have iM_38 : mI Tm M_38 := mI_up (i := z1.toNatClampNeg) iM_29 hM_38 trivial
                  have hs_39 : qR (tx 4).toNat 0 (pp_su g_32 (192 + z1.toInt.toNat) x_37.toInt) M_38 := qR_43 (m := z1.toInt.toNat) (z := z1) hs_31 (by omega) rfl hM_38 (by omega) (by omega)
                  obtain ⟨g_40, eg_40⟩ : ∃ z : Nat → Int, z = pp_su g_32 (192 + z1.toInt.toNat) x_37.toInt := ⟨_, rfl⟩
                  rw [← eg_40] at hs_39
                  refine lv_aload_n hx hb dX10_swap_94 rfl (lv_at hl 2 rfl) ?_
                  refine ti_get (ci := 10) (k := 43) (N := 67) (T := TX10) (v := .ref (A 60 44)) C hw iw_10 rfl ob_60 (by decide) (by decide) fl_X10_96 rfl rfl dX10_swap_95 ?_
                  refine lv_iload_n hx hb dX10_swap_98 rfl (lv_at hl 4 rfl) ?_
                  refine lv_dup2_11 hx hb dX10_swap_99 rfl rfl ?_
                  refine ti_iald (ci := 10) (k := 43) (n := 184) C hw ob_60 (by decide) (fun _ _ => rfl) (vp_in_iff.mpr (by omega)) dX10_swap_100 ?_
                  refine lv_topi (fun x_42 ex_42 => ?_)
                  have yx_42 : tY M_38 60 43 z2.toNatClampNeg = x_42 := (ex_42.symm)
                  have L_43 : g_40 (192 + z2.toInt.toNat) = x_42.toInt := ((hs_39.2.2.2.1 (z2.toInt.toNat) (by omega)).2.2.2.2.1).trans (rd_k (n := 8 * 0 + z2.toInt.toNat) (by omega) (yx_42))
                  refine lv_iload_n hx hb dX10_swap_101 rfl (lv_at hl 5 rfl) ?_
                  refine lv_iadd hx hb dX10_swap_102 ?_
                  refine lv_topi (fun x_44 ex_44 => ?_)
                  have tx_44 : x_44.toInt = bw (x_42.toInt + z3.toInt) := bw_add ex_44 rfl rfl
                  refine ti_iast (ci := 10) (k := 43) (n := 184) C hw ob_60 (by decide) (fun _ _ => rfl) (vp_in_iff.mpr (by omega)) dX10_swap_103 (fun H locs hw => ?_)
                  obtain ⟨M_45, hM_45⟩ : ∃ z : ti_M, z = uY M_38 60 43 (upd (tY M_38 60 43) (z2 : Int32).toNatClampNeg x_44) := ⟨_, rfl⟩
                  have hw := hw.to hM_45.symm
                  have iM_45 : mI Tm M_45 := mI_up (i := z2.toNatClampNeg) iM_38 hM_45 trivial
                  have hs_46 : qR (tx 4).toNat 0 (pp_su g_40 (192 + z2.toInt.toNat) x_44.toInt) M_45 := qR_43 (m := z2.toInt.toNat) (z := z2) hs_39 (by omega) rfl hM_45 (by omega) (by omega)
                  obtain ⟨g_47, eg_47⟩ : ∃ z : Nat → Int, z = pp_su g_40 (192 + z2.toInt.toNat) x_44.toInt := ⟨_, rfl⟩
                  rw [← eg_47] at hs_46
                  refine lv_iconst (v := 1) hx hb dX10_swap_104 (by decide) ?_
                  have EX : bq_ex rg z1.toInt z2.toInt = g_32 := by unfold bq_ex; rw [if_pos ⟨by omega, by omega⟩, ← pqr_19, ← pqr_22, ← eg_28, ← eg_32]
                  have E_49 : bq_sw rg z1.toInt z2.toInt z3.toInt = g_47 := by unfold bq_sw bq_s1w; rw [EX, L_34, ← tx_37, ← eg_40, L_43, ← tx_44, ← eg_47]
                  exact hQ _ _ _ _ _ _ hw rfl (⟨Or.inr ⟨by omega, by first | omega | decide, kR_eR ht4 hk (eR.trans (eR_Y hM_45 (bk_m (z := z2) (by omega) (by decide))) (eR.trans (eR_Y hM_38 (bk_m (z := z1) (by omega) (by decide))) (eR.trans (eR_Y hM_29 (bk_m (z := r_22) (by omega) (by decide))) (eR_Y hM_25 (bk_m (z := r_19) (by omega) (by decide)))))) (by rw [E_49]; exact hs_46) (qV_same hV (((tY_nE hM_45 (nk (by decide))).trans ((tY_nE hM_38 (nk (by decide))).trans ((tY_nE hM_29 (nk (by decide))).trans (tY_nE hM_25 (nk (by decide))))))) (by omega) (fun m hm => by rw [E_49]; rw [eg_47, su_n (by omega)]; rw [eg_40, su_n (by omega)]; rw [eg_32, su_n (by omega)]; rw [eg_28, su_n (by omega)]) (fun m hm => by rw [E_49]; rw [eg_47, su_n (by omega)]; rw [eg_40, su_n (by omega)]; rw [eg_32, su_n (by omega)]; rw [eg_28, su_n (by omega)])) (by rw [E_49]; rw [eg_47, su_n (by omega)]; rw [eg_40, su_n (by omega)]; rw [eg_32, su_n (by omega)]; rw [eg_28, su_n (by omega)])⟩, (iR_eR (eR.trans (eR_Y hM_45 (bk_m (z := z2) (by omega) (by decide))) (eR.trans (eR_Y hM_38 (bk_m (z := z1) (by omega) (by decide))) (eR.trans (eR_Y hM_29 (bk_m (z := r_22) (by omega) (by decide))) (eR_Y hM_25 (bk_m (z := r_19) (by omega) (by decide))))))).trans ir0, (mF_qw swM_29.1 iM_45 (qw.trans (qw_Y hM_45 (by decide)) (qw_Y hM_38 (by decide)))), (((tI_uYE hM_45).trans ((tI_uYE hM_38).trans ((tI_uYE hM_29).trans (tI_uYE hM_25))))).trans e2r, lw_t (lw_t (fun k a b => tY_nE hM_45 (nk (by omega))) (lw_t (fun k a b => tY_nE hM_38 (nk (by omega))) (lw_t (fun k a b => tY_nE hM_29 (nk (by omega))) (fun k a b => tY_nE hM_25 (nk (by omega)))))) lwr⟩) dX10_swap_105
            · refine lv_iconst (v := 0) hx hb dX10_swap_46 (by decide) ?_
              exact hQ _ _ _ _ _ _ hw rfl (⟨Or.inl ⟨by omega, by first | omega | decide, hk⟩, (iR_eR eR.refl).trans ir0, hF, (rfl).trans e2r, lw_t (fun _ _ _ => rfl) lwr⟩) dX10_swap_47
    · refine sb_if_eq (tgt := 46) hx hb (by decide : (0 : Int32).toInt = 0) dX10_swap_18 (by decide) (fun c_18_9 => ?_) (fun h => absurd h (by decide))
      refine lv_iconst (v := 0) hx hb dX10_swap_46 (by decide) ?_
      exact hQ _ _ _ _ _ _ hw rfl (⟨Or.inl ⟨by omega, by first | omega | decide, hk⟩, (iR_eR eR.refl).trans ir0, hF, (rfl).trans e2r, lw_t (fun _ _ _ => rfl) lwr⟩) dX10_swap_47
  · refine sb_if_eq (tgt := 46) hx hb (by decide : (0 : Int32).toInt = 0) dX10_swap_10 (by decide) (fun c_10_4 => ?_) (fun h => absurd h (by decide))
    refine lv_iconst (v := 0) hx hb dX10_swap_46 (by decide) ?_
    exact hQ _ _ _ _ _ _ hw rfl (⟨Or.inl ⟨by omega, by first | omega | decide, hk⟩, (iR_eR eR.refl).trans ir0, hF, (rfl).trans e2r, lw_t (fun _ _ _ => rfl) lwr⟩) dX10_swap_47
set_option maxHeartbeats 4000000 in
set_option maxRecDepth 100000 in
theorem z_X10_kneel (l : Launch) (D : va_G) (A : Nat → Nat → Nat) (cy : Nat → ClassId) (hJ : ti_inj ti_LM A) (M : ti_M) (hI : mI Tm M) (hF : mF Tm M) (z1 : Int32) (z2 : Int32) (tx rg lp : Nat → Int) (ug : Nat → Nat → Int) (cu : Int) (ht4 : 0 ≤ tx 4 ∧ tx 4 ≤ 8) (htW : tW tx) (hwf : wF tx rg) (h1r : rg 1 = 0) (hk : kR tx rg ug cu lp M) : ti_Ki l yX10_kneel cX10_kneel 3 (some .boolean) 2 ti_LM D A cy M [.ref (A 60 0), .int z1, .int z2] (fun r M2 => ((¬ ((0 ≤ z1.toInt ∧ z1.toInt < tx 4 ∧ rg (128 + z1.toInt.toNat) = 1) ∧ 1 ≤ z2.toInt ∧ z2.toInt ≤ 20 ∧ rg (240 + z1.toInt.toNat) ≠ z2.toInt) ∧ r.toInt = 0 ∧ kR tx rg ug cu lp M2) ∨ (((0 ≤ z1.toInt ∧ z1.toInt < tx 4 ∧ rg (128 + z1.toInt.toNat) = 1) ∧ 1 ≤ z2.toInt ∧ z2.toInt ≤ 20 ∧ rg (240 + z1.toInt.toNat) ≠ z2.toInt) ∧ r.toInt = 1 ∧ kR tx (pp_su rg (240 + z1.toInt.toNat) z2.toInt) (bq_rb ug cu rg) (bq_rc cu) lp M2)) ∧ iR M2 M ∧ mF Tm M2 ∧ tI M2 60 2 = tI M 60 2 ∧ lw M2 M) := by
  refine ti_eI yp_X10_kneel hJ ti_LM_nd (Nat.le_of_ble_eq_true rfl) ?_
  intro p e s m args below meth c Q H0 C hQ hw ls hl
  have hx := C.1
  have hb := C.2.1
  have hl : lv_has ls 3 [(0, .ref (A 60 0)), (1, .int z1), (2, .int z2)] := hl
  obtain ⟨htr, hr, hV, hu, hp0, htw⟩ := id hk
  have t4 : tx 4 = (tY M 60 3 0).toInt := htr.1.1
  have w83 := wF_8 hwf
  have q3r : rg 3 = (tY M 60 38 0).toInt := hr.1.2.1
  refine lv_aload_n hx hb dX10_kneel_0 rfl (lv_at hl 0 rfl) ?_
  refine lv_iconst (v := 0) hx hb dX10_kneel_1 (by decide) ?_
  refine ti_putI (ci := 10) (k := 0) (N := 67) (T := TX10) C hw iw_10 tyX10 tyX10_ok nmX10 rfl ob_60 (by decide) (by decide) fl_X10_154 rfl rfl rfl rfl (fn_10 A _) fs_10_0 dX10_kneel_2 (fun H locs hw => ?_)
  obtain ⟨M, h0⟩ : ∃ z : ti_M, z = uI M 60 0 0 := ⟨_, rfl⟩
  have hw := hw.to h0.symm
  have hI : mI Tm M := mI_uI hI h0 (by decide) (by decide) trivial
  have hF : mF Tm M := mF_qw hF hI (qw_I h0 (by decide))
  have ir0 := iR_0 h0
  have e2r := tI_nE (k2 := 2) (o2 := 60) h0 (nk (by decide))
  have e51r := tI_nE (k2 := 51) (o2 := 60) h0 (nk (by decide))
  have lwr : lw M _ := fun _ _ _ => tY_uIE h0
  have hk := kR_0 hk h0
  obtain ⟨htr, hr, hV, hu, hp0, htw⟩ := id hk
  have t4 : tx 4 = (tY M 60 3 0).toInt := htr.1.1
  have w83 := wF_8 hwf
  have q3r : rg 3 = (tY M 60 38 0).toInt := hr.1.2.1
  refine lv_aload_n hx hb dX10_kneel_5 rfl (lv_at hl 0 rfl) ?_
  refine lv_iload_n hx hb dX10_kneel_6 rfl (lv_at hl 1 rfl) ?_
  refine ti_callVi (ci := 10) (av := [.int z1]) C hw (z_X10_isIn l D A cy hJ M hI z1 tx rg htr ht4 hr) ⟨ml_X10_423, ym_X10_isIn, yv_X10_isIn, yi_X10_isIn, yc_X10_isIn⟩ yd_X10_isIn ob_60 (by decide) rfl rfl hl.1 (Nat.le_of_ble_eq_true rfl) ⟨by decide, by decide⟩ ⟨Nat.zero_le _, Nat.zero_le _⟩ dX10_kneel_7 (fun r_1 M_2 H locs hp_2 hw => ?_)
  obtain ⟨hm, hz⟩ := hp_2
  have hw := hw.to hm
  rcases hz with ⟨rfl, d0_3, d1_3, d2_3, d3_3, d4_3, d5_3⟩ | ⟨rfl, e_3⟩
  · refine sb_if_eq (tgt := 34) hx hb (by decide : (1 : Int32).toInt = 1) dX10_kneel_10 (by decide) (fun h => absurd h (by decide)) (fun c_10_3 => ?_)
    refine lv_iload_n hx hb dX10_kneel_13 rfl (lv_at hl 2 rfl) ?_
    refine lv_iconst (v := 1) hx hb dX10_kneel_14 (by decide) ?_
    refine sb_icmp_lt (tgt := 34) hx hb rfl (by decide : (1 : Int32).toInt = 1) dX10_kneel_15 (by decide) (fun c_15_5 => ?_) (fun c_15_5 => ?_)
    · refine lv_iconst (v := 0) hx hb dX10_kneel_34 (by decide) ?_
      exact hQ _ _ _ _ _ _ hw rfl (⟨Or.inl ⟨by omega, by first | omega | decide, hk⟩, (iR_eR eR.refl).trans ir0, hF, (rfl).trans e2r, lw_t (fun _ _ _ => rfl) lwr⟩) dX10_kneel_35
    · refine lv_iload_n hx hb dX10_kneel_18 rfl (lv_at hl 2 rfl) ?_
      refine lv_bipush (v := 20) hx hb dX10_kneel_19 (by decide) ?_
      refine sb_icmp_gt (tgt := 34) hx hb rfl (by decide : (20 : Int32).toInt = 20) dX10_kneel_21 (by decide) (fun c_21_6 => ?_) (fun c_21_6 => ?_)
      · refine lv_iconst (v := 0) hx hb dX10_kneel_34 (by decide) ?_
        exact hQ _ _ _ _ _ _ hw rfl (⟨Or.inl ⟨by omega, by first | omega | decide, hk⟩, (iR_eR eR.refl).trans ir0, hF, (rfl).trans e2r, lw_t (fun _ _ _ => rfl) lwr⟩) dX10_kneel_35
      · refine lv_aload_n hx hb dX10_kneel_24 rfl (lv_at hl 0 rfl) ?_
        refine ti_get (ci := 10) (k := 47) (N := 67) (T := TX10) (v := .ref (A 60 48)) C hw iw_10 rfl ob_60 (by decide) (by decide) fl_X10_108 rfl rfl dX10_kneel_25 ?_
        refine lv_iload_n hx hb dX10_kneel_28 rfl (lv_at hl 1 rfl) ?_
        refine ti_iald (ci := 10) (k := 47) (n := 184) C hw ob_60 (by decide) (fun _ _ => rfl) (vp_in_iff.mpr (by omega)) dX10_kneel_29 ?_
        refine lv_topi (fun x_8 ex_8 => ?_)
        have yx_8 : tY M 60 47 z1.toNatClampNeg = x_8 := (ex_8.symm)
        have L_9 : rg (240 + z1.toInt.toNat) = x_8.toInt := ((hr.2.2.2.1 (z1.toInt.toNat) (by omega)).2.2.2.2.2).trans (rd_k (n := 8 * 0 + z1.toInt.toNat) (by omega) (yx_8))
        refine lv_iload_n hx hb dX10_kneel_30 rfl (lv_at hl 2 rfl) ?_
        refine sb_icmp_ne (tgt := 36) hx hb rfl rfl dX10_kneel_31 (by decide) (fun c_31_9 => ?_) (fun c_31_9 => ?_)
        · refine lv_aload_n hx hb dX10_kneel_36 rfl (lv_at hl 0 rfl) ?_
          refine ti_callVv (ci := 10) (av := []) C hw (z_X10_keepNow l D A cy hJ M hI hF tx rg lp ug cu ht4 hk) ⟨ml_X10_436, ym_X10_keepNow, yv_X10_keepNow, yi_X10_keepNow, yc_X10_keepNow⟩ yd_X10_keepNow ob_60 (by decide) rfl rfl hl.1 (Nat.le_of_ble_eq_true rfl) ⟨by decide, by decide⟩ ⟨Nat.zero_le _, Nat.zero_le _⟩ dX10_kneel_37 (fun M H locs hp_12 hw => ?_)
          have ir0 := (hp_12).2.1.trans ((iR_eR eR.refl).trans ir0)
          have e2r := (hp_12).2.2.2.2.1.trans (rfl.trans e2r)
          have lwr := lw_t (hp_12).2.2.2.1 (lw_t (fun _ _ _ => rfl) lwr)
          obtain ⟨hk, -, hF, -⟩ := hp_12
          have hI := hF.1
          obtain ⟨htr, hr, hV, hu, hp0, htw⟩ := id hk
          have t4 : tx 4 = (tY M 60 3 0).toInt := htr.1.1
          have w83 := wF_8 hwf
          have q3r : rg 3 = (tY M 60 38 0).toInt := hr.1.2.1
          refine lv_aload_n hx hb dX10_kneel_40 rfl (lv_at hl 0 rfl) ?_
          refine ti_get (ci := 10) (k := 47) (N := 67) (T := TX10) (v := .ref (A 60 48)) C hw iw_10 rfl ob_60 (by decide) (by decide) fl_X10_108 rfl rfl dX10_kneel_41 ?_
          refine lv_iload_n hx hb dX10_kneel_44 rfl (lv_at hl 1 rfl) ?_
          refine lv_iload_n hx hb dX10_kneel_45 rfl (lv_at hl 2 rfl) ?_
          refine ti_iast (ci := 10) (k := 47) (n := 184) C hw ob_60 (by decide) (fun _ _ => rfl) (vp_in_iff.mpr (by omega)) dX10_kneel_46 (fun H locs hw => ?_)
          obtain ⟨M_13, hM_13⟩ : ∃ z : ti_M, z = uY M 60 47 (upd (tY M 60 47) (z1 : Int32).toNatClampNeg z2) := ⟨_, rfl⟩
          have hw := hw.to hM_13.symm
          have iM_13 : mI Tm M_13 := mI_up (i := z1.toNatClampNeg) hI hM_13 trivial
          have hs_14 : qR (tx 4).toNat 0 (pp_su rg (240 + z1.toInt.toNat) z2.toInt) M_13 := qR_47 (m := z1.toInt.toNat) (z := z1) hr (by omega) rfl hM_13 (by omega) (by omega)
          obtain ⟨g_15, eg_15⟩ : ∃ z : Nat → Int, z = pp_su rg (240 + z1.toInt.toNat) z2.toInt := ⟨_, rfl⟩
          rw [← eg_15] at hs_14
          refine lv_iconst (v := 1) hx hb dX10_kneel_47 (by decide) ?_
          exact hQ _ _ _ _ _ _ hw rfl (⟨Or.inr ⟨by omega, by first | omega | decide, kR_eR ht4 hk (eR_Y hM_13 (bk_m (z := z1) (by omega) (by decide))) (by rw [← eg_15]; exact hs_14) (qV_same hV ((tY_nE hM_13 (nk (by decide)))) (by omega) (fun m hm => by rw [su_n (by omega)]) (fun m hm => by rw [su_n (by omega)])) (by rw [su_n (by omega)])⟩, (iR_eR (eR_Y hM_13 (bk_m (z := z1) (by omega) (by decide)))).trans ir0, (mF_qw hF iM_13 (qw_Y hM_13 (by decide))), ((tI_uYE hM_13)).trans e2r, lw_t (fun k a b => tY_nE hM_13 (nk (by omega))) lwr⟩) dX10_kneel_48
        · refine lv_iconst (v := 0) hx hb dX10_kneel_34 (by decide) ?_
          exact hQ _ _ _ _ _ _ hw rfl (⟨Or.inl ⟨by omega, by first | omega | decide, hk⟩, (iR_eR eR.refl).trans ir0, hF, (rfl).trans e2r, lw_t (fun _ _ _ => rfl) lwr⟩) dX10_kneel_35
  · refine sb_if_eq (tgt := 34) hx hb (by decide : (0 : Int32).toInt = 0) dX10_kneel_10 (by decide) (fun c_10_4 => ?_) (fun h => absurd h (by decide))
    refine lv_iconst (v := 0) hx hb dX10_kneel_34 (by decide) ?_
    exact hQ _ _ _ _ _ _ hw rfl (⟨Or.inl ⟨by omega, by first | omega | decide, hk⟩, (iR_eR eR.refl).trans ir0, hF, (rfl).trans e2r, lw_t (fun _ _ _ => rfl) lwr⟩) dX10_kneel_35
set_option maxHeartbeats 4000000 in
set_option maxRecDepth 100000 in
theorem z_X10_cough (l : Launch) (D : va_G) (A : Nat → Nat → Nat) (cy : Nat → ClassId) (hJ : ti_inj ti_LM A) (M : ti_M) (hI : mI Tm M) (hF : mF Tm M) (z1 : Int32) (tx rg lp : Nat → Int) (ug : Nat → Nat → Int) (cu : Int) (ht4 : 0 ≤ tx 4 ∧ tx 4 ≤ 8) (htW : tW tx) (hwf : wF tx rg) (h1r : rg 1 = 0) (hk : kR tx rg ug cu lp M) : ti_Ki l yX10_cough cX10_cough 2 (some .boolean) 2 ti_LM D A cy M [.ref (A 60 0), .int z1] (fun r M2 => ((¬ ((0 ≤ z1.toInt ∧ z1.toInt < tx 4 ∧ rg (128 + z1.toInt.toNat) = 1) ∧ rg (256 + z1.toInt.toNat) = 0) ∧ r.toInt = 0 ∧ kR tx rg ug cu lp M2) ∨ (((0 ≤ z1.toInt ∧ z1.toInt < tx 4 ∧ rg (128 + z1.toInt.toNat) = 1) ∧ rg (256 + z1.toInt.toNat) = 0) ∧ r.toInt = 1 ∧ kR tx (pp_su rg (256 + z1.toInt.toNat) 1) (bq_rb ug cu rg) (bq_rc cu) lp M2)) ∧ iR M2 M ∧ mF Tm M2 ∧ tI M2 60 2 = tI M 60 2 ∧ lw M2 M) := by
  refine ti_eI yp_X10_cough hJ ti_LM_nd (Nat.le_of_ble_eq_true rfl) ?_
  intro p e s m args below meth c Q H0 C hQ hw ls hl
  have hx := C.1
  have hb := C.2.1
  have hl : lv_has ls 2 [(0, .ref (A 60 0)), (1, .int z1)] := hl
  obtain ⟨htr, hr, hV, hu, hp0, htw⟩ := id hk
  have t4 : tx 4 = (tY M 60 3 0).toInt := htr.1.1
  have w83 := wF_8 hwf
  have q3r : rg 3 = (tY M 60 38 0).toInt := hr.1.2.1
  have G0 : ∀ m : Nat, m < 8 → rg (256 + m) = pp_bt (tY M 60 37 0) m := by have g := hr.2.2.2.2.2; rwa [if_pos h1r] at g
  refine lv_aload_n hx hb dX10_cough_0 rfl (lv_at hl 0 rfl) ?_
  refine lv_iconst (v := 0) hx hb dX10_cough_1 (by decide) ?_
  refine ti_putI (ci := 10) (k := 0) (N := 67) (T := TX10) C hw iw_10 tyX10 tyX10_ok nmX10 rfl ob_60 (by decide) (by decide) fl_X10_154 rfl rfl rfl rfl (fn_10 A _) fs_10_0 dX10_cough_2 (fun H locs hw => ?_)
  obtain ⟨M, h0⟩ : ∃ z : ti_M, z = uI M 60 0 0 := ⟨_, rfl⟩
  have hw := hw.to h0.symm
  have hI : mI Tm M := mI_uI hI h0 (by decide) (by decide) trivial
  have hF : mF Tm M := mF_qw hF hI (qw_I h0 (by decide))
  have ir0 := iR_0 h0
  have e2r := tI_nE (k2 := 2) (o2 := 60) h0 (nk (by decide))
  have e51r := tI_nE (k2 := 51) (o2 := 60) h0 (nk (by decide))
  have lwr : lw M _ := fun _ _ _ => tY_uIE h0
  have hk := kR_0 hk h0
  obtain ⟨htr, hr, hV, hu, hp0, htw⟩ := id hk
  have t4 : tx 4 = (tY M 60 3 0).toInt := htr.1.1
  have w83 := wF_8 hwf
  have q3r : rg 3 = (tY M 60 38 0).toInt := hr.1.2.1
  have G0 : ∀ m : Nat, m < 8 → rg (256 + m) = pp_bt (tY M 60 37 0) m := by have g := hr.2.2.2.2.2; rwa [if_pos h1r] at g
  refine lv_aload_n hx hb dX10_cough_5 rfl (lv_at hl 0 rfl) ?_
  refine lv_iload_n hx hb dX10_cough_6 rfl (lv_at hl 1 rfl) ?_
  refine ti_callVi (ci := 10) (av := [.int z1]) C hw (z_X10_isIn l D A cy hJ M hI z1 tx rg htr ht4 hr) ⟨ml_X10_423, ym_X10_isIn, yv_X10_isIn, yi_X10_isIn, yc_X10_isIn⟩ yd_X10_isIn ob_60 (by decide) rfl rfl hl.1 (Nat.le_of_ble_eq_true rfl) ⟨by decide, by decide⟩ ⟨Nat.zero_le _, Nat.zero_le _⟩ dX10_cough_7 (fun r_1 M_2 H locs hp_2 hw => ?_)
  obtain ⟨hm, hz⟩ := hp_2
  have hw := hw.to hm
  rcases hz with ⟨rfl, d0_3, d1_3, d2_3, d3_3, d4_3, d5_3⟩ | ⟨rfl, e_3⟩
  · refine sb_if_eq (tgt := 27) hx hb (by decide : (1 : Int32).toInt = 1) dX10_cough_10 (by decide) (fun h => absurd h (by decide)) (fun c_10_3 => ?_)
    refine lv_aload_n hx hb dX10_cough_13 rfl (lv_at hl 0 rfl) ?_
    refine ti_get (ci := 10) (k := 37) (N := 67) (T := TX10) (v := .ref (A 60 38)) C hw iw_10 rfl ob_60 (by decide) (by decide) fl_X10_78 rfl rfl dX10_cough_14 ?_
    refine lv_iconst (v := 0) hx hb dX10_cough_17 (by decide) ?_
    refine ti_iald (ci := 10) (k := 37) (n := 23) C hw ob_60 (by decide) (fun _ _ => rfl) (by unfold vp_in; decide) dX10_cough_18 ?_
    refine lv_topi (fun x_6 ex_6 => ?_)
    have yx_6 : tY M 60 37 0 = x_6 := ((congrArg _ (by decide)).symm.trans ex_6.symm)
    refine lv_iload_n hx hb dX10_cough_19 rfl (lv_at hl 1 rfl) ?_
    refine lv_ishr hx hb dX10_cough_20 ?_
    refine lv_topi (fun x_7 ex_7 => ?_)
    refine lv_iconst (v := 1) hx hb dX10_cough_21 (by decide) ?_
    refine lv_iand hx hb dX10_cough_22 ?_
    refine lv_topi (fun x_8 ex_8 => ?_)
    have bx_8 := i_and 1 ex_8 (by decide) (by decide)
    have BT : x_8.toInt = pp_bt (tY M 60 37 0) z1.toInt.toNat := by rw [(yx_6)]; exact bt_shr (k := z1.toInt) ex_7 rfl (by omega) (by omega) ex_8
    have BB := bt_01 (tY M 60 37 0) z1.toInt.toNat
    have BG := G0 z1.toInt.toNat (by omega)
    refine lv_iconst (v := 1) hx hb dX10_cough_23 (by decide) ?_
    refine sb_icmp_ne (tgt := 29) hx hb rfl (by decide : (1 : Int32).toInt = 1) dX10_cough_24 (by decide) (fun c_24_8 => ?_) (fun c_24_8 => ?_)
    · refine lv_aload_n hx hb dX10_cough_29 rfl (lv_at hl 0 rfl) ?_
      refine ti_callVv (ci := 10) (av := []) C hw (z_X10_keepNow l D A cy hJ M hI hF tx rg lp ug cu ht4 hk) ⟨ml_X10_436, ym_X10_keepNow, yv_X10_keepNow, yi_X10_keepNow, yc_X10_keepNow⟩ yd_X10_keepNow ob_60 (by decide) rfl rfl hl.1 (Nat.le_of_ble_eq_true rfl) ⟨by decide, by decide⟩ ⟨Nat.zero_le _, Nat.zero_le _⟩ dX10_cough_30 (fun M H locs hp_11 hw => ?_)
      have ir0 := (hp_11).2.1.trans ((iR_eR eR.refl).trans ir0)
      have e2r := (hp_11).2.2.2.2.1.trans (rfl.trans e2r)
      have lwr := lw_t (hp_11).2.2.2.1 (lw_t (fun _ _ _ => rfl) lwr)
      obtain ⟨hk, -, hF, -⟩ := hp_11
      have hI := hF.1
      obtain ⟨htr, hr, hV, hu, hp0, htw⟩ := id hk
      have t4 : tx 4 = (tY M 60 3 0).toInt := htr.1.1
      have w83 := wF_8 hwf
      have q3r : rg 3 = (tY M 60 38 0).toInt := hr.1.2.1
      refine lv_aload_n hx hb dX10_cough_33 rfl (lv_at hl 0 rfl) ?_
      refine ti_get (ci := 10) (k := 37) (N := 67) (T := TX10) (v := .ref (A 60 38)) C hw iw_10 rfl ob_60 (by decide) (by decide) fl_X10_78 rfl rfl dX10_cough_34 ?_
      refine lv_iconst (v := 0) hx hb dX10_cough_37 (by decide) ?_
      refine lv_dup2_11 hx hb dX10_cough_38 rfl rfl ?_
      refine ti_iald (ci := 10) (k := 37) (n := 23) C hw ob_60 (by decide) (fun _ _ => rfl) (by unfold vp_in; decide) dX10_cough_39 ?_
      refine lv_topi (fun x_12 ex_12 => ?_)
      have yx_12 : tY M 60 37 0 = x_12 := ((congrArg _ (by decide)).symm.trans ex_12.symm)
      refine lv_iconst (v := 1) hx hb dX10_cough_40 (by decide) ?_
      refine lv_iload_n hx hb dX10_cough_41 rfl (lv_at hl 1 rfl) ?_
      refine lv_ishl hx hb dX10_cough_42 ?_
      refine lv_topi (fun x_13 ex_13 => ?_)
      refine lv_ior hx hb dX10_cough_43 ?_
      refine lv_topi (fun x_14 ex_14 => ?_)
      refine ti_iast (ci := 10) (k := 37) (n := 23) C hw ob_60 (by decide) (fun _ _ => rfl) (by unfold vp_in; decide) dX10_cough_44 (fun H locs hw => ?_)
      obtain ⟨M_15, hM_15⟩ : ∃ z : ti_M, z = uY M 60 37 (upd (tY M 60 37) (0 : Int32).toNatClampNeg x_14) := ⟨_, rfl⟩
      have hw := hw.to hM_15.symm
      have iM_15 : mI Tm M_15 := mI_up (i := 0) hI hM_15 trivial
      have hs_18 : qR (tx 4).toNat 0 (pp_su rg (256 + z1.toInt.toNat) 1) M_15 := qR_37o (m := z1.toInt.toNat) hr h1r (by decide) hM_15 (fun j hj => by rw [(yx_12)]; exact bt_or (k := z1.toInt) ex_13 rfl (by omega) (by omega) ex_14 j (by omega)) (by omega)
      obtain ⟨g_19, eg_19⟩ : ∃ z : Nat → Int, z = pp_su rg (256 + z1.toInt.toNat) 1 := ⟨_, rfl⟩
      rw [← eg_19] at hs_18
      refine lv_iconst (v := 1) hx hb dX10_cough_45 (by decide) ?_
      exact hQ _ _ _ _ _ _ hw rfl (⟨Or.inr ⟨by omega, by first | omega | decide, kR_eR ht4 hk (eR_Y hM_15 (bk_q (z := 0) (by decide) (by decide))) (by rw [← eg_19]; exact hs_18) (qV_same hV ((tY_nE hM_15 (nk (by decide)))) (by omega) (fun m hm => by rw [su_n (by omega)]) (fun m hm => by rw [su_n (by omega)])) (by rw [su_n (by omega)])⟩, (iR_eR (eR_Y hM_15 (bk_q (z := 0) (by decide) (by decide)))).trans ir0, (mF_qw hF iM_15 (qw_Y hM_15 (by decide))), ((tI_uYE hM_15)).trans e2r, lw_t (fun k a b => tY_nE hM_15 (nk (by omega))) lwr⟩) dX10_cough_46
    · refine lv_iconst (v := 0) hx hb dX10_cough_27 (by decide) ?_
      exact hQ _ _ _ _ _ _ hw rfl (⟨Or.inl ⟨by omega, by first | omega | decide, hk⟩, (iR_eR eR.refl).trans ir0, hF, (rfl).trans e2r, lw_t (fun _ _ _ => rfl) lwr⟩) dX10_cough_28
  · refine sb_if_eq (tgt := 27) hx hb (by decide : (0 : Int32).toInt = 0) dX10_cough_10 (by decide) (fun c_10_4 => ?_) (fun h => absurd h (by decide))
    refine lv_iconst (v := 0) hx hb dX10_cough_27 (by decide) ?_
    exact hQ _ _ _ _ _ _ hw rfl (⟨Or.inl ⟨by omega, by first | omega | decide, hk⟩, (iR_eR eR.refl).trans ir0, hF, (rfl).trans e2r, lw_t (fun _ _ _ => rfl) lwr⟩) dX10_cough_28
set_option maxHeartbeats 4000000 in
set_option maxRecDepth 100000 in
theorem z_X10_move (l : Launch) (D : va_G) (A : Nat → Nat → Nat) (cy : Nat → ClassId) (hJ : ti_inj ti_LM A) (M : ti_M) (hI : mI Tm M) (hF : mF Tm M) (z1 : Int32) (z2 : Int32) (tx rg lp : Nat → Int) (ug : Nat → Nat → Int) (cu : Int) (ht4 : 0 ≤ tx 4 ∧ tx 4 ≤ 8) (htW : tW tx) (hwf : wF tx rg) (h1r : rg 1 = 0) (hk : kR tx rg ug cu lp M) : ti_Ki l yX10_move cX10_move 3 (some .boolean) 2 ti_LM D A cy M [.ref (A 60 0), .int z1, .int z2] (fun r M2 => ((¬ (0 ≤ z1.toInt ∧ z1.toInt ≤ 2 ∧ 0 ≤ z2.toInt ∧ z2.toInt ≤ 7 ∧ rg (112 + z1.toInt.toNat) ≠ z2.toInt) ∧ r.toInt = 0 ∧ kR tx rg ug cu lp M2) ∨ ((0 ≤ z1.toInt ∧ z1.toInt ≤ 2 ∧ 0 ≤ z2.toInt ∧ z2.toInt ≤ 7 ∧ rg (112 + z1.toInt.toNat) ≠ z2.toInt) ∧ r.toInt = 1 ∧ kR tx (pp_su rg (112 + z1.toInt.toNat) z2.toInt) (bq_rb ug cu rg) (bq_rc cu) lp M2)) ∧ iR M2 M ∧ mF Tm M2 ∧ tI M2 60 2 = tI M 60 2 ∧ lw M2 M) := by
  refine ti_eI yp_X10_move hJ ti_LM_nd (Nat.le_of_ble_eq_true rfl) ?_
  intro p e s m args below meth c Q H0 C hQ hw ls hl
  have hx := C.1
  have hb := C.2.1
  have hl : lv_has ls 3 [(0, .ref (A 60 0)), (1, .int z1), (2, .int z2)] := hl
  obtain ⟨htr, hr, hV, hu, hp0, htw⟩ := id hk
  have t4 : tx 4 = (tY M 60 3 0).toInt := htr.1.1
  have w83 := wF_8 hwf
  have q3r : rg 3 = (tY M 60 38 0).toInt := hr.1.2.1
  refine lv_aload_n hx hb dX10_move_0 rfl (lv_at hl 0 rfl) ?_
  refine lv_iconst (v := 0) hx hb dX10_move_1 (by decide) ?_
  refine ti_putI (ci := 10) (k := 0) (N := 67) (T := TX10) C hw iw_10 tyX10 tyX10_ok nmX10 rfl ob_60 (by decide) (by decide) fl_X10_154 rfl rfl rfl rfl (fn_10 A _) fs_10_0 dX10_move_2 (fun H locs hw => ?_)
  obtain ⟨M, h0⟩ : ∃ z : ti_M, z = uI M 60 0 0 := ⟨_, rfl⟩
  have hw := hw.to h0.symm
  have hI : mI Tm M := mI_uI hI h0 (by decide) (by decide) trivial
  have hF : mF Tm M := mF_qw hF hI (qw_I h0 (by decide))
  have ir0 := iR_0 h0
  have e2r := tI_nE (k2 := 2) (o2 := 60) h0 (nk (by decide))
  have e51r := tI_nE (k2 := 51) (o2 := 60) h0 (nk (by decide))
  have lwr : lw M _ := fun _ _ _ => tY_uIE h0
  have hk := kR_0 hk h0
  obtain ⟨htr, hr, hV, hu, hp0, htw⟩ := id hk
  have t4 : tx 4 = (tY M 60 3 0).toInt := htr.1.1
  have w83 := wF_8 hwf
  have q3r : rg 3 = (tY M 60 38 0).toInt := hr.1.2.1
  refine lv_iload_n hx hb dX10_move_5 rfl (lv_at hl 1 rfl) ?_
  refine ti_callSi (av := [.int z1]) C hw (z_X10_isPower l D A cy hJ M hI z1) ⟨ml_X10_420, ys_X10_isPower, yi_X10_isPower, yc_X10_isPower⟩ yd_X10_isPower rfl hl.1 (Nat.le_of_ble_eq_true rfl) ⟨by decide, by decide⟩ ⟨Nat.zero_le _, Nat.zero_le _⟩ dX10_move_6 (fun r_1 M_2 H locs hp_2 hw => ?_)
  obtain ⟨hm, hz⟩ := hp_2
  have hw := hw.to hm
  rcases hz with ⟨rfl, d0_3, d1_3⟩ | ⟨rfl, e_3⟩
  · refine sb_if_eq (tgt := 29) hx hb (by decide : (1 : Int32).toInt = 1) dX10_move_9 (by decide) (fun h => absurd h (by decide)) (fun c_9_3 => ?_)
    refine lv_iload_n hx hb dX10_move_12 rfl (lv_at hl 2 rfl) ?_
    refine ti_callSi (av := [.int z2]) C hw (z_X10_isPlace l D A cy hJ M hI z2) ⟨ml_X10_414, ys_X10_isPlace, yi_X10_isPlace, yc_X10_isPlace⟩ yd_X10_isPlace rfl hl.1 (Nat.le_of_ble_eq_true rfl) ⟨by decide, by decide⟩ ⟨Nat.zero_le _, Nat.zero_le _⟩ dX10_move_13 (fun r_6 M_7 H locs hp_7 hw => ?_)
    obtain ⟨hm, hz⟩ := hp_7
    have hw := hw.to hm
    rcases hz with ⟨rfl, d0_8, d1_8⟩ | ⟨rfl, e_8⟩
    · refine sb_if_eq (tgt := 29) hx hb (by decide : (1 : Int32).toInt = 1) dX10_move_16 (by decide) (fun h => absurd h (by decide)) (fun c_16_8 => ?_)
      refine lv_aload_n hx hb dX10_move_19 rfl (lv_at hl 0 rfl) ?_
      refine ti_get (ci := 10) (k := 49) (N := 67) (T := TX10) (v := .ref (A 60 50)) C hw iw_10 rfl ob_60 (by decide) (by decide) fl_X10_114 rfl rfl dX10_move_20 ?_
      refine lv_iload_n hx hb dX10_move_23 rfl (lv_at hl 1 rfl) ?_
      refine ti_iald (ci := 10) (k := 49) (n := 69) C hw ob_60 (by decide) (fun _ _ => rfl) (vp_in_iff.mpr (by omega)) dX10_move_24 ?_
      refine lv_topi (fun x_11 ex_11 => ?_)
      have yx_11 : tY M 60 49 z1.toNatClampNeg = x_11 := (ex_11.symm)
      have bx_11 : 0 ≤ x_11.toInt ∧ x_11.toInt ≤ 7 := mI_ry (k := 49) (i := z1.toNatClampNeg) hI yx_11.symm
      have L_12 : rg (112 + z1.toInt.toNat) = x_11.toInt := (hr.2.2.1 (z1.toInt.toNat) (by omega)).trans (rd_k (n := 3 * 0 + z1.toInt.toNat) (by omega) (yx_11))
      refine lv_iload_n hx hb dX10_move_25 rfl (lv_at hl 2 rfl) ?_
      refine sb_icmp_ne (tgt := 31) hx hb rfl rfl dX10_move_26 (by decide) (fun c_26_12 => ?_) (fun c_26_12 => ?_)
      · refine lv_aload_n hx hb dX10_move_31 rfl (lv_at hl 0 rfl) ?_
        refine ti_callVv (ci := 10) (av := []) C hw (z_X10_keepNow l D A cy hJ M hI hF tx rg lp ug cu ht4 hk) ⟨ml_X10_436, ym_X10_keepNow, yv_X10_keepNow, yi_X10_keepNow, yc_X10_keepNow⟩ yd_X10_keepNow ob_60 (by decide) rfl rfl hl.1 (Nat.le_of_ble_eq_true rfl) ⟨by decide, by decide⟩ ⟨Nat.zero_le _, Nat.zero_le _⟩ dX10_move_32 (fun M H locs hp_15 hw => ?_)
        have ir0 := (hp_15).2.1.trans ((iR_eR eR.refl).trans ir0)
        have e2r := (hp_15).2.2.2.2.1.trans (rfl.trans e2r)
        have lwr := lw_t (hp_15).2.2.2.1 (lw_t (fun _ _ _ => rfl) lwr)
        obtain ⟨hk, -, hF, -⟩ := hp_15
        have hI := hF.1
        obtain ⟨htr, hr, hV, hu, hp0, htw⟩ := id hk
        have t4 : tx 4 = (tY M 60 3 0).toInt := htr.1.1
        have w83 := wF_8 hwf
        have q3r : rg 3 = (tY M 60 38 0).toInt := hr.1.2.1
        refine lv_aload_n hx hb dX10_move_35 rfl (lv_at hl 0 rfl) ?_
        refine ti_get (ci := 10) (k := 49) (N := 67) (T := TX10) (v := .ref (A 60 50)) C hw iw_10 rfl ob_60 (by decide) (by decide) fl_X10_114 rfl rfl dX10_move_36 ?_
        refine lv_iload_n hx hb dX10_move_39 rfl (lv_at hl 1 rfl) ?_
        refine lv_iload_n hx hb dX10_move_40 rfl (lv_at hl 2 rfl) ?_
        refine ti_iast (ci := 10) (k := 49) (n := 69) C hw ob_60 (by decide) (fun _ _ => rfl) (vp_in_iff.mpr (by omega)) dX10_move_41 (fun H locs hw => ?_)
        obtain ⟨M_16, hM_16⟩ : ∃ z : ti_M, z = uY M 60 49 (upd (tY M 60 49) (z1 : Int32).toNatClampNeg z2) := ⟨_, rfl⟩
        have hw := hw.to hM_16.symm
        have iM_16 : mI Tm M_16 := mI_up (i := z1.toNatClampNeg) hI hM_16 (ib_mk (lo := 0) (hi := 7) (by omega) (by omega))
        have hs_18 : qR (tx 4).toNat 0 (pp_su rg (112 + z1.toInt.toNat) z2.toInt) M_16 := qR_49 (p := z1.toInt.toNat) (z := z1) hr (by omega) rfl hM_16 (by omega) (by omega)
        obtain ⟨g_19, eg_19⟩ : ∃ z : Nat → Int, z = pp_su rg (112 + z1.toInt.toNat) z2.toInt := ⟨_, rfl⟩
        rw [← eg_19] at hs_18
        refine lv_iconst (v := 1) hx hb dX10_move_42 (by decide) ?_
        exact hQ _ _ _ _ _ _ hw rfl (⟨Or.inr ⟨by omega, by first | omega | decide, kR_eR ht4 hk (eR_Y hM_16 (bk_p (z := z1) (by omega))) (by rw [← eg_19]; exact hs_18) (qV_same hV ((tY_nE hM_16 (nk (by decide)))) (by omega) (fun m hm => by rw [su_n (by omega)]) (fun m hm => by rw [su_n (by omega)])) (by rw [su_n (by omega)])⟩, (iR_eR (eR_Y hM_16 (bk_p (z := z1) (by omega)))).trans ir0, (mF_qw hF iM_16 (qw_Y hM_16 (by decide))), ((tI_uYE hM_16)).trans e2r, lw_t (fun k a b => tY_nE hM_16 (nk (by omega))) lwr⟩) dX10_move_43
      · refine lv_iconst (v := 0) hx hb dX10_move_29 (by decide) ?_
        exact hQ _ _ _ _ _ _ hw rfl (⟨Or.inl ⟨by omega, by first | omega | decide, hk⟩, (iR_eR eR.refl).trans ir0, hF, (rfl).trans e2r, lw_t (fun _ _ _ => rfl) lwr⟩) dX10_move_30
    · refine sb_if_eq (tgt := 29) hx hb (by decide : (0 : Int32).toInt = 0) dX10_move_16 (by decide) (fun c_16_9 => ?_) (fun h => absurd h (by decide))
      refine lv_iconst (v := 0) hx hb dX10_move_29 (by decide) ?_
      exact hQ _ _ _ _ _ _ hw rfl (⟨Or.inl ⟨by omega, by first | omega | decide, hk⟩, (iR_eR eR.refl).trans ir0, hF, (rfl).trans e2r, lw_t (fun _ _ _ => rfl) lwr⟩) dX10_move_30
  · refine sb_if_eq (tgt := 29) hx hb (by decide : (0 : Int32).toInt = 0) dX10_move_9 (by decide) (fun c_9_4 => ?_) (fun h => absurd h (by decide))
    refine lv_iconst (v := 0) hx hb dX10_move_29 (by decide) ?_
    exact hQ _ _ _ _ _ _ hw rfl (⟨Or.inl ⟨by omega, by first | omega | decide, hk⟩, (iR_eR eR.refl).trans ir0, hF, (rfl).trans e2r, lw_t (fun _ _ _ => rfl) lwr⟩) dX10_move_30
end

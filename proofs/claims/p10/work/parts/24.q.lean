variable {Tc : gC} {Tm : gM}
theorem mN_p {i : Nat} {v : Int32} (h1 : 8 ≤ i) (h2 : i ≤ 10) (h : mBN i v) : ib 0 7 v := by
  have : i = 8 ∨ i = 9 ∨ i = 10 := by omega
  rcases this with rfl | rfl | rfl <;> exact h
/-- a queue that begins: n of its men are to come -/
def stq (M N : ti_M) (q : Nat) (n : Int) : Prop := (tY N 60 38 q).toInt = 0 ∧ (∀ x, x ≠ q → tY N 60 38 x = tY M 60 38 x) ∧ tY N 60 39 = tY M 60 39 ∧ (∀ i : Nat, 8 * q ≤ i → (i : Int) < 8 * q + n → (tY N 60 40 i).toInt = 0) ∧ (∀ i : Nat, i < 8 * q ∨ 8 * q + 8 ≤ i → tY N 60 40 i = tY M 60 40 i)
theorem stq_0 {M N K : ti_M} {q i : Nat} (h : qw N M) (e : K = uY N 60 38 (upd (tY N 60 38) i 0)) (hi : i = q) : stq M K q 0 := by
  subst hi
  refine ⟨by rw [tY_uE e, pk_us]; decide, fun x hx => by rw [tY_uE e, pk_un hx, h.2.2.1], by rw [tY_nE e (nk (by decide))]; exact h.2.2.2.1, fun j h1 h2 => by omega, fun j _ => by rw [tY_nE e (nk (by decide)), h.2.2.2.2]⟩
theorem stq_qw {M N K : ti_M} {q : Nat} {n : Int} (h : stq M N q n) (w : qw K N) : stq M K q n := by
  unfold stq at *; rw [w.2.2.1, w.2.2.2.1, w.2.2.2.2]; exact h
theorem stq_s {M N K L : ti_M} {q i : Nat} {n n2 : Int} (h : stq M N q n) (e : K = uY N 60 40 (upd (tY N 60 40) i 0)) (w : qw L K) (hi : (i : Int) = 8 * q + n) (h0 : 0 ≤ n) (h8 : n < 8) (h2 : n2 = n + 1) : stq M L q n2 := by
  refine stq_qw (N := K) ?_ w
  obtain ⟨a, b, c, d, f⟩ := h
  refine ⟨by rw [tY_nE e (nk (by decide))]; exact a, fun x hx => by rw [tY_nE e (nk (by decide))]; exact b x hx, by rw [tY_nE e (nk (by decide))]; exact c, fun j h1 h3 => ?_, fun j hj => ?_⟩
  · rw [tY_uE e]
    by_cases q : j = i
    · subst q; rw [pk_us]; decide
    · rw [pk_un q]; exact d j h1 (by omega)
  · rw [tY_uE e, pk_un (by omega)]; exact f j hj
theorem stq_le {M N : ti_M} {q : Nat} {n m : Int} (h : stq M N q n) (hm : m ≤ n) : stq M N q m := ⟨h.1, h.2.1, h.2.2.1, fun i h1 h2 => h.2.2.2.1 i h1 (by omega), h.2.2.2.2⟩
theorem q_start {M N : ti_M} {q : Nat} (hI : mI Tm M) (h : stq M N q (tY M 60 3 0).toInt) (hl : lk N M) : rq q N M ∧ mC N q ∧ mP N q := by
  obtain ⟨a, b, c, d, f⟩ := h
  have h3 : tY N 60 3 = tY M 60 3 := hl.1 3 (by decide) (by decide)
  have hp : mP N q := by
    intro m hm hmn hw
    rw [h3] at hmn
    have := d (8 * q + m) (by omega) (by omega)
    omega
  have hb : ∀ x, 0 ≤ (tY M 60 38 x).toInt ∧ (tY M 60 38 x).toInt ≤ 8 := fun x => hI.2.1 38 x
  refine ⟨⟨hl.1, hl.2, fun q2 => ⟨fun hne g => ?_, fun g => ?_⟩, fun hne => b 0 (Ne.symm hne)⟩, ?_, hp⟩
  · unfold mC at g ⊢
    rw [b q2 hne, zc_eq (f := tY N 60 40) (g := tY M 60 40) (b := 8 * q2) (c := 8 * q2) (fun j hj => f _ (by omega))]; exact g
  · by_cases e : q2 = q
    · subst e; exact hp
    · intro m hm hmn hw
      rw [h3] at hmn
      rw [f _ (by omega)] at hw
      obtain ⟨p, h1, h2⟩ := g m hm hmn hw
      exact ⟨p, by rw [b q2 e]; exact h1, by rw [c]; exact h2⟩
  · unfold mC
    have := zc_8 (tY N 60 40) (8 * q)
    omega
/-! copies -/
def cpr (f g : Nat → Int32) (to as : Nat) (k : Int) : Prop := ∀ i : Nat, g i = if 8 * to ≤ i ∧ (i : Int) < 8 * to + k then f (i - 8 * to + 8 * as) else f i
theorem cpr_s {f g : Nat → Int32} {to as i j : Nat} {k k2 : Int} {v : Int32} (h : cpr f g to as k) (hv : g j = v) (hi : (i : Int) = 8 * to + k) (hj : (j : Int) = 8 * as + k) (hne : to ≠ as) (h0 : 0 ≤ k) (h8 : k < 8) (h2 : k2 = k + 1) : cpr f (upd g i v) to as k2 := by
  intro x
  by_cases q : x = i
  · subst q
    rw [pk_us, if_pos (by omega), ← hv, h j, if_neg (by omega), show j = x - 8 * to + 8 * as by omega]
  · rw [pk_un q, h x]
    by_cases c : 8 * to ≤ x ∧ (x : Int) < 8 * to + k
    · rw [if_pos c, if_pos (by omega)]
    · rw [if_neg c, if_neg (by omega)]
def cpq (M N : ti_M) (to as : Nat) (k : Int) : Prop := tY N 60 38 to = tY M 60 38 as ∧ (∀ x, x ≠ to → tY N 60 38 x = tY M 60 38 x) ∧ cpr (tY M 60 39) (tY N 60 39) to as k ∧ cpr (tY M 60 40) (tY N 60 40) to as k
theorem cpq_qw {M N K : ti_M} {to as : Nat} {n : Int} (h : cpq M N to as n) (w : qw K N) : cpq M K to as n := by
  unfold cpq at *; rw [w.2.2.1, w.2.2.2.1, w.2.2.2.2]; exact h
theorem cpq_0 {M N K : ti_M} {to as i j : Nat} {v : Int32} (h : qw N M) (e : K = uY N 60 38 (upd (tY N 60 38) i v)) (hi : i = to) (hj : j = as) (hv : tY M 60 38 j = v) : cpq M K to as 0 := by
  subst hi; subst hj
  refine ⟨by rw [tY_uE e, pk_us]; exact hv.symm, fun x hx => by rw [tY_uE e, pk_un hx, h.2.2.1], fun x => ?_, fun x => ?_⟩
  · rw [tY_nE e (nk (by decide)), h.2.2.2.1, if_neg (by omega)]
  · rw [tY_nE e (nk (by decide)), h.2.2.2.2, if_neg (by omega)]
theorem cpq_s {M N N1 N2 K : ti_M} {to as i j : Nat} {k k2 : Int} {v w : Int32} (h : cpq M N to as k) (e1 : N1 = uY N 60 39 (upd (tY N 60 39) i v)) (hv : tY N 60 39 j = v) (e2 : N2 = uY N1 60 40 (upd (tY N1 60 40) i w)) (hw : tY N1 60 40 j = w) (hq : qw K N2) (hi : (i : Int) = 8 * to + k) (hj : (j : Int) = 8 * as + k) (hne : to ≠ as) (h0 : 0 ≤ k) (h8 : k < 8) (h2 : k2 = k + 1) : cpq M K to as k2 := by
  refine cpq_qw (N := N2) ?_ hq
  obtain ⟨a, b, c, d⟩ := h
  have r : tY N1 60 40 = tY N 60 40 := tY_nE e1 (nk (by decide))
  have r8 : tY N2 60 38 = tY N 60 38 := (tY_nE e2 (nk (by decide))).trans (tY_nE e1 (nk (by decide)))
  refine ⟨by rw [r8]; exact a, fun x hx => by rw [r8]; exact b x hx, ?_, ?_⟩
  · rw [tY_nE e2 (nk (by decide)), tY_uE e1]; exact cpr_s c hv hi hj hne h0 h8 h2
  · rw [tY_uE e2, r]; rw [r] at hw; exact cpr_s d hw hi hj hne h0 h8 h2
/-- what a copy leaves -/
def cq (to as : Nat) (N M : ti_M) : Prop := (mC M as → mC N to) ∧ (mP M as → mP N to) ∧ (∀ q2, q2 ≠ to → (mC M q2 → mC N q2) ∧ (mP M q2 → mP N q2)) ∧ (∀ x, x ≠ to → tY N 60 38 x = tY M 60 38 x) ∧ tY N 60 38 to = tY M 60 38 as ∧ (∀ j : Nat, j < 8 → tY N 60 40 (8 * to + j) = tY M 60 40 (8 * as + j)) ∧ (∀ i : Nat, i < 8 * to ∨ 8 * to + 8 ≤ i → tY N 60 40 i = tY M 60 40 i)
theorem cpr_in {f g : Nat → Int32} {to as : Nat} (h : cpr f g to as 8) {j : Nat} (hj : j < 8) : g (8 * to + j) = f (8 * as + j) := by
  rw [h, if_pos (by omega), show 8 * to + j - 8 * to + 8 * as = 8 * as + j by omega]
theorem cpr_out {f g : Nat → Int32} {to as : Nat} (h : cpr f g to as 8) {i : Nat} (hi : i < 8 * to ∨ 8 * to + 8 ≤ i) : g i = f i := by rw [h, if_neg (by omega)]
theorem q_copy {M N : ti_M} {to as : Nat} (hI : mI Tm M) (h : cpq M N to as 8) (hl : lk N M) : cq to as N M := by
  obtain ⟨a, b, c, d⟩ := h
  have h3 : tY N 60 3 = tY M 60 3 := hl.1 3 (by decide) (by decide)
  have hb : ∀ x, 0 ≤ (tY M 60 38 x).toInt ∧ (tY M 60 38 x).toInt ≤ 8 := fun x => hI.2.1 38 x
  refine ⟨fun g => ?_, fun g => ?_, fun q2 hne => ⟨fun g => ?_, fun g => ?_⟩, b, a, fun j hj => cpr_in d hj, fun i hi => cpr_out d hi⟩
  · unfold mC at g ⊢; rw [a, zc_eq (fun j hj => cpr_in d hj)]; exact g
  · intro m hm hmn hw
    rw [h3] at hmn
    rw [cpr_in d hm] at hw
    obtain ⟨p, h1, h2⟩ := g m hm hmn hw
    have := hb as
    exact ⟨p, by rw [a]; exact h1, by rw [cpr_in c (by omega)]; exact h2⟩
  · unfold mC at g ⊢; rw [b q2 hne, zc_eq (f := tY N 60 40) (g := tY M 60 40) (b := 8 * q2) (c := 8 * q2) (fun j hj => cpr_out d (by omega))]; exact g
  · intro m hm hmn hw
    rw [h3] at hmn
    rw [cpr_out d (by omega)] at hw
    obtain ⟨p, h1, h2⟩ := g m hm hmn hw
    have := hb q2
    exact ⟨p, by rw [b q2 hne]; exact h1, by rw [cpr_out c (by omega)]; exact h2⟩
set_option maxHeartbeats 4000000 in
set_option maxRecDepth 100000 in
theorem s_X10_starts_0 (l : Launch) (D : va_G) (A : Nat → Nat → Nat) (cy : Nat → ClassId) (hJ : ti_inj ti_LM A) (M : ti_M) (hI : mI Tm M)  : ti_Kv l yX10_starts cX10_starts 4 0 ti_LM D A cy M [.ref (A 60 0), .int 0] (fun M2 => mI Tm M2 ∧ rq 0 M2 M ∧ mC M2 0 ∧ mP M2 0) := by
  refine ti_eV yp_X10_starts hJ ti_LM_nd (Nat.le_of_ble_eq_true rfl) ?_
  intro p e s m args below meth c Q H0 C hQ hw ls hl
  have hx := C.1
  have hb := C.2.1
  have hl : lv_has ls 4 [(0, .ref (A 60 0)), (1, .int 0)] := hl
  refine lv_aload_n hx hb dX10_starts_0 rfl (lv_at hl 0 rfl) ?_
  refine ti_get (ci := 10) (k := 34) (N := 67) (T := TX10) (v := .ref (A 60 35)) C hw iw_10 rfl ob_60 (by decide) (by decide) fl_X10_69 rfl rfl dX10_starts_1 ?_
  refine lv_iload_n hx hb dX10_starts_4 rfl (lv_at hl 1 rfl) ?_
  refine lv_iconst (v := 0) hx hb dX10_starts_5 (by decide) ?_
  refine ti_iast (ci := 10) (k := 34) (n := 23) C hw ob_60 (by decide) (fun _ _ => rfl) (by unfold vp_in; decide) dX10_starts_6 (fun H locs hw => ?_)
  obtain ⟨M_1, hM_1⟩ : ∃ z : ti_M, z = uY M 60 34 (upd (tY M 60 34) (0 : Int32).toNatClampNeg 0) := ⟨_, rfl⟩
  have hw := hw.to hM_1.symm
  have iM_1 : mI Tm M_1 := mI_up (i := 0) hI hM_1 (fun _ => (ib_mk (lo := 0) (hi := 120) (by decide) (by decide)))
  refine lv_aload_n hx hb dX10_starts_7 rfl (lv_at hl 0 rfl) ?_
  refine ti_get (ci := 10) (k := 35) (N := 67) (T := TX10) (v := .ref (A 60 36)) C hw iw_10 rfl ob_60 (by decide) (by decide) fl_X10_72 rfl rfl dX10_starts_8 ?_
  refine lv_iload_n hx hb dX10_starts_11 rfl (lv_at hl 1 rfl) ?_
  refine lv_aload_n hx hb dX10_starts_12 rfl (lv_at hl 0 rfl) ?_
  refine ti_get (ci := 10) (k := 3) (N := 67) (T := TX10) (v := .ref (A 60 4)) C hw iw_10 rfl ob_60 (by decide) (by decide) fl_X10_13 rfl rfl dX10_starts_13 ?_
  refine lv_iconst (v := 1) hx hb dX10_starts_16 (by decide) ?_
  refine ti_iald (ci := 10) (k := 3) (n := 22) C hw ob_60 (by decide) (fun _ _ => rfl) (by unfold vp_in; decide) dX10_starts_17 ?_
  refine lv_topi (fun x_2 ex_2 => ?_)
  have yx_2 : tY M_1 60 3 1 = x_2 := ((congrArg _ (by decide)).symm.trans ex_2.symm)
  have zx_2 : (tY M_1 60 3 1).toInt = x_2.toInt := by rw [yx_2]
  have wx_2 : tY M 60 3 1 = x_2 := ((cg (tY_nE hM_1 (nk (by decide))) 1)).symm.trans yx_2
  have zwx_2 : (tY M 60 3 1).toInt = x_2.toInt := by rw [wx_2]
  refine ti_iast (ci := 10) (k := 35) (n := 23) C hw ob_60 (by decide) (fun _ _ => rfl) (by unfold vp_in; decide) dX10_starts_18 (fun H locs hw => ?_)
  obtain ⟨M_3, hM_3⟩ : ∃ z : ti_M, z = uY M_1 60 35 (upd (tY M_1 60 35) (0 : Int32).toNatClampNeg x_2) := ⟨_, rfl⟩
  have hw := hw.to hM_3.symm
  have iM_3 : mI Tm M_3 := mI_up (i := 0) iM_1 hM_3 trivial
  refine lv_aload_n hx hb dX10_starts_19 rfl (lv_at hl 0 rfl) ?_
  refine ti_get (ci := 10) (k := 36) (N := 67) (T := TX10) (v := .ref (A 60 37)) C hw iw_10 rfl ob_60 (by decide) (by decide) fl_X10_75 rfl rfl dX10_starts_20 ?_
  refine lv_iload_n hx hb dX10_starts_23 rfl (lv_at hl 1 rfl) ?_
  refine lv_aload_n hx hb dX10_starts_24 rfl (lv_at hl 0 rfl) ?_
  refine ti_get (ci := 10) (k := 3) (N := 67) (T := TX10) (v := .ref (A 60 4)) C hw iw_10 rfl ob_60 (by decide) (by decide) fl_X10_13 rfl rfl dX10_starts_25 ?_
  refine lv_bipush (v := 6) hx hb dX10_starts_28 (by decide) ?_
  refine ti_iald (ci := 10) (k := 3) (n := 22) C hw ob_60 (by decide) (fun _ _ => rfl) (by unfold vp_in; decide) dX10_starts_30 ?_
  refine lv_topi (fun x_4 ex_4 => ?_)
  have yx_4 : tY M_3 60 3 6 = x_4 := ((congrArg _ (by decide)).symm.trans ex_4.symm)
  have zx_4 : (tY M_3 60 3 6).toInt = x_4.toInt := by rw [yx_4]
  have wx_4 : tY M 60 3 6 = x_4 := (((cg (tY_nE hM_3 (nk (by decide))) 6).trans (cg (tY_nE hM_1 (nk (by decide))) 6))).symm.trans yx_4
  have zwx_4 : (tY M 60 3 6).toInt = x_4.toInt := by rw [wx_4]
  refine ti_iast (ci := 10) (k := 36) (n := 23) C hw ob_60 (by decide) (fun _ _ => rfl) (by unfold vp_in; decide) dX10_starts_31 (fun H locs hw => ?_)
  obtain ⟨M_5, hM_5⟩ : ∃ z : ti_M, z = uY M_3 60 36 (upd (tY M_3 60 36) (0 : Int32).toNatClampNeg x_4) := ⟨_, rfl⟩
  have hw := hw.to hM_5.symm
  have iM_5 : mI Tm M_5 := mI_up (i := 0) iM_3 hM_5 trivial
  refine lv_aload_n hx hb dX10_starts_32 rfl (lv_at hl 0 rfl) ?_
  refine ti_get (ci := 10) (k := 37) (N := 67) (T := TX10) (v := .ref (A 60 38)) C hw iw_10 rfl ob_60 (by decide) (by decide) fl_X10_78 rfl rfl dX10_starts_33 ?_
  refine lv_iload_n hx hb dX10_starts_36 rfl (lv_at hl 1 rfl) ?_
  refine lv_iconst (v := 0) hx hb dX10_starts_37 (by decide) ?_
  refine ti_iast (ci := 10) (k := 37) (n := 23) C hw ob_60 (by decide) (fun _ _ => rfl) (by unfold vp_in; decide) dX10_starts_38 (fun H locs hw => ?_)
  obtain ⟨M_6, hM_6⟩ : ∃ z : ti_M, z = uY M_5 60 37 (upd (tY M_5 60 37) (0 : Int32).toNatClampNeg 0) := ⟨_, rfl⟩
  have hw := hw.to hM_6.symm
  have iM_6 : mI Tm M_6 := mI_up (i := 0) iM_5 hM_6 trivial
  refine lv_aload_n hx hb dX10_starts_39 rfl (lv_at hl 0 rfl) ?_
  refine ti_get (ci := 10) (k := 38) (N := 67) (T := TX10) (v := .ref (A 60 39)) C hw iw_10 rfl ob_60 (by decide) (by decide) fl_X10_81 rfl rfl dX10_starts_40 ?_
  refine lv_iload_n hx hb dX10_starts_43 rfl (lv_at hl 1 rfl) ?_
  refine lv_iconst (v := 0) hx hb dX10_starts_44 (by decide) ?_
  refine ti_iast (ci := 10) (k := 38) (n := 23) C hw ob_60 (by decide) (fun _ _ => rfl) (by unfold vp_in; decide) dX10_starts_45 (fun H locs hw => ?_)
  obtain ⟨M_7, hM_7⟩ : ∃ z : ti_M, z = uY M_6 60 38 (upd (tY M_6 60 38) (0 : Int32).toNatClampNeg 0) := ⟨_, rfl⟩
  have hw := hw.to hM_7.symm
  have iM_7 : mI Tm M_7 := mI_up (i := 0) iM_6 hM_7 (ib_mk (lo := 0) (hi := 8) (by decide) (by decide))
  refine lv_iconst (v := 0) hx hb dX10_starts_46 (by decide) ?_
  refine lv_istore_n (lv' := [(2, .int 0), (0, .ref (A 60 0)), (1, .int 0)]) hx hb dX10_starts_47 rfl hl (by decide) rfl (fun ls hl => ?_)
  have hl_48_13 : ∀ (n_14 : Nat) (x_8 : Int32) (M_11 : ti_M) (H : Heap) (locs : List Loc) (ls : Array Slot), (8 - x_8.toInt : Int).toNat < n_14 → (0 ≤ x_8.toInt) → (x_8.toInt ≤ 8) → (mI Tm M_11) → (lk M_11 M) → (stq M M_11 0 x_8.toInt) → ti_H ti_LM D A cy H0 M_11 H locs → lv_has ls 4 [(2, .int x_8), (0, .ref (A 60 0)), (1, .int 0)] → W p l e (ti_rm 0) s m args below meth c H locs 0 0 Q (F0 m 48 ls []) := by
    intro n_14
    induction n_14 with
    | zero => intro x_8 M_11 H locs ls hf_14; exact absurd hf_14 (Nat.not_lt_zero _)
    | succ n_14 ih_14 =>
      intro x_8 M_11 H locs ls hf_14 b_9 b_10 iM_11 f_12 j_13 hw hl
      refine lv_iload_n hx hb dX10_starts_48 rfl (lv_at hl 0 rfl) ?_
      refine lv_aload_n hx hb dX10_starts_49 rfl (lv_at hl 1 rfl) ?_
      refine ti_get (ci := 10) (k := 3) (N := 67) (T := TX10) (v := .ref (A 60 4)) C hw iw_10 rfl ob_60 (by decide) (by decide) fl_X10_13 rfl rfl dX10_starts_50 ?_
      refine lv_iconst (v := 0) hx hb dX10_starts_53 (by decide) ?_
      refine ti_iald (ci := 10) (k := 3) (n := 22) C hw ob_60 (by decide) (fun _ _ => rfl) (by unfold vp_in; decide) dX10_starts_54 ?_
      refine lv_topi (fun x_15 ex_15 => ?_)
      have yx_15 : tY M_11 60 3 0 = x_15 := ((congrArg _ (by decide)).symm.trans ex_15.symm)
      have bx_15 : 0 ≤ x_15.toInt ∧ x_15.toInt ≤ 8 := mI_rn (i := 0) iM_11 yx_15.symm (fun _ h => h)
      have zx_15 : (tY M_11 60 3 0).toInt = x_15.toInt := by rw [yx_15]
      have wx_15 : tY M 60 3 0 = x_15 := ((cg (f_12.1 3 (by decide) (by decide)) 0)).symm.trans yx_15
      have zwx_15 : (tY M 60 3 0).toInt = x_15.toInt := by rw [wx_15]
      refine sb_icmp_ge (tgt := 150) hx hb rfl rfl dX10_starts_55 (by decide) (fun c_55_15 => ?_) (fun c_55_15 => ?_)
      · refine lv_iconst (v := 0) hx hb dX10_starts_150 (by decide) ?_
        refine lv_istore_n (lv' := [(2, .int 0), (0, .ref (A 60 0)), (1, .int 0)]) hx hb dX10_starts_151 rfl hl (by decide) rfl (fun ls hl => ?_)
        have hl_152_36 : ∀ (n_37 : Nat) (x_31 : Int32) (M_34 : ti_M) (H : Heap) (locs : List Loc) (ls : Array Slot), (3 - x_31.toInt : Int).toNat < n_37 → (0 ≤ x_31.toInt) → (x_31.toInt ≤ 3) → (mI Tm M_34) → (lk M_34 M) → (stq M M_34 0 (tY M 60 3 0).toInt) → ti_H ti_LM D A cy H0 M_34 H locs → lv_has ls 4 [(2, .int x_31), (0, .ref (A 60 0)), (1, .int 0)] → W p l e (ti_rm 0) s m args below meth c H locs 0 0 Q (F0 m 152 ls []) := by
          intro n_37
          induction n_37 with
          | zero => intro x_31 M_34 H locs ls hf_37; exact absurd hf_37 (Nat.not_lt_zero _)
          | succ n_37 ih_37 =>
            intro x_31 M_34 H locs ls hf_37 b_32 b_33 iM_34 f_35 j_36 hw hl
            refine lv_iload_n hx hb dX10_starts_152 rfl (lv_at hl 0 rfl) ?_
            refine lv_iconst (v := 3) hx hb dX10_starts_153 (by decide) ?_
            refine sb_icmp_ge (tgt := 182) hx hb rfl (by decide : (3 : Int32).toInt = 3) dX10_starts_154 (by decide) (fun c_154_37 => ?_) (fun c_154_37 => ?_)
            · have jj := q_start hI j_36 f_35
              exact hQ _ _ _ _ _ hw (⟨iM_34, jj.1, jj.2.1, jj.2.2⟩) dX10_starts_182
            · refine lv_aload_n hx hb dX10_starts_157 rfl (lv_at hl 1 rfl) ?_
              refine ti_get (ci := 10) (k := 49) (N := 67) (T := TX10) (v := .ref (A 60 50)) C hw iw_10 rfl ob_60 (by decide) (by decide) fl_X10_114 rfl rfl dX10_starts_158 ?_
              refine lv_iconst (v := 3) hx hb dX10_starts_161 (by decide) ?_
              refine lv_iload_n hx hb dX10_starts_162 rfl (lv_at hl 2 rfl) ?_
              refine lv_imul hx hb dX10_starts_163 ?_
              refine ti_top (y := 0) (by decide) ?_
              refine lv_iload_n hx hb dX10_starts_164 rfl (lv_at hl 0 rfl) ?_
              refine lv_iadd hx hb dX10_starts_165 ?_
              refine lv_topi (fun x_39 ex_39 => ?_)
              have tx_39 : x_39.toInt = 0 + x_31.toInt := i_add ex_39 (by decide : (0 : Int32).toInt = 0) rfl (by omega) (by omega)
              refine lv_aload_n hx hb dX10_starts_166 rfl (lv_at hl 1 rfl) ?_
              refine ti_get (ci := 10) (k := 3) (N := 67) (T := TX10) (v := .ref (A 60 4)) C hw iw_10 rfl ob_60 (by decide) (by decide) fl_X10_13 rfl rfl dX10_starts_167 ?_
              refine lv_bipush (v := 8) hx hb dX10_starts_170 (by decide) ?_
              refine lv_iload_n hx hb dX10_starts_172 rfl (lv_at hl 0 rfl) ?_
              refine lv_iadd hx hb dX10_starts_173 ?_
              refine lv_topi (fun x_40 ex_40 => ?_)
              have tx_40 : x_40.toInt = 8 + x_31.toInt := i_add ex_40 (by decide : (8 : Int32).toInt = 8) rfl (by omega) (by omega)
              refine ti_iald (ci := 10) (k := 3) (n := 22) C hw ob_60 (by decide) (fun _ _ => rfl) (vp_in_iff.mpr (by omega)) dX10_starts_174 ?_
              refine lv_topi (fun x_41 ex_41 => ?_)
              have yx_41 : tY M_34 60 3 x_40.toNatClampNeg = x_41 := (ex_41.symm)
              have bx_41 : 0 ≤ x_41.toInt ∧ x_41.toInt ≤ 7 := mI_rn (i := x_40.toNatClampNeg) iM_34 yx_41.symm (fun _ h => mN_p (by show 8 ≤ (x_40).toInt.toNat; omega) (by show (x_40).toInt.toNat ≤ 10; omega) h)
              have zx_41 : (tY M_34 60 3 x_40.toNatClampNeg).toInt = x_41.toInt := by rw [yx_41]
              have wx_41 : tY M 60 3 x_40.toNatClampNeg = x_41 := ((cg (f_35.1 3 (by decide) (by decide)) x_40.toNatClampNeg)).symm.trans yx_41
              have zwx_41 : (tY M 60 3 x_40.toNatClampNeg).toInt = x_41.toInt := by rw [wx_41]
              refine ti_iast (ci := 10) (k := 49) (n := 69) C hw ob_60 (by decide) (fun _ _ => rfl) (vp_in_iff.mpr (by omega)) dX10_starts_175 (fun H locs hw => ?_)
              obtain ⟨M_42, hM_42⟩ : ∃ z : ti_M, z = uY M_34 60 49 (upd (tY M_34 60 49) (x_39 : Int32).toNatClampNeg x_41) := ⟨_, rfl⟩
              have hw := hw.to hM_42.symm
              have iM_42 : mI Tm M_42 := mI_up (i := x_39.toNatClampNeg) iM_34 hM_42 (ib_mk (lo := 0) (hi := 7) (by omega) (by omega))
              obtain ⟨x_43, ex_43⟩ : ∃ z : Int32, z = x_31 + 1 := ⟨_, rfl⟩
              have tx_43 : x_43.toInt = x_31.toInt + 1 := i_add ex_43 rfl (by decide) (by omega) (by omega)
              refine lv_iinc (v := x_43) (lv' := [(2, .int x_43), (0, .ref (A 60 0)), (1, .int 0)]) hx hb dX10_starts_176 hl (k := 0) rfl (by rw [ex_43]; rfl) (by decide) rfl (fun ls hl => ?_)
              refine lv_goto (tgt := 152) hx hb dX10_starts_179 (by decide) ?_
              exact ih_37 x_43 M_42 _ _ _ (by omega) (by first | omega | decide) (by first | omega | decide) iM_42 (lk.trans (lk_Y hM_42 (by decide)) f_35) (stq_qw j_36 (qw_Y hM_42 (by decide))) hw (lv_sub hl [0, 1, 2] rfl)
        exact hl_152_36 ((3 - 0 : Int).toNat + 1) 0 M_11 _ _ _ (Nat.lt_succ_self _) (by have lt0 : (0 : Int32).toInt = 0 := (by decide); first | omega | decide) (by have lt0 : (0 : Int32).toInt = 0 := (by decide); first | omega | decide) iM_11 f_12 (stq_le j_13 (by omega)) hw (lv_sub hl [0, 1, 2] rfl)
      · refine lv_bipush (v := 8) hx hb dX10_starts_58 (by decide) ?_
        refine lv_iload_n hx hb dX10_starts_60 rfl (lv_at hl 2 rfl) ?_
        refine lv_imul hx hb dX10_starts_61 ?_
        refine ti_top (y := 0) (by decide) ?_
        refine lv_iload_n hx hb dX10_starts_62 rfl (lv_at hl 0 rfl) ?_
        refine lv_iadd hx hb dX10_starts_63 ?_
        refine lv_topi (fun x_17 ex_17 => ?_)
        have tx_17 : x_17.toInt = 0 + x_8.toInt := i_add ex_17 (by decide : (0 : Int32).toInt = 0) rfl (by omega) (by omega)
        refine lv_istore_n (lv' := [(3, .int x_17), (2, .int x_8), (0, .ref (A 60 0)), (1, .int 0)]) hx hb dX10_starts_64 rfl hl (by decide) rfl (fun ls hl => ?_)
        refine lv_aload_n hx hb dX10_starts_65 rfl (lv_at hl 2 rfl) ?_
        refine ti_get (ci := 10) (k := 40) (N := 67) (T := TX10) (v := .ref (A 60 41)) C hw iw_10 rfl ob_60 (by decide) (by decide) fl_X10_87 rfl rfl dX10_starts_66 ?_
        refine lv_iload_n hx hb dX10_starts_69 rfl (lv_at hl 0 rfl) ?_
        refine lv_iconst (v := 0) hx hb dX10_starts_70 (by decide) ?_
        refine ti_iast (ci := 10) (k := 40) (n := 184) C hw ob_60 (by decide) (fun _ _ => rfl) (vp_in_iff.mpr (by omega)) dX10_starts_71 (fun H locs hw => ?_)
        obtain ⟨M_18, hM_18⟩ : ∃ z : ti_M, z = uY M_11 60 40 (upd (tY M_11 60 40) (x_17 : Int32).toNatClampNeg 0) := ⟨_, rfl⟩
        have hw := hw.to hM_18.symm
        have iM_18 : mI Tm M_18 := mI_up (i := x_17.toNatClampNeg) iM_11 hM_18 trivial
        refine lv_aload_n hx hb dX10_starts_72 rfl (lv_at hl 2 rfl) ?_
        refine ti_get (ci := 10) (k := 41) (N := 67) (T := TX10) (v := .ref (A 60 42)) C hw iw_10 rfl ob_60 (by decide) (by decide) fl_X10_90 rfl rfl dX10_starts_73 ?_
        refine lv_iload_n hx hb dX10_starts_76 rfl (lv_at hl 0 rfl) ?_
        refine lv_aload_n hx hb dX10_starts_77 rfl (lv_at hl 2 rfl) ?_
        refine ti_get (ci := 10) (k := 7) (N := 67) (T := TX10) (v := .ref (A 60 8)) C hw iw_10 rfl ob_60 (by decide) (by decide) fl_X10_25 rfl rfl dX10_starts_78 ?_
        refine lv_iload_n hx hb dX10_starts_81 rfl (lv_at hl 1 rfl) ?_
        refine ti_iald (ci := 10) (k := 7) (n := 16) C hw ob_60 (by decide) (fun _ _ => rfl) (vp_in_iff.mpr (by omega)) dX10_starts_82 ?_
        refine lv_topi (fun x_19 ex_19 => ?_)
        have yx_19 : tY M_18 60 7 x_8.toNatClampNeg = x_19 := (ex_19.symm)
        have wx_19 : tY M 60 7 x_8.toNatClampNeg = x_19 := (((cg (tY_nE hM_18 (nk (by decide))) x_8.toNatClampNeg).trans (cg (f_12.1 7 (by decide) (by decide)) x_8.toNatClampNeg))).symm.trans yx_19
        refine ti_iast (ci := 10) (k := 41) (n := 184) C hw ob_60 (by decide) (fun _ _ => rfl) (vp_in_iff.mpr (by omega)) dX10_starts_83 (fun H locs hw => ?_)
        obtain ⟨M_20, hM_20⟩ : ∃ z : ti_M, z = uY M_18 60 41 (upd (tY M_18 60 41) (x_17 : Int32).toNatClampNeg x_19) := ⟨_, rfl⟩
        have hw := hw.to hM_20.symm
        have iM_20 : mI Tm M_20 := mI_up (i := x_17.toNatClampNeg) iM_18 hM_20 trivial
        refine lv_aload_n hx hb dX10_starts_84 rfl (lv_at hl 2 rfl) ?_
        refine ti_get (ci := 10) (k := 42) (N := 67) (T := TX10) (v := .ref (A 60 43)) C hw iw_10 rfl ob_60 (by decide) (by decide) fl_X10_93 rfl rfl dX10_starts_85 ?_
        refine lv_iload_n hx hb dX10_starts_88 rfl (lv_at hl 0 rfl) ?_
        refine lv_iconst (v := 0) hx hb dX10_starts_89 (by decide) ?_
        refine ti_iast (ci := 10) (k := 42) (n := 184) C hw ob_60 (by decide) (fun _ _ => rfl) (vp_in_iff.mpr (by omega)) dX10_starts_90 (fun H locs hw => ?_)
        obtain ⟨M_21, hM_21⟩ : ∃ z : ti_M, z = uY M_20 60 42 (upd (tY M_20 60 42) (x_17 : Int32).toNatClampNeg 0) := ⟨_, rfl⟩
        have hw := hw.to hM_21.symm
        have iM_21 : mI Tm M_21 := mI_up (i := x_17.toNatClampNeg) iM_20 hM_21 trivial
        refine lv_aload_n hx hb dX10_starts_91 rfl (lv_at hl 2 rfl) ?_
        refine ti_get (ci := 10) (k := 43) (N := 67) (T := TX10) (v := .ref (A 60 44)) C hw iw_10 rfl ob_60 (by decide) (by decide) fl_X10_96 rfl rfl dX10_starts_92 ?_
        refine lv_iload_n hx hb dX10_starts_95 rfl (lv_at hl 0 rfl) ?_
        refine lv_aload_n hx hb dX10_starts_96 rfl (lv_at hl 2 rfl) ?_
        refine ti_get (ci := 10) (k := 9) (N := 67) (T := TX10) (v := .ref (A 60 10)) C hw iw_10 rfl ob_60 (by decide) (by decide) fl_X10_31 rfl rfl dX10_starts_97 ?_
        refine lv_iload_n hx hb dX10_starts_100 rfl (lv_at hl 1 rfl) ?_
        refine ti_iald (ci := 10) (k := 9) (n := 16) C hw ob_60 (by decide) (fun _ _ => rfl) (vp_in_iff.mpr (by omega)) dX10_starts_101 ?_
        refine lv_topi (fun x_22 ex_22 => ?_)
        have yx_22 : tY M_21 60 9 x_8.toNatClampNeg = x_22 := (ex_22.symm)
        have wx_22 : tY M 60 9 x_8.toNatClampNeg = x_22 := (((cg (tY_nE hM_21 (nk (by decide))) x_8.toNatClampNeg).trans ((cg (tY_nE hM_20 (nk (by decide))) x_8.toNatClampNeg).trans ((cg (tY_nE hM_18 (nk (by decide))) x_8.toNatClampNeg).trans (cg (f_12.1 9 (by decide) (by decide)) x_8.toNatClampNeg))))).symm.trans yx_22
        refine ti_iast (ci := 10) (k := 43) (n := 184) C hw ob_60 (by decide) (fun _ _ => rfl) (vp_in_iff.mpr (by omega)) dX10_starts_102 (fun H locs hw => ?_)
        obtain ⟨M_23, hM_23⟩ : ∃ z : ti_M, z = uY M_21 60 43 (upd (tY M_21 60 43) (x_17 : Int32).toNatClampNeg x_22) := ⟨_, rfl⟩
        have hw := hw.to hM_23.symm
        have iM_23 : mI Tm M_23 := mI_up (i := x_17.toNatClampNeg) iM_21 hM_23 trivial
        refine lv_aload_n hx hb dX10_starts_103 rfl (lv_at hl 2 rfl) ?_
        refine ti_get (ci := 10) (k := 44) (N := 67) (T := TX10) (v := .ref (A 60 45)) C hw iw_10 rfl ob_60 (by decide) (by decide) fl_X10_99 rfl rfl dX10_starts_104 ?_
        refine lv_iload_n hx hb dX10_starts_107 rfl (lv_at hl 0 rfl) ?_
        refine lv_aload_n hx hb dX10_starts_108 rfl (lv_at hl 2 rfl) ?_
        refine ti_get (ci := 10) (k := 11) (N := 67) (T := TX10) (v := .ref (A 60 12)) C hw iw_10 rfl ob_60 (by decide) (by decide) fl_X10_37 rfl rfl dX10_starts_109 ?_
        refine lv_iload_n hx hb dX10_starts_112 rfl (lv_at hl 1 rfl) ?_
        refine ti_iald (ci := 10) (k := 11) (n := 16) C hw ob_60 (by decide) (fun _ _ => rfl) (vp_in_iff.mpr (by omega)) dX10_starts_113 ?_
        refine lv_topi (fun x_24 ex_24 => ?_)
        have yx_24 : tY M_23 60 11 x_8.toNatClampNeg = x_24 := (ex_24.symm)
        have wx_24 : tY M 60 11 x_8.toNatClampNeg = x_24 := (((cg (tY_nE hM_23 (nk (by decide))) x_8.toNatClampNeg).trans ((cg (tY_nE hM_21 (nk (by decide))) x_8.toNatClampNeg).trans ((cg (tY_nE hM_20 (nk (by decide))) x_8.toNatClampNeg).trans ((cg (tY_nE hM_18 (nk (by decide))) x_8.toNatClampNeg).trans (cg (f_12.1 11 (by decide) (by decide)) x_8.toNatClampNeg)))))).symm.trans yx_24
        refine ti_iast (ci := 10) (k := 44) (n := 184) C hw ob_60 (by decide) (fun _ _ => rfl) (vp_in_iff.mpr (by omega)) dX10_starts_114 (fun H locs hw => ?_)
        obtain ⟨M_25, hM_25⟩ : ∃ z : ti_M, z = uY M_23 60 44 (upd (tY M_23 60 44) (x_17 : Int32).toNatClampNeg x_24) := ⟨_, rfl⟩
        have hw := hw.to hM_25.symm
        have iM_25 : mI Tm M_25 := mI_up (i := x_17.toNatClampNeg) iM_23 hM_25 trivial
        refine lv_aload_n hx hb dX10_starts_115 rfl (lv_at hl 2 rfl) ?_
        refine ti_get (ci := 10) (k := 45) (N := 67) (T := TX10) (v := .ref (A 60 46)) C hw iw_10 rfl ob_60 (by decide) (by decide) fl_X10_102 rfl rfl dX10_starts_116 ?_
        refine lv_iload_n hx hb dX10_starts_119 rfl (lv_at hl 0 rfl) ?_
        refine lv_iconst (v := 0) hx hb dX10_starts_120 (by decide) ?_
        refine ti_iast (ci := 10) (k := 45) (n := 184) C hw ob_60 (by decide) (fun _ _ => rfl) (vp_in_iff.mpr (by omega)) dX10_starts_121 (fun H locs hw => ?_)
        obtain ⟨M_26, hM_26⟩ : ∃ z : ti_M, z = uY M_25 60 45 (upd (tY M_25 60 45) (x_17 : Int32).toNatClampNeg 0) := ⟨_, rfl⟩
        have hw := hw.to hM_26.symm
        have iM_26 : mI Tm M_26 := mI_up (i := x_17.toNatClampNeg) iM_25 hM_26 trivial
        refine lv_aload_n hx hb dX10_starts_122 rfl (lv_at hl 2 rfl) ?_
        refine ti_get (ci := 10) (k := 46) (N := 67) (T := TX10) (v := .ref (A 60 47)) C hw iw_10 rfl ob_60 (by decide) (by decide) fl_X10_105 rfl rfl dX10_starts_123 ?_
        refine lv_iload_n hx hb dX10_starts_126 rfl (lv_at hl 0 rfl) ?_
        refine lv_iconst (v := 0) hx hb dX10_starts_127 (by decide) ?_
        refine ti_iast (ci := 10) (k := 46) (n := 184) C hw ob_60 (by decide) (fun _ _ => rfl) (vp_in_iff.mpr (by omega)) dX10_starts_128 (fun H locs hw => ?_)
        obtain ⟨M_27, hM_27⟩ : ∃ z : ti_M, z = uY M_26 60 46 (upd (tY M_26 60 46) (x_17 : Int32).toNatClampNeg 0) := ⟨_, rfl⟩
        have hw := hw.to hM_27.symm
        have iM_27 : mI Tm M_27 := mI_up (i := x_17.toNatClampNeg) iM_26 hM_27 trivial
        refine lv_aload_n hx hb dX10_starts_129 rfl (lv_at hl 2 rfl) ?_
        refine ti_get (ci := 10) (k := 47) (N := 67) (T := TX10) (v := .ref (A 60 48)) C hw iw_10 rfl ob_60 (by decide) (by decide) fl_X10_108 rfl rfl dX10_starts_130 ?_
        refine lv_iload_n hx hb dX10_starts_133 rfl (lv_at hl 0 rfl) ?_
        refine lv_iconst (v := 0) hx hb dX10_starts_134 (by decide) ?_
        refine ti_iast (ci := 10) (k := 47) (n := 184) C hw ob_60 (by decide) (fun _ _ => rfl) (vp_in_iff.mpr (by omega)) dX10_starts_135 (fun H locs hw => ?_)
        obtain ⟨M_28, hM_28⟩ : ∃ z : ti_M, z = uY M_27 60 47 (upd (tY M_27 60 47) (x_17 : Int32).toNatClampNeg 0) := ⟨_, rfl⟩
        have hw := hw.to hM_28.symm
        have iM_28 : mI Tm M_28 := mI_up (i := x_17.toNatClampNeg) iM_27 hM_28 trivial
        refine lv_aload_n hx hb dX10_starts_136 rfl (lv_at hl 2 rfl) ?_
        refine ti_get (ci := 10) (k := 48) (N := 67) (T := TX10) (v := .ref (A 60 49)) C hw iw_10 rfl ob_60 (by decide) (by decide) fl_X10_111 rfl rfl dX10_starts_137 ?_
        refine lv_iload_n hx hb dX10_starts_140 rfl (lv_at hl 0 rfl) ?_
        refine lv_bipush (v := (-2)) hx hb dX10_starts_141 (by decide) ?_
        refine ti_iast (ci := 10) (k := 48) (n := 184) C hw ob_60 (by decide) (fun _ _ => rfl) (vp_in_iff.mpr (by omega)) dX10_starts_143 (fun H locs hw => ?_)
        obtain ⟨M_29, hM_29⟩ : ∃ z : ti_M, z = uY M_28 60 48 (upd (tY M_28 60 48) (x_17 : Int32).toNatClampNeg (-2)) := ⟨_, rfl⟩
        have hw := hw.to hM_29.symm
        have iM_29 : mI Tm M_29 := mI_up (i := x_17.toNatClampNeg) iM_28 hM_29 trivial
        obtain ⟨x_30, ex_30⟩ : ∃ z : Int32, z = x_8 + 1 := ⟨_, rfl⟩
        have tx_30 : x_30.toInt = x_8.toInt + 1 := i_add ex_30 rfl (by decide) (by omega) (by omega)
        refine lv_iinc (v := x_30) (lv' := [(2, .int x_30), (3, .int x_17), (0, .ref (A 60 0)), (1, .int 0)]) hx hb dX10_starts_144 hl (k := 1) rfl (by rw [ex_30]; rfl) (by decide) rfl (fun ls hl => ?_)
        refine lv_goto (tgt := 48) hx hb dX10_starts_147 (by decide) ?_
        exact ih_14 x_30 M_29 _ _ _ (by omega) (by first | omega | decide) (by first | omega | decide) iM_29 (lk.trans (lk_Y hM_29 (by decide)) (lk.trans (lk_Y hM_28 (by decide)) (lk.trans (lk_Y hM_27 (by decide)) (lk.trans (lk_Y hM_26 (by decide)) (lk.trans (lk_Y hM_25 (by decide)) (lk.trans (lk_Y hM_23 (by decide)) (lk.trans (lk_Y hM_21 (by decide)) (lk.trans (lk_Y hM_20 (by decide)) (lk.trans (lk_Y hM_18 (by decide)) f_12))))))))) (stq_s j_13 hM_18 (qw.trans (qw_Y hM_29 (by decide)) (qw.trans (qw_Y hM_28 (by decide)) (qw.trans (qw_Y hM_27 (by decide)) (qw.trans (qw_Y hM_26 (by decide)) (qw.trans (qw_Y hM_25 (by decide)) (qw.trans (qw_Y hM_23 (by decide)) (qw.trans (qw_Y hM_21 (by decide)) (qw_Y hM_20 (by decide))))))))) (by show ((x_17.toInt.toNat : Nat) : Int) = _; omega) (by omega) (by omega) (by omega)) hw (lv_sub hl [0, 2, 3] rfl)
  exact hl_48_13 ((8 - 0 : Int).toNat + 1) 0 M_7 _ _ _ (Nat.lt_succ_self _) (by have lt0 : (0 : Int32).toInt = 0 := (by decide); first | omega | decide) (by have lt0 : (0 : Int32).toInt = 0 := (by decide); first | omega | decide) iM_7 (lk.trans (lk_Y hM_7 (by decide)) (lk.trans (lk_Y hM_6 (by decide)) (lk.trans (lk_Y hM_5 (by decide)) (lk.trans (lk_Y hM_3 (by decide)) (lk_Y hM_1 (by decide)))))) (stq_0 (qw.trans (qw_Y hM_6 (by decide)) (qw.trans (qw_Y hM_5 (by decide)) (qw.trans (qw_Y hM_3 (by decide)) (qw_Y hM_1 (by decide))))) hM_7 (by decide)) hw (lv_sub hl [0, 1, 2] rfl)
set_option maxHeartbeats 4000000 in
set_option maxRecDepth 100000 in
theorem s_X10_starts_1 (l : Launch) (D : va_G) (A : Nat → Nat → Nat) (cy : Nat → ClassId) (hJ : ti_inj ti_LM A) (M : ti_M) (hI : mI Tm M)  : ti_Kv l yX10_starts cX10_starts 4 0 ti_LM D A cy M [.ref (A 60 0), .int 1] (fun M2 => mI Tm M2 ∧ rq 1 M2 M ∧ mC M2 1 ∧ mP M2 1) := by
  refine ti_eV yp_X10_starts hJ ti_LM_nd (Nat.le_of_ble_eq_true rfl) ?_
  intro p e s m args below meth c Q H0 C hQ hw ls hl
  have hx := C.1
  have hb := C.2.1
  have hl : lv_has ls 4 [(0, .ref (A 60 0)), (1, .int 1)] := hl
  refine lv_aload_n hx hb dX10_starts_0 rfl (lv_at hl 0 rfl) ?_
  refine ti_get (ci := 10) (k := 34) (N := 67) (T := TX10) (v := .ref (A 60 35)) C hw iw_10 rfl ob_60 (by decide) (by decide) fl_X10_69 rfl rfl dX10_starts_1 ?_
  refine lv_iload_n hx hb dX10_starts_4 rfl (lv_at hl 1 rfl) ?_
  refine lv_iconst (v := 0) hx hb dX10_starts_5 (by decide) ?_
  refine ti_iast (ci := 10) (k := 34) (n := 23) C hw ob_60 (by decide) (fun _ _ => rfl) (by unfold vp_in; decide) dX10_starts_6 (fun H locs hw => ?_)
  obtain ⟨M_1, hM_1⟩ : ∃ z : ti_M, z = uY M 60 34 (upd (tY M 60 34) (1 : Int32).toNatClampNeg 0) := ⟨_, rfl⟩
  have hw := hw.to hM_1.symm
  have iM_1 : mI Tm M_1 := mI_up (i := 1) hI hM_1 (fun h => absurd rfl h)
  refine lv_aload_n hx hb dX10_starts_7 rfl (lv_at hl 0 rfl) ?_
  refine ti_get (ci := 10) (k := 35) (N := 67) (T := TX10) (v := .ref (A 60 36)) C hw iw_10 rfl ob_60 (by decide) (by decide) fl_X10_72 rfl rfl dX10_starts_8 ?_
  refine lv_iload_n hx hb dX10_starts_11 rfl (lv_at hl 1 rfl) ?_
  refine lv_aload_n hx hb dX10_starts_12 rfl (lv_at hl 0 rfl) ?_
  refine ti_get (ci := 10) (k := 3) (N := 67) (T := TX10) (v := .ref (A 60 4)) C hw iw_10 rfl ob_60 (by decide) (by decide) fl_X10_13 rfl rfl dX10_starts_13 ?_
  refine lv_iconst (v := 1) hx hb dX10_starts_16 (by decide) ?_
  refine ti_iald (ci := 10) (k := 3) (n := 22) C hw ob_60 (by decide) (fun _ _ => rfl) (by unfold vp_in; decide) dX10_starts_17 ?_
  refine lv_topi (fun x_2 ex_2 => ?_)
  have yx_2 : tY M_1 60 3 1 = x_2 := ((congrArg _ (by decide)).symm.trans ex_2.symm)
  have zx_2 : (tY M_1 60 3 1).toInt = x_2.toInt := by rw [yx_2]
  have wx_2 : tY M 60 3 1 = x_2 := ((cg (tY_nE hM_1 (nk (by decide))) 1)).symm.trans yx_2
  have zwx_2 : (tY M 60 3 1).toInt = x_2.toInt := by rw [wx_2]
  refine ti_iast (ci := 10) (k := 35) (n := 23) C hw ob_60 (by decide) (fun _ _ => rfl) (by unfold vp_in; decide) dX10_starts_18 (fun H locs hw => ?_)
  obtain ⟨M_3, hM_3⟩ : ∃ z : ti_M, z = uY M_1 60 35 (upd (tY M_1 60 35) (1 : Int32).toNatClampNeg x_2) := ⟨_, rfl⟩
  have hw := hw.to hM_3.symm
  have iM_3 : mI Tm M_3 := mI_up (i := 1) iM_1 hM_3 trivial
  refine lv_aload_n hx hb dX10_starts_19 rfl (lv_at hl 0 rfl) ?_
  refine ti_get (ci := 10) (k := 36) (N := 67) (T := TX10) (v := .ref (A 60 37)) C hw iw_10 rfl ob_60 (by decide) (by decide) fl_X10_75 rfl rfl dX10_starts_20 ?_
  refine lv_iload_n hx hb dX10_starts_23 rfl (lv_at hl 1 rfl) ?_
  refine lv_aload_n hx hb dX10_starts_24 rfl (lv_at hl 0 rfl) ?_
  refine ti_get (ci := 10) (k := 3) (N := 67) (T := TX10) (v := .ref (A 60 4)) C hw iw_10 rfl ob_60 (by decide) (by decide) fl_X10_13 rfl rfl dX10_starts_25 ?_
  refine lv_bipush (v := 6) hx hb dX10_starts_28 (by decide) ?_
  refine ti_iald (ci := 10) (k := 3) (n := 22) C hw ob_60 (by decide) (fun _ _ => rfl) (by unfold vp_in; decide) dX10_starts_30 ?_
  refine lv_topi (fun x_4 ex_4 => ?_)
  have yx_4 : tY M_3 60 3 6 = x_4 := ((congrArg _ (by decide)).symm.trans ex_4.symm)
  have zx_4 : (tY M_3 60 3 6).toInt = x_4.toInt := by rw [yx_4]
  have wx_4 : tY M 60 3 6 = x_4 := (((cg (tY_nE hM_3 (nk (by decide))) 6).trans (cg (tY_nE hM_1 (nk (by decide))) 6))).symm.trans yx_4
  have zwx_4 : (tY M 60 3 6).toInt = x_4.toInt := by rw [wx_4]
  refine ti_iast (ci := 10) (k := 36) (n := 23) C hw ob_60 (by decide) (fun _ _ => rfl) (by unfold vp_in; decide) dX10_starts_31 (fun H locs hw => ?_)
  obtain ⟨M_5, hM_5⟩ : ∃ z : ti_M, z = uY M_3 60 36 (upd (tY M_3 60 36) (1 : Int32).toNatClampNeg x_4) := ⟨_, rfl⟩
  have hw := hw.to hM_5.symm
  have iM_5 : mI Tm M_5 := mI_up (i := 1) iM_3 hM_5 trivial
  refine lv_aload_n hx hb dX10_starts_32 rfl (lv_at hl 0 rfl) ?_
  refine ti_get (ci := 10) (k := 37) (N := 67) (T := TX10) (v := .ref (A 60 38)) C hw iw_10 rfl ob_60 (by decide) (by decide) fl_X10_78 rfl rfl dX10_starts_33 ?_
  refine lv_iload_n hx hb dX10_starts_36 rfl (lv_at hl 1 rfl) ?_
  refine lv_iconst (v := 0) hx hb dX10_starts_37 (by decide) ?_
  refine ti_iast (ci := 10) (k := 37) (n := 23) C hw ob_60 (by decide) (fun _ _ => rfl) (by unfold vp_in; decide) dX10_starts_38 (fun H locs hw => ?_)
  obtain ⟨M_6, hM_6⟩ : ∃ z : ti_M, z = uY M_5 60 37 (upd (tY M_5 60 37) (1 : Int32).toNatClampNeg 0) := ⟨_, rfl⟩
  have hw := hw.to hM_6.symm
  have iM_6 : mI Tm M_6 := mI_up (i := 1) iM_5 hM_6 trivial
  refine lv_aload_n hx hb dX10_starts_39 rfl (lv_at hl 0 rfl) ?_
  refine ti_get (ci := 10) (k := 38) (N := 67) (T := TX10) (v := .ref (A 60 39)) C hw iw_10 rfl ob_60 (by decide) (by decide) fl_X10_81 rfl rfl dX10_starts_40 ?_
  refine lv_iload_n hx hb dX10_starts_43 rfl (lv_at hl 1 rfl) ?_
  refine lv_iconst (v := 0) hx hb dX10_starts_44 (by decide) ?_
  refine ti_iast (ci := 10) (k := 38) (n := 23) C hw ob_60 (by decide) (fun _ _ => rfl) (by unfold vp_in; decide) dX10_starts_45 (fun H locs hw => ?_)
  obtain ⟨M_7, hM_7⟩ : ∃ z : ti_M, z = uY M_6 60 38 (upd (tY M_6 60 38) (1 : Int32).toNatClampNeg 0) := ⟨_, rfl⟩
  have hw := hw.to hM_7.symm
  have iM_7 : mI Tm M_7 := mI_up (i := 1) iM_6 hM_7 (ib_mk (lo := 0) (hi := 8) (by decide) (by decide))
  refine lv_iconst (v := 0) hx hb dX10_starts_46 (by decide) ?_
  refine lv_istore_n (lv' := [(2, .int 0), (0, .ref (A 60 0)), (1, .int 1)]) hx hb dX10_starts_47 rfl hl (by decide) rfl (fun ls hl => ?_)
  have hl_48_13 : ∀ (n_14 : Nat) (x_8 : Int32) (M_11 : ti_M) (H : Heap) (locs : List Loc) (ls : Array Slot), (8 - x_8.toInt : Int).toNat < n_14 → (0 ≤ x_8.toInt) → (x_8.toInt ≤ 8) → (mI Tm M_11) → (lk M_11 M) → (stq M M_11 1 x_8.toInt) → ti_H ti_LM D A cy H0 M_11 H locs → lv_has ls 4 [(2, .int x_8), (0, .ref (A 60 0)), (1, .int 1)] → W p l e (ti_rm 0) s m args below meth c H locs 0 0 Q (F0 m 48 ls []) := by
    intro n_14
    induction n_14 with
    | zero => intro x_8 M_11 H locs ls hf_14; exact absurd hf_14 (Nat.not_lt_zero _)
    | succ n_14 ih_14 =>
      intro x_8 M_11 H locs ls hf_14 b_9 b_10 iM_11 f_12 j_13 hw hl
      refine lv_iload_n hx hb dX10_starts_48 rfl (lv_at hl 0 rfl) ?_
      refine lv_aload_n hx hb dX10_starts_49 rfl (lv_at hl 1 rfl) ?_
      refine ti_get (ci := 10) (k := 3) (N := 67) (T := TX10) (v := .ref (A 60 4)) C hw iw_10 rfl ob_60 (by decide) (by decide) fl_X10_13 rfl rfl dX10_starts_50 ?_
      refine lv_iconst (v := 0) hx hb dX10_starts_53 (by decide) ?_
      refine ti_iald (ci := 10) (k := 3) (n := 22) C hw ob_60 (by decide) (fun _ _ => rfl) (by unfold vp_in; decide) dX10_starts_54 ?_
      refine lv_topi (fun x_15 ex_15 => ?_)
      have yx_15 : tY M_11 60 3 0 = x_15 := ((congrArg _ (by decide)).symm.trans ex_15.symm)
      have bx_15 : 0 ≤ x_15.toInt ∧ x_15.toInt ≤ 8 := mI_rn (i := 0) iM_11 yx_15.symm (fun _ h => h)
      have zx_15 : (tY M_11 60 3 0).toInt = x_15.toInt := by rw [yx_15]
      have wx_15 : tY M 60 3 0 = x_15 := ((cg (f_12.1 3 (by decide) (by decide)) 0)).symm.trans yx_15
      have zwx_15 : (tY M 60 3 0).toInt = x_15.toInt := by rw [wx_15]
      refine sb_icmp_ge (tgt := 150) hx hb rfl rfl dX10_starts_55 (by decide) (fun c_55_15 => ?_) (fun c_55_15 => ?_)
      · refine lv_iconst (v := 0) hx hb dX10_starts_150 (by decide) ?_
        refine lv_istore_n (lv' := [(2, .int 0), (0, .ref (A 60 0)), (1, .int 1)]) hx hb dX10_starts_151 rfl hl (by decide) rfl (fun ls hl => ?_)
        have hl_152_36 : ∀ (n_37 : Nat) (x_31 : Int32) (M_34 : ti_M) (H : Heap) (locs : List Loc) (ls : Array Slot), (3 - x_31.toInt : Int).toNat < n_37 → (0 ≤ x_31.toInt) → (x_31.toInt ≤ 3) → (mI Tm M_34) → (lk M_34 M) → (stq M M_34 1 (tY M 60 3 0).toInt) → ti_H ti_LM D A cy H0 M_34 H locs → lv_has ls 4 [(2, .int x_31), (0, .ref (A 60 0)), (1, .int 1)] → W p l e (ti_rm 0) s m args below meth c H locs 0 0 Q (F0 m 152 ls []) := by
          intro n_37
          induction n_37 with
          | zero => intro x_31 M_34 H locs ls hf_37; exact absurd hf_37 (Nat.not_lt_zero _)
          | succ n_37 ih_37 =>
            intro x_31 M_34 H locs ls hf_37 b_32 b_33 iM_34 f_35 j_36 hw hl
            refine lv_iload_n hx hb dX10_starts_152 rfl (lv_at hl 0 rfl) ?_
            refine lv_iconst (v := 3) hx hb dX10_starts_153 (by decide) ?_
            refine sb_icmp_ge (tgt := 182) hx hb rfl (by decide : (3 : Int32).toInt = 3) dX10_starts_154 (by decide) (fun c_154_37 => ?_) (fun c_154_37 => ?_)
            · have jj := q_start hI j_36 f_35
              exact hQ _ _ _ _ _ hw (⟨iM_34, jj.1, jj.2.1, jj.2.2⟩) dX10_starts_182
            · refine lv_aload_n hx hb dX10_starts_157 rfl (lv_at hl 1 rfl) ?_
              refine ti_get (ci := 10) (k := 49) (N := 67) (T := TX10) (v := .ref (A 60 50)) C hw iw_10 rfl ob_60 (by decide) (by decide) fl_X10_114 rfl rfl dX10_starts_158 ?_
              refine lv_iconst (v := 3) hx hb dX10_starts_161 (by decide) ?_
              refine lv_iload_n hx hb dX10_starts_162 rfl (lv_at hl 2 rfl) ?_
              refine lv_imul hx hb dX10_starts_163 ?_
              refine ti_top (y := 3) (by decide) ?_
              refine lv_iload_n hx hb dX10_starts_164 rfl (lv_at hl 0 rfl) ?_
              refine lv_iadd hx hb dX10_starts_165 ?_
              refine lv_topi (fun x_39 ex_39 => ?_)
              have tx_39 : x_39.toInt = 3 + x_31.toInt := i_add ex_39 (by decide : (3 : Int32).toInt = 3) rfl (by omega) (by omega)
              refine lv_aload_n hx hb dX10_starts_166 rfl (lv_at hl 1 rfl) ?_
              refine ti_get (ci := 10) (k := 3) (N := 67) (T := TX10) (v := .ref (A 60 4)) C hw iw_10 rfl ob_60 (by decide) (by decide) fl_X10_13 rfl rfl dX10_starts_167 ?_
              refine lv_bipush (v := 8) hx hb dX10_starts_170 (by decide) ?_
              refine lv_iload_n hx hb dX10_starts_172 rfl (lv_at hl 0 rfl) ?_
              refine lv_iadd hx hb dX10_starts_173 ?_
              refine lv_topi (fun x_40 ex_40 => ?_)
              have tx_40 : x_40.toInt = 8 + x_31.toInt := i_add ex_40 (by decide : (8 : Int32).toInt = 8) rfl (by omega) (by omega)
              refine ti_iald (ci := 10) (k := 3) (n := 22) C hw ob_60 (by decide) (fun _ _ => rfl) (vp_in_iff.mpr (by omega)) dX10_starts_174 ?_
              refine lv_topi (fun x_41 ex_41 => ?_)
              have yx_41 : tY M_34 60 3 x_40.toNatClampNeg = x_41 := (ex_41.symm)
              have bx_41 : 0 ≤ x_41.toInt ∧ x_41.toInt ≤ 7 := mI_rn (i := x_40.toNatClampNeg) iM_34 yx_41.symm (fun _ h => mN_p (by show 8 ≤ (x_40).toInt.toNat; omega) (by show (x_40).toInt.toNat ≤ 10; omega) h)
              have zx_41 : (tY M_34 60 3 x_40.toNatClampNeg).toInt = x_41.toInt := by rw [yx_41]
              have wx_41 : tY M 60 3 x_40.toNatClampNeg = x_41 := ((cg (f_35.1 3 (by decide) (by decide)) x_40.toNatClampNeg)).symm.trans yx_41
              have zwx_41 : (tY M 60 3 x_40.toNatClampNeg).toInt = x_41.toInt := by rw [wx_41]
              refine ti_iast (ci := 10) (k := 49) (n := 69) C hw ob_60 (by decide) (fun _ _ => rfl) (vp_in_iff.mpr (by omega)) dX10_starts_175 (fun H locs hw => ?_)
              obtain ⟨M_42, hM_42⟩ : ∃ z : ti_M, z = uY M_34 60 49 (upd (tY M_34 60 49) (x_39 : Int32).toNatClampNeg x_41) := ⟨_, rfl⟩
              have hw := hw.to hM_42.symm
              have iM_42 : mI Tm M_42 := mI_up (i := x_39.toNatClampNeg) iM_34 hM_42 (ib_mk (lo := 0) (hi := 7) (by omega) (by omega))
              obtain ⟨x_43, ex_43⟩ : ∃ z : Int32, z = x_31 + 1 := ⟨_, rfl⟩
              have tx_43 : x_43.toInt = x_31.toInt + 1 := i_add ex_43 rfl (by decide) (by omega) (by omega)
              refine lv_iinc (v := x_43) (lv' := [(2, .int x_43), (0, .ref (A 60 0)), (1, .int 1)]) hx hb dX10_starts_176 hl (k := 0) rfl (by rw [ex_43]; rfl) (by decide) rfl (fun ls hl => ?_)
              refine lv_goto (tgt := 152) hx hb dX10_starts_179 (by decide) ?_
              exact ih_37 x_43 M_42 _ _ _ (by omega) (by first | omega | decide) (by first | omega | decide) iM_42 (lk.trans (lk_Y hM_42 (by decide)) f_35) (stq_qw j_36 (qw_Y hM_42 (by decide))) hw (lv_sub hl [0, 1, 2] rfl)
        exact hl_152_36 ((3 - 0 : Int).toNat + 1) 0 M_11 _ _ _ (Nat.lt_succ_self _) (by have lt0 : (0 : Int32).toInt = 0 := (by decide); first | omega | decide) (by have lt0 : (0 : Int32).toInt = 0 := (by decide); first | omega | decide) iM_11 f_12 (stq_le j_13 (by omega)) hw (lv_sub hl [0, 1, 2] rfl)
      · refine lv_bipush (v := 8) hx hb dX10_starts_58 (by decide) ?_
        refine lv_iload_n hx hb dX10_starts_60 rfl (lv_at hl 2 rfl) ?_
        refine lv_imul hx hb dX10_starts_61 ?_
        refine ti_top (y := 8) (by decide) ?_
        refine lv_iload_n hx hb dX10_starts_62 rfl (lv_at hl 0 rfl) ?_
        refine lv_iadd hx hb dX10_starts_63 ?_
        refine lv_topi (fun x_17 ex_17 => ?_)
        have tx_17 : x_17.toInt = 8 + x_8.toInt := i_add ex_17 (by decide : (8 : Int32).toInt = 8) rfl (by omega) (by omega)
        refine lv_istore_n (lv' := [(3, .int x_17), (2, .int x_8), (0, .ref (A 60 0)), (1, .int 1)]) hx hb dX10_starts_64 rfl hl (by decide) rfl (fun ls hl => ?_)
        refine lv_aload_n hx hb dX10_starts_65 rfl (lv_at hl 2 rfl) ?_
        refine ti_get (ci := 10) (k := 40) (N := 67) (T := TX10) (v := .ref (A 60 41)) C hw iw_10 rfl ob_60 (by decide) (by decide) fl_X10_87 rfl rfl dX10_starts_66 ?_
        refine lv_iload_n hx hb dX10_starts_69 rfl (lv_at hl 0 rfl) ?_
        refine lv_iconst (v := 0) hx hb dX10_starts_70 (by decide) ?_
        refine ti_iast (ci := 10) (k := 40) (n := 184) C hw ob_60 (by decide) (fun _ _ => rfl) (vp_in_iff.mpr (by omega)) dX10_starts_71 (fun H locs hw => ?_)
        obtain ⟨M_18, hM_18⟩ : ∃ z : ti_M, z = uY M_11 60 40 (upd (tY M_11 60 40) (x_17 : Int32).toNatClampNeg 0) := ⟨_, rfl⟩
        have hw := hw.to hM_18.symm
        have iM_18 : mI Tm M_18 := mI_up (i := x_17.toNatClampNeg) iM_11 hM_18 trivial
        refine lv_aload_n hx hb dX10_starts_72 rfl (lv_at hl 2 rfl) ?_
        refine ti_get (ci := 10) (k := 41) (N := 67) (T := TX10) (v := .ref (A 60 42)) C hw iw_10 rfl ob_60 (by decide) (by decide) fl_X10_90 rfl rfl dX10_starts_73 ?_
        refine lv_iload_n hx hb dX10_starts_76 rfl (lv_at hl 0 rfl) ?_
        refine lv_aload_n hx hb dX10_starts_77 rfl (lv_at hl 2 rfl) ?_
        refine ti_get (ci := 10) (k := 7) (N := 67) (T := TX10) (v := .ref (A 60 8)) C hw iw_10 rfl ob_60 (by decide) (by decide) fl_X10_25 rfl rfl dX10_starts_78 ?_
        refine lv_iload_n hx hb dX10_starts_81 rfl (lv_at hl 1 rfl) ?_
        refine ti_iald (ci := 10) (k := 7) (n := 16) C hw ob_60 (by decide) (fun _ _ => rfl) (vp_in_iff.mpr (by omega)) dX10_starts_82 ?_
        refine lv_topi (fun x_19 ex_19 => ?_)
        have yx_19 : tY M_18 60 7 x_8.toNatClampNeg = x_19 := (ex_19.symm)
        have wx_19 : tY M 60 7 x_8.toNatClampNeg = x_19 := (((cg (tY_nE hM_18 (nk (by decide))) x_8.toNatClampNeg).trans (cg (f_12.1 7 (by decide) (by decide)) x_8.toNatClampNeg))).symm.trans yx_19
        refine ti_iast (ci := 10) (k := 41) (n := 184) C hw ob_60 (by decide) (fun _ _ => rfl) (vp_in_iff.mpr (by omega)) dX10_starts_83 (fun H locs hw => ?_)
        obtain ⟨M_20, hM_20⟩ : ∃ z : ti_M, z = uY M_18 60 41 (upd (tY M_18 60 41) (x_17 : Int32).toNatClampNeg x_19) := ⟨_, rfl⟩
        have hw := hw.to hM_20.symm
        have iM_20 : mI Tm M_20 := mI_up (i := x_17.toNatClampNeg) iM_18 hM_20 trivial
        refine lv_aload_n hx hb dX10_starts_84 rfl (lv_at hl 2 rfl) ?_
        refine ti_get (ci := 10) (k := 42) (N := 67) (T := TX10) (v := .ref (A 60 43)) C hw iw_10 rfl ob_60 (by decide) (by decide) fl_X10_93 rfl rfl dX10_starts_85 ?_
        refine lv_iload_n hx hb dX10_starts_88 rfl (lv_at hl 0 rfl) ?_
        refine lv_iconst (v := 0) hx hb dX10_starts_89 (by decide) ?_
        refine ti_iast (ci := 10) (k := 42) (n := 184) C hw ob_60 (by decide) (fun _ _ => rfl) (vp_in_iff.mpr (by omega)) dX10_starts_90 (fun H locs hw => ?_)
        obtain ⟨M_21, hM_21⟩ : ∃ z : ti_M, z = uY M_20 60 42 (upd (tY M_20 60 42) (x_17 : Int32).toNatClampNeg 0) := ⟨_, rfl⟩
        have hw := hw.to hM_21.symm
        have iM_21 : mI Tm M_21 := mI_up (i := x_17.toNatClampNeg) iM_20 hM_21 trivial
        refine lv_aload_n hx hb dX10_starts_91 rfl (lv_at hl 2 rfl) ?_
        refine ti_get (ci := 10) (k := 43) (N := 67) (T := TX10) (v := .ref (A 60 44)) C hw iw_10 rfl ob_60 (by decide) (by decide) fl_X10_96 rfl rfl dX10_starts_92 ?_
        refine lv_iload_n hx hb dX10_starts_95 rfl (lv_at hl 0 rfl) ?_
        refine lv_aload_n hx hb dX10_starts_96 rfl (lv_at hl 2 rfl) ?_
        refine ti_get (ci := 10) (k := 9) (N := 67) (T := TX10) (v := .ref (A 60 10)) C hw iw_10 rfl ob_60 (by decide) (by decide) fl_X10_31 rfl rfl dX10_starts_97 ?_
        refine lv_iload_n hx hb dX10_starts_100 rfl (lv_at hl 1 rfl) ?_
        refine ti_iald (ci := 10) (k := 9) (n := 16) C hw ob_60 (by decide) (fun _ _ => rfl) (vp_in_iff.mpr (by omega)) dX10_starts_101 ?_
        refine lv_topi (fun x_22 ex_22 => ?_)
        have yx_22 : tY M_21 60 9 x_8.toNatClampNeg = x_22 := (ex_22.symm)
        have wx_22 : tY M 60 9 x_8.toNatClampNeg = x_22 := (((cg (tY_nE hM_21 (nk (by decide))) x_8.toNatClampNeg).trans ((cg (tY_nE hM_20 (nk (by decide))) x_8.toNatClampNeg).trans ((cg (tY_nE hM_18 (nk (by decide))) x_8.toNatClampNeg).trans (cg (f_12.1 9 (by decide) (by decide)) x_8.toNatClampNeg))))).symm.trans yx_22
        refine ti_iast (ci := 10) (k := 43) (n := 184) C hw ob_60 (by decide) (fun _ _ => rfl) (vp_in_iff.mpr (by omega)) dX10_starts_102 (fun H locs hw => ?_)
        obtain ⟨M_23, hM_23⟩ : ∃ z : ti_M, z = uY M_21 60 43 (upd (tY M_21 60 43) (x_17 : Int32).toNatClampNeg x_22) := ⟨_, rfl⟩
        have hw := hw.to hM_23.symm
        have iM_23 : mI Tm M_23 := mI_up (i := x_17.toNatClampNeg) iM_21 hM_23 trivial
        refine lv_aload_n hx hb dX10_starts_103 rfl (lv_at hl 2 rfl) ?_
        refine ti_get (ci := 10) (k := 44) (N := 67) (T := TX10) (v := .ref (A 60 45)) C hw iw_10 rfl ob_60 (by decide) (by decide) fl_X10_99 rfl rfl dX10_starts_104 ?_
        refine lv_iload_n hx hb dX10_starts_107 rfl (lv_at hl 0 rfl) ?_
        refine lv_aload_n hx hb dX10_starts_108 rfl (lv_at hl 2 rfl) ?_
        refine ti_get (ci := 10) (k := 11) (N := 67) (T := TX10) (v := .ref (A 60 12)) C hw iw_10 rfl ob_60 (by decide) (by decide) fl_X10_37 rfl rfl dX10_starts_109 ?_
        refine lv_iload_n hx hb dX10_starts_112 rfl (lv_at hl 1 rfl) ?_
        refine ti_iald (ci := 10) (k := 11) (n := 16) C hw ob_60 (by decide) (fun _ _ => rfl) (vp_in_iff.mpr (by omega)) dX10_starts_113 ?_
        refine lv_topi (fun x_24 ex_24 => ?_)
        have yx_24 : tY M_23 60 11 x_8.toNatClampNeg = x_24 := (ex_24.symm)
        have wx_24 : tY M 60 11 x_8.toNatClampNeg = x_24 := (((cg (tY_nE hM_23 (nk (by decide))) x_8.toNatClampNeg).trans ((cg (tY_nE hM_21 (nk (by decide))) x_8.toNatClampNeg).trans ((cg (tY_nE hM_20 (nk (by decide))) x_8.toNatClampNeg).trans ((cg (tY_nE hM_18 (nk (by decide))) x_8.toNatClampNeg).trans (cg (f_12.1 11 (by decide) (by decide)) x_8.toNatClampNeg)))))).symm.trans yx_24
        refine ti_iast (ci := 10) (k := 44) (n := 184) C hw ob_60 (by decide) (fun _ _ => rfl) (vp_in_iff.mpr (by omega)) dX10_starts_114 (fun H locs hw => ?_)
        obtain ⟨M_25, hM_25⟩ : ∃ z : ti_M, z = uY M_23 60 44 (upd (tY M_23 60 44) (x_17 : Int32).toNatClampNeg x_24) := ⟨_, rfl⟩
        have hw := hw.to hM_25.symm
        have iM_25 : mI Tm M_25 := mI_up (i := x_17.toNatClampNeg) iM_23 hM_25 trivial
        refine lv_aload_n hx hb dX10_starts_115 rfl (lv_at hl 2 rfl) ?_
        refine ti_get (ci := 10) (k := 45) (N := 67) (T := TX10) (v := .ref (A 60 46)) C hw iw_10 rfl ob_60 (by decide) (by decide) fl_X10_102 rfl rfl dX10_starts_116 ?_
        refine lv_iload_n hx hb dX10_starts_119 rfl (lv_at hl 0 rfl) ?_
        refine lv_iconst (v := 0) hx hb dX10_starts_120 (by decide) ?_
        refine ti_iast (ci := 10) (k := 45) (n := 184) C hw ob_60 (by decide) (fun _ _ => rfl) (vp_in_iff.mpr (by omega)) dX10_starts_121 (fun H locs hw => ?_)
        obtain ⟨M_26, hM_26⟩ : ∃ z : ti_M, z = uY M_25 60 45 (upd (tY M_25 60 45) (x_17 : Int32).toNatClampNeg 0) := ⟨_, rfl⟩
        have hw := hw.to hM_26.symm
        have iM_26 : mI Tm M_26 := mI_up (i := x_17.toNatClampNeg) iM_25 hM_26 trivial
        refine lv_aload_n hx hb dX10_starts_122 rfl (lv_at hl 2 rfl) ?_
        refine ti_get (ci := 10) (k := 46) (N := 67) (T := TX10) (v := .ref (A 60 47)) C hw iw_10 rfl ob_60 (by decide) (by decide) fl_X10_105 rfl rfl dX10_starts_123 ?_
        refine lv_iload_n hx hb dX10_starts_126 rfl (lv_at hl 0 rfl) ?_
        refine lv_iconst (v := 0) hx hb dX10_starts_127 (by decide) ?_
        refine ti_iast (ci := 10) (k := 46) (n := 184) C hw ob_60 (by decide) (fun _ _ => rfl) (vp_in_iff.mpr (by omega)) dX10_starts_128 (fun H locs hw => ?_)
        obtain ⟨M_27, hM_27⟩ : ∃ z : ti_M, z = uY M_26 60 46 (upd (tY M_26 60 46) (x_17 : Int32).toNatClampNeg 0) := ⟨_, rfl⟩
        have hw := hw.to hM_27.symm
        have iM_27 : mI Tm M_27 := mI_up (i := x_17.toNatClampNeg) iM_26 hM_27 trivial
        refine lv_aload_n hx hb dX10_starts_129 rfl (lv_at hl 2 rfl) ?_
        refine ti_get (ci := 10) (k := 47) (N := 67) (T := TX10) (v := .ref (A 60 48)) C hw iw_10 rfl ob_60 (by decide) (by decide) fl_X10_108 rfl rfl dX10_starts_130 ?_
        refine lv_iload_n hx hb dX10_starts_133 rfl (lv_at hl 0 rfl) ?_
        refine lv_iconst (v := 0) hx hb dX10_starts_134 (by decide) ?_
        refine ti_iast (ci := 10) (k := 47) (n := 184) C hw ob_60 (by decide) (fun _ _ => rfl) (vp_in_iff.mpr (by omega)) dX10_starts_135 (fun H locs hw => ?_)
        obtain ⟨M_28, hM_28⟩ : ∃ z : ti_M, z = uY M_27 60 47 (upd (tY M_27 60 47) (x_17 : Int32).toNatClampNeg 0) := ⟨_, rfl⟩
        have hw := hw.to hM_28.symm
        have iM_28 : mI Tm M_28 := mI_up (i := x_17.toNatClampNeg) iM_27 hM_28 trivial
        refine lv_aload_n hx hb dX10_starts_136 rfl (lv_at hl 2 rfl) ?_
        refine ti_get (ci := 10) (k := 48) (N := 67) (T := TX10) (v := .ref (A 60 49)) C hw iw_10 rfl ob_60 (by decide) (by decide) fl_X10_111 rfl rfl dX10_starts_137 ?_
        refine lv_iload_n hx hb dX10_starts_140 rfl (lv_at hl 0 rfl) ?_
        refine lv_bipush (v := (-2)) hx hb dX10_starts_141 (by decide) ?_
        refine ti_iast (ci := 10) (k := 48) (n := 184) C hw ob_60 (by decide) (fun _ _ => rfl) (vp_in_iff.mpr (by omega)) dX10_starts_143 (fun H locs hw => ?_)
        obtain ⟨M_29, hM_29⟩ : ∃ z : ti_M, z = uY M_28 60 48 (upd (tY M_28 60 48) (x_17 : Int32).toNatClampNeg (-2)) := ⟨_, rfl⟩
        have hw := hw.to hM_29.symm
        have iM_29 : mI Tm M_29 := mI_up (i := x_17.toNatClampNeg) iM_28 hM_29 trivial
        obtain ⟨x_30, ex_30⟩ : ∃ z : Int32, z = x_8 + 1 := ⟨_, rfl⟩
        have tx_30 : x_30.toInt = x_8.toInt + 1 := i_add ex_30 rfl (by decide) (by omega) (by omega)
        refine lv_iinc (v := x_30) (lv' := [(2, .int x_30), (3, .int x_17), (0, .ref (A 60 0)), (1, .int 1)]) hx hb dX10_starts_144 hl (k := 1) rfl (by rw [ex_30]; rfl) (by decide) rfl (fun ls hl => ?_)
        refine lv_goto (tgt := 48) hx hb dX10_starts_147 (by decide) ?_
        exact ih_14 x_30 M_29 _ _ _ (by omega) (by first | omega | decide) (by first | omega | decide) iM_29 (lk.trans (lk_Y hM_29 (by decide)) (lk.trans (lk_Y hM_28 (by decide)) (lk.trans (lk_Y hM_27 (by decide)) (lk.trans (lk_Y hM_26 (by decide)) (lk.trans (lk_Y hM_25 (by decide)) (lk.trans (lk_Y hM_23 (by decide)) (lk.trans (lk_Y hM_21 (by decide)) (lk.trans (lk_Y hM_20 (by decide)) (lk.trans (lk_Y hM_18 (by decide)) f_12))))))))) (stq_s j_13 hM_18 (qw.trans (qw_Y hM_29 (by decide)) (qw.trans (qw_Y hM_28 (by decide)) (qw.trans (qw_Y hM_27 (by decide)) (qw.trans (qw_Y hM_26 (by decide)) (qw.trans (qw_Y hM_25 (by decide)) (qw.trans (qw_Y hM_23 (by decide)) (qw.trans (qw_Y hM_21 (by decide)) (qw_Y hM_20 (by decide))))))))) (by show ((x_17.toInt.toNat : Nat) : Int) = _; omega) (by omega) (by omega) (by omega)) hw (lv_sub hl [0, 2, 3] rfl)
  exact hl_48_13 ((8 - 0 : Int).toNat + 1) 0 M_7 _ _ _ (Nat.lt_succ_self _) (by have lt0 : (0 : Int32).toInt = 0 := (by decide); first | omega | decide) (by have lt0 : (0 : Int32).toInt = 0 := (by decide); first | omega | decide) iM_7 (lk.trans (lk_Y hM_7 (by decide)) (lk.trans (lk_Y hM_6 (by decide)) (lk.trans (lk_Y hM_5 (by decide)) (lk.trans (lk_Y hM_3 (by decide)) (lk_Y hM_1 (by decide)))))) (stq_0 (qw.trans (qw_Y hM_6 (by decide)) (qw.trans (qw_Y hM_5 (by decide)) (qw.trans (qw_Y hM_3 (by decide)) (qw_Y hM_1 (by decide))))) hM_7 (by decide)) hw (lv_sub hl [0, 1, 2] rfl)
set_option maxHeartbeats 4000000 in
set_option maxRecDepth 100000 in
theorem s_X10_copies (l : Launch) (D : va_G) (A : Nat → Nat → Nat) (cy : Nat → ClassId) (hJ : ti_inj ti_LM A) (M : ti_M) (hI : mI Tm M) (to as : Int32) (h1 : 0 ≤ to.toInt) (h2 : to.toInt ≤ 22) (h3 : 0 ≤ as.toInt) (h4 : as.toInt ≤ 22) (h5 : as.toInt ≠ 1) (h6 : to.toInt ≠ as.toInt) : ti_Kv l yX10_copies cX10_copies 6 0 ti_LM D A cy M [.ref (A 60 0), .int to, .int as] (fun M2 => mI Tm M2 ∧ lk M2 M ∧ cq to.toNatClampNeg as.toNatClampNeg M2 M) := by
  refine ti_eV yp_X10_copies hJ ti_LM_nd (Nat.le_of_ble_eq_true rfl) ?_
  intro p e s m args below meth c Q H0 C hQ hw ls hl
  have hx := C.1
  have hb := C.2.1
  have hl : lv_has ls 6 [(0, .ref (A 60 0)), (1, .int to), (2, .int as)] := hl
  refine lv_aload_n hx hb dX10_copies_0 rfl (lv_at hl 0 rfl) ?_
  refine ti_get (ci := 10) (k := 34) (N := 67) (T := TX10) (v := .ref (A 60 35)) C hw iw_10 rfl ob_60 (by decide) (by decide) fl_X10_69 rfl rfl dX10_copies_1 ?_
  refine lv_iload_n hx hb dX10_copies_4 rfl (lv_at hl 1 rfl) ?_
  refine lv_aload_n hx hb dX10_copies_5 rfl (lv_at hl 0 rfl) ?_
  refine ti_get (ci := 10) (k := 34) (N := 67) (T := TX10) (v := .ref (A 60 35)) C hw iw_10 rfl ob_60 (by decide) (by decide) fl_X10_69 rfl rfl dX10_copies_6 ?_
  refine lv_iload_n hx hb dX10_copies_9 rfl (lv_at hl 2 rfl) ?_
  refine ti_iald (ci := 10) (k := 34) (n := 23) C hw ob_60 (by decide) (fun _ _ => rfl) (vp_in_iff.mpr (by omega)) dX10_copies_10 ?_
  refine lv_topi (fun x_1 ex_1 => ?_)
  have yx_1 : tY M 60 34 as.toNatClampNeg = x_1 := (ex_1.symm)
  have bx_1 : 0 ≤ x_1.toInt ∧ x_1.toInt ≤ 120 := mI_ry (k := 34) (i := as.toNatClampNeg) hI yx_1.symm (by show as.toInt.toNat ≠ 1; omega)
  have zx_1 : (tY M 60 34 as.toNatClampNeg).toInt = x_1.toInt := by rw [yx_1]
  refine ti_iast (ci := 10) (k := 34) (n := 23) C hw ob_60 (by decide) (fun _ _ => rfl) (vp_in_iff.mpr (by omega)) dX10_copies_11 (fun H locs hw => ?_)
  obtain ⟨M_2, hM_2⟩ : ∃ z : ti_M, z = uY M 60 34 (upd (tY M 60 34) (to : Int32).toNatClampNeg x_1) := ⟨_, rfl⟩
  have hw := hw.to hM_2.symm
  have iM_2 : mI Tm M_2 := mI_up (i := to.toNatClampNeg) hI hM_2 (fun _ => (ib_mk (lo := 0) (hi := 120) (by omega) (by omega)))
  refine lv_aload_n hx hb dX10_copies_12 rfl (lv_at hl 0 rfl) ?_
  refine ti_get (ci := 10) (k := 35) (N := 67) (T := TX10) (v := .ref (A 60 36)) C hw iw_10 rfl ob_60 (by decide) (by decide) fl_X10_72 rfl rfl dX10_copies_13 ?_
  refine lv_iload_n hx hb dX10_copies_16 rfl (lv_at hl 1 rfl) ?_
  refine lv_aload_n hx hb dX10_copies_17 rfl (lv_at hl 0 rfl) ?_
  refine ti_get (ci := 10) (k := 35) (N := 67) (T := TX10) (v := .ref (A 60 36)) C hw iw_10 rfl ob_60 (by decide) (by decide) fl_X10_72 rfl rfl dX10_copies_18 ?_
  refine lv_iload_n hx hb dX10_copies_21 rfl (lv_at hl 2 rfl) ?_
  refine ti_iald (ci := 10) (k := 35) (n := 23) C hw ob_60 (by decide) (fun _ _ => rfl) (vp_in_iff.mpr (by omega)) dX10_copies_22 ?_
  refine lv_topi (fun x_3 ex_3 => ?_)
  have yx_3 : tY M_2 60 35 as.toNatClampNeg = x_3 := (ex_3.symm)
  have wx_3 : tY M 60 35 as.toNatClampNeg = x_3 := ((cg (tY_nE hM_2 (nk (by decide))) as.toNatClampNeg)).symm.trans yx_3
  refine ti_iast (ci := 10) (k := 35) (n := 23) C hw ob_60 (by decide) (fun _ _ => rfl) (vp_in_iff.mpr (by omega)) dX10_copies_23 (fun H locs hw => ?_)
  obtain ⟨M_4, hM_4⟩ : ∃ z : ti_M, z = uY M_2 60 35 (upd (tY M_2 60 35) (to : Int32).toNatClampNeg x_3) := ⟨_, rfl⟩
  have hw := hw.to hM_4.symm
  have iM_4 : mI Tm M_4 := mI_up (i := to.toNatClampNeg) iM_2 hM_4 trivial
  refine lv_aload_n hx hb dX10_copies_24 rfl (lv_at hl 0 rfl) ?_
  refine ti_get (ci := 10) (k := 36) (N := 67) (T := TX10) (v := .ref (A 60 37)) C hw iw_10 rfl ob_60 (by decide) (by decide) fl_X10_75 rfl rfl dX10_copies_25 ?_
  refine lv_iload_n hx hb dX10_copies_28 rfl (lv_at hl 1 rfl) ?_
  refine lv_aload_n hx hb dX10_copies_29 rfl (lv_at hl 0 rfl) ?_
  refine ti_get (ci := 10) (k := 36) (N := 67) (T := TX10) (v := .ref (A 60 37)) C hw iw_10 rfl ob_60 (by decide) (by decide) fl_X10_75 rfl rfl dX10_copies_30 ?_
  refine lv_iload_n hx hb dX10_copies_33 rfl (lv_at hl 2 rfl) ?_
  refine ti_iald (ci := 10) (k := 36) (n := 23) C hw ob_60 (by decide) (fun _ _ => rfl) (vp_in_iff.mpr (by omega)) dX10_copies_34 ?_
  refine lv_topi (fun x_5 ex_5 => ?_)
  have yx_5 : tY M_4 60 36 as.toNatClampNeg = x_5 := (ex_5.symm)
  have wx_5 : tY M 60 36 as.toNatClampNeg = x_5 := (((cg (tY_nE hM_4 (nk (by decide))) as.toNatClampNeg).trans (cg (tY_nE hM_2 (nk (by decide))) as.toNatClampNeg))).symm.trans yx_5
  refine ti_iast (ci := 10) (k := 36) (n := 23) C hw ob_60 (by decide) (fun _ _ => rfl) (vp_in_iff.mpr (by omega)) dX10_copies_35 (fun H locs hw => ?_)
  obtain ⟨M_6, hM_6⟩ : ∃ z : ti_M, z = uY M_4 60 36 (upd (tY M_4 60 36) (to : Int32).toNatClampNeg x_5) := ⟨_, rfl⟩
  have hw := hw.to hM_6.symm
  have iM_6 : mI Tm M_6 := mI_up (i := to.toNatClampNeg) iM_4 hM_6 trivial
  refine lv_aload_n hx hb dX10_copies_36 rfl (lv_at hl 0 rfl) ?_
  refine ti_get (ci := 10) (k := 37) (N := 67) (T := TX10) (v := .ref (A 60 38)) C hw iw_10 rfl ob_60 (by decide) (by decide) fl_X10_78 rfl rfl dX10_copies_37 ?_
  refine lv_iload_n hx hb dX10_copies_40 rfl (lv_at hl 1 rfl) ?_
  refine lv_aload_n hx hb dX10_copies_41 rfl (lv_at hl 0 rfl) ?_
  refine ti_get (ci := 10) (k := 37) (N := 67) (T := TX10) (v := .ref (A 60 38)) C hw iw_10 rfl ob_60 (by decide) (by decide) fl_X10_78 rfl rfl dX10_copies_42 ?_
  refine lv_iload_n hx hb dX10_copies_45 rfl (lv_at hl 2 rfl) ?_
  refine ti_iald (ci := 10) (k := 37) (n := 23) C hw ob_60 (by decide) (fun _ _ => rfl) (vp_in_iff.mpr (by omega)) dX10_copies_46 ?_
  refine lv_topi (fun x_7 ex_7 => ?_)
  have yx_7 : tY M_6 60 37 as.toNatClampNeg = x_7 := (ex_7.symm)
  have wx_7 : tY M 60 37 as.toNatClampNeg = x_7 := (((cg (tY_nE hM_6 (nk (by decide))) as.toNatClampNeg).trans ((cg (tY_nE hM_4 (nk (by decide))) as.toNatClampNeg).trans (cg (tY_nE hM_2 (nk (by decide))) as.toNatClampNeg)))).symm.trans yx_7
  refine ti_iast (ci := 10) (k := 37) (n := 23) C hw ob_60 (by decide) (fun _ _ => rfl) (vp_in_iff.mpr (by omega)) dX10_copies_47 (fun H locs hw => ?_)
  obtain ⟨M_8, hM_8⟩ : ∃ z : ti_M, z = uY M_6 60 37 (upd (tY M_6 60 37) (to : Int32).toNatClampNeg x_7) := ⟨_, rfl⟩
  have hw := hw.to hM_8.symm
  have iM_8 : mI Tm M_8 := mI_up (i := to.toNatClampNeg) iM_6 hM_8 trivial
  refine lv_aload_n hx hb dX10_copies_48 rfl (lv_at hl 0 rfl) ?_
  refine ti_get (ci := 10) (k := 38) (N := 67) (T := TX10) (v := .ref (A 60 39)) C hw iw_10 rfl ob_60 (by decide) (by decide) fl_X10_81 rfl rfl dX10_copies_49 ?_
  refine lv_iload_n hx hb dX10_copies_52 rfl (lv_at hl 1 rfl) ?_
  refine lv_aload_n hx hb dX10_copies_53 rfl (lv_at hl 0 rfl) ?_
  refine ti_get (ci := 10) (k := 38) (N := 67) (T := TX10) (v := .ref (A 60 39)) C hw iw_10 rfl ob_60 (by decide) (by decide) fl_X10_81 rfl rfl dX10_copies_54 ?_
  refine lv_iload_n hx hb dX10_copies_57 rfl (lv_at hl 2 rfl) ?_
  refine ti_iald (ci := 10) (k := 38) (n := 23) C hw ob_60 (by decide) (fun _ _ => rfl) (vp_in_iff.mpr (by omega)) dX10_copies_58 ?_
  refine lv_topi (fun x_9 ex_9 => ?_)
  have yx_9 : tY M_8 60 38 as.toNatClampNeg = x_9 := (ex_9.symm)
  have bx_9 : 0 ≤ x_9.toInt ∧ x_9.toInt ≤ 8 := mI_ry (k := 38) (i := as.toNatClampNeg) iM_8 yx_9.symm
  have zx_9 : (tY M_8 60 38 as.toNatClampNeg).toInt = x_9.toInt := by rw [yx_9]
  have wx_9 : tY M 60 38 as.toNatClampNeg = x_9 := (((cg (tY_nE hM_8 (nk (by decide))) as.toNatClampNeg).trans ((cg (tY_nE hM_6 (nk (by decide))) as.toNatClampNeg).trans ((cg (tY_nE hM_4 (nk (by decide))) as.toNatClampNeg).trans (cg (tY_nE hM_2 (nk (by decide))) as.toNatClampNeg))))).symm.trans yx_9
  have zwx_9 : (tY M 60 38 as.toNatClampNeg).toInt = x_9.toInt := by rw [wx_9]
  refine ti_iast (ci := 10) (k := 38) (n := 23) C hw ob_60 (by decide) (fun _ _ => rfl) (vp_in_iff.mpr (by omega)) dX10_copies_59 (fun H locs hw => ?_)
  obtain ⟨M_10, hM_10⟩ : ∃ z : ti_M, z = uY M_8 60 38 (upd (tY M_8 60 38) (to : Int32).toNatClampNeg x_9) := ⟨_, rfl⟩
  have hw := hw.to hM_10.symm
  have iM_10 : mI Tm M_10 := mI_up (i := to.toNatClampNeg) iM_8 hM_10 (ib_mk (lo := 0) (hi := 8) (by omega) (by omega))
  refine lv_iconst (v := 0) hx hb dX10_copies_60 (by decide) ?_
  refine lv_istore_n (lv' := [(3, .int 0), (0, .ref (A 60 0)), (1, .int to), (2, .int as)]) hx hb dX10_copies_61 rfl hl (by decide) rfl (fun ls hl => ?_)
  have hl_62_16 : ∀ (n_17 : Nat) (x_11 : Int32) (M_14 : ti_M) (H : Heap) (locs : List Loc) (ls : Array Slot), (8 - x_11.toInt : Int).toNat < n_17 → (0 ≤ x_11.toInt) → (x_11.toInt ≤ 8) → (mI Tm M_14) → (lk M_14 M) → (cpq M M_14 to.toNatClampNeg as.toNatClampNeg x_11.toInt) → ti_H ti_LM D A cy H0 M_14 H locs → lv_has ls 6 [(3, .int x_11), (0, .ref (A 60 0)), (1, .int to), (2, .int as)] → W p l e (ti_rm 0) s m args below meth c H locs 0 0 Q (F0 m 62 ls []) := by
    intro n_17
    induction n_17 with
    | zero => intro x_11 M_14 H locs ls hf_17; exact absurd hf_17 (Nat.not_lt_zero _)
    | succ n_17 ih_17 =>
      intro x_11 M_14 H locs ls hf_17 b_12 b_13 iM_14 f_15 j_16 hw hl
      refine lv_iload_n hx hb dX10_copies_62 rfl (lv_at hl 0 rfl) ?_
      refine lv_bipush (v := 8) hx hb dX10_copies_63 (by decide) ?_
      refine sb_icmp_ge (tgt := 230) hx hb rfl (by decide : (8 : Int32).toInt = 8) dX10_copies_65 (by decide) (fun c_65_17 => ?_) (fun c_65_17 => ?_)
      · refine lv_iconst (v := 0) hx hb dX10_copies_230 (by decide) ?_
        refine lv_istore_n (lv' := [(3, .int 0), (0, .ref (A 60 0)), (1, .int to), (2, .int as)]) hx hb dX10_copies_231 rfl hl (by decide) rfl (fun ls hl => ?_)
        have hl_232_49 : ∀ (n_50 : Nat) (x_44 : Int32) (M_47 : ti_M) (H : Heap) (locs : List Loc) (ls : Array Slot), (3 - x_44.toInt : Int).toNat < n_50 → (0 ≤ x_44.toInt) → (x_44.toInt ≤ 3) → (mI Tm M_47) → (lk M_47 M) → (cpq M M_47 to.toNatClampNeg as.toNatClampNeg 8) → ti_H ti_LM D A cy H0 M_47 H locs → lv_has ls 6 [(3, .int x_44), (0, .ref (A 60 0)), (1, .int to), (2, .int as)] → W p l e (ti_rm 0) s m args below meth c H locs 0 0 Q (F0 m 232 ls []) := by
          intro n_50
          induction n_50 with
          | zero => intro x_44 M_47 H locs ls hf_50; exact absurd hf_50 (Nat.not_lt_zero _)
          | succ n_50 ih_50 =>
            intro x_44 M_47 H locs ls hf_50 b_45 b_46 iM_47 f_48 j_49 hw hl
            refine lv_iload_n hx hb dX10_copies_232 rfl (lv_at hl 0 rfl) ?_
            refine lv_iconst (v := 3) hx hb dX10_copies_233 (by decide) ?_
            refine sb_icmp_ge (tgt := 263) hx hb rfl (by decide : (3 : Int32).toInt = 3) dX10_copies_234 (by decide) (fun c_234_50 => ?_) (fun c_234_50 => ?_)
            · exact hQ _ _ _ _ _ hw (⟨iM_47, f_48, q_copy hI j_49 f_48⟩) dX10_copies_263
            · refine lv_aload_n hx hb dX10_copies_237 rfl (lv_at hl 1 rfl) ?_
              refine ti_get (ci := 10) (k := 49) (N := 67) (T := TX10) (v := .ref (A 60 50)) C hw iw_10 rfl ob_60 (by decide) (by decide) fl_X10_114 rfl rfl dX10_copies_238 ?_
              refine lv_iconst (v := 3) hx hb dX10_copies_241 (by decide) ?_
              refine lv_iload_n hx hb dX10_copies_242 rfl (lv_at hl 2 rfl) ?_
              refine lv_imul hx hb dX10_copies_243 ?_
              refine lv_topi (fun x_52 ex_52 => ?_)
              have tx_52 : x_52.toInt = 3 * to.toInt := i_mul ex_52 (by decide : (3 : Int32).toInt = 3) rfl (by omega) (by omega)
              refine lv_iload_n hx hb dX10_copies_244 rfl (lv_at hl 0 rfl) ?_
              refine lv_iadd hx hb dX10_copies_245 ?_
              refine lv_topi (fun x_53 ex_53 => ?_)
              have tx_53 : x_53.toInt = x_52.toInt + x_44.toInt := i_add ex_53 rfl rfl (by omega) (by omega)
              refine lv_aload_n hx hb dX10_copies_246 rfl (lv_at hl 1 rfl) ?_
              refine ti_get (ci := 10) (k := 49) (N := 67) (T := TX10) (v := .ref (A 60 50)) C hw iw_10 rfl ob_60 (by decide) (by decide) fl_X10_114 rfl rfl dX10_copies_247 ?_
              refine lv_iconst (v := 3) hx hb dX10_copies_250 (by decide) ?_
              refine lv_iload_n hx hb dX10_copies_251 rfl (lv_at hl 3 rfl) ?_
              refine lv_imul hx hb dX10_copies_252 ?_
              refine lv_topi (fun x_54 ex_54 => ?_)
              have tx_54 : x_54.toInt = 3 * as.toInt := i_mul ex_54 (by decide : (3 : Int32).toInt = 3) rfl (by omega) (by omega)
              refine lv_iload_n hx hb dX10_copies_253 rfl (lv_at hl 0 rfl) ?_
              refine lv_iadd hx hb dX10_copies_254 ?_
              refine lv_topi (fun x_55 ex_55 => ?_)
              have tx_55 : x_55.toInt = x_54.toInt + x_44.toInt := i_add ex_55 rfl rfl (by omega) (by omega)
              refine ti_iald (ci := 10) (k := 49) (n := 69) C hw ob_60 (by decide) (fun _ _ => rfl) (vp_in_iff.mpr (by omega)) dX10_copies_255 ?_
              refine lv_topi (fun x_56 ex_56 => ?_)
              have yx_56 : tY M_47 60 49 x_55.toNatClampNeg = x_56 := (ex_56.symm)
              have bx_56 : 0 ≤ x_56.toInt ∧ x_56.toInt ≤ 7 := mI_ry (k := 49) (i := x_55.toNatClampNeg) iM_47 yx_56.symm
              refine ti_iast (ci := 10) (k := 49) (n := 69) C hw ob_60 (by decide) (fun _ _ => rfl) (vp_in_iff.mpr (by omega)) dX10_copies_256 (fun H locs hw => ?_)
              obtain ⟨M_57, hM_57⟩ : ∃ z : ti_M, z = uY M_47 60 49 (upd (tY M_47 60 49) (x_53 : Int32).toNatClampNeg x_56) := ⟨_, rfl⟩
              have hw := hw.to hM_57.symm
              have iM_57 : mI Tm M_57 := mI_up (i := x_53.toNatClampNeg) iM_47 hM_57 (ib_mk (lo := 0) (hi := 7) (by omega) (by omega))
              obtain ⟨x_58, ex_58⟩ : ∃ z : Int32, z = x_44 + 1 := ⟨_, rfl⟩
              have tx_58 : x_58.toInt = x_44.toInt + 1 := i_add ex_58 rfl (by decide) (by omega) (by omega)
              refine lv_iinc (v := x_58) (lv' := [(3, .int x_58), (0, .ref (A 60 0)), (1, .int to), (2, .int as)]) hx hb dX10_copies_257 hl (k := 0) rfl (by rw [ex_58]; rfl) (by decide) rfl (fun ls hl => ?_)
              refine lv_goto (tgt := 232) hx hb dX10_copies_260 (by decide) ?_
              exact ih_50 x_58 M_57 _ _ _ (by omega) (by first | omega | decide) (by first | omega | decide) iM_57 (lk.trans (lk_Y hM_57 (by decide)) f_48) (cpq_qw j_49 (qw_Y hM_57 (by decide))) hw (lv_sub hl [0, 1, 2, 3] rfl)
        exact hl_232_49 ((3 - 0 : Int).toNat + 1) 0 M_14 _ _ _ (Nat.lt_succ_self _) (by have lt0 : (0 : Int32).toInt = 0 := (by decide); first | omega | decide) (by have lt0 : (0 : Int32).toInt = 0 := (by decide); first | omega | decide) iM_14 f_15 (by have h := j_16; rwa [show x_11.toInt = 8 by omega] at h) hw (lv_sub hl [0, 1, 2, 3] rfl)
      · refine lv_bipush (v := 8) hx hb dX10_copies_68 (by decide) ?_
        refine lv_iload_n hx hb dX10_copies_70 rfl (lv_at hl 2 rfl) ?_
        refine lv_imul hx hb dX10_copies_71 ?_
        refine lv_topi (fun x_19 ex_19 => ?_)
        have tx_19 : x_19.toInt = 8 * to.toInt := i_mul ex_19 (by decide : (8 : Int32).toInt = 8) rfl (by omega) (by omega)
        refine lv_iload_n hx hb dX10_copies_72 rfl (lv_at hl 0 rfl) ?_
        refine lv_iadd hx hb dX10_copies_73 ?_
        refine lv_topi (fun x_20 ex_20 => ?_)
        have tx_20 : x_20.toInt = x_19.toInt + x_11.toInt := i_add ex_20 rfl rfl (by omega) (by omega)
        refine lv_istore (lv' := [(4, .int x_20), (3, .int x_11), (0, .ref (A 60 0)), (1, .int to), (2, .int as)]) hx hb dX10_copies_74 hl (by decide) rfl (fun ls hl => ?_)
        refine lv_bipush (v := 8) hx hb dX10_copies_76 (by decide) ?_
        refine lv_iload_n hx hb dX10_copies_78 rfl (lv_at hl 4 rfl) ?_
        refine lv_imul hx hb dX10_copies_79 ?_
        refine lv_topi (fun x_21 ex_21 => ?_)
        have tx_21 : x_21.toInt = 8 * as.toInt := i_mul ex_21 (by decide : (8 : Int32).toInt = 8) rfl (by omega) (by omega)
        refine lv_iload_n hx hb dX10_copies_80 rfl (lv_at hl 1 rfl) ?_
        refine lv_iadd hx hb dX10_copies_81 ?_
        refine lv_topi (fun x_22 ex_22 => ?_)
        have tx_22 : x_22.toInt = x_21.toInt + x_11.toInt := i_add ex_22 rfl rfl (by omega) (by omega)
        refine lv_istore (lv' := [(5, .int x_22), (4, .int x_20), (3, .int x_11), (0, .ref (A 60 0)), (1, .int to), (2, .int as)]) hx hb dX10_copies_82 hl (by decide) rfl (fun ls hl => ?_)
        refine lv_aload_n hx hb dX10_copies_84 rfl (lv_at hl 3 rfl) ?_
        refine ti_get (ci := 10) (k := 39) (N := 67) (T := TX10) (v := .ref (A 60 40)) C hw iw_10 rfl ob_60 (by decide) (by decide) fl_X10_84 rfl rfl dX10_copies_85 ?_
        refine lv_iload hx hb dX10_copies_88 (lv_at hl 1 rfl) ?_
        refine lv_aload_n hx hb dX10_copies_90 rfl (lv_at hl 3 rfl) ?_
        refine ti_get (ci := 10) (k := 39) (N := 67) (T := TX10) (v := .ref (A 60 40)) C hw iw_10 rfl ob_60 (by decide) (by decide) fl_X10_84 rfl rfl dX10_copies_91 ?_
        refine lv_iload hx hb dX10_copies_94 (lv_at hl 0 rfl) ?_
        refine ti_iald (ci := 10) (k := 39) (n := 184) C hw ob_60 (by decide) (fun _ _ => rfl) (vp_in_iff.mpr (by omega)) dX10_copies_96 ?_
        refine lv_topi (fun x_23 ex_23 => ?_)
        have yx_23 : tY M_14 60 39 x_22.toNatClampNeg = x_23 := (ex_23.symm)
        have bx_23 : 0 ≤ x_23.toInt ∧ x_23.toInt ≤ 7 := mI_ry (k := 39) (i := x_22.toNatClampNeg) iM_14 yx_23.symm
        refine ti_iast (ci := 10) (k := 39) (n := 184) C hw ob_60 (by decide) (fun _ _ => rfl) (vp_in_iff.mpr (by omega)) dX10_copies_97 (fun H locs hw => ?_)
        obtain ⟨M_24, hM_24⟩ : ∃ z : ti_M, z = uY M_14 60 39 (upd (tY M_14 60 39) (x_20 : Int32).toNatClampNeg x_23) := ⟨_, rfl⟩
        have hw := hw.to hM_24.symm
        have iM_24 : mI Tm M_24 := mI_up (i := x_20.toNatClampNeg) iM_14 hM_24 (ib_mk (lo := 0) (hi := 7) (by omega) (by omega))
        refine lv_aload_n hx hb dX10_copies_98 rfl (lv_at hl 3 rfl) ?_
        refine ti_get (ci := 10) (k := 40) (N := 67) (T := TX10) (v := .ref (A 60 41)) C hw iw_10 rfl ob_60 (by decide) (by decide) fl_X10_87 rfl rfl dX10_copies_99 ?_
        refine lv_iload hx hb dX10_copies_102 (lv_at hl 1 rfl) ?_
        refine lv_aload_n hx hb dX10_copies_104 rfl (lv_at hl 3 rfl) ?_
        refine ti_get (ci := 10) (k := 40) (N := 67) (T := TX10) (v := .ref (A 60 41)) C hw iw_10 rfl ob_60 (by decide) (by decide) fl_X10_87 rfl rfl dX10_copies_105 ?_
        refine lv_iload hx hb dX10_copies_108 (lv_at hl 0 rfl) ?_
        refine ti_iald (ci := 10) (k := 40) (n := 184) C hw ob_60 (by decide) (fun _ _ => rfl) (vp_in_iff.mpr (by omega)) dX10_copies_110 ?_
        refine lv_topi (fun x_25 ex_25 => ?_)
        have yx_25 : tY M_24 60 40 x_22.toNatClampNeg = x_25 := (ex_25.symm)
        have zx_25 : (tY M_24 60 40 x_22.toNatClampNeg).toInt = x_25.toInt := by rw [yx_25]
        have wx_25 : tY M_14 60 40 x_22.toNatClampNeg = x_25 := ((cg (tY_nE hM_24 (nk (by decide))) x_22.toNatClampNeg)).symm.trans yx_25
        have zwx_25 : (tY M_14 60 40 x_22.toNatClampNeg).toInt = x_25.toInt := by rw [wx_25]
        refine ti_iast (ci := 10) (k := 40) (n := 184) C hw ob_60 (by decide) (fun _ _ => rfl) (vp_in_iff.mpr (by omega)) dX10_copies_111 (fun H locs hw => ?_)
        obtain ⟨M_26, hM_26⟩ : ∃ z : ti_M, z = uY M_24 60 40 (upd (tY M_24 60 40) (x_20 : Int32).toNatClampNeg x_25) := ⟨_, rfl⟩
        have hw := hw.to hM_26.symm
        have iM_26 : mI Tm M_26 := mI_up (i := x_20.toNatClampNeg) iM_24 hM_26 trivial
        refine lv_aload_n hx hb dX10_copies_112 rfl (lv_at hl 3 rfl) ?_
        refine ti_get (ci := 10) (k := 41) (N := 67) (T := TX10) (v := .ref (A 60 42)) C hw iw_10 rfl ob_60 (by decide) (by decide) fl_X10_90 rfl rfl dX10_copies_113 ?_
        refine lv_iload hx hb dX10_copies_116 (lv_at hl 1 rfl) ?_
        refine lv_aload_n hx hb dX10_copies_118 rfl (lv_at hl 3 rfl) ?_
        refine ti_get (ci := 10) (k := 41) (N := 67) (T := TX10) (v := .ref (A 60 42)) C hw iw_10 rfl ob_60 (by decide) (by decide) fl_X10_90 rfl rfl dX10_copies_119 ?_
        refine lv_iload hx hb dX10_copies_122 (lv_at hl 0 rfl) ?_
        refine ti_iald (ci := 10) (k := 41) (n := 184) C hw ob_60 (by decide) (fun _ _ => rfl) (vp_in_iff.mpr (by omega)) dX10_copies_124 ?_
        refine lv_topi (fun x_27 ex_27 => ?_)
        have yx_27 : tY M_26 60 41 x_22.toNatClampNeg = x_27 := (ex_27.symm)
        have wx_27 : tY M_14 60 41 x_22.toNatClampNeg = x_27 := (((cg (tY_nE hM_26 (nk (by decide))) x_22.toNatClampNeg).trans (cg (tY_nE hM_24 (nk (by decide))) x_22.toNatClampNeg))).symm.trans yx_27
        refine ti_iast (ci := 10) (k := 41) (n := 184) C hw ob_60 (by decide) (fun _ _ => rfl) (vp_in_iff.mpr (by omega)) dX10_copies_125 (fun H locs hw => ?_)
        obtain ⟨M_28, hM_28⟩ : ∃ z : ti_M, z = uY M_26 60 41 (upd (tY M_26 60 41) (x_20 : Int32).toNatClampNeg x_27) := ⟨_, rfl⟩
        have hw := hw.to hM_28.symm
        have iM_28 : mI Tm M_28 := mI_up (i := x_20.toNatClampNeg) iM_26 hM_28 trivial
        refine lv_aload_n hx hb dX10_copies_126 rfl (lv_at hl 3 rfl) ?_
        refine ti_get (ci := 10) (k := 42) (N := 67) (T := TX10) (v := .ref (A 60 43)) C hw iw_10 rfl ob_60 (by decide) (by decide) fl_X10_93 rfl rfl dX10_copies_127 ?_
        refine lv_iload hx hb dX10_copies_130 (lv_at hl 1 rfl) ?_
        refine lv_aload_n hx hb dX10_copies_132 rfl (lv_at hl 3 rfl) ?_
        refine ti_get (ci := 10) (k := 42) (N := 67) (T := TX10) (v := .ref (A 60 43)) C hw iw_10 rfl ob_60 (by decide) (by decide) fl_X10_93 rfl rfl dX10_copies_133 ?_
        refine lv_iload hx hb dX10_copies_136 (lv_at hl 0 rfl) ?_
        refine ti_iald (ci := 10) (k := 42) (n := 184) C hw ob_60 (by decide) (fun _ _ => rfl) (vp_in_iff.mpr (by omega)) dX10_copies_138 ?_
        refine lv_topi (fun x_29 ex_29 => ?_)
        have yx_29 : tY M_28 60 42 x_22.toNatClampNeg = x_29 := (ex_29.symm)
        have wx_29 : tY M_14 60 42 x_22.toNatClampNeg = x_29 := (((cg (tY_nE hM_28 (nk (by decide))) x_22.toNatClampNeg).trans ((cg (tY_nE hM_26 (nk (by decide))) x_22.toNatClampNeg).trans (cg (tY_nE hM_24 (nk (by decide))) x_22.toNatClampNeg)))).symm.trans yx_29
        refine ti_iast (ci := 10) (k := 42) (n := 184) C hw ob_60 (by decide) (fun _ _ => rfl) (vp_in_iff.mpr (by omega)) dX10_copies_139 (fun H locs hw => ?_)
        obtain ⟨M_30, hM_30⟩ : ∃ z : ti_M, z = uY M_28 60 42 (upd (tY M_28 60 42) (x_20 : Int32).toNatClampNeg x_29) := ⟨_, rfl⟩
        have hw := hw.to hM_30.symm
        have iM_30 : mI Tm M_30 := mI_up (i := x_20.toNatClampNeg) iM_28 hM_30 trivial
        refine lv_aload_n hx hb dX10_copies_140 rfl (lv_at hl 3 rfl) ?_
        refine ti_get (ci := 10) (k := 43) (N := 67) (T := TX10) (v := .ref (A 60 44)) C hw iw_10 rfl ob_60 (by decide) (by decide) fl_X10_96 rfl rfl dX10_copies_141 ?_
        refine lv_iload hx hb dX10_copies_144 (lv_at hl 1 rfl) ?_
        refine lv_aload_n hx hb dX10_copies_146 rfl (lv_at hl 3 rfl) ?_
        refine ti_get (ci := 10) (k := 43) (N := 67) (T := TX10) (v := .ref (A 60 44)) C hw iw_10 rfl ob_60 (by decide) (by decide) fl_X10_96 rfl rfl dX10_copies_147 ?_
        refine lv_iload hx hb dX10_copies_150 (lv_at hl 0 rfl) ?_
        refine ti_iald (ci := 10) (k := 43) (n := 184) C hw ob_60 (by decide) (fun _ _ => rfl) (vp_in_iff.mpr (by omega)) dX10_copies_152 ?_
        refine lv_topi (fun x_31 ex_31 => ?_)
        have yx_31 : tY M_30 60 43 x_22.toNatClampNeg = x_31 := (ex_31.symm)
        have wx_31 : tY M_14 60 43 x_22.toNatClampNeg = x_31 := (((cg (tY_nE hM_30 (nk (by decide))) x_22.toNatClampNeg).trans ((cg (tY_nE hM_28 (nk (by decide))) x_22.toNatClampNeg).trans ((cg (tY_nE hM_26 (nk (by decide))) x_22.toNatClampNeg).trans (cg (tY_nE hM_24 (nk (by decide))) x_22.toNatClampNeg))))).symm.trans yx_31
        refine ti_iast (ci := 10) (k := 43) (n := 184) C hw ob_60 (by decide) (fun _ _ => rfl) (vp_in_iff.mpr (by omega)) dX10_copies_153 (fun H locs hw => ?_)
        obtain ⟨M_32, hM_32⟩ : ∃ z : ti_M, z = uY M_30 60 43 (upd (tY M_30 60 43) (x_20 : Int32).toNatClampNeg x_31) := ⟨_, rfl⟩
        have hw := hw.to hM_32.symm
        have iM_32 : mI Tm M_32 := mI_up (i := x_20.toNatClampNeg) iM_30 hM_32 trivial
        refine lv_aload_n hx hb dX10_copies_154 rfl (lv_at hl 3 rfl) ?_
        refine ti_get (ci := 10) (k := 44) (N := 67) (T := TX10) (v := .ref (A 60 45)) C hw iw_10 rfl ob_60 (by decide) (by decide) fl_X10_99 rfl rfl dX10_copies_155 ?_
        refine lv_iload hx hb dX10_copies_158 (lv_at hl 1 rfl) ?_
        refine lv_aload_n hx hb dX10_copies_160 rfl (lv_at hl 3 rfl) ?_
        refine ti_get (ci := 10) (k := 44) (N := 67) (T := TX10) (v := .ref (A 60 45)) C hw iw_10 rfl ob_60 (by decide) (by decide) fl_X10_99 rfl rfl dX10_copies_161 ?_
        refine lv_iload hx hb dX10_copies_164 (lv_at hl 0 rfl) ?_
        refine ti_iald (ci := 10) (k := 44) (n := 184) C hw ob_60 (by decide) (fun _ _ => rfl) (vp_in_iff.mpr (by omega)) dX10_copies_166 ?_
        refine lv_topi (fun x_33 ex_33 => ?_)
        have yx_33 : tY M_32 60 44 x_22.toNatClampNeg = x_33 := (ex_33.symm)
        have wx_33 : tY M_14 60 44 x_22.toNatClampNeg = x_33 := (((cg (tY_nE hM_32 (nk (by decide))) x_22.toNatClampNeg).trans ((cg (tY_nE hM_30 (nk (by decide))) x_22.toNatClampNeg).trans ((cg (tY_nE hM_28 (nk (by decide))) x_22.toNatClampNeg).trans ((cg (tY_nE hM_26 (nk (by decide))) x_22.toNatClampNeg).trans (cg (tY_nE hM_24 (nk (by decide))) x_22.toNatClampNeg)))))).symm.trans yx_33
        refine ti_iast (ci := 10) (k := 44) (n := 184) C hw ob_60 (by decide) (fun _ _ => rfl) (vp_in_iff.mpr (by omega)) dX10_copies_167 (fun H locs hw => ?_)
        obtain ⟨M_34, hM_34⟩ : ∃ z : ti_M, z = uY M_32 60 44 (upd (tY M_32 60 44) (x_20 : Int32).toNatClampNeg x_33) := ⟨_, rfl⟩
        have hw := hw.to hM_34.symm
        have iM_34 : mI Tm M_34 := mI_up (i := x_20.toNatClampNeg) iM_32 hM_34 trivial
        refine lv_aload_n hx hb dX10_copies_168 rfl (lv_at hl 3 rfl) ?_
        refine ti_get (ci := 10) (k := 45) (N := 67) (T := TX10) (v := .ref (A 60 46)) C hw iw_10 rfl ob_60 (by decide) (by decide) fl_X10_102 rfl rfl dX10_copies_169 ?_
        refine lv_iload hx hb dX10_copies_172 (lv_at hl 1 rfl) ?_
        refine lv_aload_n hx hb dX10_copies_174 rfl (lv_at hl 3 rfl) ?_
        refine ti_get (ci := 10) (k := 45) (N := 67) (T := TX10) (v := .ref (A 60 46)) C hw iw_10 rfl ob_60 (by decide) (by decide) fl_X10_102 rfl rfl dX10_copies_175 ?_
        refine lv_iload hx hb dX10_copies_178 (lv_at hl 0 rfl) ?_
        refine ti_iald (ci := 10) (k := 45) (n := 184) C hw ob_60 (by decide) (fun _ _ => rfl) (vp_in_iff.mpr (by omega)) dX10_copies_180 ?_
        refine lv_topi (fun x_35 ex_35 => ?_)
        have yx_35 : tY M_34 60 45 x_22.toNatClampNeg = x_35 := (ex_35.symm)
        have wx_35 : tY M_14 60 45 x_22.toNatClampNeg = x_35 := (((cg (tY_nE hM_34 (nk (by decide))) x_22.toNatClampNeg).trans ((cg (tY_nE hM_32 (nk (by decide))) x_22.toNatClampNeg).trans ((cg (tY_nE hM_30 (nk (by decide))) x_22.toNatClampNeg).trans ((cg (tY_nE hM_28 (nk (by decide))) x_22.toNatClampNeg).trans ((cg (tY_nE hM_26 (nk (by decide))) x_22.toNatClampNeg).trans (cg (tY_nE hM_24 (nk (by decide))) x_22.toNatClampNeg))))))).symm.trans yx_35
        refine ti_iast (ci := 10) (k := 45) (n := 184) C hw ob_60 (by decide) (fun _ _ => rfl) (vp_in_iff.mpr (by omega)) dX10_copies_181 (fun H locs hw => ?_)
        obtain ⟨M_36, hM_36⟩ : ∃ z : ti_M, z = uY M_34 60 45 (upd (tY M_34 60 45) (x_20 : Int32).toNatClampNeg x_35) := ⟨_, rfl⟩
        have hw := hw.to hM_36.symm
        have iM_36 : mI Tm M_36 := mI_up (i := x_20.toNatClampNeg) iM_34 hM_36 trivial
        refine lv_aload_n hx hb dX10_copies_182 rfl (lv_at hl 3 rfl) ?_
        refine ti_get (ci := 10) (k := 46) (N := 67) (T := TX10) (v := .ref (A 60 47)) C hw iw_10 rfl ob_60 (by decide) (by decide) fl_X10_105 rfl rfl dX10_copies_183 ?_
        refine lv_iload hx hb dX10_copies_186 (lv_at hl 1 rfl) ?_
        refine lv_aload_n hx hb dX10_copies_188 rfl (lv_at hl 3 rfl) ?_
        refine ti_get (ci := 10) (k := 46) (N := 67) (T := TX10) (v := .ref (A 60 47)) C hw iw_10 rfl ob_60 (by decide) (by decide) fl_X10_105 rfl rfl dX10_copies_189 ?_
        refine lv_iload hx hb dX10_copies_192 (lv_at hl 0 rfl) ?_
        refine ti_iald (ci := 10) (k := 46) (n := 184) C hw ob_60 (by decide) (fun _ _ => rfl) (vp_in_iff.mpr (by omega)) dX10_copies_194 ?_
        refine lv_topi (fun x_37 ex_37 => ?_)
        have yx_37 : tY M_36 60 46 x_22.toNatClampNeg = x_37 := (ex_37.symm)
        have wx_37 : tY M_14 60 46 x_22.toNatClampNeg = x_37 := (((cg (tY_nE hM_36 (nk (by decide))) x_22.toNatClampNeg).trans ((cg (tY_nE hM_34 (nk (by decide))) x_22.toNatClampNeg).trans ((cg (tY_nE hM_32 (nk (by decide))) x_22.toNatClampNeg).trans ((cg (tY_nE hM_30 (nk (by decide))) x_22.toNatClampNeg).trans ((cg (tY_nE hM_28 (nk (by decide))) x_22.toNatClampNeg).trans ((cg (tY_nE hM_26 (nk (by decide))) x_22.toNatClampNeg).trans (cg (tY_nE hM_24 (nk (by decide))) x_22.toNatClampNeg)))))))).symm.trans yx_37
        refine ti_iast (ci := 10) (k := 46) (n := 184) C hw ob_60 (by decide) (fun _ _ => rfl) (vp_in_iff.mpr (by omega)) dX10_copies_195 (fun H locs hw => ?_)
        obtain ⟨M_38, hM_38⟩ : ∃ z : ti_M, z = uY M_36 60 46 (upd (tY M_36 60 46) (x_20 : Int32).toNatClampNeg x_37) := ⟨_, rfl⟩
        have hw := hw.to hM_38.symm
        have iM_38 : mI Tm M_38 := mI_up (i := x_20.toNatClampNeg) iM_36 hM_38 trivial
        refine lv_aload_n hx hb dX10_copies_196 rfl (lv_at hl 3 rfl) ?_
        refine ti_get (ci := 10) (k := 47) (N := 67) (T := TX10) (v := .ref (A 60 48)) C hw iw_10 rfl ob_60 (by decide) (by decide) fl_X10_108 rfl rfl dX10_copies_197 ?_
        refine lv_iload hx hb dX10_copies_200 (lv_at hl 1 rfl) ?_
        refine lv_aload_n hx hb dX10_copies_202 rfl (lv_at hl 3 rfl) ?_
        refine ti_get (ci := 10) (k := 47) (N := 67) (T := TX10) (v := .ref (A 60 48)) C hw iw_10 rfl ob_60 (by decide) (by decide) fl_X10_108 rfl rfl dX10_copies_203 ?_
        refine lv_iload hx hb dX10_copies_206 (lv_at hl 0 rfl) ?_
        refine ti_iald (ci := 10) (k := 47) (n := 184) C hw ob_60 (by decide) (fun _ _ => rfl) (vp_in_iff.mpr (by omega)) dX10_copies_208 ?_
        refine lv_topi (fun x_39 ex_39 => ?_)
        have yx_39 : tY M_38 60 47 x_22.toNatClampNeg = x_39 := (ex_39.symm)
        have wx_39 : tY M_14 60 47 x_22.toNatClampNeg = x_39 := (((cg (tY_nE hM_38 (nk (by decide))) x_22.toNatClampNeg).trans ((cg (tY_nE hM_36 (nk (by decide))) x_22.toNatClampNeg).trans ((cg (tY_nE hM_34 (nk (by decide))) x_22.toNatClampNeg).trans ((cg (tY_nE hM_32 (nk (by decide))) x_22.toNatClampNeg).trans ((cg (tY_nE hM_30 (nk (by decide))) x_22.toNatClampNeg).trans ((cg (tY_nE hM_28 (nk (by decide))) x_22.toNatClampNeg).trans ((cg (tY_nE hM_26 (nk (by decide))) x_22.toNatClampNeg).trans (cg (tY_nE hM_24 (nk (by decide))) x_22.toNatClampNeg))))))))).symm.trans yx_39
        refine ti_iast (ci := 10) (k := 47) (n := 184) C hw ob_60 (by decide) (fun _ _ => rfl) (vp_in_iff.mpr (by omega)) dX10_copies_209 (fun H locs hw => ?_)
        obtain ⟨M_40, hM_40⟩ : ∃ z : ti_M, z = uY M_38 60 47 (upd (tY M_38 60 47) (x_20 : Int32).toNatClampNeg x_39) := ⟨_, rfl⟩
        have hw := hw.to hM_40.symm
        have iM_40 : mI Tm M_40 := mI_up (i := x_20.toNatClampNeg) iM_38 hM_40 trivial
        refine lv_aload_n hx hb dX10_copies_210 rfl (lv_at hl 3 rfl) ?_
        refine ti_get (ci := 10) (k := 48) (N := 67) (T := TX10) (v := .ref (A 60 49)) C hw iw_10 rfl ob_60 (by decide) (by decide) fl_X10_111 rfl rfl dX10_copies_211 ?_
        refine lv_iload hx hb dX10_copies_214 (lv_at hl 1 rfl) ?_
        refine lv_aload_n hx hb dX10_copies_216 rfl (lv_at hl 3 rfl) ?_
        refine ti_get (ci := 10) (k := 48) (N := 67) (T := TX10) (v := .ref (A 60 49)) C hw iw_10 rfl ob_60 (by decide) (by decide) fl_X10_111 rfl rfl dX10_copies_217 ?_
        refine lv_iload hx hb dX10_copies_220 (lv_at hl 0 rfl) ?_
        refine ti_iald (ci := 10) (k := 48) (n := 184) C hw ob_60 (by decide) (fun _ _ => rfl) (vp_in_iff.mpr (by omega)) dX10_copies_222 ?_
        refine lv_topi (fun x_41 ex_41 => ?_)
        have yx_41 : tY M_40 60 48 x_22.toNatClampNeg = x_41 := (ex_41.symm)
        have wx_41 : tY M_14 60 48 x_22.toNatClampNeg = x_41 := (((cg (tY_nE hM_40 (nk (by decide))) x_22.toNatClampNeg).trans ((cg (tY_nE hM_38 (nk (by decide))) x_22.toNatClampNeg).trans ((cg (tY_nE hM_36 (nk (by decide))) x_22.toNatClampNeg).trans ((cg (tY_nE hM_34 (nk (by decide))) x_22.toNatClampNeg).trans ((cg (tY_nE hM_32 (nk (by decide))) x_22.toNatClampNeg).trans ((cg (tY_nE hM_30 (nk (by decide))) x_22.toNatClampNeg).trans ((cg (tY_nE hM_28 (nk (by decide))) x_22.toNatClampNeg).trans ((cg (tY_nE hM_26 (nk (by decide))) x_22.toNatClampNeg).trans (cg (tY_nE hM_24 (nk (by decide))) x_22.toNatClampNeg)))))))))).symm.trans yx_41
        refine ti_iast (ci := 10) (k := 48) (n := 184) C hw ob_60 (by decide) (fun _ _ => rfl) (vp_in_iff.mpr (by omega)) dX10_copies_223 (fun H locs hw => ?_)
        obtain ⟨M_42, hM_42⟩ : ∃ z : ti_M, z = uY M_40 60 48 (upd (tY M_40 60 48) (x_20 : Int32).toNatClampNeg x_41) := ⟨_, rfl⟩
        have hw := hw.to hM_42.symm
        have iM_42 : mI Tm M_42 := mI_up (i := x_20.toNatClampNeg) iM_40 hM_42 trivial
        obtain ⟨x_43, ex_43⟩ : ∃ z : Int32, z = x_11 + 1 := ⟨_, rfl⟩
        have tx_43 : x_43.toInt = x_11.toInt + 1 := i_add ex_43 rfl (by decide) (by omega) (by omega)
        refine lv_iinc (v := x_43) (lv' := [(3, .int x_43), (5, .int x_22), (4, .int x_20), (0, .ref (A 60 0)), (1, .int to), (2, .int as)]) hx hb dX10_copies_224 hl (k := 2) rfl (by rw [ex_43]; rfl) (by decide) rfl (fun ls hl => ?_)
        refine lv_goto (tgt := 62) hx hb dX10_copies_227 (by decide) ?_
        exact ih_17 x_43 M_42 _ _ _ (by omega) (by first | omega | decide) (by first | omega | decide) iM_42 (lk.trans (lk_Y hM_42 (by decide)) (lk.trans (lk_Y hM_40 (by decide)) (lk.trans (lk_Y hM_38 (by decide)) (lk.trans (lk_Y hM_36 (by decide)) (lk.trans (lk_Y hM_34 (by decide)) (lk.trans (lk_Y hM_32 (by decide)) (lk.trans (lk_Y hM_30 (by decide)) (lk.trans (lk_Y hM_28 (by decide)) (lk.trans (lk_Y hM_26 (by decide)) (lk.trans (lk_Y hM_24 (by decide)) f_15)))))))))) (cpq_s j_16 hM_24 yx_23 hM_26 yx_25 (qw.trans (qw_Y hM_42 (by decide)) (qw.trans (qw_Y hM_40 (by decide)) (qw.trans (qw_Y hM_38 (by decide)) (qw.trans (qw_Y hM_36 (by decide)) (qw.trans (qw_Y hM_34 (by decide)) (qw.trans (qw_Y hM_32 (by decide)) (qw.trans (qw_Y hM_30 (by decide)) (qw_Y hM_28 (by decide))))))))) (by show ((x_20.toInt.toNat : Nat) : Int) = 8 * ((to.toInt.toNat : Nat) : Int) + _; omega) (by show ((x_22.toInt.toNat : Nat) : Int) = 8 * ((as.toInt.toNat : Nat) : Int) + _; omega) (by show to.toInt.toNat ≠ as.toInt.toNat; omega) (by omega) (by omega) (by omega)) hw (lv_sub hl [0, 3, 4, 5] rfl)
  exact hl_62_16 ((8 - 0 : Int).toNat + 1) 0 M_10 _ _ _ (Nat.lt_succ_self _) (by have lt0 : (0 : Int32).toInt = 0 := (by decide); first | omega | decide) (by have lt0 : (0 : Int32).toInt = 0 := (by decide); first | omega | decide) iM_10 (lk.trans (lk_Y hM_10 (by decide)) (lk.trans (lk_Y hM_8 (by decide)) (lk.trans (lk_Y hM_6 (by decide)) (lk.trans (lk_Y hM_4 (by decide)) (lk_Y hM_2 (by decide)))))) (cpq_0 (qw.trans (qw_Y hM_8 (by decide)) (qw.trans (qw_Y hM_6 (by decide)) (qw.trans (qw_Y hM_4 (by decide)) (qw_Y hM_2 (by decide))))) hM_10 rfl rfl (wx_9)) hw (lv_sub hl [0, 1, 2, 3] rfl)
set_option maxHeartbeats 4000000 in
set_option maxRecDepth 100000 in
theorem s_X10_copiesLog (l : Launch) (D : va_G) (A : Nat → Nat → Nat) (cy : Nat → ClassId) (hJ : ti_inj ti_LM A) (M : ti_M) (hI : mI Tm M) (to as : Int32) (h1 : 0 ≤ to.toInt) (h2 : to.toInt ≤ 1) (h3 : 0 ≤ as.toInt) (h4 : as.toInt ≤ 1) : ti_Kv l yX10_copiesLog cX10_copiesLog 4 0 ti_LM D A cy M [.ref (A 60 0), .int to, .int as] (fun M2 => mI Tm M2 ∧ qw M2 M) := by
  refine ti_eV yp_X10_copiesLog hJ ti_LM_nd (Nat.le_of_ble_eq_true rfl) ?_
  intro p e s m args below meth c Q H0 C hQ hw ls hl
  have hx := C.1
  have hb := C.2.1
  have hl : lv_has ls 4 [(0, .ref (A 60 0)), (1, .int to), (2, .int as)] := hl
  refine lv_iconst (v := 0) hx hb dX10_copiesLog_0 (by decide) ?_
  refine lv_istore_n (lv' := [(3, .int 0), (0, .ref (A 60 0)), (1, .int to), (2, .int as)]) hx hb dX10_copiesLog_1 rfl hl (by decide) rfl (fun ls hl => ?_)
  have hl_2_5 : ∀ (n_6 : Nat) (x_1 : Int32) (M_4 : ti_M) (H : Heap) (locs : List Loc) (ls : Array Slot), (360 - x_1.toInt : Int).toNat < n_6 → (0 ≤ x_1.toInt) → (x_1.toInt ≤ 360) → (mI Tm M_4) → (qw M_4 M) → ti_H ti_LM D A cy H0 M_4 H locs → lv_has ls 4 [(3, .int x_1), (0, .ref (A 60 0)), (1, .int to), (2, .int as)] → W p l e (ti_rm 0) s m args below meth c H locs 0 0 Q (F0 m 2 ls []) := by
    intro n_6
    induction n_6 with
    | zero => intro x_1 M_4 H locs ls hf_6; exact absurd hf_6 (Nat.not_lt_zero _)
    | succ n_6 ih_6 =>
      intro x_1 M_4 H locs ls hf_6 b_2 b_3 iM_4 f_5 hw hl
      refine lv_iload_n hx hb dX10_copiesLog_2 rfl (lv_at hl 0 rfl) ?_
      refine lv_sipush (v := 360) hx hb dX10_copiesLog_3 (by decide) ?_
      refine sb_icmp_ge (tgt := 39) hx hb rfl (by decide : (360 : Int32).toInt = 360) dX10_copiesLog_6 (by decide) (fun c_6_6 => ?_) (fun c_6_6 => ?_)
      · exact hQ _ _ _ _ _ hw (⟨iM_4, f_5⟩) dX10_copiesLog_39
      · refine lv_aload_n hx hb dX10_copiesLog_9 rfl (lv_at hl 1 rfl) ?_
        refine ti_get (ci := 10) (k := 50) (N := 67) (T := TX10) (v := .ref (A 60 51)) C hw iw_10 rfl ob_60 (by decide) (by decide) fl_X10_117 rfl rfl dX10_copiesLog_10 ?_
        refine lv_sipush (v := 360) hx hb dX10_copiesLog_13 (by decide) ?_
        refine lv_iload_n hx hb dX10_copiesLog_16 rfl (lv_at hl 2 rfl) ?_
        refine lv_imul hx hb dX10_copiesLog_17 ?_
        refine lv_topi (fun x_8 ex_8 => ?_)
        have tx_8 : x_8.toInt = 360 * to.toInt := i_mul ex_8 (by decide : (360 : Int32).toInt = 360) rfl (by omega) (by omega)
        refine lv_iload_n hx hb dX10_copiesLog_18 rfl (lv_at hl 0 rfl) ?_
        refine lv_iadd hx hb dX10_copiesLog_19 ?_
        refine lv_topi (fun x_9 ex_9 => ?_)
        have tx_9 : x_9.toInt = x_8.toInt + x_1.toInt := i_add ex_9 rfl rfl (by omega) (by omega)
        refine lv_aload_n hx hb dX10_copiesLog_20 rfl (lv_at hl 1 rfl) ?_
        refine ti_get (ci := 10) (k := 50) (N := 67) (T := TX10) (v := .ref (A 60 51)) C hw iw_10 rfl ob_60 (by decide) (by decide) fl_X10_117 rfl rfl dX10_copiesLog_21 ?_
        refine lv_sipush (v := 360) hx hb dX10_copiesLog_24 (by decide) ?_
        refine lv_iload_n hx hb dX10_copiesLog_27 rfl (lv_at hl 3 rfl) ?_
        refine lv_imul hx hb dX10_copiesLog_28 ?_
        refine lv_topi (fun x_10 ex_10 => ?_)
        have tx_10 : x_10.toInt = 360 * as.toInt := i_mul ex_10 (by decide : (360 : Int32).toInt = 360) rfl (by omega) (by omega)
        refine lv_iload_n hx hb dX10_copiesLog_29 rfl (lv_at hl 0 rfl) ?_
        refine lv_iadd hx hb dX10_copiesLog_30 ?_
        refine lv_topi (fun x_11 ex_11 => ?_)
        have tx_11 : x_11.toInt = x_10.toInt + x_1.toInt := i_add ex_11 rfl rfl (by omega) (by omega)
        refine ti_iald (ci := 10) (k := 50) (n := 720) C hw ob_60 (by decide) (fun _ _ => rfl) (vp_in_iff.mpr (by omega)) dX10_copiesLog_31 ?_
        refine lv_topi (fun x_12 ex_12 => ?_)
        have yx_12 : tY M_4 60 50 x_11.toNatClampNeg = x_12 := (ex_12.symm)
        refine ti_iast (ci := 10) (k := 50) (n := 720) C hw ob_60 (by decide) (fun _ _ => rfl) (vp_in_iff.mpr (by omega)) dX10_copiesLog_32 (fun H locs hw => ?_)
        obtain ⟨M_13, hM_13⟩ : ∃ z : ti_M, z = uY M_4 60 50 (upd (tY M_4 60 50) (x_9 : Int32).toNatClampNeg x_12) := ⟨_, rfl⟩
        have hw := hw.to hM_13.symm
        have iM_13 : mI Tm M_13 := mI_up (i := x_9.toNatClampNeg) iM_4 hM_13 trivial
        obtain ⟨x_14, ex_14⟩ : ∃ z : Int32, z = x_1 + 1 := ⟨_, rfl⟩
        have tx_14 : x_14.toInt = x_1.toInt + 1 := i_add ex_14 rfl (by decide) (by omega) (by omega)
        refine lv_iinc (v := x_14) (lv' := [(3, .int x_14), (0, .ref (A 60 0)), (1, .int to), (2, .int as)]) hx hb dX10_copiesLog_33 hl (k := 0) rfl (by rw [ex_14]; rfl) (by decide) rfl (fun ls hl => ?_)
        refine lv_goto (tgt := 2) hx hb dX10_copiesLog_36 (by decide) ?_
        exact ih_6 x_14 M_13 _ _ _ (by omega) (by first | omega | decide) (by first | omega | decide) iM_13 (qw.trans (qw_Y hM_13 (by decide)) f_5) hw (lv_sub hl [0, 1, 2, 3] rfl)
  exact hl_2_5 ((360 - 0 : Int).toNat + 1) 0 M _ _ _ (Nat.lt_succ_self _) (by have lt0 : (0 : Int32).toInt = 0 := (by decide); first | omega | decide) (by have lt0 : (0 : Int32).toInt = 0 := (by decide); first | omega | decide) hI qw.refl hw (lv_sub hl [0, 1, 2, 3] rfl)

section
variable {Tc : gC} {Tm : gM}
theorem mN_p {i : Nat} {v : Int32} (h1 : 8 ≤ i) (h2 : i ≤ 10) (h : mBN i v) : ib 0 7 v := by
  have : i = 8 ∨ i = 9 ∨ i = 10 := by omega
  rcases this with rfl | rfl | rfl <;> exact h
/-- a queue that begins: n of its men are to come -/
def stq (M N : ti_M) (q : Nat) (n : Int) : Prop := (tY N 60 38 q).toInt = 0 ∧ (∀ x, x ≠ q → tY N 60 38 x = tY M 60 38 x) ∧ tY N 60 39 = tY M 60 39 ∧ (∀ i : Nat, 8 * q ≤ i → (i : Int) < 8 * q + n → (tY N 60 40 i).toInt = 0) ∧ (∀ i : Nat, i < 8 * q ∨ 8 * q + 8 ≤ i → tY N 60 40 i = tY M 60 40 i)
theorem stq_0 {M N K : ti_M} {q i : Nat} (h : qw N M) (e : K = uY N 60 38 (upd (tY N 60 38) i 0)) (hi : i = q) : stq M K q 0 := by
  subst hi
  refine ⟨by rw [tY_uE e, pk_us]; decide, fun x hx => by rw [tY_uE e, pk_un hx, h.2.2.1], by rw [tY_nE e (nk (by decide))]; exact h.2.2.2.1, fun j h1 h2 => by omega, fun j _ => by rw [tY_nE e (nk (by decide)), h.2.2.2.2]⟩
theorem stq_qw {M N K : ti_M} {q : Nat} {n : Int} (h : stq M N q n) (w : qw K N) : stq M K q n := by
  unfold stq at *; rw [w.2.2.1, w.2.2.2.1, w.2.2.2.2]; exact h
theorem stq_s {M N K L : ti_M} {q i : Nat} {n n2 : Int} (h : stq M N q n) (e : K = uY N 60 40 (upd (tY N 60 40) i 0)) (w : qw L K) (hi : (i : Int) = 8 * q + n) (h0 : 0 ≤ n) (h8 : n < 8) (h2 : n2 = n + 1) : stq M L q n2 := by
  refine stq_qw (N := K) ?_ w
  obtain ⟨a, b, c, d, f⟩ := h
  refine ⟨by rw [tY_nE e (nk (by decide))]; exact a, fun x hx => by rw [tY_nE e (nk (by decide))]; exact b x hx, by rw [tY_nE e (nk (by decide))]; exact c, fun j h1 h3 => ?_, fun j hj => ?_⟩
  · rw [tY_uE e]
    by_cases q : j = i
    · subst q; rw [pk_us]; decide
    · rw [pk_un q]; exact d j h1 (by omega)
  · rw [tY_uE e, pk_un (by omega)]; exact f j hj
theorem stq_le {M N : ti_M} {q : Nat} {n m : Int} (h : stq M N q n) (hm : m ≤ n) : stq M N q m := ⟨h.1, h.2.1, h.2.2.1, fun i h1 h2 => h.2.2.2.1 i h1 (by omega), h.2.2.2.2⟩
theorem q_start {M N : ti_M} {q : Nat} (hI : mI Tm M) (h : stq M N q (tY M 60 3 0).toInt) (hl : lk N M) : rq q N M ∧ mC N q ∧ mP N q := by
  obtain ⟨a, b, c, d, f⟩ := h
  have h3 : tY N 60 3 = tY M 60 3 := hl.1 3 (by decide) (by decide)
  have hp : mP N q := by
    intro m hm hmn hw
    rw [h3] at hmn
    have := d (8 * q + m) (by omega) (by omega)
    omega
  have hb : ∀ x, 0 ≤ (tY M 60 38 x).toInt ∧ (tY M 60 38 x).toInt ≤ 8 := fun x => hI.2.1 38 x
  refine ⟨⟨hl.1, hl.2, fun q2 => ⟨fun hne g => ?_, fun g => ?_⟩, fun hne => b 0 (Ne.symm hne)⟩, ?_, hp⟩
  · unfold mC at g ⊢
    rw [b q2 hne, zc_eq (f := tY N 60 40) (g := tY M 60 40) (b := 8 * q2) (c := 8 * q2) (fun j hj => f _ (by omega))]; exact g
  · by_cases e : q2 = q
    · subst e; exact hp
    · intro m hm hmn hw
      rw [h3] at hmn
      rw [f _ (by omega)] at hw
      obtain ⟨p, h1, h2⟩ := g m hm hmn hw
      exact ⟨p, by rw [b q2 e]; exact h1, by rw [c]; exact h2⟩
  · unfold mC
    have := zc_8 (tY N 60 40) (8 * q)
    omega
def cpr (f g : Nat → Int32) (to as : Nat) (k : Int) : Prop := ∀ i : Nat, g i = if 8 * to ≤ i ∧ (i : Int) < 8 * to + k then f (i - 8 * to + 8 * as) else f i
theorem cpr_s {f g : Nat → Int32} {to as i j : Nat} {k k2 : Int} {v : Int32} (h : cpr f g to as k) (hv : g j = v) (hi : (i : Int) = 8 * to + k) (hj : (j : Int) = 8 * as + k) (hne : to ≠ as) (h0 : 0 ≤ k) (h8 : k < 8) (h2 : k2 = k + 1) : cpr f (upd g i v) to as k2 := by
  intro x
  by_cases q : x = i
  · subst q
    rw [pk_us, if_pos (by omega), ← hv, h j, if_neg (by omega), show j = x - 8 * to + 8 * as by omega]
  · rw [pk_un q, h x]
    by_cases c : 8 * to ≤ x ∧ (x : Int) < 8 * to + k
    · rw [if_pos c, if_pos (by omega)]
    · rw [if_neg c, if_neg (by omega)]
def cpq (M N : ti_M) (to as : Nat) (k : Int) : Prop := tY N 60 38 to = tY M 60 38 as ∧ (∀ x, x ≠ to → tY N 60 38 x = tY M 60 38 x) ∧ cpr (tY M 60 39) (tY N 60 39) to as k ∧ cpr (tY M 60 40) (tY N 60 40) to as k
theorem cpq_qw {M N K : ti_M} {to as : Nat} {n : Int} (h : cpq M N to as n) (w : qw K N) : cpq M K to as n := by
  unfold cpq at *; rw [w.2.2.1, w.2.2.2.1, w.2.2.2.2]; exact h
theorem cpq_0 {M N K : ti_M} {to as i j : Nat} {v : Int32} (h : qw N M) (e : K = uY N 60 38 (upd (tY N 60 38) i v)) (hi : i = to) (hj : j = as) (hv : tY M 60 38 j = v) : cpq M K to as 0 := by
  subst hi; subst hj
  refine ⟨by rw [tY_uE e, pk_us]; exact hv.symm, fun x hx => by rw [tY_uE e, pk_un hx, h.2.2.1], fun x => ?_, fun x => ?_⟩
  · rw [tY_nE e (nk (by decide)), h.2.2.2.1, if_neg (by omega)]
  · rw [tY_nE e (nk (by decide)), h.2.2.2.2, if_neg (by omega)]
theorem cpq_s {M N N1 N2 K : ti_M} {to as i j : Nat} {k k2 : Int} {v w : Int32} (h : cpq M N to as k) (e1 : N1 = uY N 60 39 (upd (tY N 60 39) i v)) (hv : tY N 60 39 j = v) (e2 : N2 = uY N1 60 40 (upd (tY N1 60 40) i w)) (hw : tY N1 60 40 j = w) (hq : qw K N2) (hi : (i : Int) = 8 * to + k) (hj : (j : Int) = 8 * as + k) (hne : to ≠ as) (h0 : 0 ≤ k) (h8 : k < 8) (h2 : k2 = k + 1) : cpq M K to as k2 := by
  refine cpq_qw (N := N2) ?_ hq
  obtain ⟨a, b, c, d⟩ := h
  have r : tY N1 60 40 = tY N 60 40 := tY_nE e1 (nk (by decide))
  have r8 : tY N2 60 38 = tY N 60 38 := (tY_nE e2 (nk (by decide))).trans (tY_nE e1 (nk (by decide)))
  refine ⟨by rw [r8]; exact a, fun x hx => by rw [r8]; exact b x hx, ?_, ?_⟩
  · rw [tY_nE e2 (nk (by decide)), tY_uE e1]; exact cpr_s c hv hi hj hne h0 h8 h2
  · rw [tY_uE e2, r]; rw [r] at hw; exact cpr_s d hw hi hj hne h0 h8 h2
/-- what a copy leaves -/
def cq (to as : Nat) (N M : ti_M) : Prop := (mC M as → mC N to) ∧ (mP M as → mP N to) ∧ (∀ q2, q2 ≠ to → (mC M q2 → mC N q2) ∧ (mP M q2 → mP N q2)) ∧ (∀ x, x ≠ to → tY N 60 38 x = tY M 60 38 x) ∧ tY N 60 38 to = tY M 60 38 as ∧ (∀ j : Nat, j < 8 → tY N 60 40 (8 * to + j) = tY M 60 40 (8 * as + j)) ∧ (∀ i : Nat, i < 8 * to ∨ 8 * to + 8 ≤ i → tY N 60 40 i = tY M 60 40 i)
theorem cpr_in {f g : Nat → Int32} {to as : Nat} (h : cpr f g to as 8) {j : Nat} (hj : j < 8) : g (8 * to + j) = f (8 * as + j) := by
  rw [h, if_pos (by omega), show 8 * to + j - 8 * to + 8 * as = 8 * as + j by omega]
theorem cpr_out {f g : Nat → Int32} {to as : Nat} (h : cpr f g to as 8) {i : Nat} (hi : i < 8 * to ∨ 8 * to + 8 ≤ i) : g i = f i := by rw [h, if_neg (by omega)]
theorem q_copy {M N : ti_M} {to as : Nat} (hI : mI Tm M) (h : cpq M N to as 8) (hl : lk N M) : cq to as N M := by
  obtain ⟨a, b, c, d⟩ := h
  have h3 : tY N 60 3 = tY M 60 3 := hl.1 3 (by decide) (by decide)
  have hb : ∀ x, 0 ≤ (tY M 60 38 x).toInt ∧ (tY M 60 38 x).toInt ≤ 8 := fun x => hI.2.1 38 x
  refine ⟨fun g => ?_, fun g => ?_, fun q2 hne => ⟨fun g => ?_, fun g => ?_⟩, b, a, fun j hj => cpr_in d hj, fun i hi => cpr_out d hi⟩
  · unfold mC at g ⊢; rw [a, zc_eq (fun j hj => cpr_in d hj)]; exact g
  · intro m hm hmn hw
    rw [h3] at hmn
    rw [cpr_in d hm] at hw
    obtain ⟨p, h1, h2⟩ := g m hm hmn hw
    have := hb as
    exact ⟨p, by rw [a]; exact h1, by rw [cpr_in c (by omega)]; exact h2⟩
  · unfold mC at g ⊢; rw [b q2 hne, zc_eq (f := tY N 60 40) (g := tY M 60 40) (b := 8 * q2) (c := 8 * q2) (fun j hj => cpr_out d (by omega))]; exact g
  · intro m hm hmn hw
    rw [h3] at hmn
    rw [cpr_out d (by omega)] at hw
    obtain ⟨p, h1, h2⟩ := g m hm hmn hw
    have := hb q2
    exact ⟨p, by rw [b q2 hne]; exact h1, by rw [cpr_out c (by omega)]; exact h2⟩
end
section
variable {Tc : gC} {Tm : gM}
/-- the reference between calls -/
def mF (Tm : gM) (M : ti_M) : Prop := mI Tm M ∧ mL M ∧ (mC M 0 ∧ mP M 0) ∧ (¬ (tI M 60 51).toInt = 0 → mC M 2 ∧ mP M 2) ∧ (∀ k : Nat, (k : Int) < (tI M 60 52).toInt → mC M (3 + k) ∧ mP M (3 + k))
theorem mF_rq {M N : ti_M} {q : Nat} (h : mF Tm M) (hI : mI Tm N) (r : rq q N M) (c : q = 0 → mC N 0) (hq : q ≤ 1) : mF Tm N := by
  obtain ⟨-, hL, ⟨h1, h2⟩, h3, h4⟩ := h
  have g : ∀ q2, q2 ≠ q → mC M q2 ∧ mP M q2 → mC N q2 ∧ mP N q2 := fun q2 hne p => ⟨(r.2.2.1 q2).1 hne p.1, (r.2.2.1 q2).2 p.2⟩
  refine ⟨hI, mL_lw r.1 hL, ⟨?_, (r.2.2.1 0).2 h2⟩, ?_, ?_⟩
  · by_cases e : q = 0
    · exact c e
    · exact (r.2.2.1 0).1 (Ne.symm e) h1
  · rw [r.2.1.2.1]; exact fun p => g 2 (by omega) (h3 p)
  · rw [r.2.1.2.2]; exact fun k hk => g _ (by omega) (h4 k hk)
theorem mF_qw {M N : ti_M} (h : mF Tm M) (hI : mI Tm N) (w : qw N M) : mF Tm N := mF_rq (q := 1) h hI (rq_qw w) (fun e => by omega) (by decide)
theorem lays_rq {M N : ti_M} (hl : lk N M) (c : cq 1 0 N M) (hC : mC M 0) (hP : mP M 0) : rq 1 N M ∧ mC N 1 ∧ mP N 1 ∧ (∀ j : Nat, j < 8 → tY N 60 40 (8 + j) = tY M 60 40 j) ∧ (∀ j : Nat, j < 8 → tY N 60 40 j = tY M 60 40 j) ∧ tY N 60 38 1 = tY M 60 38 0 := by
  obtain ⟨a, b, d, e, f, g, h⟩ := c
  refine ⟨⟨hl.1, hl.2, fun q2 => ⟨fun hne p => (d q2 hne).1 p, fun p => ?_⟩, fun _ => e 0 (by decide)⟩, a hC, b hP, fun j hj => ?_, fun j hj => h j (by omega), f⟩
  · by_cases e : q2 = 1
    · subst e; exact b hP
    · exact (d q2 e).2 p
  · have := g j hj; rwa [show 8 * 1 + j = 8 + j by omega, show 8 * 0 + j = j by omega] at this
set_option maxHeartbeats 4000000 in
set_option maxRecDepth 100000 in
theorem s_X10_howMany_0 (l : Launch) (D : va_G) (A : Nat → Nat → Nat) (cy : Nat → ClassId) (hJ : ti_inj ti_LM A) (M : ti_M) (hI : mI Tm M)  (a : Int32) : ti_Ki l yX10_howMany cX10_howMany 5 (some .int) 0 ti_LM D A cy M [.ref (A 60 0), .int 0, .int a] (fun r M2 => M2 = M) := by
  refine ti_eI yp_X10_howMany hJ ti_LM_nd (Nat.le_of_ble_eq_true rfl) ?_
  intro p e s m args below meth c Q H0 C hQ hw ls hl
  have hx := C.1
  have hb := C.2.1
  have hl : lv_has ls 5 [(0, .ref (A 60 0)), (1, .int 0), (2, .int a)] := hl
  refine lv_iconst (v := 0) hx hb dX10_howMany_0 (by decide) ?_
  refine lv_istore_n (lv' := [(3, .int 0), (0, .ref (A 60 0)), (1, .int 0), (2, .int a)]) hx hb dX10_howMany_1 rfl hl (by decide) rfl (fun ls hl => ?_)
  refine lv_iconst (v := 0) hx hb dX10_howMany_2 (by decide) ?_
  refine lv_istore (lv' := [(4, .int 0), (3, .int 0), (0, .ref (A 60 0)), (1, .int 0), (2, .int a)]) hx hb dX10_howMany_3 hl (by decide) rfl (fun ls hl => ?_)
  have hl_5_4 : ∀ (n_5 : Nat) (x_1 : Int32) (x_4 : Int32) (H : Heap) (locs : List Loc) (ls : Array Slot), (8 - x_1.toInt : Int).toNat < n_5 → (0 ≤ x_1.toInt) → (x_1.toInt ≤ 8) → ti_H ti_LM D A cy H0 M H locs → lv_has ls 5 [(4, .int x_1), (3, .int x_4), (0, .ref (A 60 0)), (1, .int 0), (2, .int a)] → W p l e (ti_rm 0) s m args below meth c H locs 0 0 Q (F0 m 5 ls []) := by
    intro n_5
    induction n_5 with
    | zero => intro x_1 x_4 H locs ls hf_5; exact absurd hf_5 (Nat.not_lt_zero _)
    | succ n_5 ih_5 =>
      intro x_1 x_4 H locs ls hf_5 b_2 b_3 hw hl
      refine lv_iload hx hb dX10_howMany_5 (lv_at hl 0 rfl) ?_
      refine lv_aload_n hx hb dX10_howMany_7 rfl (lv_at hl 2 rfl) ?_
      refine ti_get (ci := 10) (k := 3) (N := 67) (T := TX10) (v := .ref (A 60 4)) C hw iw_10 rfl ob_60 (by decide) (by decide) fl_X10_13 rfl rfl dX10_howMany_8 ?_
      refine lv_iconst (v := 0) hx hb dX10_howMany_11 (by decide) ?_
      refine ti_iald (ci := 10) (k := 3) (n := 22) C hw ob_60 (by decide) (fun _ _ => rfl) (by unfold vp_in; decide) dX10_howMany_12 ?_
      refine lv_topi (fun x_6 ex_6 => ?_)
      have yx_6 : tY M 60 3 0 = x_6 := ((congrArg _ (by decide)).symm.trans ex_6.symm)
      have bx_6 : 0 ≤ x_6.toInt ∧ x_6.toInt ≤ 8 := mI_rn (i := 0) hI yx_6.symm (fun _ h => h)
      have zx_6 : (tY M 60 3 0).toInt = x_6.toInt := by rw [yx_6]
      refine sb_icmp_ge (tgt := 46) hx hb rfl rfl dX10_howMany_13 (by decide) (fun c_13_6 => ?_) (fun c_13_6 => ?_)
      · refine lv_iload_n hx hb dX10_howMany_46 rfl (lv_at hl 1 rfl) ?_
        exact hQ _ _ _ _ _ _ hw rfl rfl dX10_howMany_47
      · refine lv_iload_n hx hb dX10_howMany_16 rfl (lv_at hl 1 rfl) ?_
        refine lv_aload_n hx hb dX10_howMany_17 rfl (lv_at hl 2 rfl) ?_
        refine ti_get (ci := 10) (k := 40) (N := 67) (T := TX10) (v := .ref (A 60 41)) C hw iw_10 rfl ob_60 (by decide) (by decide) fl_X10_87 rfl rfl dX10_howMany_18 ?_
        refine lv_bipush (v := 8) hx hb dX10_howMany_21 (by decide) ?_
        refine lv_iload_n hx hb dX10_howMany_23 rfl (lv_at hl 3 rfl) ?_
        refine lv_imul hx hb dX10_howMany_24 ?_
        refine ti_top (y := 0) (by decide) ?_
        refine lv_iload hx hb dX10_howMany_25 (lv_at hl 0 rfl) ?_
        refine lv_iadd hx hb dX10_howMany_27 ?_
        refine lv_topi (fun x_8 ex_8 => ?_)
        have tx_8 : x_8.toInt = 0 + x_1.toInt := i_add ex_8 (by decide : (0 : Int32).toInt = 0) rfl (by omega) (by omega)
        refine ti_iald (ci := 10) (k := 40) (n := 184) C hw ob_60 (by decide) (fun _ _ => rfl) (vp_in_iff.mpr (by omega)) dX10_howMany_28 ?_
        refine lv_topi (fun x_9 ex_9 => ?_)
        have yx_9 : tY M 60 40 x_8.toNatClampNeg = x_9 := (ex_9.symm)
        have zx_9 : (tY M 60 40 x_8.toNatClampNeg).toInt = x_9.toInt := by rw [yx_9]
        refine lv_iload_n hx hb dX10_howMany_29 rfl (lv_at hl 4 rfl) ?_
        have hj_38_13 : ∀ (x_11 : Int32) (H : Heap) (locs : List Loc) (ls : Array Slot), (0 ≤ x_11.toInt) → (x_11.toInt ≤ 1) → ti_H ti_LM D A cy H0 M H locs → lv_has ls 5 [(4, .int x_1), (3, .int x_4), (0, .ref (A 60 0)), (1, .int 0), (2, .int a)] → W p l e (ti_rm 0) s m args below meth c H locs 0 0 Q (F0 m 38 ls [.int x_11, .int x_4]) := by
          intro x_11 H locs ls b_12 b_13 hw hl
          refine lv_iadd hx hb dX10_howMany_38 ?_
          refine lv_topi (fun x_14 ex_14 => ?_)
          refine lv_istore_n (lv' := [(3, .int x_14), (4, .int x_1), (0, .ref (A 60 0)), (1, .int 0), (2, .int a)]) hx hb dX10_howMany_39 rfl hl (by decide) rfl (fun ls hl => ?_)
          obtain ⟨x_15, ex_15⟩ : ∃ z : Int32, z = x_1 + 1 := ⟨_, rfl⟩
          have tx_15 : x_15.toInt = x_1.toInt + 1 := i_add ex_15 rfl (by decide) (by omega) (by omega)
          refine lv_iinc (v := x_15) (lv' := [(4, .int x_15), (3, .int x_14), (0, .ref (A 60 0)), (1, .int 0), (2, .int a)]) hx hb dX10_howMany_40 hl (k := 1) rfl (by rw [ex_15]; rfl) (by decide) rfl (fun ls hl => ?_)
          refine lv_goto (tgt := 5) hx hb dX10_howMany_43 (by decide) ?_
          exact ih_5 x_15 x_14 _ _ _ (by omega) (by first | omega | decide) (by first | omega | decide) hw (lv_sub hl [0, 1, 2, 3, 4] rfl)
        refine sb_icmp_ne (tgt := 37) hx hb rfl rfl dX10_howMany_30 (by decide) (fun c_30_9 => ?_) (fun c_30_9 => ?_)
        · refine lv_iconst (v := 0) hx hb dX10_howMany_37 (by decide) ?_
          exact hj_38_13 0 _ _ _ (by have lt0 : (0 : Int32).toInt = 0 := (by decide); first | omega | decide) (by have lt0 : (0 : Int32).toInt = 0 := (by decide); first | omega | decide) hw (lv_sub hl [0, 1, 2, 3, 4] rfl)
        · refine lv_iconst (v := 1) hx hb dX10_howMany_33 (by decide) ?_
          refine lv_goto (tgt := 38) hx hb dX10_howMany_34 (by decide) ?_
          exact hj_38_13 1 _ _ _ (by have lt0 : (1 : Int32).toInt = 1 := (by decide); first | omega | decide) (by have lt0 : (1 : Int32).toInt = 1 := (by decide); first | omega | decide) hw (lv_sub hl [0, 1, 2, 3, 4] rfl)
  exact hl_5_4 ((8 - 0 : Int).toNat + 1) 0 0 _ _ _ (Nat.lt_succ_self _) (by have lt0 : (0 : Int32).toInt = 0 := (by decide); first | omega | decide) (by have lt0 : (0 : Int32).toInt = 0 := (by decide); first | omega | decide) hw (lv_sub hl [0, 1, 2, 3, 4] rfl)
set_option maxHeartbeats 4000000 in
set_option maxRecDepth 100000 in
theorem s_X10_howMany_1 (l : Launch) (D : va_G) (A : Nat → Nat → Nat) (cy : Nat → ClassId) (hJ : ti_inj ti_LM A) (M : ti_M) (hI : mI Tm M)  (a : Int32) : ti_Ki l yX10_howMany cX10_howMany 5 (some .int) 0 ti_LM D A cy M [.ref (A 60 0), .int 1, .int a] (fun r M2 => M2 = M) := by
  refine ti_eI yp_X10_howMany hJ ti_LM_nd (Nat.le_of_ble_eq_true rfl) ?_
  intro p e s m args below meth c Q H0 C hQ hw ls hl
  have hx := C.1
  have hb := C.2.1
  have hl : lv_has ls 5 [(0, .ref (A 60 0)), (1, .int 1), (2, .int a)] := hl
  refine lv_iconst (v := 0) hx hb dX10_howMany_0 (by decide) ?_
  refine lv_istore_n (lv' := [(3, .int 0), (0, .ref (A 60 0)), (1, .int 1), (2, .int a)]) hx hb dX10_howMany_1 rfl hl (by decide) rfl (fun ls hl => ?_)
  refine lv_iconst (v := 0) hx hb dX10_howMany_2 (by decide) ?_
  refine lv_istore (lv' := [(4, .int 0), (3, .int 0), (0, .ref (A 60 0)), (1, .int 1), (2, .int a)]) hx hb dX10_howMany_3 hl (by decide) rfl (fun ls hl => ?_)
  have hl_5_4 : ∀ (n_5 : Nat) (x_1 : Int32) (x_4 : Int32) (H : Heap) (locs : List Loc) (ls : Array Slot), (8 - x_1.toInt : Int).toNat < n_5 → (0 ≤ x_1.toInt) → (x_1.toInt ≤ 8) → ti_H ti_LM D A cy H0 M H locs → lv_has ls 5 [(4, .int x_1), (3, .int x_4), (0, .ref (A 60 0)), (1, .int 1), (2, .int a)] → W p l e (ti_rm 0) s m args below meth c H locs 0 0 Q (F0 m 5 ls []) := by
    intro n_5
    induction n_5 with
    | zero => intro x_1 x_4 H locs ls hf_5; exact absurd hf_5 (Nat.not_lt_zero _)
    | succ n_5 ih_5 =>
      intro x_1 x_4 H locs ls hf_5 b_2 b_3 hw hl
      refine lv_iload hx hb dX10_howMany_5 (lv_at hl 0 rfl) ?_
      refine lv_aload_n hx hb dX10_howMany_7 rfl (lv_at hl 2 rfl) ?_
      refine ti_get (ci := 10) (k := 3) (N := 67) (T := TX10) (v := .ref (A 60 4)) C hw iw_10 rfl ob_60 (by decide) (by decide) fl_X10_13 rfl rfl dX10_howMany_8 ?_
      refine lv_iconst (v := 0) hx hb dX10_howMany_11 (by decide) ?_
      refine ti_iald (ci := 10) (k := 3) (n := 22) C hw ob_60 (by decide) (fun _ _ => rfl) (by unfold vp_in; decide) dX10_howMany_12 ?_
      refine lv_topi (fun x_6 ex_6 => ?_)
      have yx_6 : tY M 60 3 0 = x_6 := ((congrArg _ (by decide)).symm.trans ex_6.symm)
      have bx_6 : 0 ≤ x_6.toInt ∧ x_6.toInt ≤ 8 := mI_rn (i := 0) hI yx_6.symm (fun _ h => h)
      have zx_6 : (tY M 60 3 0).toInt = x_6.toInt := by rw [yx_6]
      refine sb_icmp_ge (tgt := 46) hx hb rfl rfl dX10_howMany_13 (by decide) (fun c_13_6 => ?_) (fun c_13_6 => ?_)
      · refine lv_iload_n hx hb dX10_howMany_46 rfl (lv_at hl 1 rfl) ?_
        exact hQ _ _ _ _ _ _ hw rfl rfl dX10_howMany_47
      · refine lv_iload_n hx hb dX10_howMany_16 rfl (lv_at hl 1 rfl) ?_
        refine lv_aload_n hx hb dX10_howMany_17 rfl (lv_at hl 2 rfl) ?_
        refine ti_get (ci := 10) (k := 40) (N := 67) (T := TX10) (v := .ref (A 60 41)) C hw iw_10 rfl ob_60 (by decide) (by decide) fl_X10_87 rfl rfl dX10_howMany_18 ?_
        refine lv_bipush (v := 8) hx hb dX10_howMany_21 (by decide) ?_
        refine lv_iload_n hx hb dX10_howMany_23 rfl (lv_at hl 3 rfl) ?_
        refine lv_imul hx hb dX10_howMany_24 ?_
        refine ti_top (y := 8) (by decide) ?_
        refine lv_iload hx hb dX10_howMany_25 (lv_at hl 0 rfl) ?_
        refine lv_iadd hx hb dX10_howMany_27 ?_
        refine lv_topi (fun x_8 ex_8 => ?_)
        have tx_8 : x_8.toInt = 8 + x_1.toInt := i_add ex_8 (by decide : (8 : Int32).toInt = 8) rfl (by omega) (by omega)
        refine ti_iald (ci := 10) (k := 40) (n := 184) C hw ob_60 (by decide) (fun _ _ => rfl) (vp_in_iff.mpr (by omega)) dX10_howMany_28 ?_
        refine lv_topi (fun x_9 ex_9 => ?_)
        have yx_9 : tY M 60 40 x_8.toNatClampNeg = x_9 := (ex_9.symm)
        have zx_9 : (tY M 60 40 x_8.toNatClampNeg).toInt = x_9.toInt := by rw [yx_9]
        refine lv_iload_n hx hb dX10_howMany_29 rfl (lv_at hl 4 rfl) ?_
        have hj_38_13 : ∀ (x_11 : Int32) (H : Heap) (locs : List Loc) (ls : Array Slot), (0 ≤ x_11.toInt) → (x_11.toInt ≤ 1) → ti_H ti_LM D A cy H0 M H locs → lv_has ls 5 [(4, .int x_1), (3, .int x_4), (0, .ref (A 60 0)), (1, .int 1), (2, .int a)] → W p l e (ti_rm 0) s m args below meth c H locs 0 0 Q (F0 m 38 ls [.int x_11, .int x_4]) := by
          intro x_11 H locs ls b_12 b_13 hw hl
          refine lv_iadd hx hb dX10_howMany_38 ?_
          refine lv_topi (fun x_14 ex_14 => ?_)
          refine lv_istore_n (lv' := [(3, .int x_14), (4, .int x_1), (0, .ref (A 60 0)), (1, .int 1), (2, .int a)]) hx hb dX10_howMany_39 rfl hl (by decide) rfl (fun ls hl => ?_)
          obtain ⟨x_15, ex_15⟩ : ∃ z : Int32, z = x_1 + 1 := ⟨_, rfl⟩
          have tx_15 : x_15.toInt = x_1.toInt + 1 := i_add ex_15 rfl (by decide) (by omega) (by omega)
          refine lv_iinc (v := x_15) (lv' := [(4, .int x_15), (3, .int x_14), (0, .ref (A 60 0)), (1, .int 1), (2, .int a)]) hx hb dX10_howMany_40 hl (k := 1) rfl (by rw [ex_15]; rfl) (by decide) rfl (fun ls hl => ?_)
          refine lv_goto (tgt := 5) hx hb dX10_howMany_43 (by decide) ?_
          exact ih_5 x_15 x_14 _ _ _ (by omega) (by first | omega | decide) (by first | omega | decide) hw (lv_sub hl [0, 1, 2, 3, 4] rfl)
        refine sb_icmp_ne (tgt := 37) hx hb rfl rfl dX10_howMany_30 (by decide) (fun c_30_9 => ?_) (fun c_30_9 => ?_)
        · refine lv_iconst (v := 0) hx hb dX10_howMany_37 (by decide) ?_
          exact hj_38_13 0 _ _ _ (by have lt0 : (0 : Int32).toInt = 0 := (by decide); first | omega | decide) (by have lt0 : (0 : Int32).toInt = 0 := (by decide); first | omega | decide) hw (lv_sub hl [0, 1, 2, 3, 4] rfl)
        · refine lv_iconst (v := 1) hx hb dX10_howMany_33 (by decide) ?_
          refine lv_goto (tgt := 38) hx hb dX10_howMany_34 (by decide) ?_
          exact hj_38_13 1 _ _ _ (by have lt0 : (1 : Int32).toInt = 1 := (by decide); first | omega | decide) (by have lt0 : (1 : Int32).toInt = 1 := (by decide); first | omega | decide) hw (lv_sub hl [0, 1, 2, 3, 4] rfl)
  exact hl_5_4 ((8 - 0 : Int).toNat + 1) 0 0 _ _ _ (Nat.lt_succ_self _) (by have lt0 : (0 : Int32).toInt = 0 := (by decide); first | omega | decide) (by have lt0 : (0 : Int32).toInt = 0 := (by decide); first | omega | decide) hw (lv_sub hl [0, 1, 2, 3, 4] rfl)
set_option maxHeartbeats 4000000 in
set_option maxRecDepth 100000 in
theorem s_X10_servedMany_0 (l : Launch) (D : va_G) (A : Nat → Nat → Nat) (cy : Nat → ClassId) (hJ : ti_inj ti_LM A) (M : ti_M) (hI : mI Tm M)  : ti_Ki l yX10_servedMany cX10_servedMany 2 (some .int) 1 ti_LM D A cy M [.ref (A 60 0), .int 0] (fun r M2 => M2 = M) := by
  refine ti_eI yp_X10_servedMany hJ ti_LM_nd (Nat.le_of_ble_eq_true rfl) ?_
  intro p e s m args below meth c Q H0 C hQ hw ls hl
  have hx := C.1
  have hb := C.2.1
  have hl : lv_has ls 2 [(0, .ref (A 60 0)), (1, .int 0)] := hl
  refine lv_aload_n hx hb dX10_servedMany_0 rfl (lv_at hl 0 rfl) ?_
  refine lv_iload_n hx hb dX10_servedMany_1 rfl (lv_at hl 1 rfl) ?_
  refine lv_iconst (v := 2) hx hb dX10_servedMany_2 (by decide) ?_
  refine ti_callVi (ci := 10) (av := [.int 0, .int 2]) C hw (s_X10_howMany_0 l D A cy hJ M hI 2) ⟨ml_X10_494, ym_X10_howMany, yv_X10_howMany, yi_X10_howMany, yc_X10_howMany⟩ yd_X10_howMany ob_60 (by decide) rfl rfl hl.1 (Nat.le_of_ble_eq_true rfl) ⟨by decide, by decide⟩ ⟨Nat.zero_le _, Nat.zero_le _⟩ dX10_servedMany_3 (fun r_1 M_2 H locs hp_2 hw => ?_)
  have hm := hp_2
  have hw := hw.to hm
  exact hQ _ _ _ _ _ _ hw rfl rfl dX10_servedMany_6
set_option maxHeartbeats 4000000 in
set_option maxRecDepth 100000 in
theorem s_X10_servedMany_1 (l : Launch) (D : va_G) (A : Nat → Nat → Nat) (cy : Nat → ClassId) (hJ : ti_inj ti_LM A) (M : ti_M) (hI : mI Tm M)  : ti_Ki l yX10_servedMany cX10_servedMany 2 (some .int) 1 ti_LM D A cy M [.ref (A 60 0), .int 1] (fun r M2 => M2 = M) := by
  refine ti_eI yp_X10_servedMany hJ ti_LM_nd (Nat.le_of_ble_eq_true rfl) ?_
  intro p e s m args below meth c Q H0 C hQ hw ls hl
  have hx := C.1
  have hb := C.2.1
  have hl : lv_has ls 2 [(0, .ref (A 60 0)), (1, .int 1)] := hl
  refine lv_aload_n hx hb dX10_servedMany_0 rfl (lv_at hl 0 rfl) ?_
  refine lv_iload_n hx hb dX10_servedMany_1 rfl (lv_at hl 1 rfl) ?_
  refine lv_iconst (v := 2) hx hb dX10_servedMany_2 (by decide) ?_
  refine ti_callVi (ci := 10) (av := [.int 1, .int 2]) C hw (s_X10_howMany_1 l D A cy hJ M hI 2) ⟨ml_X10_494, ym_X10_howMany, yv_X10_howMany, yi_X10_howMany, yc_X10_howMany⟩ yd_X10_howMany ob_60 (by decide) rfl rfl hl.1 (Nat.le_of_ble_eq_true rfl) ⟨by decide, by decide⟩ ⟨Nat.zero_le _, Nat.zero_le _⟩ dX10_servedMany_3 (fun r_1 M_2 H locs hp_2 hw => ?_)
  have hm := hp_2
  have hw := hw.to hm
  exact hQ _ _ _ _ _ _ hw rfl rfl dX10_servedMany_6
end
section
variable {Tc : gC} {Tm : gM}
/-- but of the queue aside nothing is worse -/
def rw1 (N M : ti_M) : Prop := lw N M ∧ ik N M ∧ (∀ q2, q2 ≠ 1 → (mC M q2 → mC N q2) ∧ (mP M q2 → mP N q2)) ∧ tY N 60 38 0 = tY M 60 38 0
theorem rw1_rq {N M : ti_M} (r : rq 1 N M) : rw1 N M := ⟨r.1, r.2.1, fun q2 h => ⟨(r.2.2.1 q2).1 h, (r.2.2.1 q2).2⟩, r.2.2.2 (by decide)⟩
theorem rw1_qw {N M : ti_M} (r : qw N M) : rw1 N M := rw1_rq (rq_qw r)
theorem rw1.refl {M : ti_M} : rw1 M M := rw1_qw qw.refl
theorem rw1.trans {K N M : ti_M} (a : rw1 K N) (b : rw1 N M) : rw1 K M :=
  ⟨fun k h1 h2 => (a.1 k h1 h2).trans (b.1 k h1 h2), ⟨a.2.1.1.trans b.2.1.1, a.2.1.2.1.trans b.2.1.2.1, a.2.1.2.2.trans b.2.1.2.2⟩, fun q2 h => ⟨fun c => (a.2.2.1 q2 h).1 ((b.2.2.1 q2 h).1 c), fun c => (a.2.2.1 q2 h).2 ((b.2.2.1 q2 h).2 c)⟩, a.2.2.2.trans b.2.2.2⟩
theorem rw1_38 {M N : ti_M} {i : Nat} {v : Int32} (_ : mI Tm M) (e : N = uY M 60 38 (upd (tY M 60 38) i v)) (hi : i = 1) : rw1 N M := by
  subst hi
  have r : ∀ x, x ≠ 1 → tY N 60 38 x = tY M 60 38 x := fun x hx => by rw [tY_uE e, pk_un hx]
  have n : ∀ k, k ≠ 38 → tY N 60 k = tY M 60 k := fun k hk => tY_nE e (nk hk)
  refine ⟨fun k h1 h2 => n k (by omega), ⟨tI_uYE e, tI_uYE e, tI_uYE e⟩, fun q2 h => ⟨fun c => ?_, fun c => ?_⟩, r 0 (by decide)⟩
  · unfold mC at *; rw [r q2 h, n 40 (by decide)]; exact c
  · unfold mP at *; rw [r q2 h, n 40 (by decide), n 39 (by decide), n 3 (by decide)]; exact c
theorem rw1_39 {M N : ti_M} {i : Nat} {v : Int32} (hI : mI Tm M) (e : N = uY M 60 39 (upd (tY M 60 39) i v)) (hi : 8 ≤ i ∧ i < 16) : rw1 N M := by
  have n : ∀ k, k ≠ 39 → tY N 60 k = tY M 60 k := fun k hk => tY_nE e (nk hk)
  have hb : ∀ x, 0 ≤ (tY M 60 38 x).toInt ∧ (tY M 60 38 x).toInt ≤ 8 := fun x => hI.2.1 38 x
  refine ⟨fun k h1 h2 => n k (by omega), ⟨tI_uYE e, tI_uYE e, tI_uYE e⟩, fun q2 h => ⟨fun c => ?_, fun c => ?_⟩, by rw [n 38 (by decide)]⟩
  · unfold mC at *; rw [n 38 (by decide), n 40 (by decide)]; exact c
  · intro m hm hmn hw
    rw [n 3 (by decide)] at hmn
    rw [n 40 (by decide)] at hw
    obtain ⟨p, h1, h2⟩ := c m hm hmn hw
    have := hb q2
    exact ⟨p, by rw [n 38 (by decide)]; exact h1, by rw [tY_uE e, pk_un (by omega)]; exact h2⟩
theorem rw1_40 {M N : ti_M} {i : Nat} {v : Int32} (_ : mI Tm M) (e : N = uY M 60 40 (upd (tY M 60 40) i v)) (hi : 8 ≤ i ∧ i < 16) : rw1 N M := by
  have n : ∀ k, k ≠ 40 → tY N 60 k = tY M 60 k := fun k hk => tY_nE e (nk hk)
  refine ⟨fun k h1 h2 => n k (by omega), ⟨tI_uYE e, tI_uYE e, tI_uYE e⟩, fun q2 h => ⟨fun c => ?_, fun c => ?_⟩, by rw [n 38 (by decide)]⟩
  · unfold mC at *; rw [n 38 (by decide), tY_uE e, zc_out _ _ _ _ (by omega)]; exact c
  · intro m hm hmn hw
    rw [n 3 (by decide)] at hmn
    rw [tY_uE e, pk_un (by omega)] at hw
    rw [n 38 (by decide), n 39 (by decide)]
    exact c m hm hmn hw
theorem mC_38 {M N : ti_M} {i : Nat} {v : Int32} (c : mC M 1) (e : N = uY M 60 38 (upd (tY M 60 38) i v)) (hi : i = 1) (h : v.toInt ≤ (tY M 60 38 1).toInt) : mC N 1 := by
  subst hi; unfold mC at *; rw [tY_uE e, pk_us, tY_nE e (nk (by decide))]; omega
theorem mC_39 {M N : ti_M} {f : Nat → Int32} (c : mC M 1) (e : N = uY M 60 39 f) : mC N 1 := by unfold mC at *; rw [tY_nE e (nk (by decide)), tY_nE e (nk (by decide))]; exact c
theorem mC_40 {M N : ti_M} {i : Nat} {v : Int32} (c : mC M 1) (e : N = uY M 60 40 (upd (tY M 60 40) i v)) (h : v.toInt ≠ 0) : mC N 1 := by
  unfold mC at *; rw [tY_nE e (nk (by decide)), tY_uE e]
  have := zc_le (tY M 60 40) i (8 * 1) v h
  omega
theorem mF_rw {M N : ti_M} (h : mF Tm M) (hI : mI Tm N) (r : rw1 N M) : mF Tm N := by
  obtain ⟨-, hL, ⟨h1, h2⟩, h3, h4⟩ := h
  have g : ∀ q2, q2 ≠ 1 → mC M q2 ∧ mP M q2 → mC N q2 ∧ mP N q2 := fun q2 hne p => ⟨(r.2.2.1 q2 hne).1 p.1, (r.2.2.1 q2 hne).2 p.2⟩
  refine ⟨hI, mL_lw r.1 hL, g 0 (by decide) ⟨h1, h2⟩, ?_, ?_⟩
  · rw [r.2.1.2.1]; exact fun p => g 2 (by omega) (h3 p)
  · rw [r.2.1.2.2]; exact fun k hk => g _ (by omega) (h4 k hk)
set_option maxHeartbeats 4000000 in
set_option maxRecDepth 100000 in
theorem s_X10_endOf (l : Launch) (D : va_G) (A : Nat → Nat → Nat) (cy : Nat → ClassId) (hJ : ti_inj ti_LM A) (M : ti_M) (hI : mI Tm M) (a n : Int32) (h1 : 0 ≤ a.toInt) (h2 : a.toInt ≤ 7) : ti_Ki l yX10_endOf cX10_endOf 5 (some .int) 1 ti_LM D A cy M [.ref (A 60 0), .int a, .int n] (fun r M2 => M2 = M) := by
  refine ti_eI yp_X10_endOf hJ ti_LM_nd (Nat.le_of_ble_eq_true rfl) ?_
  intro p e s m args below meth c Q H0 C hQ hw ls hl
  have hx := C.1
  have hb := C.2.1
  have hl : lv_has ls 5 [(0, .ref (A 60 0)), (1, .int a), (2, .int n)] := hl
  refine lv_bipush (v := 8) hx hb dX10_endOf_0 (by decide) ?_
  refine lv_iload_n hx hb dX10_endOf_2 rfl (lv_at hl 1 rfl) ?_
  refine lv_iadd hx hb dX10_endOf_3 ?_
  refine lv_topi (fun x_1 ex_1 => ?_)
  have tx_1 : x_1.toInt = 8 + a.toInt := i_add ex_1 (by decide : (8 : Int32).toInt = 8) rfl (by omega) (by omega)
  refine lv_istore_n (lv' := [(3, .int x_1), (0, .ref (A 60 0)), (1, .int a), (2, .int n)]) hx hb dX10_endOf_4 rfl hl (by decide) rfl (fun ls hl => ?_)
  refine lv_aload_n hx hb dX10_endOf_5 rfl (lv_at hl 1 rfl) ?_
  refine ti_get (ci := 10) (k := 40) (N := 67) (T := TX10) (v := .ref (A 60 41)) C hw iw_10 rfl ob_60 (by decide) (by decide) fl_X10_87 rfl rfl dX10_endOf_6 ?_
  refine lv_iload_n hx hb dX10_endOf_9 rfl (lv_at hl 0 rfl) ?_
  refine ti_iald (ci := 10) (k := 40) (n := 184) C hw ob_60 (by decide) (fun _ _ => rfl) (vp_in_iff.mpr (by omega)) dX10_endOf_10 ?_
  refine lv_topi (fun x_2 ex_2 => ?_)
  have yx_2 : tY M 60 40 x_1.toNatClampNeg = x_2 := (ex_2.symm)
  have zx_2 : (tY M 60 40 x_1.toNatClampNeg).toInt = x_2.toInt := by rw [yx_2]
  refine lv_iconst (v := 2) hx hb dX10_endOf_11 (by decide) ?_
  have hj_43_8 : ∀  (H : Heap) (locs : List Loc) (ls : Array Slot), ti_H ti_LM D A cy H0 M H locs → lv_has ls 5 [(3, .int x_1), (0, .ref (A 60 0)), (1, .int a), (2, .int n)] → W p l e (ti_rm 1) s m args below meth c H locs 0 0 Q (F0 m 43 ls []) := by
    intro  H locs ls  hw hl
    refine lv_aload_n hx hb dX10_endOf_43 rfl (lv_at hl 1 rfl) ?_
    refine lv_iconst (v := 1) hx hb dX10_endOf_44 (by decide) ?_
    refine lv_iload_n hx hb dX10_endOf_45 rfl (lv_at hl 2 rfl) ?_
    refine ti_callVi (ci := 10) (av := [.int 1, .int a]) C hw (s_X10_placeOf_1 l D A cy hJ M hI a) ⟨ml_X10_411, ym_X10_placeOf, yv_X10_placeOf, yi_X10_placeOf, yc_X10_placeOf⟩ yd_X10_placeOf ob_60 (by decide) rfl rfl hl.1 (Nat.le_of_ble_eq_true rfl) ⟨by decide, by decide⟩ ⟨Nat.zero_le _, Nat.zero_le _⟩ dX10_endOf_46 (fun r_9 M_10 H locs hp_10 hw => ?_)
    obtain ⟨hm, hz⟩ := hp_10
    have hw := hw.to hm
    have hj_57_16 : ∀ (x_14 : Int32) (H : Heap) (locs : List Loc) (ls : Array Slot), ((-1) ≤ x_14.toInt) → (x_14.toInt ≤ 7) → ti_H ti_LM D A cy H0 M H locs → lv_has ls 5 [(4, .int x_14), (3, .int x_1), (0, .ref (A 60 0)), (1, .int a), (2, .int n)] → W p l e (ti_rm 1) s m args below meth c H locs 0 0 Q (F0 m 57 ls []) := by
      intro x_14 H locs ls b_15 b_16 hw hl
      refine lv_iconst (v := 0) hx hb dX10_endOf_57 (by decide) ?_
      refine lv_goto (tgt := 66) hx hb dX10_endOf_58 (by decide) ?_
      exact hQ _ _ _ _ _ _ hw rfl rfl dX10_endOf_66
    rcases hz with ⟨rfl, z1_11⟩ | ⟨z1_11, z2_11, z3_11, z4_11⟩
    · refine lv_istore (lv' := [(4, .int (-1)), (3, .int x_1), (0, .ref (A 60 0)), (1, .int a), (2, .int n)]) hx hb dX10_endOf_49 hl (by decide) rfl (fun ls hl => ?_)
      refine lv_iload hx hb dX10_endOf_51 (lv_at hl 0 rfl) ?_
      refine lv_iconst (v := (-1)) hx hb dX10_endOf_53 (by decide) ?_
      refine sb_icmp_ne (tgt := 61) hx hb (by decide : ((-1) : Int32).toInt = (-1)) (by decide : ((-1) : Int32).toInt = (-1)) dX10_endOf_54 (by decide) (fun h => absurd h (by decide)) (fun c_54_11 => ?_)
      exact hj_57_16 (-1) _ _ _ (by have lt0 : ((-1) : Int32).toInt = (-1) := (by decide); first | omega | decide) (by have lt0 : ((-1) : Int32).toInt = (-1) := (by decide); first | omega | decide) hw (lv_sub hl [0, 1, 2, 3, 4] rfl)
    · refine lv_istore (lv' := [(4, .int r_9), (3, .int x_1), (0, .ref (A 60 0)), (1, .int a), (2, .int n)]) hx hb dX10_endOf_49 hl (by decide) rfl (fun ls hl => ?_)
      refine lv_iload hx hb dX10_endOf_51 (lv_at hl 0 rfl) ?_
      refine lv_iconst (v := (-1)) hx hb dX10_endOf_53 (by decide) ?_
      refine sb_icmp_ne (tgt := 61) hx hb rfl (by decide : ((-1) : Int32).toInt = (-1)) dX10_endOf_54 (by decide) (fun c_54_12 => ?_) (fun c_54_12 => ?_)
      · refine lv_bipush (v := 100) hx hb dX10_endOf_61 (by decide) ?_
        refine lv_iload hx hb dX10_endOf_63 (lv_at hl 0 rfl) ?_
        refine lv_isub hx hb dX10_endOf_65 ?_
        refine lv_topi (fun x_17 ex_17 => ?_)
        have tx_17 : x_17.toInt = 100 - r_9.toInt := i_sub ex_17 (by decide : (100 : Int32).toInt = 100) rfl (by omega) (by omega)
        exact hQ _ _ _ _ _ _ hw rfl rfl dX10_endOf_66
      · exact hj_57_16 r_9 _ _ _ (by first | omega | decide) (by first | omega | decide) hw (lv_sub hl [0, 1, 2, 3, 4] rfl)
  refine sb_icmp_ne (tgt := 43) hx hb rfl (by decide : (2 : Int32).toInt = 2) dX10_endOf_12 (by decide) (fun c_12_2 => ?_) (fun c_12_2 => ?_)
  · exact hj_43_8  _ _ _  hw (lv_sub hl [0, 1, 2, 3] rfl)
  · refine lv_aload_n hx hb dX10_endOf_15 rfl (lv_at hl 1 rfl) ?_
    refine ti_get (ci := 10) (k := 48) (N := 67) (T := TX10) (v := .ref (A 60 49)) C hw iw_10 rfl ob_60 (by decide) (by decide) fl_X10_111 rfl rfl dX10_endOf_16 ?_
    refine lv_iload_n hx hb dX10_endOf_19 rfl (lv_at hl 0 rfl) ?_
    refine ti_iald (ci := 10) (k := 48) (n := 184) C hw ob_60 (by decide) (fun _ _ => rfl) (vp_in_iff.mpr (by omega)) dX10_endOf_20 ?_
    refine lv_topi (fun x_4 ex_4 => ?_)
    have yx_4 : tY M 60 48 x_1.toNatClampNeg = x_4 := (ex_4.symm)
    refine lv_aload_n hx hb dX10_endOf_21 rfl (lv_at hl 1 rfl) ?_
    refine ti_get (ci := 10) (k := 34) (N := 67) (T := TX10) (v := .ref (A 60 35)) C hw iw_10 rfl ob_60 (by decide) (by decide) fl_X10_69 rfl rfl dX10_endOf_22 ?_
    refine lv_iconst (v := 0) hx hb dX10_endOf_25 (by decide) ?_
    refine ti_iald (ci := 10) (k := 34) (n := 23) C hw ob_60 (by decide) (fun _ _ => rfl) (by unfold vp_in; decide) dX10_endOf_26 ?_
    refine lv_topi (fun x_5 ex_5 => ?_)
    have yx_5 : tY M 60 34 0 = x_5 := ((congrArg _ (by decide)).symm.trans ex_5.symm)
    have bx_5 : 0 ≤ x_5.toInt ∧ x_5.toInt ≤ 120 := mI_ry (k := 34) (i := 0) hI yx_5.symm (by decide)
    have zx_5 : (tY M 60 34 0).toInt = x_5.toInt := by rw [yx_5]
    refine lv_iload_n hx hb dX10_endOf_27 rfl (lv_at hl 3 rfl) ?_
    refine lv_iadd hx hb dX10_endOf_28 ?_
    refine lv_topi (fun x_6 ex_6 => ?_)
    refine sb_icmp_ge (tgt := 43) hx hb rfl rfl dX10_endOf_29 (by decide) (fun c_29_6 => ?_) (fun c_29_6 => ?_)
    · exact hj_43_8  _ _ _  hw (lv_sub hl [0, 1, 2, 3] rfl)
    · refine lv_sipush (v := 1000) hx hb dX10_endOf_32 (by decide) ?_
      refine lv_aload_n hx hb dX10_endOf_35 rfl (lv_at hl 1 rfl) ?_
      refine ti_get (ci := 10) (k := 48) (N := 67) (T := TX10) (v := .ref (A 60 49)) C hw iw_10 rfl ob_60 (by decide) (by decide) fl_X10_111 rfl rfl dX10_endOf_36 ?_
      refine lv_iload_n hx hb dX10_endOf_39 rfl (lv_at hl 0 rfl) ?_
      refine ti_iald (ci := 10) (k := 48) (n := 184) C hw ob_60 (by decide) (fun _ _ => rfl) (vp_in_iff.mpr (by omega)) dX10_endOf_40 ?_
      refine ti_top (y := x_4) ((yx_4)) ?_
      refine lv_isub hx hb dX10_endOf_41 ?_
      refine lv_topi (fun x_8 ex_8 => ?_)
      exact hQ _ _ _ _ _ _ hw rfl rfl dX10_endOf_42
set_option maxHeartbeats 4000000 in
set_option maxRecDepth 100000 in
theorem s_X10_isRest (l : Launch) (D : va_G) (A : Nat → Nat → Nat) (cy : Nat → ClassId) (hJ : ti_inj ti_LM A) (M : ti_M) (hI : mI Tm M) (a b : Int32) (h1 : 0 ≤ a.toInt) (h2 : a.toInt ≤ 3) (h3 : 0 ≤ b.toInt) (h4 : b.toInt ≤ 3) : ti_Ki l yX10_isRest cX10_isRest 4 (some .boolean) 0 ti_LM D A cy M [.ref (A 60 0), .int a, .int b] (fun r M2 => M2 = M ∧ 0 ≤ r.toInt ∧ r.toInt ≤ 1) := by
  refine ti_eI yp_X10_isRest hJ ti_LM_nd (Nat.le_of_ble_eq_true rfl) ?_
  intro p e s m args below meth c Q H0 C hQ hw ls hl
  have hx := C.1
  have hb := C.2.1
  have hl : lv_has ls 4 [(0, .ref (A 60 0)), (1, .int a), (2, .int b)] := hl
  refine lv_iconst (v := 0) hx hb dX10_isRest_0 (by decide) ?_
  refine lv_istore_n (lv' := [(3, .int 0), (0, .ref (A 60 0)), (1, .int a), (2, .int b)]) hx hb dX10_isRest_1 rfl hl (by decide) rfl (fun ls hl => ?_)
  have hl_2_3 : ∀ (n_4 : Nat) (x_1 : Int32) (H : Heap) (locs : List Loc) (ls : Array Slot), (4 - x_1.toInt : Int).toNat < n_4 → (0 ≤ x_1.toInt) → (x_1.toInt ≤ 4) → ti_H ti_LM D A cy H0 M H locs → lv_has ls 4 [(3, .int x_1), (0, .ref (A 60 0)), (1, .int a), (2, .int b)] → W p l e (ti_rm 0) s m args below meth c H locs 0 0 Q (F0 m 2 ls []) := by
    intro n_4
    induction n_4 with
    | zero => intro x_1 H locs ls hf_4; exact absurd hf_4 (Nat.not_lt_zero _)
    | succ n_4 ih_4 =>
      intro x_1 H locs ls hf_4 b_2 b_3 hw hl
      refine lv_iload_n hx hb dX10_isRest_2 rfl (lv_at hl 0 rfl) ?_
      refine lv_aload_n hx hb dX10_isRest_3 rfl (lv_at hl 1 rfl) ?_
      refine ti_get (ci := 10) (k := 56) (N := 67) (T := TX10) C hw iw_10 rfl ob_60 (by decide) (by decide) fl_X10_451 rfl rfl dX10_isRest_4 ?_
      refine lv_topi (fun x_5 ex_5 => ?_)
      have bx_5 : 0 ≤ x_5.toInt ∧ x_5.toInt ≤ 4 := mI_rd hI ex_5
      have ux_5 : (tI M 60 56).toInt = x_5.toInt := by rw [ex_5]
      refine sb_icmp_ge (tgt := 64) hx hb rfl rfl dX10_isRest_7 (by decide) (fun c_7_5 => ?_) (fun c_7_5 => ?_)
      · refine lv_iconst (v := 1) hx hb dX10_isRest_64 (by decide) ?_
        exact hQ _ _ _ _ _ _ hw rfl (⟨rfl, by first | omega | decide, by first | omega | decide⟩) dX10_isRest_65
      · refine lv_aload_n hx hb dX10_isRest_10 rfl (lv_at hl 1 rfl) ?_
        refine ti_get (ci := 10) (k := 54) (N := 67) (T := TX10) (v := .ref (A 60 55)) C hw iw_10 rfl ob_60 (by decide) (by decide) fl_X10_123 rfl rfl dX10_isRest_11 ?_
        refine lv_iconst (v := 4) hx hb dX10_isRest_14 (by decide) ?_
        refine lv_iload_n hx hb dX10_isRest_15 rfl (lv_at hl 0 rfl) ?_
        refine lv_imul hx hb dX10_isRest_16 ?_
        refine lv_topi (fun x_7 ex_7 => ?_)
        have tx_7 : x_7.toInt = 4 * x_1.toInt := i_mul ex_7 (by decide : (4 : Int32).toInt = 4) rfl (by omega) (by omega)
        refine lv_iload_n hx hb dX10_isRest_17 rfl (lv_at hl 3 rfl) ?_
        refine lv_iadd hx hb dX10_isRest_18 ?_
        refine lv_topi (fun x_8 ex_8 => ?_)
        have tx_8 : x_8.toInt = x_7.toInt + b.toInt := i_add ex_8 rfl rfl (by omega) (by omega)
        refine ti_iald (ci := 10) (k := 54) (n := 16) C hw ob_60 (by decide) (fun _ _ => rfl) (vp_in_iff.mpr (by omega)) dX10_isRest_19 ?_
        refine lv_topi (fun x_9 ex_9 => ?_)
        have yx_9 : tY M 60 54 x_8.toNatClampNeg = x_9 := (ex_9.symm)
        refine lv_aload_n hx hb dX10_isRest_20 rfl (lv_at hl 1 rfl) ?_
        refine ti_get (ci := 10) (k := 54) (N := 67) (T := TX10) (v := .ref (A 60 55)) C hw iw_10 rfl ob_60 (by decide) (by decide) fl_X10_123 rfl rfl dX10_isRest_21 ?_
        refine lv_iconst (v := 4) hx hb dX10_isRest_24 (by decide) ?_
        refine lv_iload_n hx hb dX10_isRest_25 rfl (lv_at hl 2 rfl) ?_
        refine lv_imul hx hb dX10_isRest_26 ?_
        refine lv_topi (fun x_10 ex_10 => ?_)
        have tx_10 : x_10.toInt = 4 * a.toInt := i_mul ex_10 (by decide : (4 : Int32).toInt = 4) rfl (by omega) (by omega)
        refine lv_iload_n hx hb dX10_isRest_27 rfl (lv_at hl 3 rfl) ?_
        refine lv_iadd hx hb dX10_isRest_28 ?_
        refine lv_topi (fun x_11 ex_11 => ?_)
        have tx_11 : x_11.toInt = x_10.toInt + b.toInt := i_add ex_11 rfl rfl (by omega) (by omega)
        refine ti_iald (ci := 10) (k := 54) (n := 16) C hw ob_60 (by decide) (fun _ _ => rfl) (vp_in_iff.mpr (by omega)) dX10_isRest_29 ?_
        refine lv_topi (fun x_12 ex_12 => ?_)
        have yx_12 : tY M 60 54 x_11.toNatClampNeg = x_12 := (ex_12.symm)
        have hj_56_20 : ∀  (H : Heap) (locs : List Loc) (ls : Array Slot), ti_H ti_LM D A cy H0 M H locs → lv_has ls 4 [(3, .int x_1), (0, .ref (A 60 0)), (1, .int a), (2, .int b)] → W p l e (ti_rm 0) s m args below meth c H locs 0 0 Q (F0 m 56 ls []) := by
          intro  H locs ls  hw hl
          refine lv_iconst (v := 0) hx hb dX10_isRest_56 (by decide) ?_
          exact hQ _ _ _ _ _ _ hw rfl (⟨rfl, by first | omega | decide, by first | omega | decide⟩) dX10_isRest_57
        refine sb_icmp_gt (tgt := 56) hx hb rfl rfl dX10_isRest_30 (by decide) (fun c_30_12 => ?_) (fun c_30_12 => ?_)
        · exact hj_56_20  _ _ _  hw (lv_sub hl [0, 1, 2, 3] rfl)
        · refine lv_aload_n hx hb dX10_isRest_33 rfl (lv_at hl 1 rfl) ?_
          refine ti_get (ci := 10) (k := 55) (N := 67) (T := TX10) (v := .ref (A 60 56)) C hw iw_10 rfl ob_60 (by decide) (by decide) fl_X10_126 rfl rfl dX10_isRest_34 ?_
          refine lv_iconst (v := 4) hx hb dX10_isRest_37 (by decide) ?_
          refine lv_iload_n hx hb dX10_isRest_38 rfl (lv_at hl 2 rfl) ?_
          refine lv_imul hx hb dX10_isRest_39 ?_
          refine lv_topi (fun x_14 ex_14 => ?_)
          have tx_14 : x_14.toInt = 4 * a.toInt := i_mul ex_14 (by decide : (4 : Int32).toInt = 4) rfl (by omega) (by omega)
          refine lv_iload_n hx hb dX10_isRest_40 rfl (lv_at hl 0 rfl) ?_
          refine lv_iadd hx hb dX10_isRest_41 ?_
          refine lv_topi (fun x_15 ex_15 => ?_)
          have tx_15 : x_15.toInt = x_14.toInt + x_1.toInt := i_add ex_15 rfl rfl (by omega) (by omega)
          refine ti_iald (ci := 10) (k := 55) (n := 16) C hw ob_60 (by decide) (fun _ _ => rfl) (vp_in_iff.mpr (by omega)) dX10_isRest_42 ?_
          refine lv_topi (fun x_16 ex_16 => ?_)
          have yx_16 : tY M 60 55 x_15.toNatClampNeg = x_16 := (ex_16.symm)
          refine lv_aload_n hx hb dX10_isRest_43 rfl (lv_at hl 1 rfl) ?_
          refine ti_get (ci := 10) (k := 55) (N := 67) (T := TX10) (v := .ref (A 60 56)) C hw iw_10 rfl ob_60 (by decide) (by decide) fl_X10_126 rfl rfl dX10_isRest_44 ?_
          refine lv_iconst (v := 4) hx hb dX10_isRest_47 (by decide) ?_
          refine lv_iload_n hx hb dX10_isRest_48 rfl (lv_at hl 2 rfl) ?_
          refine lv_imul hx hb dX10_isRest_49 ?_
          refine lv_topi (fun x_17 ex_17 => ?_)
          have tx_17 : x_17.toInt = 4 * a.toInt := i_mul ex_17 (by decide : (4 : Int32).toInt = 4) rfl (by omega) (by omega)
          refine lv_iload_n hx hb dX10_isRest_50 rfl (lv_at hl 3 rfl) ?_
          refine lv_iadd hx hb dX10_isRest_51 ?_
          refine lv_topi (fun x_18 ex_18 => ?_)
          have tx_18 : x_18.toInt = x_17.toInt + b.toInt := i_add ex_18 rfl rfl (by omega) (by omega)
          refine ti_iald (ci := 10) (k := 55) (n := 16) C hw ob_60 (by decide) (fun _ _ => rfl) (vp_in_iff.mpr (by omega)) dX10_isRest_52 ?_
          refine lv_topi (fun x_19 ex_19 => ?_)
          have yx_19 : tY M 60 55 x_18.toNatClampNeg = x_19 := (ex_19.symm)
          refine sb_icmp_le (tgt := 58) hx hb rfl rfl dX10_isRest_53 (by decide) (fun c_53_19 => ?_) (fun c_53_19 => ?_)
          · obtain ⟨x_21, ex_21⟩ : ∃ z : Int32, z = x_1 + 1 := ⟨_, rfl⟩
            have tx_21 : x_21.toInt = x_1.toInt + 1 := i_add ex_21 rfl (by decide) (by omega) (by omega)
            refine lv_iinc (v := x_21) (lv' := [(3, .int x_21), (0, .ref (A 60 0)), (1, .int a), (2, .int b)]) hx hb dX10_isRest_58 hl (k := 0) rfl (by rw [ex_21]; rfl) (by decide) rfl (fun ls hl => ?_)
            refine lv_goto (tgt := 2) hx hb dX10_isRest_61 (by decide) ?_
            exact ih_4 x_21 _ _ _ (by omega) (by first | omega | decide) (by first | omega | decide) hw (lv_sub hl [0, 1, 2, 3] rfl)
          · exact hj_56_20  _ _ _  hw (lv_sub hl [0, 1, 2, 3] rfl)
  exact hl_2_3 ((4 - 0 : Int).toNat + 1) 0 _ _ _ (Nat.lt_succ_self _) (by have lt0 : (0 : Int32).toInt = 0 := (by decide); first | omega | decide) (by have lt0 : (0 : Int32).toInt = 0 := (by decide); first | omega | decide) hw (lv_sub hl [0, 1, 2, 3] rfl)
set_option maxHeartbeats 4000000 in
set_option maxRecDepth 100000 in
theorem s_X10_restOf (l : Launch) (D : va_G) (A : Nat → Nat → Nat) (cy : Nat → ClassId) (hJ : ti_inj ti_LM A) (M : ti_M) (hI : mI Tm M)  (a : Int32) : ti_Ki l yX10_restOf cX10_restOf 5 (some .int) 1 ti_LM D A cy M [.ref (A 60 0), .int a] (fun r M2 => M2 = M) := by
  refine ti_eI yp_X10_restOf hJ ti_LM_nd (Nat.le_of_ble_eq_true rfl) ?_
  intro p e s m args below meth c Q H0 C hQ hw ls hl
  have hx := C.1
  have hb := C.2.1
  have hl : lv_has ls 5 [(0, .ref (A 60 0)), (1, .int a)] := hl
  refine lv_iconst (v := 0) hx hb dX10_restOf_0 (by decide) ?_
  refine lv_istore_n (lv' := [(2, .int 0), (0, .ref (A 60 0)), (1, .int a)]) hx hb dX10_restOf_1 rfl hl (by decide) rfl (fun ls hl => ?_)
  refine lv_iconst (v := 0) hx hb dX10_restOf_2 (by decide) ?_
  refine lv_istore_n (lv' := [(3, .int 0), (2, .int 0), (0, .ref (A 60 0)), (1, .int a)]) hx hb dX10_restOf_3 rfl hl (by decide) rfl (fun ls hl => ?_)
  have hl_4_4 : ∀ (n_5 : Nat) (x_1 : Int32) (x_4 : Int32) (H : Heap) (locs : List Loc) (ls : Array Slot), (4 - x_1.toInt : Int).toNat < n_5 → (0 ≤ x_1.toInt) → (x_1.toInt ≤ 4) → ti_H ti_LM D A cy H0 M H locs → lv_has ls 5 [(3, .int x_1), (2, .int x_4), (0, .ref (A 60 0)), (1, .int a)] → W p l e (ti_rm 1) s m args below meth c H locs 0 0 Q (F0 m 4 ls []) := by
    intro n_5
    induction n_5 with
    | zero => intro x_1 x_4 H locs ls hf_5; exact absurd hf_5 (Nat.not_lt_zero _)
    | succ n_5 ih_5 =>
      intro x_1 x_4 H locs ls hf_5 b_2 b_3 hw hl
      refine lv_iload_n hx hb dX10_restOf_4 rfl (lv_at hl 0 rfl) ?_
      refine lv_aload_n hx hb dX10_restOf_5 rfl (lv_at hl 2 rfl) ?_
      refine ti_get (ci := 10) (k := 56) (N := 67) (T := TX10) C hw iw_10 rfl ob_60 (by decide) (by decide) fl_X10_451 rfl rfl dX10_restOf_6 ?_
      refine lv_topi (fun x_6 ex_6 => ?_)
      have bx_6 : 0 ≤ x_6.toInt ∧ x_6.toInt ≤ 4 := mI_rd hI ex_6
      have ux_6 : (tI M 60 56).toInt = x_6.toInt := by rw [ex_6]
      refine sb_icmp_ge (tgt := 79) hx hb rfl rfl dX10_restOf_9 (by decide) (fun c_9_6 => ?_) (fun c_9_6 => ?_)
      · refine lv_iload_n hx hb dX10_restOf_79 rfl (lv_at hl 3 rfl) ?_
        refine lv_iconst (v := (-1)) hx hb dX10_restOf_80 (by decide) ?_
        refine sb_icmp_ne (tgt := 88) hx hb rfl (by decide : ((-1) : Int32).toInt = (-1)) dX10_restOf_81 (by decide) (fun c_81_27 => ?_) (fun c_81_27 => ?_)
        · refine lv_bipush (v := (-2)) hx hb dX10_restOf_88 (by decide) ?_
          exact hQ _ _ _ _ _ _ hw rfl rfl dX10_restOf_90
        · refine lv_iload_n hx hb dX10_restOf_84 rfl (lv_at hl 1 rfl) ?_
          refine lv_goto (tgt := 90) hx hb dX10_restOf_85 (by decide) ?_
          exact hQ _ _ _ _ _ _ hw rfl rfl dX10_restOf_90
      · refine lv_iconst (v := 0) hx hb dX10_restOf_12 (by decide) ?_
        refine lv_istore (lv' := [(4, .int 0), (3, .int x_1), (2, .int x_4), (0, .ref (A 60 0)), (1, .int a)]) hx hb dX10_restOf_13 hl (by decide) rfl (fun ls hl => ?_)
        have hl_15_11 : ∀ (n_12 : Nat) (x_8 : Int32) (x_11 : Int32) (H : Heap) (locs : List Loc) (ls : Array Slot), (4 - x_8.toInt : Int).toNat < n_12 → (0 ≤ x_8.toInt) → (x_8.toInt ≤ 4) → ti_H ti_LM D A cy H0 M H locs → lv_has ls 5 [(4, .int x_8), (3, .int x_1), (2, .int x_11), (0, .ref (A 60 0)), (1, .int a)] → W p l e (ti_rm 1) s m args below meth c H locs 0 0 Q (F0 m 15 ls []) := by
          intro n_12
          induction n_12 with
          | zero => intro x_8 x_11 H locs ls hf_12; exact absurd hf_12 (Nat.not_lt_zero _)
          | succ n_12 ih_12 =>
            intro x_8 x_11 H locs ls hf_12 b_9 b_10 hw hl
            refine lv_iload hx hb dX10_restOf_15 (lv_at hl 0 rfl) ?_
            refine lv_aload_n hx hb dX10_restOf_17 rfl (lv_at hl 3 rfl) ?_
            refine ti_get (ci := 10) (k := 56) (N := 67) (T := TX10) C hw iw_10 rfl ob_60 (by decide) (by decide) fl_X10_451 rfl rfl dX10_restOf_18 ?_
            refine ti_top (y := x_6) (ex_6.symm) ?_
            have u_13 : (tI M 60 56).toInt = (x_6 : Int32).toInt := by rw [(ex_6.symm)]
            refine sb_icmp_ge (tgt := 73) hx hb rfl rfl dX10_restOf_21 (by decide) (fun c_21_13 => ?_) (fun c_21_13 => ?_)
            · obtain ⟨x_27, ex_27⟩ : ∃ z : Int32, z = x_1 + 1 := ⟨_, rfl⟩
              have tx_27 : x_27.toInt = x_1.toInt + 1 := i_add ex_27 rfl (by decide) (by omega) (by omega)
              refine lv_iinc (v := x_27) (lv' := [(3, .int x_27), (4, .int x_8), (2, .int x_11), (0, .ref (A 60 0)), (1, .int a)]) hx hb dX10_restOf_73 hl (k := 1) rfl (by rw [ex_27]; rfl) (by decide) rfl (fun ls hl => ?_)
              refine lv_goto (tgt := 4) hx hb dX10_restOf_76 (by decide) ?_
              exact ih_5 x_27 x_11 _ _ _ (by omega) (by first | omega | decide) (by first | omega | decide) hw (lv_sub hl [0, 2, 3, 4] rfl)
            · refine lv_aload_n hx hb dX10_restOf_24 rfl (lv_at hl 3 rfl) ?_
              refine lv_iload_n hx hb dX10_restOf_25 rfl (lv_at hl 1 rfl) ?_
              refine lv_iload hx hb dX10_restOf_26 (lv_at hl 0 rfl) ?_
              refine ti_callVi (ci := 10) (av := [.int x_1, .int x_8]) C hw (s_X10_isRest l D A cy hJ M hI x_1 x_8 (by first | omega | decide) (by first | omega | decide) (by first | omega | decide) (by first | omega | decide)) ⟨ml_X10_457, ym_X10_isRest, yv_X10_isRest, yi_X10_isRest, yc_X10_isRest⟩ yd_X10_isRest ob_60 (by decide) rfl rfl hl.1 (Nat.le_of_ble_eq_true rfl) ⟨by decide, by decide⟩ ⟨Nat.zero_le _, Nat.zero_le _⟩ dX10_restOf_28 (fun r_15 M_16 H locs hp_16 hw => ?_)
              obtain ⟨hm, b0r_15, b1r_15⟩ := hp_16
              have hw := hw.to hm
              have hj_67_25 : ∀ (x_25 : Int32) (H : Heap) (locs : List Loc) (ls : Array Slot), ti_H ti_LM D A cy H0 M H locs → lv_has ls 5 [(4, .int x_8), (3, .int x_1), (2, .int x_25), (0, .ref (A 60 0)), (1, .int a)] → W p l e (ti_rm 1) s m args below meth c H locs 0 0 Q (F0 m 67 ls []) := by
                intro x_25 H locs ls  hw hl
                obtain ⟨x_26, ex_26⟩ : ∃ z : Int32, z = x_8 + 1 := ⟨_, rfl⟩
                have tx_26 : x_26.toInt = x_8.toInt + 1 := i_add ex_26 rfl (by decide) (by omega) (by omega)
                refine lv_iinc (v := x_26) (lv' := [(4, .int x_26), (3, .int x_1), (2, .int x_25), (0, .ref (A 60 0)), (1, .int a)]) hx hb dX10_restOf_67 hl (k := 0) rfl (by rw [ex_26]; rfl) (by decide) rfl (fun ls hl => ?_)
                refine lv_goto (tgt := 15) hx hb dX10_restOf_70 (by decide) ?_
                exact ih_12 x_26 x_25 _ _ _ (by omega) (by first | omega | decide) (by first | omega | decide) hw (lv_sub hl [0, 1, 2, 3, 4] rfl)
              refine sb_if_ne (tgt := 37) hx hb rfl dX10_restOf_31 (by decide) (fun c_31_16 => ?_) (fun c_31_16 => ?_)
              · refine lv_iload_n hx hb dX10_restOf_37 rfl (lv_at hl 2 rfl) ?_
                refine lv_iload_n hx hb dX10_restOf_38 rfl (lv_at hl 4 rfl) ?_
                refine sb_icmp_ne (tgt := 64) hx hb rfl rfl dX10_restOf_39 (by decide) (fun c_39_17 => ?_) (fun c_39_17 => ?_)
                · obtain ⟨x_24, ex_24⟩ : ∃ z : Int32, z = x_11 + 1 := ⟨_, rfl⟩
                  refine lv_iinc (v := x_24) (lv' := [(2, .int x_24), (4, .int x_8), (3, .int x_1), (0, .ref (A 60 0)), (1, .int a)]) hx hb dX10_restOf_64 hl (k := 2) rfl (by rw [ex_24]; rfl) (by decide) rfl (fun ls hl => ?_)
                  exact hj_67_25 x_24 _ _ _  hw (lv_sub hl [1, 2, 0, 3, 4] rfl)
                · refine lv_bipush (v := 100) hx hb dX10_restOf_42 (by decide) ?_
                  refine lv_aload_n hx hb dX10_restOf_44 rfl (lv_at hl 3 rfl) ?_
                  refine ti_get (ci := 10) (k := 34) (N := 67) (T := TX10) (v := .ref (A 60 35)) C hw iw_10 rfl ob_60 (by decide) (by decide) fl_X10_69 rfl rfl dX10_restOf_45 ?_
                  refine lv_iconst (v := 0) hx hb dX10_restOf_48 (by decide) ?_
                  refine ti_iald (ci := 10) (k := 34) (n := 23) C hw ob_60 (by decide) (fun _ _ => rfl) (by unfold vp_in; decide) dX10_restOf_49 ?_
                  refine lv_topi (fun x_19 ex_19 => ?_)
                  have yx_19 : tY M 60 34 0 = x_19 := ((congrArg _ (by decide)).symm.trans ex_19.symm)
                  have bx_19 : 0 ≤ x_19.toInt ∧ x_19.toInt ≤ 120 := mI_ry (k := 34) (i := 0) hI yx_19.symm (by decide)
                  have zx_19 : (tY M 60 34 0).toInt = x_19.toInt := by rw [yx_19]
                  refine lv_iload_n hx hb dX10_restOf_50 rfl (lv_at hl 1 rfl) ?_
                  refine lv_iadd hx hb dX10_restOf_51 ?_
                  refine lv_topi (fun x_20 ex_20 => ?_)
                  have tx_20 : x_20.toInt = x_19.toInt + x_1.toInt := i_add ex_20 rfl rfl (by omega) (by omega)
                  refine lv_imul hx hb dX10_restOf_52 ?_
                  refine lv_topi (fun x_21 ex_21 => ?_)
                  have tx_21 : x_21.toInt = 100 * x_20.toInt := i_mul ex_21 (by decide : (100 : Int32).toInt = 100) rfl (by omega) (by omega)
                  refine lv_aload_n hx hb dX10_restOf_53 rfl (lv_at hl 3 rfl) ?_
                  refine ti_get (ci := 10) (k := 34) (N := 67) (T := TX10) (v := .ref (A 60 35)) C hw iw_10 rfl ob_60 (by decide) (by decide) fl_X10_69 rfl rfl dX10_restOf_54 ?_
                  refine lv_iconst (v := 0) hx hb dX10_restOf_57 (by decide) ?_
                  refine ti_iald (ci := 10) (k := 34) (n := 23) C hw ob_60 (by decide) (fun _ _ => rfl) (by unfold vp_in; decide) dX10_restOf_58 ?_
                  refine ti_top (y := x_19) ((congrArg _ (by decide)).trans (yx_19)) ?_
                  refine lv_iadd hx hb dX10_restOf_59 ?_
                  refine lv_topi (fun x_22 ex_22 => ?_)
                  have tx_22 : x_22.toInt = x_21.toInt + x_19.toInt := i_add ex_22 rfl rfl (by omega) (by omega)
                  refine lv_iload hx hb dX10_restOf_60 (lv_at hl 0 rfl) ?_
                  refine lv_iadd hx hb dX10_restOf_62 ?_
                  refine lv_topi (fun x_23 ex_23 => ?_)
                  have tx_23 : x_23.toInt = x_22.toInt + x_8.toInt := i_add ex_23 rfl rfl (by omega) (by omega)
                  exact hQ _ _ _ _ _ _ hw rfl rfl dX10_restOf_63
              · refine lv_goto (tgt := 67) hx hb dX10_restOf_34 (by decide) ?_
                exact hj_67_25 x_11 _ _ _  hw (lv_sub hl [0, 1, 2, 3, 4] rfl)
        exact hl_15_11 ((4 - 0 : Int).toNat + 1) 0 x_4 _ _ _ (Nat.lt_succ_self _) (by have lt0 : (0 : Int32).toInt = 0 := (by decide); first | omega | decide) (by have lt0 : (0 : Int32).toInt = 0 := (by decide); first | omega | decide) hw (lv_sub hl [0, 1, 2, 3, 4] rfl)
  exact hl_4_4 ((4 - 0 : Int).toNat + 1) 0 0 _ _ _ (Nat.lt_succ_self _) (by have lt0 : (0 : Int32).toInt = 0 := (by decide); first | omega | decide) (by have lt0 : (0 : Int32).toInt = 0 := (by decide); first | omega | decide) hw (lv_sub hl [0, 1, 2, 3] rfl)
end
section
variable {Tc : gC} {Tm : gM}
/-- of the queue that is, what a copy elsewhere leaves -/
def kp (N M : ti_M) : Prop := lw N M ∧ tI N 60 2 = tI M 60 2 ∧ tY N 60 38 0 = tY M 60 38 0 ∧ ∀ i : Nat, i < 8 → tY N 60 40 i = tY M 60 40 i
theorem kp.refl {M : ti_M} : kp M M := ⟨fun _ _ _ => rfl, rfl, rfl, fun _ _ => rfl⟩
theorem kp.trans {K N M : ti_M} (a : kp K N) (b : kp N M) : kp K M := ⟨fun k h1 h2 => (a.1 k h1 h2).trans (b.1 k h1 h2), a.2.1.trans b.2.1, a.2.2.1.trans b.2.2.1, fun i h => (a.2.2.2 i h).trans (b.2.2.2 i h)⟩
theorem kp_I {M N : ti_M} {k : Nat} {v : Int32} (e : N = uI M 60 k v) (h : k ≠ 2) : kp N M := ⟨fun _ _ _ => tY_uIE e, tI_nE e (nk (Ne.symm h)), by rw [tY_uIE e], fun i _ => by rw [tY_uIE e]⟩
theorem kp_cq {N M : ti_M} {to as : Nat} (l : lk N M) (c : cq to as N M) (h : to ≠ 0) : kp N M := ⟨l.1, l.2.1, c.2.2.2.1 0 (Ne.symm h), fun i hi => c.2.2.2.2.2.2 i (by omega)⟩
def gq (M : ti_M) (q : Nat) : Prop := mC M q ∧ mP M q
theorem gq_I {M N : ti_M} {k q : Nat} {v : Int32} (e : N = uI M 60 k v) (g : gq M q) : gq N q := by subst e; exact g
theorem gq_qw {M N : ti_M} {q : Nat} (r : qw N M) (g : gq M q) : gq N q := ⟨mC_qw r g.1, mP_qw r g.2⟩
theorem gq_cq {M N : ti_M} {to as : Nat} (c : cq to as N M) (g : gq M as) : gq N to := ⟨c.1 g.1, c.2.1 g.2⟩
theorem mF_cq {M N : ti_M} {to as : Nat} (h : mF Tm M) (hI : mI Tm N) (l : lk N M) (c : cq to as N M) (s : gq M as) : mF Tm N := by
  obtain ⟨-, hL, h1, h3, h4⟩ := h
  have g : ∀ q2, gq M q2 → gq N q2 := fun q2 p => by
    by_cases e : q2 = to
    · rw [e]; exact gq_cq c s
    · exact ⟨(c.2.2.1 q2 e).1 p.1, (c.2.2.1 q2 e).2 p.2⟩
  refine ⟨hI, mL_lw l.1 hL, g 0 h1, ?_, ?_⟩
  · rw [l.2.2.1]; exact fun p => g 2 (h3 p)
  · rw [l.2.2.2]; exact fun k hk => g _ (h4 k hk)
theorem mF_52 {M N : ti_M} {v : Int32} (h : mF Tm M) (hI : mI Tm N) (e : N = uI M 60 52 v) (hv : v.toInt ≤ (tI M 60 52).toInt) : mF Tm N := by
  obtain ⟨-, hL, h1, h3, h4⟩ := h
  refine ⟨hI, mL_lw (fun _ _ _ => tY_uIE e) hL, gq_I e h1, ?_, ?_⟩
  · rw [tI_nE e (nk (by decide))]; exact fun p => gq_I e (h3 p)
  · rw [tI_uE e]; exact fun k hk => gq_I e (h4 k (by omega))
theorem mF_52p {M N : ti_M} {v : Int32} (h : mF Tm M) (hI : mI Tm N) (e : N = uI M 60 52 v) (hv : v.toInt = (tI M 60 52).toInt + 1) (h0 : 0 ≤ (tI M 60 52).toInt) (g : gq M (3 + (tI M 60 52).toInt.toNat)) : mF Tm N := by
  obtain ⟨-, hL, h1, h3, h4⟩ := h
  refine ⟨hI, mL_lw (fun _ _ _ => tY_uIE e) hL, gq_I e h1, ?_, ?_⟩
  · rw [tI_nE e (nk (by decide))]; exact fun p => gq_I e (h3 p)
  · rw [tI_uE e]; exact fun k hk => gq_I e (if hh : (k : Int) < (tI M 60 52).toInt then h4 k hh else by rw [show k = (tI M 60 52).toInt.toNat by omega]; exact g)
theorem mF_51 {M N : ti_M} {v : Int32} (h : mF Tm M) (hI : mI Tm N) (e : N = uI M 60 51 v) (g : gq M 2) : mF Tm N := by
  obtain ⟨-, hL, h1, h3, h4⟩ := h
  refine ⟨hI, mL_lw (fun _ _ _ => tY_uIE e) hL, gq_I e h1, fun _ => gq_I e g, ?_⟩
  rw [tI_nE e (nk (by decide))]; exact fun k hk => gq_I e (h4 k hk)
theorem q_swap {M K N : ti_M} {ia ib : Nat} {x y : Int32} (h : mF Tm M) (hI : mI Tm N) (e1 : K = uY M 60 39 (upd (tY M 60 39) ia y)) (e2 : N = uY K 60 39 (upd (tY K 60 39) ib x)) (ha : ia < 8) (hb : ib < 8) (hx : (tY M 60 39 ia).toInt = x.toInt) (hy : (tY M 60 39 ib).toInt = y.toInt) (hne : x.toInt ≠ y.toInt) (la : (ia : Int) < (tY M 60 38 0).toInt) (lb : (ib : Int) < (tY M 60 38 0).toInt) : mF Tm N ∧ tI N 60 2 = tI M 60 2 := by
  have n : ∀ k, k ≠ 39 → tY N 60 k = tY M 60 k := fun k hk => (tY_nE e2 (nk hk)).trans (tY_nE e1 (nk hk))
  have i : ∀ k, tI N 60 k = tI M 60 k := fun k => (tI_uYE e2).trans (tI_uYE e1)
  have r : tY N 60 39 = upd (upd (tY M 60 39) ia y) ib x := by rw [tY_uE e2, tY_uE e1]
  have hab : ia ≠ ib := by intro q; rw [q] at hx; omega
  obtain ⟨hM, hL, h1, h3, h4⟩ := h
  have hb8 : ∀ z, 0 ≤ (tY M 60 38 z).toInt ∧ (tY M 60 38 z).toInt ≤ 8 := fun z => hM.2.1 38 z
  have g : ∀ q2, gq M q2 → gq N q2 := fun q2 p => by
    refine ⟨?_, ?_⟩
    · have c := p.1; unfold mC at c ⊢; rw [n 38 (by decide), n 40 (by decide)]; exact c
    · intro m hm hmn hw
      rw [n 3 (by decide)] at hmn
      rw [n 40 (by decide)] at hw
      rw [n 38 (by decide), r]
      obtain ⟨p0, k1, k2⟩ := p.2 m hm hmn hw
      have := hb8 q2
      by_cases a : 8 * q2 + p0 = ia
      · have q0 : q2 = 0 := by omega
        subst q0
        rw [a] at k2
        exact ⟨ib, by omega, by rw [show 8 * 0 + ib = ib by omega, pk_us]; omega⟩
      · by_cases b : 8 * q2 + p0 = ib
        · have q0 : q2 = 0 := by omega
          subst q0
          rw [b] at k2
          exact ⟨ia, by omega, by rw [show 8 * 0 + ia = ia by omega, pk_un hab, pk_us]; omega⟩
        · exact ⟨p0, k1, by rw [pk_un b, pk_un a]; exact k2⟩
  refine ⟨⟨hI, mL_lw (fun k k1 k2 => n k (by omega)) hL, g 0 h1, ?_, ?_⟩, i 2⟩
  · rw [i 51]; exact fun p => g 2 (h3 p)
  · rw [i 52]; exact fun k hk => g _ (h4 k hk)
end
section
variable {Tc : gC} {Tm : gM}
set_option maxHeartbeats 4000000 in
theorem x_J0_coder (l : Launch) (a v n : Nat) (f : Nat → Int32) : tx_K l yJ0_coder_7d493 cJ0_coder_7d493 1 (some .byte) 0 (tx_Q a v n f) [.ref a] (fun r => r = 0) := by
  refine tx_enter yp_J0_coder_7d493 (Nat.le_of_ble_eq_true rfl) ?_
  intro p e s m below meth c C hr hlk hE ls hl
  have hx := C.1
  have hb := C.2.1
  have hl : lv_has ls 1 [(0, .ref a)] := hl
  refine va_gets hx hb hE.1.1 va_S.rf C.2.2.2.1 (C.2.2.1 _ fl_J0_38) (fun _ h => h) dJ0_coder_7d493_0 ?_
  refine sb_if_eq (tgt := 13) hx hb (by decide : (1 : Int32).toInt = 1) dJ0_coder_7d493_3 (by decide) (fun h => absurd h (by decide)) (fun _ => ?_)
  refine lv_aload_n hx hb dJ0_coder_7d493_6 rfl (lv_at hl 0 rfl) ?_
  refine vk_getf hx hb hE.2.2.1 va_S.rf C.2.2.2.1 (C.2.2.1 _ fl_J0_15) (fun _ h => h) dJ0_coder_7d493_7 ?_
  refine lv_goto (tgt := 14) hx hb dJ0_coder_7d493_10 (by decide) ?_
  exact tx_ret C hr hlk va_S.rf rfl rfl dJ0_coder_7d493_14
set_option maxHeartbeats 4000000 in
theorem x_J0_length (l : Launch) (a v : Nat) (f : Nat → Int32) : tx_K l yJ0_length_8abf5 cJ0_length_8abf5 1 (some .int) 1 (tx_Q a v 125 f) [.ref a] (fun r => r = 125) := by
  refine tx_enter yp_J0_length_8abf5 (Nat.le_of_ble_eq_true rfl) ?_
  intro p e s m below meth c C hr hlk hE ls hl
  have hx := C.1
  have hb := C.2.1
  have hl : lv_has ls 1 [(0, .ref a)] := hl
  refine lv_aload_n hx hb dJ0_length_8abf5_0 rfl (lv_at hl 0 rfl) ?_
  refine vk_getf hx hb hE.2.2.2.1 va_S.rf C.2.2.2.1 (C.2.2.1 _ fl_J0_9) (fun _ h => h) dJ0_length_8abf5_1 ?_
  refine va_tlen hx hb hE.2.2.2.2 va_S.rf rfl dJ0_length_8abf5_4 ?_
  refine lv_aload_n hx hb dJ0_length_8abf5_5 rfl (lv_at hl 0 rfl) ?_
  refine va_calli (va_runV (As := []) (rest := [.int (Int32.ofNat 125)]) ⟨hx, hb, C.2.2.2.2, C.2.2.2.1, C.2.2.1⟩ (x_J0_coder l a v 125 f) (cwV 0 C.2.2.1 (tx_gV (own := RJ0) (idx := 335) ⟨ml_J0_335, ym_J0_coder_7d493, yv_J0_coder_7d493, yi_J0_coder_7d493, yc_J0_coder_7d493⟩) rfl rfl rfl ⟨rfl, yd_J0_coder_7d493⟩ ⟨by decide, by decide⟩) ⟨tx_fb tx_Qb, (by obtain ⟨cell, q1, q2, q3, -⟩ := hE.2.1; exact ⟨cell, q1, q2, q3⟩), fun U hU hW => ⟨rfl, by unfold tx_Q tx_G; rw [hU]; exact ⟨tx_g.moved hW.alike hE.1, tx_s.moved hW.alike hE.2⟩⟩⟩ rfl rfl hl.1 rfl (lv_room (Nat.le_of_ble_eq_true rfl)) dJ0_length_8abf5_6 ⟨Nat.zero_le _, Nat.zero_le _⟩) (va_S.rf (A := fun _ => False)) (fun q _ h => h) (fun q h => h) ?_
  intro r u t H1 locs1 ht hvm hpo hB hz hk hS
  obtain rfl : r = 0 := hpo
  refine lv_ishr hx hb dJ0_length_8abf5_9 ?_
  refine ti_top (y := 125) (by decide) ?_
  exact tx_ret C hr hlk hS rfl rfl dJ0_length_8abf5_10
section
variable {p : Program} {l : Launch} {e : Env} {R : Room} {s : State} {m : MethodId} {args : Array Value} {below : List Frame} {meth : Method} {c : Code} {H H0 : Heap} {locs : List Loc} {cells slots : Nat} {Q : State → Prop} {pc : Nat} {ls : Array Slot} {rest : List Value} {cc : ByteArray} {own : String} {nL : Nat} {D : va_G} {cy : Nat → ClassId} {Ls : List (Nat × Nat)} {A : Nat → Nat → Nat} {M : ti_M}
theorem ti_length {idx a v : Nat} {f : Nat → Int32} (C : ti_C p s m c args cc own nL D cy Ls A) (hs : tx_s a v 125 f (ti_As Ls A) s H0) (hg : tx_g (ti_As Ls A) s H0) (hw : ti_H Ls D A cy H0 M H locs) (hm : Cond.methodLink own idx yJ0_length_8abf5 ∈ lw_g) (hsz : ls.size = nL) (hrs : (rest.map fun v => v.category).sum ≤ 8) (hR : 1 + 1 ≤ R.frames ∧ 8 + (1 + 11) + 60 * 1 ≤ R.locals) (hcs : cells ≤ R.cells ∧ slots ≤ R.slots) (hdg : decode cc pc = .ok (.invokevirtual idx, 3))
    (kk : ∀ (H1 : Heap) (locs1 : List Loc), ti_H Ls D A cy H0 M H1 locs1 → W p l e R s m args below meth c H1 locs1 cells slots Q (F0 m (pc + 3) ls (.int 125 :: rest))) : W p l e R s m args below meth c H locs cells slots Q (F0 m pc ls (.ref a :: rest)) := by
  refine va_calli (va_runV (As := []) (rest := rest) ⟨C.1, C.2.1, C.2.2.2.2.2.1, C.2.2.2.1, C.2.2.1⟩ (x_J0_length l a v f) (cwV 0 C.2.2.1 (tx_gV ⟨hm, ym_J0_length_8abf5, yv_J0_length_8abf5, yi_J0_length_8abf5, yc_J0_length_8abf5⟩) rfl rfl rfl ⟨rfl, yd_J0_length_8abf5⟩ hR) ⟨tx_fb tx_Qb, ?_, ?_⟩ rfl rfl hsz rfl (lv_room hrs) hdg ⟨hcs.1, hcs.2⟩) hw.2 (fun q _ h => h.elim) (fun q h => h.elim) ?_
  · obtain ⟨cell, q1, q2, q3, -⟩ := hs.1.kept hw.2.2.1
    exact ⟨cell, q1, q2, q3⟩
  · intro U hU hW
    refine ⟨rfl, ?_⟩
    unfold tx_Q tx_G
    rw [hU]
    exact ⟨((hg.moved hW.alike).kept hw.2.2.1).narrow (fun _ h => h.elim), ((hs.moved hW.alike).kept hw.2.2.1).narrow (fun _ h => h.elim)⟩
  · intro r u t H1 locs1 ht hvm hpo hB hz hk hS
    obtain rfl : r = 125 := hpo
    exact kk H1 locs1 ⟨hw.1.kept (fun k q hq => hk q.1 ((hw.1 k q hq).lt) (fun h => h)), hS⟩
end
end
section
variable {Tc : gC} {Tm : gM}
/-- rows stay, and ints but of a to b -/
def pr (a b : Nat) (N M : ti_M) : Prop := N.2.1 = M.2.1 ∧ ∀ k, (k < a ∨ b < k) → tI N 60 k = tI M 60 k
theorem pr.refl {a b : Nat} {M : ti_M} : pr a b M M := ⟨rfl, fun _ _ => rfl⟩
theorem pr.trans {a b : Nat} {K N M : ti_M} (x : pr a b K N) (y : pr a b N M) : pr a b K M := ⟨x.1.trans y.1, fun k h => (x.2 k h).trans (y.2 k h)⟩
theorem pr_w {a b c d : Nat} {N M : ti_M} (x : pr a b N M) (h1 : c ≤ a) (h2 : b ≤ d) : pr c d N M := ⟨x.1, fun k h => x.2 k (by omega)⟩
theorem pr_I {a b k : Nat} {N M : ti_M} {v : Int32} (e : N = uI M 60 k v) (h : a ≤ k ∧ k ≤ b) : pr a b N M := ⟨ry_I e, fun k2 h2 => tI_nE e (nk (by omega))⟩
theorem nz0 {x : Int32} (h : 0 < x.toInt) : x ≠ 0 := by intro q; rw [q] at h; exact absurd h (by decide)
set_option maxHeartbeats 4000000 in
set_option maxRecDepth 100000 in
theorem s_X10_found_0 (l : Launch) (D : va_G) (A : Nat → Nat → Nat) (cy : Nat → ClassId) (hJ : ti_inj ti_LM A) (M : ti_M) (hI : mI Tm M) (n v : Int32) (h1 : 0 ≤ n.toInt) (h2 : n.toInt ≤ 8) : ti_Ki l yX10_found cX10_found 5 (some .int) 0 ti_LM D A cy M [.ref (A 60 5), .int 0, .int n, .int v] (fun r M2 => M2 = M ∧ -1 ≤ r.toInt ∧ r.toInt ≤ 7) := by
  refine ti_eI yp_X10_found hJ ti_LM_nd (Nat.le_of_ble_eq_true rfl) ?_
  intro p e s m args below meth c Q H0 C hQ hw ls hl
  have hx := C.1
  have hb := C.2.1
  have hl : lv_has ls 5 [(0, .ref (A 60 5)), (1, .int 0), (2, .int n), (3, .int v)] := hl
  refine lv_iconst (v := 0) hx hb dX10_found_0 (by decide) ?_
  refine lv_istore (lv' := [(4, .int 0), (0, .ref (A 60 5)), (1, .int 0), (2, .int n), (3, .int v)]) hx hb dX10_found_1 hl (by decide) rfl (fun ls hl => ?_)
  have hl_3_3 : ∀ (n_4 : Nat) (x_1 : Int32) (H : Heap) (locs : List Loc) (ls : Array Slot), (8 - x_1.toInt : Int).toNat < n_4 → (0 ≤ x_1.toInt) → (x_1.toInt ≤ 8) → ti_H ti_LM D A cy H0 M H locs → lv_has ls 5 [(4, .int x_1), (0, .ref (A 60 5)), (1, .int 0), (2, .int n), (3, .int v)] → W p l e (ti_rm 0) s m args below meth c H locs 0 0 Q (F0 m 3 ls []) := by
    intro n_4
    induction n_4 with
    | zero => intro x_1 H locs ls hf_4; exact absurd hf_4 (Nat.not_lt_zero _)
    | succ n_4 ih_4 =>
      intro x_1 H locs ls hf_4 b_2 b_3 hw hl
      refine lv_iload hx hb dX10_found_3 (lv_at hl 0 rfl) ?_
      refine lv_iload_n hx hb dX10_found_5 rfl (lv_at hl 3 rfl) ?_
      refine sb_icmp_ge (tgt := 28) hx hb rfl rfl dX10_found_6 (by decide) (fun c_6_4 => ?_) (fun c_6_4 => ?_)
      · refine lv_iconst (v := (-1)) hx hb dX10_found_28 (by decide) ?_
        exact hQ _ _ _ _ _ _ hw rfl (⟨rfl, by first | omega | decide, by first | omega | decide⟩) dX10_found_29
      · refine lv_aload_n hx hb dX10_found_9 rfl (lv_at hl 1 rfl) ?_
        refine lv_iload_n hx hb dX10_found_10 rfl (lv_at hl 2 rfl) ?_
        refine lv_iload hx hb dX10_found_11 (lv_at hl 0 rfl) ?_
        refine lv_iadd hx hb dX10_found_13 ?_
        refine lv_topi (fun x_6 ex_6 => ?_)
        have tx_6 : x_6.toInt = 0 + x_1.toInt := i_add ex_6 (by decide : (0 : Int32).toInt = 0) rfl (by omega) (by omega)
        refine ti_iald (ci := 10) (k := 4) (n := 16) C hw ob_60 (by decide) (fun _ _ => rfl) (vp_in_iff.mpr (by omega)) dX10_found_14 ?_
        refine lv_topi (fun x_7 ex_7 => ?_)
        have yx_7 : tY M 60 4 x_6.toNatClampNeg = x_7 := (ex_7.symm)
        refine lv_iload_n hx hb dX10_found_15 rfl (lv_at hl 4 rfl) ?_
        refine sb_icmp_ne (tgt := 22) hx hb rfl rfl dX10_found_16 (by decide) (fun c_16_7 => ?_) (fun c_16_7 => ?_)
        · obtain ⟨x_9, ex_9⟩ : ∃ z : Int32, z = x_1 + 1 := ⟨_, rfl⟩
          have tx_9 : x_9.toInt = x_1.toInt + 1 := i_add ex_9 rfl (by decide) (by omega) (by omega)
          refine lv_iinc (v := x_9) (lv' := [(4, .int x_9), (0, .ref (A 60 5)), (1, .int 0), (2, .int n), (3, .int v)]) hx hb dX10_found_22 hl (k := 0) rfl (by rw [ex_9]; rfl) (by decide) rfl (fun ls hl => ?_)
          refine lv_goto (tgt := 3) hx hb dX10_found_25 (by decide) ?_
          exact ih_4 x_9 _ _ _ (by omega) (by first | omega | decide) (by first | omega | decide) hw (lv_sub hl [0, 1, 2, 3, 4] rfl)
        · refine lv_iload hx hb dX10_found_19 (lv_at hl 0 rfl) ?_
          exact hQ _ _ _ _ _ _ hw rfl (⟨rfl, by first | omega | decide, by first | omega | decide⟩) dX10_found_21
  exact hl_3_3 ((8 - 0 : Int).toNat + 1) 0 _ _ _ (Nat.lt_succ_self _) (by have lt0 : (0 : Int32).toInt = 0 := (by decide); first | omega | decide) (by have lt0 : (0 : Int32).toInt = 0 := (by decide); first | omega | decide) hw (lv_sub hl [0, 1, 2, 3, 4] rfl)
def hr (M : ti_M) : Int32 := if (tI M 60 21).toInt < (tI M 60 20).toInt then tY M 60 1 (tI M 60 21).toNatClampNeg else -1
theorem hr_I {M N : ti_M} {k : Nat} {v : Int32} (e : N = uI M 60 k v) (h : k ≠ 20 ∧ k ≠ 21) : hr N = hr M := by unfold hr; rw [tI_nE e (nk (Ne.symm h.1)), tI_nE e (nk (Ne.symm h.2)), tY_uIE e]
set_option maxHeartbeats 4000000 in
set_option maxRecDepth 100000 in
theorem s_X10_here (l : Launch) (D : va_G) (A : Nat → Nat → Nat) (cy : Nat → ClassId) (hJ : ti_inj ti_LM A) (M : ti_M) (hI : mI Tm M)  : ti_Ki l yX10_here cX10_here 1 (some .int) 0 ti_LM D A cy M [.ref (A 60 0)] (fun r M2 => M2 = M ∧ -1 ≤ r.toInt ∧ r.toInt ≤ 255 ∧ (r.toInt = -1 ∨ (tI M 60 21).toInt < (tI M 60 20).toInt) ∧ r = hr M) := by
  refine ti_eI yp_X10_here hJ ti_LM_nd (Nat.le_of_ble_eq_true rfl) ?_
  intro p e s m args below meth c Q H0 C hQ hw ls hl
  have hx := C.1
  have hb := C.2.1
  have hl : lv_has ls 1 [(0, .ref (A 60 0))] := hl
  refine lv_aload_n hx hb dX10_here_0 rfl (lv_at hl 0 rfl) ?_
  refine ti_get (ci := 10) (k := 21) (N := 67) (T := TX10) C hw iw_10 rfl ob_60 (by decide) (by decide) fl_X10_160 rfl rfl dX10_here_1 ?_
  refine lv_topi (fun x_1 ex_1 => ?_)
  have bx_1 : 0 ≤ x_1.toInt ∧ x_1.toInt ≤ 700 := mI_rd hI ex_1
  have ux_1 : (tI M 60 21).toInt = x_1.toInt := by rw [ex_1]
  refine lv_aload_n hx hb dX10_here_4 rfl (lv_at hl 0 rfl) ?_
  refine ti_get (ci := 10) (k := 20) (N := 67) (T := TX10) C hw iw_10 rfl ob_60 (by decide) (by decide) fl_X10_163 rfl rfl dX10_here_5 ?_
  refine lv_topi (fun x_2 ex_2 => ?_)
  have bx_2 : 0 ≤ x_2.toInt ∧ x_2.toInt ≤ 700 := mI_rd hI ex_2
  have ux_2 : (tI M 60 20).toInt = x_2.toInt := by rw [ex_2]
  refine sb_icmp_ge (tgt := 23) hx hb rfl rfl dX10_here_8 (by decide) (fun c_8_2 => ?_) (fun c_8_2 => ?_)
  · refine lv_iconst (v := (-1)) hx hb dX10_here_23 (by decide) ?_
    exact hQ _ _ _ _ _ _ hw rfl (⟨rfl, by decide, by decide, Or.inl (by decide), by unfold hr; rw [if_neg (by omega)]⟩) dX10_here_24
  · refine lv_aload_n hx hb dX10_here_11 rfl (lv_at hl 0 rfl) ?_
    refine ti_get (ci := 10) (k := 1) (N := 67) (T := TX10) (v := .ref (A 60 2)) C hw iw_10 rfl ob_60 (by decide) (by decide) fl_X10_7 rfl rfl dX10_here_12 ?_
    refine lv_aload_n hx hb dX10_here_15 rfl (lv_at hl 0 rfl) ?_
    refine ti_get (ci := 10) (k := 21) (N := 67) (T := TX10) C hw iw_10 rfl ob_60 (by decide) (by decide) fl_X10_160 rfl rfl dX10_here_16 ?_
    refine ti_top (y := x_1) (ex_1.symm) ?_
    have u_4 : (tI M 60 21).toInt = (x_1 : Int32).toInt := by rw [(ex_1.symm)]
    refine ti_iald (ci := 10) (k := 1) (n := 700) C hw ob_60 (by decide) (fun _ _ => rfl) (vp_in_iff.mpr (by omega)) dX10_here_19 ?_
    refine lv_topi (fun x_5 ex_5 => ?_)
    have yx_5 : tY M 60 1 x_1.toNatClampNeg = x_5 := (ex_5.symm)
    have bx_5 : 0 ≤ x_5.toInt ∧ x_5.toInt ≤ 255 := mI_ry (k := 1) (i := x_1.toNatClampNeg) hI yx_5.symm
    refine lv_goto (tgt := 24) hx hb dX10_here_20 (by decide) ?_
    exact hQ _ _ _ _ _ _ hw rfl (⟨rfl, by omega, by omega, Or.inr (by omega), by unfold hr; rw [if_pos (by omega), (ex_1.symm)]; exact yx_5.symm⟩) dX10_here_24
set_option maxHeartbeats 4000000 in
set_option maxRecDepth 100000 in
theorem s_X10_isSmall (l : Launch) (D : va_G) (A : Nat → Nat → Nat) (cy : Nat → ClassId) (hJ : ti_inj ti_LM A) (M : ti_M) (hI : mI Tm M)  (a : Int32) : ti_Ki l yX10_isSmall cX10_isSmall 1 (some .boolean) 0 ti_LM D A cy M [.int a] (fun r M2 => M2 = M ∧ ((r = 1 ∧ 97 ≤ a.toInt ∧ a.toInt ≤ 122) ∨ (r = 0 ∧ (a.toInt < 97 ∨ 122 < a.toInt)))) := by
  refine ti_eI yp_X10_isSmall hJ ti_LM_nd (Nat.le_of_ble_eq_true rfl) ?_
  intro p e s m args below meth c Q H0 C hQ hw ls hl
  have hx := C.1
  have hb := C.2.1
  have hl : lv_has ls 1 [(0, .int a)] := hl
  refine lv_iload_n hx hb dX10_isSmall_0 rfl (lv_at hl 0 rfl) ?_
  refine lv_bipush (v := 97) hx hb dX10_isSmall_1 (by decide) ?_
  refine sb_icmp_lt (tgt := 16) hx hb rfl (by decide : (97 : Int32).toInt = 97) dX10_isSmall_3 (by decide) (fun c_3_0 => ?_) (fun c_3_0 => ?_)
  · refine lv_iconst (v := 0) hx hb dX10_isSmall_16 (by decide) ?_
    exact hQ _ _ _ _ _ _ hw rfl (⟨rfl, Or.inr ⟨rfl, by omega⟩⟩) dX10_isSmall_17
  · refine lv_iload_n hx hb dX10_isSmall_6 rfl (lv_at hl 0 rfl) ?_
    refine lv_bipush (v := 122) hx hb dX10_isSmall_7 (by decide) ?_
    refine sb_icmp_gt (tgt := 16) hx hb rfl (by decide : (122 : Int32).toInt = 122) dX10_isSmall_9 (by decide) (fun c_9_1 => ?_) (fun c_9_1 => ?_)
    · refine lv_iconst (v := 0) hx hb dX10_isSmall_16 (by decide) ?_
      exact hQ _ _ _ _ _ _ hw rfl (⟨rfl, Or.inr ⟨rfl, by omega⟩⟩) dX10_isSmall_17
    · refine lv_iconst (v := 1) hx hb dX10_isSmall_12 (by decide) ?_
      refine lv_goto (tgt := 17) hx hb dX10_isSmall_13 (by decide) ?_
      exact hQ _ _ _ _ _ _ hw rfl (⟨rfl, Or.inl ⟨rfl, by omega, by omega⟩⟩) dX10_isSmall_17
set_option maxHeartbeats 4000000 in
set_option maxRecDepth 100000 in
theorem s_X10_isDigit (l : Launch) (D : va_G) (A : Nat → Nat → Nat) (cy : Nat → ClassId) (hJ : ti_inj ti_LM A) (M : ti_M) (hI : mI Tm M)  (a : Int32) : ti_Ki l yX10_isDigit cX10_isDigit 1 (some .boolean) 0 ti_LM D A cy M [.int a] (fun r M2 => M2 = M ∧ ((r = 1 ∧ 48 ≤ a.toInt ∧ a.toInt ≤ 57) ∨ (r = 0 ∧ (a.toInt < 48 ∨ 57 < a.toInt)))) := by
  refine ti_eI yp_X10_isDigit hJ ti_LM_nd (Nat.le_of_ble_eq_true rfl) ?_
  intro p e s m args below meth c Q H0 C hQ hw ls hl
  have hx := C.1
  have hb := C.2.1
  have hl : lv_has ls 1 [(0, .int a)] := hl
  refine lv_iload_n hx hb dX10_isDigit_0 rfl (lv_at hl 0 rfl) ?_
  refine lv_bipush (v := 48) hx hb dX10_isDigit_1 (by decide) ?_
  refine sb_icmp_lt (tgt := 16) hx hb rfl (by decide : (48 : Int32).toInt = 48) dX10_isDigit_3 (by decide) (fun c_3_0 => ?_) (fun c_3_0 => ?_)
  · refine lv_iconst (v := 0) hx hb dX10_isDigit_16 (by decide) ?_
    exact hQ _ _ _ _ _ _ hw rfl (⟨rfl, Or.inr ⟨rfl, by omega⟩⟩) dX10_isDigit_17
  · refine lv_iload_n hx hb dX10_isDigit_6 rfl (lv_at hl 0 rfl) ?_
    refine lv_bipush (v := 57) hx hb dX10_isDigit_7 (by decide) ?_
    refine sb_icmp_gt (tgt := 16) hx hb rfl (by decide : (57 : Int32).toInt = 57) dX10_isDigit_9 (by decide) (fun c_9_1 => ?_) (fun c_9_1 => ?_)
    · refine lv_iconst (v := 0) hx hb dX10_isDigit_16 (by decide) ?_
      exact hQ _ _ _ _ _ _ hw rfl (⟨rfl, Or.inr ⟨rfl, by omega⟩⟩) dX10_isDigit_17
    · refine lv_iconst (v := 1) hx hb dX10_isDigit_12 (by decide) ?_
      refine lv_goto (tgt := 17) hx hb dX10_isDigit_13 (by decide) ?_
      exact hQ _ _ _ _ _ _ hw rfl (⟨rfl, Or.inl ⟨rfl, by omega, by omega⟩⟩) dX10_isDigit_17
end
section
variable {Tc : gC} {Tm : gM}
set_option maxHeartbeats 4000000 in
set_option maxRecDepth 100000 in
theorem s_X10_fresher_0 (l : Launch) (D : va_G) (A : Nat → Nat → Nat) (cy : Nat → ClassId) (hJ : ti_inj ti_LM A) (M : ti_M) (hI : mI Tm M)  : ti_Ki l yX10_fresher cX10_fresher 2 (some .int) 0 ti_LM D A cy M [.ref (A 60 0), .int 0] (fun r M2 => M2 = M ∧ 0 ≤ r.toInt ∧ r.toInt ≤ 8 ∧ tY M 60 3 11 = r) := by
  refine ti_eI yp_X10_fresher hJ ti_LM_nd (Nat.le_of_ble_eq_true rfl) ?_
  intro p e s m args below meth c Q H0 C hQ hw ls hl
  have hx := C.1
  have hb := C.2.1
  have hl : lv_has ls 2 [(0, .ref (A 60 0)), (1, .int 0)] := hl
  refine lv_aload_n hx hb dX10_fresher_0 rfl (lv_at hl 0 rfl) ?_
  refine ti_get (ci := 10) (k := 3) (N := 67) (T := TX10) (v := .ref (A 60 4)) C hw iw_10 rfl ob_60 (by decide) (by decide) fl_X10_13 rfl rfl dX10_fresher_1 ?_
  refine lv_bipush (v := 11) hx hb dX10_fresher_4 (by decide) ?_
  refine lv_iload_n hx hb dX10_fresher_6 rfl (lv_at hl 1 rfl) ?_
  refine lv_iadd hx hb dX10_fresher_7 ?_
  refine ti_top (y := 11) (by decide) ?_
  refine ti_iald (ci := 10) (k := 3) (n := 22) C hw ob_60 (by decide) (fun _ _ => rfl) (by unfold vp_in; decide) dX10_fresher_8 ?_
  refine lv_topi (fun x_1 ex_1 => ?_)
  have yx_1 : tY M 60 3 11 = x_1 := ((congrArg _ (by decide)).symm.trans ex_1.symm)
  have bx_1 : 0 ≤ x_1.toInt ∧ x_1.toInt ≤ 8 := mI_rn (i := 11) hI yx_1.symm (fun _ h => h)
  have zx_1 : (tY M 60 3 11).toInt = x_1.toInt := by rw [yx_1]
  exact hQ _ _ _ _ _ _ hw rfl (⟨rfl, by omega, by omega, (yx_1)⟩) dX10_fresher_9
set_option maxHeartbeats 4000000 in
set_option maxRecDepth 100000 in
theorem s_X10_fresher_7 (l : Launch) (D : va_G) (A : Nat → Nat → Nat) (cy : Nat → ClassId) (hJ : ti_inj ti_LM A) (M : ti_M) (hI : mI Tm M)  : ti_Ki l yX10_fresher cX10_fresher 2 (some .int) 0 ti_LM D A cy M [.ref (A 60 0), .int 7] (fun r M2 => M2 = M ∧ 0 ≤ r.toInt ∧ r.toInt ≤ 64 ∧ tY M 60 3 18 = r) := by
  refine ti_eI yp_X10_fresher hJ ti_LM_nd (Nat.le_of_ble_eq_true rfl) ?_
  intro p e s m args below meth c Q H0 C hQ hw ls hl
  have hx := C.1
  have hb := C.2.1
  have hl : lv_has ls 2 [(0, .ref (A 60 0)), (1, .int 7)] := hl
  refine lv_aload_n hx hb dX10_fresher_0 rfl (lv_at hl 0 rfl) ?_
  refine ti_get (ci := 10) (k := 3) (N := 67) (T := TX10) (v := .ref (A 60 4)) C hw iw_10 rfl ob_60 (by decide) (by decide) fl_X10_13 rfl rfl dX10_fresher_1 ?_
  refine lv_bipush (v := 11) hx hb dX10_fresher_4 (by decide) ?_
  refine lv_iload_n hx hb dX10_fresher_6 rfl (lv_at hl 1 rfl) ?_
  refine lv_iadd hx hb dX10_fresher_7 ?_
  refine ti_top (y := 18) (by decide) ?_
  refine ti_iald (ci := 10) (k := 3) (n := 22) C hw ob_60 (by decide) (fun _ _ => rfl) (by unfold vp_in; decide) dX10_fresher_8 ?_
  refine lv_topi (fun x_1 ex_1 => ?_)
  have yx_1 : tY M 60 3 18 = x_1 := ((congrArg _ (by decide)).symm.trans ex_1.symm)
  have bx_1 : 0 ≤ x_1.toInt ∧ x_1.toInt ≤ 64 := mI_rn (i := 18) hI yx_1.symm (fun _ h => h)
  have zx_1 : (tY M 60 3 18).toInt = x_1.toInt := by rw [yx_1]
  exact hQ _ _ _ _ _ _ hw rfl (⟨rfl, by omega, by omega, (yx_1)⟩) dX10_fresher_9
end
section
variable {Tc : gC} {Tm : gM}
/-- what the reading of a law leaves -/
def pe (N M : ti_M) : Prop := (∀ k, k ≠ 3 → k ≠ 16 → k ≠ 17 → tY N 60 k = tY M 60 k) ∧ (∀ i, i ≠ 18 → tY N 60 3 i = tY M 60 3 i) ∧ (∀ i : Nat, (i : Int) < 64 + (tY M 60 3 18).toInt → tY N 60 16 i = tY M 60 16 i ∧ tY N 60 17 i = tY M 60 17 i) ∧ (tY M 60 3 18).toInt ≤ (tY N 60 3 18).toInt ∧ (∀ k, (k < 21 ∨ 30 < k) → tI N 60 k = tI M 60 k)
theorem pe.refl {M : ti_M} : pe M M := ⟨fun _ _ _ _ => rfl, fun _ _ => rfl, fun _ _ => ⟨rfl, rfl⟩, Int.le_refl _, fun _ _ => rfl⟩
theorem pe.trans {K N M : ti_M} (x : pe K N) (y : pe N M) : pe K M :=
  ⟨fun k a b c => (x.1 k a b c).trans (y.1 k a b c), fun i h => (x.2.1 i h).trans (y.2.1 i h), fun i h => ⟨(x.2.2.1 i (by have := y.2.2.2.1; omega)).1.trans (y.2.2.1 i h).1, (x.2.2.1 i (by have := y.2.2.2.1; omega)).2.trans (y.2.2.1 i h).2⟩, Int.le_trans y.2.2.2.1 x.2.2.2.1, fun k h => (x.2.2.2.2 k h).trans (y.2.2.2.2 k h)⟩
theorem pe_pr {a b : Nat} {N M : ti_M} (x : pr a b N M) (h1 : 21 ≤ a) (h2 : b ≤ 30) : pe N M :=
  ⟨fun k _ _ _ => tY_fr x.1, fun i _ => by rw [tY_fr x.1], fun i _ => ⟨by rw [tY_fr x.1], by rw [tY_fr x.1]⟩, by rw [tY_fr x.1]; exact Int.le_refl _, fun k h => x.2 k (by omega)⟩
theorem pe_I {k : Nat} {N M : ti_M} {v : Int32} (e : N = uI M 60 k v) (h : 21 ≤ k ∧ k ≤ 30) : pe N M := pe_pr (a := k) (b := k) (pr_I e (by omega)) h.1 h.2
/-- the pile of the law that began at a is d deep, if nothing is wrong -/
def ud (M : ti_M) (a n : Nat) : Option Nat := dp (fun i => tY M 60 16 (64 + i)) (fun i => tY M 60 17 (64 + i)) a n
def us (M : ti_M) (a d : Nat) : Prop := (tI M 60 25).toInt ≠ 0 ∨ ((a : Int) ≤ (tY M 60 3 18).toInt ∧ ∃ b, d ≤ b ∧ ud M a ((tY M 60 3 18).toInt.toNat - a) = some b)
theorem us_pr {x y : Nat} {N M : ti_M} {a d : Nat} (h : us M a d) (r : pr x y N M) (hf : (tI M 60 25).toInt = 0 ∨ (tI N 60 25).toInt ≠ 0) : us N a d := by
  rcases h with h | h
  · exact Or.inl (by omega)
  · by_cases f : (tI N 60 25).toInt = 0
    · refine Or.inr ?_
      unfold ud at *
      rw [tY_fr r.1, tY_fr r.1, tY_fr r.1]; exact h
    · exact Or.inl f
theorem dp_ext {s v s2 v2 : Nat → Int32} {a : Nat} : ∀ n, (∀ i, i < n → s2 (a + i) = s (a + i) ∧ v2 (a + i) = v (a + i)) → dp s2 v2 a n = dp s v a n := by
  intro n
  induction n with
  | zero => intro _; rfl
  | succ n ih =>
    intro h
    simp only [dp]
    rw [ih (fun i hi => h i (by omega)), (h n (by omega)).1, (h n (by omega)).2]
/-- one knot more -/
theorem us_put {M N : ti_M} {a d d2 i j : Nat} {s v w : Int32} (h : us M a d) (f : (tI N 60 25).toInt = (tI M 60 25).toInt) (h0 : 0 ≤ (tY M 60 3 18).toInt) (e6 : tY N 60 16 = upd (tY M 60 16) i s) (e7 : tY N 60 17 = upd (tY M 60 17) j v) (ei : (i : Int) = 64 + (tY M 60 3 18).toInt) (ej : j = i) (e3 : tY N 60 3 18 = w) (hw : w.toInt = (tY M 60 3 18).toInt + 1)
    (hs : (s.toInt = 2 ∧ v.toInt = 260 ∧ 1 ≤ d ∧ d2 = d) ∨ (s.toInt = 2 ∧ 2 ≤ d ∧ d2 = d - 1) ∨ (s.toInt ≠ 2 ∧ (s.toInt = 0 ∨ (0 ≤ v.toInt ∧ v.toInt ≤ 5)) ∧ d2 = d + 1)) : us N a d2 := by
  rcases h with h | ⟨h1, b, hb, h2⟩
  · exact Or.inl (by omega)
  · refine Or.inr ⟨by rw [e3]; omega, ?_⟩
    subst ej
    obtain ⟨n, hn⟩ : ∃ n : Nat, (tY M 60 3 18).toInt.toNat = a + n := ⟨(tY M 60 3 18).toInt.toNat - a, by omega⟩
    rw [e3, show w.toInt.toNat - a = n + 1 by omega]
    rw [show (tY M 60 3 18).toInt.toNat - a = n by omega] at h2
    unfold ud at *
    rw [e6, e7]
    simp only [dp]
    have ex : dp (fun i => upd (tY M 60 16) j s (64 + i)) (fun i => upd (tY M 60 17) j v (64 + i)) a n = dp (fun i => tY M 60 16 (64 + i)) (fun i => tY M 60 17 (64 + i)) a n := dp_ext n (fun x hx => ⟨pk_un (show 64 + (a + x) ≠ j by omega), pk_un (show 64 + (a + x) ≠ j by omega)⟩)
    have hj : j = 64 + (a + n) := by omega
    subst hj
    rw [ex, h2, Option.bind_some]
    simp only [pk_us]
    rcases hs with ⟨q1, q2, q3, q4⟩ | ⟨q1, q3, q4⟩ | ⟨q1, q2, q4⟩
    · rw [if_pos q1, if_pos q2, if_pos (by omega)]; exact ⟨b, by omega, rfl⟩
    · by_cases q2 : v.toInt = 260
      · rw [if_pos q1, if_pos q2, if_pos (by omega)]; exact ⟨b, by omega, rfl⟩
      · rw [if_pos q1, if_neg q2, if_pos (by omega)]; exact ⟨b - 1, by omega, rfl⟩
    · rw [if_neg q1, if_pos q2]; exact ⟨b + 1, by omega, rfl⟩
set_option maxHeartbeats 4000000 in
set_option maxRecDepth 100000 in
theorem s_X10_reads_7 (l : Launch) (D : va_G) (A : Nat → Nat → Nat) (cy : Nat → ClassId) (hJ : ti_inj ti_LM A) (M : ti_M) (hI : mI Tm M) (v : Int32) (h1 : 0 ≤ v.toInt) (h2 : v.toInt ≤ 64) : ti_Kv l yX10_reads cX10_reads 3 0 ti_LM D A cy M [.ref (A 60 0), .int 7, .int v] (fun M2 => mI Tm M2 ∧ M2 = uY M 60 3 (upd (tY M 60 3) 18 v)) := by
  refine ti_eV yp_X10_reads hJ ti_LM_nd (Nat.le_of_ble_eq_true rfl) ?_
  intro p e s m args below meth c Q H0 C hQ hw ls hl
  have hx := C.1
  have hb := C.2.1
  have hl : lv_has ls 3 [(0, .ref (A 60 0)), (1, .int 7), (2, .int v)] := hl
  refine lv_aload_n hx hb dX10_reads_0 rfl (lv_at hl 0 rfl) ?_
  refine ti_get (ci := 10) (k := 3) (N := 67) (T := TX10) (v := .ref (A 60 4)) C hw iw_10 rfl ob_60 (by decide) (by decide) fl_X10_13 rfl rfl dX10_reads_1 ?_
  refine lv_bipush (v := 11) hx hb dX10_reads_4 (by decide) ?_
  refine lv_iload_n hx hb dX10_reads_6 rfl (lv_at hl 1 rfl) ?_
  refine lv_iadd hx hb dX10_reads_7 ?_
  refine ti_top (y := 18) (by decide) ?_
  refine lv_iload_n hx hb dX10_reads_8 rfl (lv_at hl 2 rfl) ?_
  refine ti_iast (ci := 10) (k := 3) (n := 22) C hw ob_60 (by decide) (fun _ _ => rfl) (by unfold vp_in; decide) dX10_reads_9 (fun H locs hw => ?_)
  obtain ⟨M_1, hM_1⟩ : ∃ z : ti_M, z = uY M 60 3 (upd (tY M 60 3) (18 : Int32).toNatClampNeg v) := ⟨_, rfl⟩
  have hw := hw.to hM_1.symm
  have iM_1 : mI Tm M_1 := mI_up (i := 18) hI hM_1 (ib_mk (lo := 0) (hi := 64) (by omega) (by omega))
  exact hQ _ _ _ _ _ hw (⟨iM_1, hM_1⟩) dX10_reads_10
end
section
variable {Tc : gC} {Tm : gM}
def ff (M : ti_M) : Int := if (tI M 60 25).toInt = 0 then 1 else 0
def pg (M : ti_M) : Int := 2 * (tI M 60 21).toInt + (if (tI M 60 23).toInt = 4 then 1 else 0)
theorem ff_b (M : ti_M) : 0 ≤ ff M ∧ ff M ≤ 1 := by unfold ff; split <;> omega
theorem ff_1 {M : ti_M} (h : (tI M 60 25).toInt = 0) : ff M = 1 := by unfold ff; rw [if_pos h]
theorem ff_0 {M : ti_M} (h : ¬ (tI M 60 25).toInt = 0) : ff M = 0 := by unfold ff; rw [if_neg h]
theorem ff_n {M : ti_M} (h : ff M = 0) : (tI M 60 25).toInt ≠ 0 := by intro q; rw [ff_1 q] at h; exact absurd h (by decide)
theorem ff_e {N M : ti_M} (h : tI N 60 25 = tI M 60 25) : ff N = ff M := by unfold ff; rw [h]
theorem ff_f {N M : ti_M} (h : (tI M 60 25).toInt = 0 ∨ (tI N 60 25).toInt ≠ 0) : ff N ≤ ff M := by
  rcases h with h | h
  · rw [ff_1 h]; exact (ff_b N).2
  · rw [ff_0 h]; exact (ff_b M).1
theorem pg_e {N M : ti_M} (h : tI N 60 21 = tI M 60 21) (h2 : tI N 60 23 = tI M 60 23) : pg N = pg M := by unfold pg; rw [h, h2]
theorem pg_b (M : ti_M) : 2 * (tI M 60 21).toInt ≤ pg M ∧ pg M ≤ 2 * (tI M 60 21).toInt + 1 := by unfold pg; split <;> omega
theorem pg_3 {M : ti_M} (h : (tI M 60 23).toInt ≠ 4) : pg M = 2 * (tI M 60 21).toInt := by unfold pg; rw [if_neg h]; omega
theorem pg_s {N M : ti_M} (h1 : (tI M 60 21).toInt ≤ (tI N 60 21).toInt) (h : (tI M 60 21).toInt < (tI N 60 21).toInt ∨ (tI N 60 23).toInt = (tI M 60 23).toInt ∨ (tI N 60 23).toInt = 4) : pg M ≤ pg N := by unfold pg; split <;> split <;> omega
theorem pg_t {N M : ti_M} (h1 : (tI M 60 21).toInt ≤ (tI N 60 21).toInt) (h : (tI M 60 21).toInt < (tI N 60 21).toInt ∨ (tI N 60 23).toInt = 4) : pg M ≤ pg N ∧ 2 * (tI M 60 21).toInt + 1 ≤ pg N := by unfold pg; constructor <;> (repeat' split) <;> omega
theorem ff_I {k : Nat} {N M : ti_M} {v : Int32} (e : N = uI M 60 k v) (h : k ≠ 25) : ff N = ff M := ff_e (tI_nE e (nk (Ne.symm h)))
theorem pg_I {k : Nat} {N M : ti_M} {v : Int32} (e : N = uI M 60 k v) (h : k ≠ 21 ∧ k ≠ 23) : pg N = pg M := pg_e (tI_nE e (nk (Ne.symm h.1))) (tI_nE e (nk (Ne.symm h.2)))
theorem b30 {M : ti_M} (h : mI Tm M) : 0 ≤ (tI M 60 30).toInt ∧ (tI M 60 30).toInt ≤ 64 := h.1 30
theorem b29 {M : ti_M} (h : mI Tm M) : 0 ≤ (tI M 60 29).toInt ∧ (tI M 60 29).toInt ≤ 8 := h.1 29
theorem b18 {M : ti_M} (h : mI Tm M) : 0 ≤ (tY M 60 3 18).toInt ∧ (tY M 60 3 18).toInt ≤ 64 := mI_rn (i := 18) h rfl (fun _ h => h)
theorem us_f {M : ti_M} {a d : Nat} (h : ff M = 0) : us M a d := Or.inl (ff_n h)
theorem z0 {x : Int32} (h : x.toInt = 0) : x = 0 := Int32.toInt_inj.mp (by rw [h]; decide)
theorem us_q {x y : Nat} {N M : ti_M} {a d : Nat} (h : us M a d) (r : pr x y N M) (hf : ff N ≤ ff M) : us N a d := us_pr h r (by
  by_cases q : (tI M 60 25).toInt = 0
  · exact Or.inl q
  · refine Or.inr (ff_n ?_)
    rw [ff_0 q] at hf
    have := (ff_b N).1
    omega)
theorem l_tk {N M : ti_M} (h : mI Tm N ∧ pr 21 24 N M ∧ (tI M 60 21).toInt ≤ (tI N 60 21).toInt ∧ ((tI M 60 21).toInt < (tI N 60 21).toInt ∨ (tI N 60 23).toInt = 4)) : mI Tm N ∧ pr 21 24 N M ∧ pg M ≤ pg N ∧ ff N = ff M ∧ (tI N 60 29).toInt = (tI M 60 29).toInt ∧ (tI N 60 30).toInt = (tI M 60 30).toInt ∧ (tY N 60 3 18).toInt = (tY M 60 3 18).toInt ∧ 2 * (tI M 60 21).toInt + 1 ≤ pg N :=
  ⟨h.1, h.2.1, (pg_t h.2.2.1 h.2.2.2).1, ff_e (h.2.1.2 25 (by decide)), by rw [h.2.1.2 29 (by decide)], by rw [h.2.1.2 30 (by decide)], by rw [tY_fr h.2.1.1], (pg_t h.2.2.1 h.2.2.2).2⟩
theorem l_wr {N M : ti_M} {P1 P2 P3 : Prop} (h : mI Tm N ∧ pr 25 26 N M ∧ P1 ∧ P2 ∧ P3 ∧ (tI N 60 25).toInt ≠ 0) : mI Tm N ∧ pr 25 26 N M ∧ pg N = pg M ∧ ff N = 0 ∧ (tI N 60 29).toInt = (tI M 60 29).toInt ∧ (tI N 60 30).toInt = (tI M 60 30).toInt ∧ (tY N 60 3 18).toInt = (tY M 60 3 18).toInt :=
  ⟨h.1, h.2.1, pg_e (h.2.1.2 21 (by decide)) (h.2.1.2 23 (by decide)), ff_0 h.2.2.2.2.2, by rw [h.2.1.2 29 (by decide)], by rw [h.2.1.2 30 (by decide)], by rw [tY_fr h.2.1.1]⟩
theorem l_go {N M : ti_M} {P4 P5 : Prop} (h : mI Tm N ∧ pr 21 24 N M ∧ ((tI M 60 21).toInt ≤ (tI N 60 21).toInt) ∧ ((tI M 60 21).toInt < (tI N 60 21).toInt ∨ (tI N 60 23).toInt = (tI M 60 23).toInt ∨ (tI N 60 23).toInt = 4) ∧ P4 ∧ P5) : mI Tm N ∧ pr 21 24 N M ∧ pg M ≤ pg N ∧ ff N = ff M ∧ (tI N 60 29).toInt = (tI M 60 29).toInt ∧ (tI N 60 30).toInt = (tI M 60 30).toInt ∧ (tY N 60 3 18).toInt = (tY M 60 3 18).toInt :=
  ⟨h.1, h.2.1, pg_s h.2.2.1 h.2.2.2.1, ff_e (h.2.1.2 25 (by decide)), by rw [h.2.1.2 29 (by decide)], by rw [h.2.1.2 30 (by decide)], by rw [tY_fr h.2.1.1]⟩
theorem l_kn {N M : ti_M} {P1 P2 : Prop} (h : mI Tm N ∧ pr 25 30 N M ∧ P1 ∧ P2 ∧ ((tI M 60 25).toInt = 0 ∨ (tI N 60 25).toInt ≠ 0) ∧ ((tI N 60 29).toInt = (tI M 60 29).toInt) ∧ (((tI M 60 25).toInt ≠ 0 ∧ (tI N 60 30).toInt = (tI M 60 30).toInt) ∨ ((tI M 60 25).toInt = 0 ∧ (((tI N 60 25).toInt ≠ 0 ∧ (tI N 60 30).toInt = (tI M 60 30).toInt) ∨ ((tI N 60 25).toInt = 0 ∧ (tI N 60 30).toInt = (tI M 60 30).toInt + 1))))) : mI Tm N ∧ pr 25 30 N M ∧ pg N = pg M ∧ (0 ≤ ff N ∧ ff N ≤ ff M) ∧ (tI N 60 29).toInt = (tI M 60 29).toInt ∧ (tI N 60 30).toInt = (tI M 60 30).toInt + ff N ∧ (tI N 60 30).toInt ≤ 64 ∧ (tY N 60 3 18).toInt = (tY M 60 3 18).toInt := by
  obtain ⟨h1, h2, -, -, h3, h4, h5⟩ := h
  refine ⟨h1, h2, pg_e (h2.2 21 (by decide)) (h2.2 23 (by decide)), ⟨(ff_b N).1, ff_f h3⟩, h4, ?_, (b30 h1).2, by rw [tY_fr h2.1]⟩
  by_cases q : (tI N 60 25).toInt = 0
  · rw [ff_1 q]; omega
  · rw [ff_0 q]; omega
theorem l_pu {N M : ti_M} {a d2 : Nat} (hM : mI Tm M) (h : mI Tm N ∧ pe N M ∧ us N a d2 ∧ (∀ k, k ≠ 999 → tI N 60 k = tI M 60 k) ∧ ((tI N 60 25).toInt ≠ 0 ∨ (tY N 60 3 18).toInt = (tY M 60 3 18).toInt + 1)) : mI Tm N ∧ pe N M ∧ us N a d2 ∧ pg N = pg M ∧ ff N = ff M ∧ (tI N 60 29).toInt = (tI M 60 29).toInt ∧ (tI N 60 30).toInt = (tI M 60 30).toInt ∧ ((tY M 60 3 18).toInt ≤ (tY N 60 3 18).toInt ∧ (tY N 60 3 18).toInt ≤ 64) ∧ ((tY N 60 3 18).toInt ≤ (tY M 60 3 18).toInt + 65 - 64 * ff M ∧ (tY M 60 3 18).toInt + 1 ≤ (tY N 60 3 18).toInt + 64 - 64 * ff M) := by
  obtain ⟨h1, h2, h3, h4, h5⟩ := h
  have e := h4 25 (by decide)
  refine ⟨h1, h2, h3, pg_e (h4 21 (by decide)) (h4 23 (by decide)), ff_e e, by rw [h4 29 (by decide)], by rw [h4 30 (by decide)], ⟨h2.2.2.2.1, (b18 h1).2⟩, ?_⟩
  have := b18 h1
  have := h2.2.2.2.1
  by_cases q : (tI M 60 25).toInt = 0
  · rw [ff_1 q]; rw [e] at h5; omega
  · rw [ff_0 q]; have := b18 hM; omega
theorem nF {M : ti_M} {P : Prop} (h : ff M = 0) : (tI M 60 25).toInt ≠ 0 ∨ P := Or.inl (ff_n h)
theorem nL {M : ti_M} {P : Prop} (h : ff M = 0 ∨ P) : (tI M 60 25).toInt ≠ 0 ∨ P := h.imp ff_n id
end
section
variable {Tc : gC} {Tm : gM}
/-- what a line that is no law leaves -/
def l0 (N M : ti_M) : Prop := (∀ k, (k < 3 ∨ 13 < k) → tY N 60 k = tY M 60 k) ∧ (∀ i, ((i < 11 ∨ i = 18) → tY N 60 3 i = tY M 60 3 i) ∧ (i < 8 → tY N 60 4 i = tY M 60 4 i)) ∧ (∀ k, (k < 18 ∨ 30 < k) → tI N 60 k = tI M 60 k)
theorem l0.refl {M : ti_M} : l0 M M := ⟨fun _ _ => rfl, fun _ => ⟨fun _ => rfl, fun _ => rfl⟩, fun _ _ => rfl⟩
theorem l0.trans {K N M : ti_M} (x : l0 K N) (y : l0 N M) : l0 K M := ⟨fun k h => (x.1 k h).trans (y.1 k h), fun k => ⟨fun h => ((x.2.1 k).1 h).trans ((y.2.1 k).1 h), fun h => ((x.2.1 k).2 h).trans ((y.2.1 k).2 h)⟩, fun k h => (x.2.2 k h).trans (y.2.2 k h)⟩
theorem l0_pr {a b : Nat} {N M : ti_M} (x : pr a b N M) (h1 : 18 ≤ a) (h2 : b ≤ 30) : l0 N M := ⟨fun k _ => tY_fr x.1, fun i => ⟨fun _ => by rw [tY_fr x.1], fun _ => by rw [tY_fr x.1]⟩, fun k h => x.2 k (by omega)⟩
theorem l0_I {k : Nat} {N M : ti_M} {v : Int32} (e : N = uI M 60 k v) (h : 18 ≤ k ∧ k ≤ 30) : l0 N M := l0_pr (a := k) (b := k) (pr_I e (by omega)) h.1 h.2
theorem l0_Y {k : Nat} {N M : ti_M} {v : Nat → Int32} (e : N = uY M 60 k v) (h : 5 ≤ k ∧ k ≤ 13) : l0 N M := ⟨fun k2 h2 => tY_nE e (nk (by omega)), fun i => ⟨fun _ => by rw [tY_nE e (nk (by omega))], fun _ => by rw [tY_nE e (nk (by omega))]⟩, fun k2 _ => tI_uYE e⟩
theorem l0_4 {i : Nat} {N M : ti_M} {v : Int32} (e : N = uY M 60 4 (upd (tY M 60 4) i v)) (h : 8 ≤ i) : l0 N M := ⟨fun k2 h2 => tY_nE e (nk (by omega)), fun j => ⟨fun _ => by rw [tY_nE e (nk (by decide))], fun hj => by rw [tY_uE e, pk_un (by omega)]⟩, fun k2 _ => tI_uYE e⟩
theorem l0_3 {i : Nat} {N M : ti_M} {v : Int32} (e : N = uY M 60 3 (upd (tY M 60 3) i v)) (h : 11 ≤ i ∧ i ≠ 18) : l0 N M := ⟨fun k2 h2 => tY_nE e (nk (by omega)), fun j => ⟨fun hj => by rw [tY_uE e, pk_un (by omega)], fun _ => by rw [tY_nE e (nk (by decide))]⟩, fun k2 _ => tI_uYE e⟩
/-- what any line leaves -/
def ln (N M : ti_M) : Prop := (∀ k, (k < 3 ∨ 17 < k) → tY N 60 k = tY M 60 k) ∧ (∀ i, (i < 11 → tY N 60 3 i = tY M 60 3 i) ∧ (i < 8 → tY N 60 4 i = tY M 60 4 i)) ∧ (∀ i, i < 3 → tY N 60 14 i = tY M 60 14 i ∧ tY N 60 15 i = tY M 60 15 i) ∧ (∀ i, i < 64 → tY N 60 16 i = tY M 60 16 i ∧ tY N 60 17 i = tY M 60 17 i) ∧ (∀ k, (k < 18 ∨ 30 < k) → tI N 60 k = tI M 60 k)
theorem ln.refl {M : ti_M} : ln M M := ⟨fun _ _ => rfl, fun _ => ⟨fun _ => rfl, fun _ => rfl⟩, fun _ _ => ⟨rfl, rfl⟩, fun _ _ => ⟨rfl, rfl⟩, fun _ _ => rfl⟩
theorem ln.trans {K N M : ti_M} (x : ln K N) (y : ln N M) : ln K M := ⟨fun k h => (x.1 k h).trans (y.1 k h), fun k => ⟨fun h => ((x.2.1 k).1 h).trans ((y.2.1 k).1 h), fun h => ((x.2.1 k).2 h).trans ((y.2.1 k).2 h)⟩, fun k h => ⟨(x.2.2.1 k h).1.trans (y.2.2.1 k h).1, (x.2.2.1 k h).2.trans (y.2.2.1 k h).2⟩, fun k h => ⟨(x.2.2.2.1 k h).1.trans (y.2.2.2.1 k h).1, (x.2.2.2.1 k h).2.trans (y.2.2.2.1 k h).2⟩, fun k h => (x.2.2.2.2 k h).trans (y.2.2.2.2 k h)⟩
theorem ln_l0 {N M : ti_M} (x : l0 N M) : ln N M := ⟨fun k h => x.1 k (by omega), fun i => ⟨fun h => (x.2.1 i).1 (Or.inl h), (x.2.1 i).2⟩, fun i _ => ⟨by rw [x.1 14 (by decide)], by rw [x.1 15 (by decide)]⟩, fun i _ => ⟨by rw [x.1 16 (by decide)], by rw [x.1 17 (by decide)]⟩, x.2.2⟩
theorem ln_pe {N M : ti_M} (x : pe N M) (h : mI Tm M) : ln N M := ⟨fun k h => x.1 k (by omega) (by omega) (by omega), fun i => ⟨fun h => x.2.1 i (by omega), fun _ => by rw [x.1 4 (by decide) (by decide) (by decide)]⟩, fun i _ => ⟨by rw [x.1 14 (by decide) (by decide) (by decide)], by rw [x.1 15 (by decide) (by decide) (by decide)]⟩, fun i hi => x.2.2.1 i (by have := b18 h; omega), fun k h => x.2.2.2.2 k (by omega)⟩
theorem ln_14 {i : Nat} {N M : ti_M} {v : Int32} (e : N = uY M 60 14 (upd (tY M 60 14) i v)) (h : 3 ≤ i) : ln N M := ⟨fun k2 h2 => tY_nE e (nk (by omega)), fun j => ⟨fun hj => by rw [tY_nE e (nk (by decide))], fun hj => by rw [tY_nE e (nk (by decide))]⟩, fun j hj => ⟨by rw [tY_uE e, pk_un (by omega)], by rw [tY_nE e (nk (by decide))]⟩, fun j hj => ⟨by rw [tY_nE e (nk (by decide))], by rw [tY_nE e (nk (by decide))]⟩, fun k2 _ => tI_uYE e⟩
theorem ln_15 {i : Nat} {N M : ti_M} {v : Int32} (e : N = uY M 60 15 (upd (tY M 60 15) i v)) (h : 3 ≤ i) : ln N M := ⟨fun k2 h2 => tY_nE e (nk (by omega)), fun j => ⟨fun hj => by rw [tY_nE e (nk (by decide))], fun hj => by rw [tY_nE e (nk (by decide))]⟩, fun j hj => ⟨by rw [tY_nE e (nk (by decide))], by rw [tY_uE e, pk_un (by omega)]⟩, fun j hj => ⟨by rw [tY_nE e (nk (by decide))], by rw [tY_nE e (nk (by decide))]⟩, fun k2 _ => tI_uYE e⟩
/-- the laws read so far go through -/
def mU (M : ti_M) : Prop := ∀ j : Nat, j < 3 → ∃ a n d : Nat, (tY M 60 14 (3 + j)).toInt = a ∧ (tY M 60 15 (3 + j)).toInt = ((a + n : Nat) : Int) ∧ ((a + n : Nat) : Int) ≤ (tY M 60 3 18).toInt ∧ ud M a n = some d
def um (M : ti_M) : Prop := ff M = 0 ∨ mU M
theorem um_l0 {N M : ti_M} (h : um M) (r : l0 N M) (hf : ff N ≤ ff M) : um N := by
  rcases h with h | h
  · exact Or.inl (by have := ff_b N; omega)
  · refine Or.inr ?_
    unfold mU ud at *
    rw [r.1 14 (by decide), r.1 15 (by decide), r.1 16 (by decide), r.1 17 (by decide), (r.2.1 18).1 (by decide)]; exact h
theorem us_0 {M : ti_M} (h : mI Tm M) : us M (tY M 60 3 18).toInt.toNat 0 := Or.inr ⟨by have := b18 h; omega, 0, Nat.le_refl _, by rw [Nat.sub_self]; rfl⟩
theorem um_law {A0 B C E : ti_M} {i i2 : Nat} {f t : Int32} (h : um A0) (hA : mI Tm A0) (hC : mI Tm C) (e1 : B = uY A0 60 14 (upd (tY A0 60 14) i f)) (hf : f.toInt = (tY A0 60 3 18).toInt) (hi : 3 ≤ i ∧ i ≤ 5) (p : pe C B) (hff : ff C ≤ ff B) (u : us C (tY B 60 3 18).toInt.toNat (0 + 1)) (e2 : E = uY C 60 15 (upd (tY C 60 15) i2 t)) (h2 : i2 = i) (ht : t.toInt = (tY C 60 3 18).toInt) : um E := by
  subst h2
  have kB : tY B 60 3 18 = tY A0 60 3 18 := by rw [tY_nE e1 (nk (by decide))]
  have k1 := b18 hA
  have k2 := b18 hC
  have k3 := p.2.2.2.1
  have fE : ff E = ff C := ff_e (tI_uYE e2)
  have fB : ff B = ff A0 := ff_e (tI_uYE e1)
  have fb := ff_b C
  have fa := ff_b A0
  by_cases q : ff C = 0
  · exact Or.inl (by omega)
  · have hU : mU A0 := h.resolve_left (by omega)
    have u := u.resolve_left (by intro w; exact q (ff_0 w))
    refine Or.inr (fun j hj => ?_)
    have e3 : tY E 60 3 18 = tY C 60 3 18 := by rw [tY_nE e2 (nk (by decide))]
    have e14 : ∀ x, tY E 60 14 x = upd (tY A0 60 14) i2 f x := fun x => by rw [tY_nE e2 (nk (by decide)), p.1 14 (by decide) (by decide) (by decide), tY_uE e1]
    have e15 : ∀ x, tY E 60 15 x = upd (tY A0 60 15) i2 t x := fun x => by rw [tY_uE e2, p.1 15 (by decide) (by decide) (by decide), tY_nE e1 (nk (by decide))]
    have eu : ∀ a n, ud E a n = ud C a n := fun a n => by unfold ud; rw [tY_nE e2 (nk (by decide)), tY_nE e2 (nk (by decide))]
    rw [kB] at u k3
    by_cases z : 3 + j = i2
    · obtain ⟨u1, b, -, u2⟩ := u
      refine ⟨(tY A0 60 3 18).toInt.toNat, (tY C 60 3 18).toInt.toNat - (tY A0 60 3 18).toInt.toNat, b, ?_, ?_, ?_, ?_⟩
      · rw [e14, z, pk_us]; omega
      · rw [e15, z, pk_us]; omega
      · rw [e3]; omega
      · rw [eu]; exact u2
    · obtain ⟨a, n, d, g1, g2, g3, g4⟩ := hU j hj
      refine ⟨a, n, d, ?_, ?_, ?_, ?_⟩
      · rw [e14, pk_un z]; exact g1
      · rw [e15, pk_un z]; exact g2
      · rw [e3]; omega
      · rw [eu, ← g4]
        unfold ud
        refine dp_ext n (fun x hx => ?_)
        have w := p.2.2.1 (64 + (a + x)) (by rw [kB]; omega)
        rw [tY_nE e1 (nk (by decide)), tY_nE e1 (nk (by decide))] at w
        exact w
theorem bn_p {i : Nat} {v : Int32} (h : 19 ≤ i ∧ i ≤ 21) (hv : ib 0 7 v) : mBN i v := by
  obtain rfl | rfl | rfl : i = 19 ∨ i = 20 ∨ i = 21 := by omega
  · exact hv
  · exact hv
  · exact hv
theorem l_ps {a b : Nat} {N M : ti_M} (ha : 21 ≤ a) (hb : b ≤ 28) (h : mI Tm N ∧ pr a b N M ∧ ((tI M 60 21).toInt ≤ (tI N 60 21).toInt) ∧ ((tI M 60 21).toInt < (tI N 60 21).toInt ∨ (tI N 60 23).toInt = (tI M 60 23).toInt ∨ (tI N 60 23).toInt = 4) ∧ ((tI M 60 25).toInt = 0 ∨ (tI N 60 25).toInt ≠ 0)) : pg M ≤ pg N ∧ (0 ≤ ff N ∧ ff N ≤ ff M) ∧ (tI N 60 29).toInt = (tI M 60 29).toInt ∧ (tI N 60 30).toInt = (tI M 60 30).toInt ∧ (tY N 60 3 18).toInt = (tY M 60 3 18).toInt :=
  ⟨pg_s h.2.2.1 h.2.2.2.1, ⟨(ff_b N).1, ff_f h.2.2.2.2⟩, by rw [h.2.1.2 29 (by omega)], by rw [h.2.1.2 30 (by omega)], by rw [tY_fr h.2.1.1]⟩
theorem s5_Y {k : Nat} {N M : ti_M} {v : Nat → Int32} (e : N = uY M 60 k v) (h : k ≠ 3) : ff N = ff M ∧ pg N = pg M ∧ (tI N 60 29).toInt = (tI M 60 29).toInt ∧ (tI N 60 30).toInt = (tI M 60 30).toInt ∧ (tY N 60 3 18).toInt = (tY M 60 3 18).toInt := ⟨ff_e (tI_uYE e), pg_e (tI_uYE e) (tI_uYE e), by rw [tI_uYE e], by rw [tI_uYE e], by rw [tY_nE e (nk (Ne.symm h))]⟩
theorem s5_3 {i : Nat} {N M : ti_M} {v : Int32} (e : N = uY M 60 3 (upd (tY M 60 3) i v)) (h : i ≠ 18) : ff N = ff M ∧ pg N = pg M ∧ (tI N 60 29).toInt = (tI M 60 29).toInt ∧ (tI N 60 30).toInt = (tI M 60 30).toInt ∧ (tY N 60 3 18).toInt = (tY M 60 3 18).toInt := ⟨ff_e (tI_uYE e), pg_e (tI_uYE e) (tI_uYE e), by rw [tI_uYE e], by rw [tI_uYE e], by rw [tY_uE e, pk_un (Ne.symm h)]⟩
set_option maxHeartbeats 4000000 in
set_option maxRecDepth 100000 in
theorem s_X10_reads (l : Launch) (D : va_G) (A : Nat → Nat → Nat) (cy : Nat → ClassId) (hJ : ti_inj ti_LM A) (M : ti_M) (hI : mI Tm M) (q v : Int32) (h1 : 0 ≤ q.toInt) (h2 : q.toInt ≤ 10) (hb0 : mBN (11 + q.toInt).toNat v) : ti_Kv l yX10_reads cX10_reads 3 0 ti_LM D A cy M [.ref (A 60 0), .int q, .int v] (fun M2 => mI Tm M2 ∧ M2 = uY M 60 3 (upd (tY M 60 3) (11 + q.toInt).toNat v)) := by
  refine ti_eV yp_X10_reads hJ ti_LM_nd (Nat.le_of_ble_eq_true rfl) ?_
  intro p e s m args below meth c Q H0 C hQ hw ls hl
  have hx := C.1
  have hb := C.2.1
  have hl : lv_has ls 3 [(0, .ref (A 60 0)), (1, .int q), (2, .int v)] := hl
  refine lv_aload_n hx hb dX10_reads_0 rfl (lv_at hl 0 rfl) ?_
  refine ti_get (ci := 10) (k := 3) (N := 67) (T := TX10) (v := .ref (A 60 4)) C hw iw_10 rfl ob_60 (by decide) (by decide) fl_X10_13 rfl rfl dX10_reads_1 ?_
  refine lv_bipush (v := 11) hx hb dX10_reads_4 (by decide) ?_
  refine lv_iload_n hx hb dX10_reads_6 rfl (lv_at hl 1 rfl) ?_
  refine lv_iadd hx hb dX10_reads_7 ?_
  refine lv_topi (fun x_1 ex_1 => ?_)
  have tx_1 : x_1.toInt = 11 + q.toInt := i_add ex_1 (by decide : (11 : Int32).toInt = 11) rfl (by omega) (by omega)
  refine lv_iload_n hx hb dX10_reads_8 rfl (lv_at hl 2 rfl) ?_
  refine ti_iast (ci := 10) (k := 3) (n := 22) C hw ob_60 (by decide) (fun _ _ => rfl) (vp_in_iff.mpr (by omega)) dX10_reads_9 (fun H locs hw => ?_)
  obtain ⟨M_2, hM_2⟩ : ∃ z : ti_M, z = uY M 60 3 (upd (tY M 60 3) (x_1 : Int32).toNatClampNeg v) := ⟨_, rfl⟩
  have hw := hw.to hM_2.symm
  have iM_2 : mI Tm M_2 := mI_up hI hM_2 (by have h := hb0; rw [show (11 + q.toInt).toNat = (x_1 : Int32).toNatClampNeg by (show _ = (x_1 : Int32).toInt.toNat; omega)] at h; exact h)
  exact hQ _ _ _ _ _ hw (⟨iM_2, by rw [show (11 + q.toInt).toNat = (x_1 : Int32).toNatClampNeg by (show _ = (x_1 : Int32).toInt.toNat; omega)]; exact hM_2⟩) dX10_reads_10
end
section
variable {Tc : gC} {Tm : gM}
/-- a row's upper half goes to its lower one -/
def hs (k h : Nat) (N M : ti_M) (i : Int) : Prop := 0 ≤ i ∧ (∀ x : Nat, (x : Int) < i → tY N 60 k x = tY M 60 k (h + x)) ∧ (∀ x : Nat, i ≤ (x : Int) → tY N 60 k x = tY M 60 k x) ∧ (∀ k2, k2 ≠ k → tY N 60 k2 = tY M 60 k2) ∧ (∀ k2, tI N 60 k2 = tI M 60 k2)
theorem hs_0 {k h : Nat} {M : ti_M} : hs k h M M 0 := ⟨Int.le_refl _, fun x hx => absurd hx (by omega), fun _ _ => rfl, fun _ _ => rfl, fun _ => rfl⟩
theorem hs_s {k h a b : Nat} {G N M : ti_M} {v : Int32} {i i2 : Int} (p : hs k h G M i) (e : N = uY G 60 k (upd (tY G 60 k) a v)) (ha : (a : Int) = i) (hv : tY G 60 k b = v) (hb : b = h + a) (h2 : i2 = i + 1) (hlt : i ≤ (h : Int)) : hs k h N M i2 := by
  obtain ⟨p0, p1, p2, p3, p4⟩ := p
  refine ⟨by omega, fun x hx => ?_, fun x hx => ?_, fun k2 hk => (tY_nE e (nk hk)).trans (p3 k2 hk), fun k2 => (tI_uYE e).trans (p4 k2)⟩
  · rw [tY_uE e]
    by_cases q : x = a
    · subst q; rw [pk_us, ← hv, hb]; exact p2 _ (by omega)
    · rw [pk_un q]; exact p1 x (by omega)
  · rw [tY_uE e, pk_un (by omega)]; exact p2 x (by omega)
def hv (k h : Nat) (N M : ti_M) : Prop := (∀ k2, k2 ≠ k → tY N 60 k2 = tY M 60 k2) ∧ (∀ i : Nat, i < h → tY N 60 k i = tY M 60 k (h + i)) ∧ (∀ k2, tI N 60 k2 = tI M 60 k2)
theorem hv_s {k h : Nat} {N M : ti_M} {i : Int} (p : hs k h N M i) (e : i = (h : Int)) : hv k h N M := ⟨p.2.2.2.1, fun x hx => p.2.1 x (by omega), p.2.2.2.2⟩
theorem bn_h {v : Int32} (i : Nat) (hi : i < 11) (h : mBN (11 + i) v) : mBN i v := by
  obtain rfl | rfl | rfl | rfl | rfl | rfl | rfl | rfl | rfl | rfl | rfl : i = 0 ∨ i = 1 ∨ i = 2 ∨ i = 3 ∨ i = 4 ∨ i = 5 ∨ i = 6 ∨ i = 7 ∨ i = 8 ∨ i = 9 ∨ i = 10 := by omega
  all_goals exact h
theorem bn_g {G : ti_M} {v : Int32} {a b : Nat} (hG : mI Tm G) (hv : tY G 60 3 b = v) (hb : b = 11 + a) (ha : a < 11) : mBY 3 a v := by
  have h := hG.2.1 3 b
  rw [hv] at h
  subst hb
  exact bn_h a ha h
theorem mL_hv {G N : ti_M} (hG : mI Tm G) (u : mU G) (e14 : ∀ i : Nat, i < 3 → tY N 60 14 i = tY G 60 14 (3 + i)) (e15 : ∀ i : Nat, i < 3 → tY N 60 15 i = tY G 60 15 (3 + i)) (e16 : ∀ i : Nat, i < 64 → tY N 60 16 i = tY G 60 16 (64 + i)) (e17 : ∀ i : Nat, i < 64 → tY N 60 17 i = tY G 60 17 (64 + i)) : mL N := by
  intro j hj a n h1 h2
  obtain ⟨a2, n2, d, g1, g2, g3, g4⟩ := u j hj
  rw [e14 j hj] at h1
  rw [e15 j hj] at h2
  obtain rfl : a = a2 := by omega
  obtain rfl : n = n2 := by omega
  have := b18 hG
  refine ⟨d, ?_⟩
  rw [← g4]
  unfold ud
  exact dp_ext n (fun x hx => ⟨e16 _ (by omega), e17 _ (by omega)⟩)
theorem mF_st {N X : ti_M} (hI : mI Tm N) (hL : mL X) (r : rq 0 N X) (c : mC N 0) (p : mP N 0) (h1 : tI X 60 51 = 0) (h2 : tI X 60 52 = 0) : mF Tm N := by
  have z : (0 : Int32).toInt = 0 := by decide
  refine ⟨hI, mL_lw r.1 hL, ⟨c, p⟩, fun h => absurd ?_ h, fun k hk => absurd hk ?_⟩
  · rw [r.2.1.2.1, h1]; exact z
  · rw [r.2.1.2.2, h2, z]; omega
/-- what text leaves while it reads -/
def lx (N M : ti_M) : Prop := (∀ k, (k < 3 ∨ 17 < k) → tY N 60 k = tY M 60 k) ∧ (∀ i, (i < 11 → tY N 60 3 i = tY M 60 3 i) ∧ (i < 8 → tY N 60 4 i = tY M 60 4 i)) ∧ (∀ i, i < 3 → tY N 60 14 i = tY M 60 14 i ∧ tY N 60 15 i = tY M 60 15 i) ∧ (∀ i, i < 64 → tY N 60 16 i = tY M 60 16 i ∧ tY N 60 17 i = tY M 60 17 i) ∧ (∀ k, 30 < k → tI N 60 k = tI M 60 k)
theorem lx_ln {N M : ti_M} (x : ln N M) : lx N M := ⟨x.1, x.2.1, x.2.2.1, x.2.2.2.1, fun k h => x.2.2.2.2 k (by omega)⟩
theorem lx.refl {M : ti_M} : lx M M := lx_ln ln.refl
theorem lx.trans {K N M : ti_M} (x : lx K N) (y : lx N M) : lx K M := ⟨fun k h => (x.1 k h).trans (y.1 k h), fun k => ⟨fun h => ((x.2.1 k).1 h).trans ((y.2.1 k).1 h), fun h => ((x.2.1 k).2 h).trans ((y.2.1 k).2 h)⟩, fun k h => ⟨(x.2.2.1 k h).1.trans (y.2.2.1 k h).1, (x.2.2.1 k h).2.trans (y.2.2.1 k h).2⟩, fun k h => ⟨(x.2.2.2.1 k h).1.trans (y.2.2.2.1 k h).1, (x.2.2.2.1 k h).2.trans (y.2.2.2.1 k h).2⟩, fun k h => (x.2.2.2.2 k h).trans (y.2.2.2.2 k h)⟩
theorem lx_I {k : Nat} {N M : ti_M} {v : Int32} (e : N = uI M 60 k v) (h : k ≤ 30) : lx N M := ⟨fun _ _ => tY_uIE e, fun _ => ⟨fun _ => by rw [tY_uIE e], fun _ => by rw [tY_uIE e]⟩, fun _ _ => ⟨by rw [tY_uIE e], by rw [tY_uIE e]⟩, fun _ _ => ⟨by rw [tY_uIE e], by rw [tY_uIE e]⟩, fun k2 h2 => tI_nE e (nk (by omega))⟩
theorem mF_self {M : ti_M} (h : mF Tm M) : mF (mG M) M := ⟨mI_self h.1, h.2⟩
theorem mF_lx {N M : ti_M} {Tn : gM} (h : mF Tn M) (hI : mI Tm N) (x : lx N M) : mF Tm N := by
  obtain ⟨hM, hL, h1, h3, h4⟩ := h
  have g : ∀ q, mC M q ∧ mP M q → mC N q ∧ mP N q := fun q p => by
    unfold mC mP at *
    rw [x.1 38 (by decide), x.1 39 (by decide), x.1 40 (by decide), (x.2.1 0).1 (by decide)]; exact p
  refine ⟨hI, ?_, g 0 h1, ?_, ?_⟩
  · intro j hj a n e1 e2
    rw [(x.2.2.1 j hj).1] at e1
    rw [(x.2.2.1 j hj).2] at e2
    have b : ib 0 64 (tY M 60 15 j) := hM.2.1 15 j
    have b2 := b.2
    obtain ⟨d, hd⟩ := hL j hj a n e1 e2
    exact ⟨d, by rw [← hd]; exact dp_ext n (fun y hy => x.2.2.2.1 (a + y) (by omega))⟩
  · rw [x.2.2.2.2 51 (by decide)]; exact fun p => g 2 (h3 p)
  · rw [x.2.2.2.2 52 (by decide)]; exact fun k hk => g _ (h4 k hk)
theorem um_0 {M : ti_M} (hI : mI Tm M) (a0 : tY M 60 14 3 = 0) (a1 : tY M 60 14 4 = 0) (a2 : tY M 60 14 5 = 0) (b0 : tY M 60 15 3 = 0) (b1 : tY M 60 15 4 = 0) (b2 : tY M 60 15 5 = 0) : um M := by
  have k1 := b18 hI
  refine Or.inr (fun j hj => ⟨0, 0, 0, ?_, ?_, by omega, rfl⟩)
  · obtain rfl | rfl | rfl : j = 0 ∨ j = 1 ∨ j = 2 := by omega
    · rw [a0]; decide
    · rw [a1]; decide
    · rw [a2]; decide
  · obtain rfl | rfl | rfl : j = 0 ∨ j = 1 ∨ j = 2 := by omega
    · rw [b0]; decide
    · rw [b1]; decide
    · rw [b2]; decide
theorem b21 {M : ti_M} (h : mI Tm M) : 0 ≤ (tI M 60 21).toInt ∧ (tI M 60 21).toInt ≤ 700 := h.1 21
set_option maxHeartbeats 4000000 in
set_option maxRecDepth 100000 in
theorem s_X10_half_3 (l : Launch) (D : va_G) (A : Nat → Nat → Nat) (cy : Nat → ClassId) (hJ : ti_inj ti_LM A) (M : ti_M) (hI : mI Tm M)  : ti_Kv l yX10_half cX10_half 3 0 ti_LM D A cy M [.ref (A 60 4)] (fun M2 => mI Tm M2 ∧ hv 3 11 M2 M) := by
  refine ti_eV yp_X10_half hJ ti_LM_nd (Nat.le_of_ble_eq_true rfl) ?_
  intro p e s m args below meth c Q H0 C hQ hw ls hl
  have hx := C.1
  have hb := C.2.1
  have hl : lv_has ls 3 [(0, .ref (A 60 4))] := hl
  refine lv_aload_n hx hb dX10_half_0 rfl (lv_at hl 0 rfl) ?_
  refine ti_alen (ci := 10) (k := 3) (n := 22) (t0 := 1) (v := 22) C hw ob_60 (by decide) (fun _ _ => ⟨rfl, rfl⟩) rfl rfl dX10_half_1 ?_
  refine lv_iconst (v := 2) hx hb dX10_half_2 (by decide) ?_
  refine lv_idiv hx hb dX10_half_3 (by decide) ?_
  refine ti_top (y := 11) (by decide) ?_
  refine lv_istore_n (lv' := [(1, .int 11), (0, .ref (A 60 4))]) hx hb dX10_half_4 rfl hl (by decide) rfl (fun ls hl => ?_)
  refine lv_iconst (v := 0) hx hb dX10_half_5 (by decide) ?_
  refine lv_istore_n (lv' := [(2, .int 0), (1, .int 11), (0, .ref (A 60 4))]) hx hb dX10_half_6 rfl hl (by decide) rfl (fun ls hl => ?_)
  have hl_7_5 : ∀ (n_6 : Nat) (x_1 : Int32) (M_4 : ti_M) (H : Heap) (locs : List Loc) (ls : Array Slot), (11 - x_1.toInt : Int).toNat < n_6 → (0 ≤ x_1.toInt) → (x_1.toInt ≤ 11) → (mI Tm M_4) → (hs 3 11 M_4 M x_1.toInt) → ti_H ti_LM D A cy H0 M_4 H locs → lv_has ls 3 [(2, .int x_1), (1, .int 11), (0, .ref (A 60 4))] → W p l e (ti_rm 0) s m args below meth c H locs 0 0 Q (F0 m 7 ls []) := by
    intro n_6
    induction n_6 with
    | zero => intro x_1 M_4 H locs ls hf_6; exact absurd hf_6 (Nat.not_lt_zero _)
    | succ n_6 ih_6 =>
      intro x_1 M_4 H locs ls hf_6 b_2 b_3 iM_4 j_5 hw hl
      refine lv_iload_n hx hb dX10_half_7 rfl (lv_at hl 0 rfl) ?_
      refine lv_iload_n hx hb dX10_half_8 rfl (lv_at hl 1 rfl) ?_
      refine sb_icmp_ge (tgt := 26) hx hb rfl (by decide : (11 : Int32).toInt = 11) dX10_half_9 (by decide) (fun c_9_6 => ?_) (fun c_9_6 => ?_)
      · exact hQ _ _ _ _ _ hw (⟨iM_4, hv_s j_5 (by omega)⟩) dX10_half_26
      · refine lv_aload_n hx hb dX10_half_12 rfl (lv_at hl 2 rfl) ?_
        refine lv_iload_n hx hb dX10_half_13 rfl (lv_at hl 0 rfl) ?_
        refine lv_aload_n hx hb dX10_half_14 rfl (lv_at hl 2 rfl) ?_
        refine lv_iload_n hx hb dX10_half_15 rfl (lv_at hl 1 rfl) ?_
        refine lv_iload_n hx hb dX10_half_16 rfl (lv_at hl 0 rfl) ?_
        refine lv_iadd hx hb dX10_half_17 ?_
        refine lv_topi (fun x_8 ex_8 => ?_)
        have tx_8 : x_8.toInt = 11 + x_1.toInt := i_add ex_8 (by decide : (11 : Int32).toInt = 11) rfl (by omega) (by omega)
        refine ti_iald (ci := 10) (k := 3) (n := 22) C hw ob_60 (by decide) (fun _ _ => rfl) (vp_in_iff.mpr (by omega)) dX10_half_18 ?_
        refine lv_topi (fun x_9 ex_9 => ?_)
        have yx_9 : tY M_4 60 3 x_8.toNatClampNeg = x_9 := (ex_9.symm)
        have zx_9 : (tY M_4 60 3 x_8.toNatClampNeg).toInt = x_9.toInt := by rw [yx_9]
        refine ti_iast (ci := 10) (k := 3) (n := 22) C hw ob_60 (by decide) (fun _ _ => rfl) (vp_in_iff.mpr (by omega)) dX10_half_19 (fun H locs hw => ?_)
        obtain ⟨M_10, hM_10⟩ : ∃ z : ti_M, z = uY M_4 60 3 (upd (tY M_4 60 3) (x_1 : Int32).toNatClampNeg x_9) := ⟨_, rfl⟩
        have hw := hw.to hM_10.symm
        have iM_10 : mI Tm M_10 := mI_up iM_4 hM_10 (bn_g iM_4 yx_9 (by show (x_8).toInt.toNat = 11 + (x_1 : Int32).toInt.toNat; omega) (by show (x_1 : Int32).toInt.toNat < 11; omega))
        obtain ⟨x_11, ex_11⟩ : ∃ z : Int32, z = x_1 + 1 := ⟨_, rfl⟩
        have tx_11 : x_11.toInt = x_1.toInt + 1 := i_add ex_11 rfl (by decide) (by omega) (by omega)
        refine lv_iinc (v := x_11) (lv' := [(2, .int x_11), (1, .int 11), (0, .ref (A 60 4))]) hx hb dX10_half_20 hl (k := 0) rfl (by rw [ex_11]; rfl) (by decide) rfl (fun ls hl => ?_)
        refine lv_goto (tgt := 7) hx hb dX10_half_23 (by decide) ?_
        exact ih_6 x_11 M_10 _ _ _ (by omega) (by first | omega | decide) (by first | omega | decide) iM_10 (hs_s (b := x_8.toNatClampNeg) j_5 hM_10 (by show (((x_1 : Int32).toInt.toNat : Nat) : Int) = (x_1 : Int32).toInt; omega) yx_9 (by show (x_8).toInt.toNat = 11 + (x_1 : Int32).toInt.toNat; omega) (by omega) (by omega)) hw (lv_sub hl [0, 1, 2] rfl)
  exact hl_7_5 ((11 - 0 : Int).toNat + 1) 0 M _ _ _ (Nat.lt_succ_self _) (by have lt0 : (0 : Int32).toInt = 0 := (by decide); first | omega | decide) (by have lt0 : (0 : Int32).toInt = 0 := (by decide); first | omega | decide) hI hs_0 hw (lv_sub hl [0, 1, 2] rfl)
set_option maxHeartbeats 4000000 in
set_option maxRecDepth 100000 in
theorem s_X10_half_4 (l : Launch) (D : va_G) (A : Nat → Nat → Nat) (cy : Nat → ClassId) (hJ : ti_inj ti_LM A) (M : ti_M) (hI : mI Tm M)  : ti_Kv l yX10_half cX10_half 3 0 ti_LM D A cy M [.ref (A 60 5)] (fun M2 => mI Tm M2 ∧ hv 4 8 M2 M) := by
  refine ti_eV yp_X10_half hJ ti_LM_nd (Nat.le_of_ble_eq_true rfl) ?_
  intro p e s m args below meth c Q H0 C hQ hw ls hl
  have hx := C.1
  have hb := C.2.1
  have hl : lv_has ls 3 [(0, .ref (A 60 5))] := hl
  refine lv_aload_n hx hb dX10_half_0 rfl (lv_at hl 0 rfl) ?_
  refine ti_alen (ci := 10) (k := 4) (n := 16) (t0 := 1) (v := 16) C hw ob_60 (by decide) (fun _ _ => ⟨rfl, rfl⟩) rfl rfl dX10_half_1 ?_
  refine lv_iconst (v := 2) hx hb dX10_half_2 (by decide) ?_
  refine lv_idiv hx hb dX10_half_3 (by decide) ?_
  refine ti_top (y := 8) (by decide) ?_
  refine lv_istore_n (lv' := [(1, .int 8), (0, .ref (A 60 5))]) hx hb dX10_half_4 rfl hl (by decide) rfl (fun ls hl => ?_)
  refine lv_iconst (v := 0) hx hb dX10_half_5 (by decide) ?_
  refine lv_istore_n (lv' := [(2, .int 0), (1, .int 8), (0, .ref (A 60 5))]) hx hb dX10_half_6 rfl hl (by decide) rfl (fun ls hl => ?_)
  have hl_7_5 : ∀ (n_6 : Nat) (x_1 : Int32) (M_4 : ti_M) (H : Heap) (locs : List Loc) (ls : Array Slot), (8 - x_1.toInt : Int).toNat < n_6 → (0 ≤ x_1.toInt) → (x_1.toInt ≤ 8) → (mI Tm M_4) → (hs 4 8 M_4 M x_1.toInt) → ti_H ti_LM D A cy H0 M_4 H locs → lv_has ls 3 [(2, .int x_1), (1, .int 8), (0, .ref (A 60 5))] → W p l e (ti_rm 0) s m args below meth c H locs 0 0 Q (F0 m 7 ls []) := by
    intro n_6
    induction n_6 with
    | zero => intro x_1 M_4 H locs ls hf_6; exact absurd hf_6 (Nat.not_lt_zero _)
    | succ n_6 ih_6 =>
      intro x_1 M_4 H locs ls hf_6 b_2 b_3 iM_4 j_5 hw hl
      refine lv_iload_n hx hb dX10_half_7 rfl (lv_at hl 0 rfl) ?_
      refine lv_iload_n hx hb dX10_half_8 rfl (lv_at hl 1 rfl) ?_
      refine sb_icmp_ge (tgt := 26) hx hb rfl (by decide : (8 : Int32).toInt = 8) dX10_half_9 (by decide) (fun c_9_6 => ?_) (fun c_9_6 => ?_)
      · exact hQ _ _ _ _ _ hw (⟨iM_4, hv_s j_5 (by omega)⟩) dX10_half_26
      · refine lv_aload_n hx hb dX10_half_12 rfl (lv_at hl 2 rfl) ?_
        refine lv_iload_n hx hb dX10_half_13 rfl (lv_at hl 0 rfl) ?_
        refine lv_aload_n hx hb dX10_half_14 rfl (lv_at hl 2 rfl) ?_
        refine lv_iload_n hx hb dX10_half_15 rfl (lv_at hl 1 rfl) ?_
        refine lv_iload_n hx hb dX10_half_16 rfl (lv_at hl 0 rfl) ?_
        refine lv_iadd hx hb dX10_half_17 ?_
        refine lv_topi (fun x_8 ex_8 => ?_)
        have tx_8 : x_8.toInt = 8 + x_1.toInt := i_add ex_8 (by decide : (8 : Int32).toInt = 8) rfl (by omega) (by omega)
        refine ti_iald (ci := 10) (k := 4) (n := 16) C hw ob_60 (by decide) (fun _ _ => rfl) (vp_in_iff.mpr (by omega)) dX10_half_18 ?_
        refine lv_topi (fun x_9 ex_9 => ?_)
        have yx_9 : tY M_4 60 4 x_8.toNatClampNeg = x_9 := (ex_9.symm)
        refine ti_iast (ci := 10) (k := 4) (n := 16) C hw ob_60 (by decide) (fun _ _ => rfl) (vp_in_iff.mpr (by omega)) dX10_half_19 (fun H locs hw => ?_)
        obtain ⟨M_10, hM_10⟩ : ∃ z : ti_M, z = uY M_4 60 4 (upd (tY M_4 60 4) (x_1 : Int32).toNatClampNeg x_9) := ⟨_, rfl⟩
        have hw := hw.to hM_10.symm
        have iM_10 : mI Tm M_10 := mI_up (i := x_1.toNatClampNeg) iM_4 hM_10 trivial
        obtain ⟨x_11, ex_11⟩ : ∃ z : Int32, z = x_1 + 1 := ⟨_, rfl⟩
        have tx_11 : x_11.toInt = x_1.toInt + 1 := i_add ex_11 rfl (by decide) (by omega) (by omega)
        refine lv_iinc (v := x_11) (lv' := [(2, .int x_11), (1, .int 8), (0, .ref (A 60 5))]) hx hb dX10_half_20 hl (k := 0) rfl (by rw [ex_11]; rfl) (by decide) rfl (fun ls hl => ?_)
        refine lv_goto (tgt := 7) hx hb dX10_half_23 (by decide) ?_
        exact ih_6 x_11 M_10 _ _ _ (by omega) (by first | omega | decide) (by first | omega | decide) iM_10 (hs_s (b := x_8.toNatClampNeg) j_5 hM_10 (by show (((x_1 : Int32).toInt.toNat : Nat) : Int) = (x_1 : Int32).toInt; omega) yx_9 (by show (x_8).toInt.toNat = 8 + (x_1 : Int32).toInt.toNat; omega) (by omega) (by omega)) hw (lv_sub hl [0, 1, 2] rfl)
  exact hl_7_5 ((8 - 0 : Int).toNat + 1) 0 M _ _ _ (Nat.lt_succ_self _) (by have lt0 : (0 : Int32).toInt = 0 := (by decide); first | omega | decide) (by have lt0 : (0 : Int32).toInt = 0 := (by decide); first | omega | decide) hI hs_0 hw (lv_sub hl [0, 1, 2] rfl)
set_option maxHeartbeats 4000000 in
set_option maxRecDepth 100000 in
theorem s_X10_half_5 (l : Launch) (D : va_G) (A : Nat → Nat → Nat) (cy : Nat → ClassId) (hJ : ti_inj ti_LM A) (M : ti_M) (hI : mI Tm M)  : ti_Kv l yX10_half cX10_half 3 0 ti_LM D A cy M [.ref (A 60 6)] (fun M2 => mI Tm M2 ∧ hv 5 8 M2 M) := by
  refine ti_eV yp_X10_half hJ ti_LM_nd (Nat.le_of_ble_eq_true rfl) ?_
  intro p e s m args below meth c Q H0 C hQ hw ls hl
  have hx := C.1
  have hb := C.2.1
  have hl : lv_has ls 3 [(0, .ref (A 60 6))] := hl
  refine lv_aload_n hx hb dX10_half_0 rfl (lv_at hl 0 rfl) ?_
  refine ti_alen (ci := 10) (k := 5) (n := 16) (t0 := 1) (v := 16) C hw ob_60 (by decide) (fun _ _ => ⟨rfl, rfl⟩) rfl rfl dX10_half_1 ?_
  refine lv_iconst (v := 2) hx hb dX10_half_2 (by decide) ?_
  refine lv_idiv hx hb dX10_half_3 (by decide) ?_
  refine ti_top (y := 8) (by decide) ?_
  refine lv_istore_n (lv' := [(1, .int 8), (0, .ref (A 60 6))]) hx hb dX10_half_4 rfl hl (by decide) rfl (fun ls hl => ?_)
  refine lv_iconst (v := 0) hx hb dX10_half_5 (by decide) ?_
  refine lv_istore_n (lv' := [(2, .int 0), (1, .int 8), (0, .ref (A 60 6))]) hx hb dX10_half_6 rfl hl (by decide) rfl (fun ls hl => ?_)
  have hl_7_5 : ∀ (n_6 : Nat) (x_1 : Int32) (M_4 : ti_M) (H : Heap) (locs : List Loc) (ls : Array Slot), (8 - x_1.toInt : Int).toNat < n_6 → (0 ≤ x_1.toInt) → (x_1.toInt ≤ 8) → (mI Tm M_4) → (hs 5 8 M_4 M x_1.toInt) → ti_H ti_LM D A cy H0 M_4 H locs → lv_has ls 3 [(2, .int x_1), (1, .int 8), (0, .ref (A 60 6))] → W p l e (ti_rm 0) s m args below meth c H locs 0 0 Q (F0 m 7 ls []) := by
    intro n_6
    induction n_6 with
    | zero => intro x_1 M_4 H locs ls hf_6; exact absurd hf_6 (Nat.not_lt_zero _)
    | succ n_6 ih_6 =>
      intro x_1 M_4 H locs ls hf_6 b_2 b_3 iM_4 j_5 hw hl
      refine lv_iload_n hx hb dX10_half_7 rfl (lv_at hl 0 rfl) ?_
      refine lv_iload_n hx hb dX10_half_8 rfl (lv_at hl 1 rfl) ?_
      refine sb_icmp_ge (tgt := 26) hx hb rfl (by decide : (8 : Int32).toInt = 8) dX10_half_9 (by decide) (fun c_9_6 => ?_) (fun c_9_6 => ?_)
      · exact hQ _ _ _ _ _ hw (⟨iM_4, hv_s j_5 (by omega)⟩) dX10_half_26
      · refine lv_aload_n hx hb dX10_half_12 rfl (lv_at hl 2 rfl) ?_
        refine lv_iload_n hx hb dX10_half_13 rfl (lv_at hl 0 rfl) ?_
        refine lv_aload_n hx hb dX10_half_14 rfl (lv_at hl 2 rfl) ?_
        refine lv_iload_n hx hb dX10_half_15 rfl (lv_at hl 1 rfl) ?_
        refine lv_iload_n hx hb dX10_half_16 rfl (lv_at hl 0 rfl) ?_
        refine lv_iadd hx hb dX10_half_17 ?_
        refine lv_topi (fun x_8 ex_8 => ?_)
        have tx_8 : x_8.toInt = 8 + x_1.toInt := i_add ex_8 (by decide : (8 : Int32).toInt = 8) rfl (by omega) (by omega)
        refine ti_iald (ci := 10) (k := 5) (n := 16) C hw ob_60 (by decide) (fun _ _ => rfl) (vp_in_iff.mpr (by omega)) dX10_half_18 ?_
        refine lv_topi (fun x_9 ex_9 => ?_)
        have yx_9 : tY M_4 60 5 x_8.toNatClampNeg = x_9 := (ex_9.symm)
        refine ti_iast (ci := 10) (k := 5) (n := 16) C hw ob_60 (by decide) (fun _ _ => rfl) (vp_in_iff.mpr (by omega)) dX10_half_19 (fun H locs hw => ?_)
        obtain ⟨M_10, hM_10⟩ : ∃ z : ti_M, z = uY M_4 60 5 (upd (tY M_4 60 5) (x_1 : Int32).toNatClampNeg x_9) := ⟨_, rfl⟩
        have hw := hw.to hM_10.symm
        have iM_10 : mI Tm M_10 := mI_up (i := x_1.toNatClampNeg) iM_4 hM_10 trivial
        obtain ⟨x_11, ex_11⟩ : ∃ z : Int32, z = x_1 + 1 := ⟨_, rfl⟩
        have tx_11 : x_11.toInt = x_1.toInt + 1 := i_add ex_11 rfl (by decide) (by omega) (by omega)
        refine lv_iinc (v := x_11) (lv' := [(2, .int x_11), (1, .int 8), (0, .ref (A 60 6))]) hx hb dX10_half_20 hl (k := 0) rfl (by rw [ex_11]; rfl) (by decide) rfl (fun ls hl => ?_)
        refine lv_goto (tgt := 7) hx hb dX10_half_23 (by decide) ?_
        exact ih_6 x_11 M_10 _ _ _ (by omega) (by first | omega | decide) (by first | omega | decide) iM_10 (hs_s (b := x_8.toNatClampNeg) j_5 hM_10 (by show (((x_1 : Int32).toInt.toNat : Nat) : Int) = (x_1 : Int32).toInt; omega) yx_9 (by show (x_8).toInt.toNat = 8 + (x_1 : Int32).toInt.toNat; omega) (by omega) (by omega)) hw (lv_sub hl [0, 1, 2] rfl)
  exact hl_7_5 ((8 - 0 : Int).toNat + 1) 0 M _ _ _ (Nat.lt_succ_self _) (by have lt0 : (0 : Int32).toInt = 0 := (by decide); first | omega | decide) (by have lt0 : (0 : Int32).toInt = 0 := (by decide); first | omega | decide) hI hs_0 hw (lv_sub hl [0, 1, 2] rfl)
set_option maxHeartbeats 4000000 in
set_option maxRecDepth 100000 in
theorem s_X10_half_6 (l : Launch) (D : va_G) (A : Nat → Nat → Nat) (cy : Nat → ClassId) (hJ : ti_inj ti_LM A) (M : ti_M) (hI : mI Tm M)  : ti_Kv l yX10_half cX10_half 3 0 ti_LM D A cy M [.ref (A 60 7)] (fun M2 => mI Tm M2 ∧ hv 6 8 M2 M) := by
  refine ti_eV yp_X10_half hJ ti_LM_nd (Nat.le_of_ble_eq_true rfl) ?_
  intro p e s m args below meth c Q H0 C hQ hw ls hl
  have hx := C.1
  have hb := C.2.1
  have hl : lv_has ls 3 [(0, .ref (A 60 7))] := hl
  refine lv_aload_n hx hb dX10_half_0 rfl (lv_at hl 0 rfl) ?_
  refine ti_alen (ci := 10) (k := 6) (n := 16) (t0 := 1) (v := 16) C hw ob_60 (by decide) (fun _ _ => ⟨rfl, rfl⟩) rfl rfl dX10_half_1 ?_
  refine lv_iconst (v := 2) hx hb dX10_half_2 (by decide) ?_
  refine lv_idiv hx hb dX10_half_3 (by decide) ?_
  refine ti_top (y := 8) (by decide) ?_
  refine lv_istore_n (lv' := [(1, .int 8), (0, .ref (A 60 7))]) hx hb dX10_half_4 rfl hl (by decide) rfl (fun ls hl => ?_)
  refine lv_iconst (v := 0) hx hb dX10_half_5 (by decide) ?_
  refine lv_istore_n (lv' := [(2, .int 0), (1, .int 8), (0, .ref (A 60 7))]) hx hb dX10_half_6 rfl hl (by decide) rfl (fun ls hl => ?_)
  have hl_7_5 : ∀ (n_6 : Nat) (x_1 : Int32) (M_4 : ti_M) (H : Heap) (locs : List Loc) (ls : Array Slot), (8 - x_1.toInt : Int).toNat < n_6 → (0 ≤ x_1.toInt) → (x_1.toInt ≤ 8) → (mI Tm M_4) → (hs 6 8 M_4 M x_1.toInt) → ti_H ti_LM D A cy H0 M_4 H locs → lv_has ls 3 [(2, .int x_1), (1, .int 8), (0, .ref (A 60 7))] → W p l e (ti_rm 0) s m args below meth c H locs 0 0 Q (F0 m 7 ls []) := by
    intro n_6
    induction n_6 with
    | zero => intro x_1 M_4 H locs ls hf_6; exact absurd hf_6 (Nat.not_lt_zero _)
    | succ n_6 ih_6 =>
      intro x_1 M_4 H locs ls hf_6 b_2 b_3 iM_4 j_5 hw hl
      refine lv_iload_n hx hb dX10_half_7 rfl (lv_at hl 0 rfl) ?_
      refine lv_iload_n hx hb dX10_half_8 rfl (lv_at hl 1 rfl) ?_
      refine sb_icmp_ge (tgt := 26) hx hb rfl (by decide : (8 : Int32).toInt = 8) dX10_half_9 (by decide) (fun c_9_6 => ?_) (fun c_9_6 => ?_)
      · exact hQ _ _ _ _ _ hw (⟨iM_4, hv_s j_5 (by omega)⟩) dX10_half_26
      · refine lv_aload_n hx hb dX10_half_12 rfl (lv_at hl 2 rfl) ?_
        refine lv_iload_n hx hb dX10_half_13 rfl (lv_at hl 0 rfl) ?_
        refine lv_aload_n hx hb dX10_half_14 rfl (lv_at hl 2 rfl) ?_
        refine lv_iload_n hx hb dX10_half_15 rfl (lv_at hl 1 rfl) ?_
        refine lv_iload_n hx hb dX10_half_16 rfl (lv_at hl 0 rfl) ?_
        refine lv_iadd hx hb dX10_half_17 ?_
        refine lv_topi (fun x_8 ex_8 => ?_)
        have tx_8 : x_8.toInt = 8 + x_1.toInt := i_add ex_8 (by decide : (8 : Int32).toInt = 8) rfl (by omega) (by omega)
        refine ti_iald (ci := 10) (k := 6) (n := 16) C hw ob_60 (by decide) (fun _ _ => rfl) (vp_in_iff.mpr (by omega)) dX10_half_18 ?_
        refine lv_topi (fun x_9 ex_9 => ?_)
        have yx_9 : tY M_4 60 6 x_8.toNatClampNeg = x_9 := (ex_9.symm)
        refine ti_iast (ci := 10) (k := 6) (n := 16) C hw ob_60 (by decide) (fun _ _ => rfl) (vp_in_iff.mpr (by omega)) dX10_half_19 (fun H locs hw => ?_)
        obtain ⟨M_10, hM_10⟩ : ∃ z : ti_M, z = uY M_4 60 6 (upd (tY M_4 60 6) (x_1 : Int32).toNatClampNeg x_9) := ⟨_, rfl⟩
        have hw := hw.to hM_10.symm
        have iM_10 : mI Tm M_10 := mI_up (i := x_1.toNatClampNeg) iM_4 hM_10 trivial
        obtain ⟨x_11, ex_11⟩ : ∃ z : Int32, z = x_1 + 1 := ⟨_, rfl⟩
        have tx_11 : x_11.toInt = x_1.toInt + 1 := i_add ex_11 rfl (by decide) (by omega) (by omega)
        refine lv_iinc (v := x_11) (lv' := [(2, .int x_11), (1, .int 8), (0, .ref (A 60 7))]) hx hb dX10_half_20 hl (k := 0) rfl (by rw [ex_11]; rfl) (by decide) rfl (fun ls hl => ?_)
        refine lv_goto (tgt := 7) hx hb dX10_half_23 (by decide) ?_
        exact ih_6 x_11 M_10 _ _ _ (by omega) (by first | omega | decide) (by first | omega | decide) iM_10 (hs_s (b := x_8.toNatClampNeg) j_5 hM_10 (by show (((x_1 : Int32).toInt.toNat : Nat) : Int) = (x_1 : Int32).toInt; omega) yx_9 (by show (x_8).toInt.toNat = 8 + (x_1 : Int32).toInt.toNat; omega) (by omega) (by omega)) hw (lv_sub hl [0, 1, 2] rfl)
  exact hl_7_5 ((8 - 0 : Int).toNat + 1) 0 M _ _ _ (Nat.lt_succ_self _) (by have lt0 : (0 : Int32).toInt = 0 := (by decide); first | omega | decide) (by have lt0 : (0 : Int32).toInt = 0 := (by decide); first | omega | decide) hI hs_0 hw (lv_sub hl [0, 1, 2] rfl)
set_option maxHeartbeats 4000000 in
set_option maxRecDepth 100000 in
theorem s_X10_half_7 (l : Launch) (D : va_G) (A : Nat → Nat → Nat) (cy : Nat → ClassId) (hJ : ti_inj ti_LM A) (M : ti_M) (hI : mI Tm M)  : ti_Kv l yX10_half cX10_half 3 0 ti_LM D A cy M [.ref (A 60 8)] (fun M2 => mI Tm M2 ∧ hv 7 8 M2 M) := by
  refine ti_eV yp_X10_half hJ ti_LM_nd (Nat.le_of_ble_eq_true rfl) ?_
  intro p e s m args below meth c Q H0 C hQ hw ls hl
  have hx := C.1
  have hb := C.2.1
  have hl : lv_has ls 3 [(0, .ref (A 60 8))] := hl
  refine lv_aload_n hx hb dX10_half_0 rfl (lv_at hl 0 rfl) ?_
  refine ti_alen (ci := 10) (k := 7) (n := 16) (t0 := 1) (v := 16) C hw ob_60 (by decide) (fun _ _ => ⟨rfl, rfl⟩) rfl rfl dX10_half_1 ?_
  refine lv_iconst (v := 2) hx hb dX10_half_2 (by decide) ?_
  refine lv_idiv hx hb dX10_half_3 (by decide) ?_
  refine ti_top (y := 8) (by decide) ?_
  refine lv_istore_n (lv' := [(1, .int 8), (0, .ref (A 60 8))]) hx hb dX10_half_4 rfl hl (by decide) rfl (fun ls hl => ?_)
  refine lv_iconst (v := 0) hx hb dX10_half_5 (by decide) ?_
  refine lv_istore_n (lv' := [(2, .int 0), (1, .int 8), (0, .ref (A 60 8))]) hx hb dX10_half_6 rfl hl (by decide) rfl (fun ls hl => ?_)
  have hl_7_5 : ∀ (n_6 : Nat) (x_1 : Int32) (M_4 : ti_M) (H : Heap) (locs : List Loc) (ls : Array Slot), (8 - x_1.toInt : Int).toNat < n_6 → (0 ≤ x_1.toInt) → (x_1.toInt ≤ 8) → (mI Tm M_4) → (hs 7 8 M_4 M x_1.toInt) → ti_H ti_LM D A cy H0 M_4 H locs → lv_has ls 3 [(2, .int x_1), (1, .int 8), (0, .ref (A 60 8))] → W p l e (ti_rm 0) s m args below meth c H locs 0 0 Q (F0 m 7 ls []) := by
    intro n_6
    induction n_6 with
    | zero => intro x_1 M_4 H locs ls hf_6; exact absurd hf_6 (Nat.not_lt_zero _)
    | succ n_6 ih_6 =>
      intro x_1 M_4 H locs ls hf_6 b_2 b_3 iM_4 j_5 hw hl
      refine lv_iload_n hx hb dX10_half_7 rfl (lv_at hl 0 rfl) ?_
      refine lv_iload_n hx hb dX10_half_8 rfl (lv_at hl 1 rfl) ?_
      refine sb_icmp_ge (tgt := 26) hx hb rfl (by decide : (8 : Int32).toInt = 8) dX10_half_9 (by decide) (fun c_9_6 => ?_) (fun c_9_6 => ?_)
      · exact hQ _ _ _ _ _ hw (⟨iM_4, hv_s j_5 (by omega)⟩) dX10_half_26
      · refine lv_aload_n hx hb dX10_half_12 rfl (lv_at hl 2 rfl) ?_
        refine lv_iload_n hx hb dX10_half_13 rfl (lv_at hl 0 rfl) ?_
        refine lv_aload_n hx hb dX10_half_14 rfl (lv_at hl 2 rfl) ?_
        refine lv_iload_n hx hb dX10_half_15 rfl (lv_at hl 1 rfl) ?_
        refine lv_iload_n hx hb dX10_half_16 rfl (lv_at hl 0 rfl) ?_
        refine lv_iadd hx hb dX10_half_17 ?_
        refine lv_topi (fun x_8 ex_8 => ?_)
        have tx_8 : x_8.toInt = 8 + x_1.toInt := i_add ex_8 (by decide : (8 : Int32).toInt = 8) rfl (by omega) (by omega)
        refine ti_iald (ci := 10) (k := 7) (n := 16) C hw ob_60 (by decide) (fun _ _ => rfl) (vp_in_iff.mpr (by omega)) dX10_half_18 ?_
        refine lv_topi (fun x_9 ex_9 => ?_)
        have yx_9 : tY M_4 60 7 x_8.toNatClampNeg = x_9 := (ex_9.symm)
        refine ti_iast (ci := 10) (k := 7) (n := 16) C hw ob_60 (by decide) (fun _ _ => rfl) (vp_in_iff.mpr (by omega)) dX10_half_19 (fun H locs hw => ?_)
        obtain ⟨M_10, hM_10⟩ : ∃ z : ti_M, z = uY M_4 60 7 (upd (tY M_4 60 7) (x_1 : Int32).toNatClampNeg x_9) := ⟨_, rfl⟩
        have hw := hw.to hM_10.symm
        have iM_10 : mI Tm M_10 := mI_up (i := x_1.toNatClampNeg) iM_4 hM_10 trivial
        obtain ⟨x_11, ex_11⟩ : ∃ z : Int32, z = x_1 + 1 := ⟨_, rfl⟩
        have tx_11 : x_11.toInt = x_1.toInt + 1 := i_add ex_11 rfl (by decide) (by omega) (by omega)
        refine lv_iinc (v := x_11) (lv' := [(2, .int x_11), (1, .int 8), (0, .ref (A 60 8))]) hx hb dX10_half_20 hl (k := 0) rfl (by rw [ex_11]; rfl) (by decide) rfl (fun ls hl => ?_)
        refine lv_goto (tgt := 7) hx hb dX10_half_23 (by decide) ?_
        exact ih_6 x_11 M_10 _ _ _ (by omega) (by first | omega | decide) (by first | omega | decide) iM_10 (hs_s (b := x_8.toNatClampNeg) j_5 hM_10 (by show (((x_1 : Int32).toInt.toNat : Nat) : Int) = (x_1 : Int32).toInt; omega) yx_9 (by show (x_8).toInt.toNat = 8 + (x_1 : Int32).toInt.toNat; omega) (by omega) (by omega)) hw (lv_sub hl [0, 1, 2] rfl)
  exact hl_7_5 ((8 - 0 : Int).toNat + 1) 0 M _ _ _ (Nat.lt_succ_self _) (by have lt0 : (0 : Int32).toInt = 0 := (by decide); first | omega | decide) (by have lt0 : (0 : Int32).toInt = 0 := (by decide); first | omega | decide) hI hs_0 hw (lv_sub hl [0, 1, 2] rfl)
set_option maxHeartbeats 4000000 in
set_option maxRecDepth 100000 in
theorem s_X10_half_8 (l : Launch) (D : va_G) (A : Nat → Nat → Nat) (cy : Nat → ClassId) (hJ : ti_inj ti_LM A) (M : ti_M) (hI : mI Tm M)  : ti_Kv l yX10_half cX10_half 3 0 ti_LM D A cy M [.ref (A 60 9)] (fun M2 => mI Tm M2 ∧ hv 8 8 M2 M) := by
  refine ti_eV yp_X10_half hJ ti_LM_nd (Nat.le_of_ble_eq_true rfl) ?_
  intro p e s m args below meth c Q H0 C hQ hw ls hl
  have hx := C.1
  have hb := C.2.1
  have hl : lv_has ls 3 [(0, .ref (A 60 9))] := hl
  refine lv_aload_n hx hb dX10_half_0 rfl (lv_at hl 0 rfl) ?_
  refine ti_alen (ci := 10) (k := 8) (n := 16) (t0 := 1) (v := 16) C hw ob_60 (by decide) (fun _ _ => ⟨rfl, rfl⟩) rfl rfl dX10_half_1 ?_
  refine lv_iconst (v := 2) hx hb dX10_half_2 (by decide) ?_
  refine lv_idiv hx hb dX10_half_3 (by decide) ?_
  refine ti_top (y := 8) (by decide) ?_
  refine lv_istore_n (lv' := [(1, .int 8), (0, .ref (A 60 9))]) hx hb dX10_half_4 rfl hl (by decide) rfl (fun ls hl => ?_)
  refine lv_iconst (v := 0) hx hb dX10_half_5 (by decide) ?_
  refine lv_istore_n (lv' := [(2, .int 0), (1, .int 8), (0, .ref (A 60 9))]) hx hb dX10_half_6 rfl hl (by decide) rfl (fun ls hl => ?_)
  have hl_7_5 : ∀ (n_6 : Nat) (x_1 : Int32) (M_4 : ti_M) (H : Heap) (locs : List Loc) (ls : Array Slot), (8 - x_1.toInt : Int).toNat < n_6 → (0 ≤ x_1.toInt) → (x_1.toInt ≤ 8) → (mI Tm M_4) → (hs 8 8 M_4 M x_1.toInt) → ti_H ti_LM D A cy H0 M_4 H locs → lv_has ls 3 [(2, .int x_1), (1, .int 8), (0, .ref (A 60 9))] → W p l e (ti_rm 0) s m args below meth c H locs 0 0 Q (F0 m 7 ls []) := by
    intro n_6
    induction n_6 with
    | zero => intro x_1 M_4 H locs ls hf_6; exact absurd hf_6 (Nat.not_lt_zero _)
    | succ n_6 ih_6 =>
      intro x_1 M_4 H locs ls hf_6 b_2 b_3 iM_4 j_5 hw hl
      refine lv_iload_n hx hb dX10_half_7 rfl (lv_at hl 0 rfl) ?_
      refine lv_iload_n hx hb dX10_half_8 rfl (lv_at hl 1 rfl) ?_
      refine sb_icmp_ge (tgt := 26) hx hb rfl (by decide : (8 : Int32).toInt = 8) dX10_half_9 (by decide) (fun c_9_6 => ?_) (fun c_9_6 => ?_)
      · exact hQ _ _ _ _ _ hw (⟨iM_4, hv_s j_5 (by omega)⟩) dX10_half_26
      · refine lv_aload_n hx hb dX10_half_12 rfl (lv_at hl 2 rfl) ?_
        refine lv_iload_n hx hb dX10_half_13 rfl (lv_at hl 0 rfl) ?_
        refine lv_aload_n hx hb dX10_half_14 rfl (lv_at hl 2 rfl) ?_
        refine lv_iload_n hx hb dX10_half_15 rfl (lv_at hl 1 rfl) ?_
        refine lv_iload_n hx hb dX10_half_16 rfl (lv_at hl 0 rfl) ?_
        refine lv_iadd hx hb dX10_half_17 ?_
        refine lv_topi (fun x_8 ex_8 => ?_)
        have tx_8 : x_8.toInt = 8 + x_1.toInt := i_add ex_8 (by decide : (8 : Int32).toInt = 8) rfl (by omega) (by omega)
        refine ti_iald (ci := 10) (k := 8) (n := 16) C hw ob_60 (by decide) (fun _ _ => rfl) (vp_in_iff.mpr (by omega)) dX10_half_18 ?_
        refine lv_topi (fun x_9 ex_9 => ?_)
        have yx_9 : tY M_4 60 8 x_8.toNatClampNeg = x_9 := (ex_9.symm)
        refine ti_iast (ci := 10) (k := 8) (n := 16) C hw ob_60 (by decide) (fun _ _ => rfl) (vp_in_iff.mpr (by omega)) dX10_half_19 (fun H locs hw => ?_)
        obtain ⟨M_10, hM_10⟩ : ∃ z : ti_M, z = uY M_4 60 8 (upd (tY M_4 60 8) (x_1 : Int32).toNatClampNeg x_9) := ⟨_, rfl⟩
        have hw := hw.to hM_10.symm
        have iM_10 : mI Tm M_10 := mI_up (i := x_1.toNatClampNeg) iM_4 hM_10 trivial
        obtain ⟨x_11, ex_11⟩ : ∃ z : Int32, z = x_1 + 1 := ⟨_, rfl⟩
        have tx_11 : x_11.toInt = x_1.toInt + 1 := i_add ex_11 rfl (by decide) (by omega) (by omega)
        refine lv_iinc (v := x_11) (lv' := [(2, .int x_11), (1, .int 8), (0, .ref (A 60 9))]) hx hb dX10_half_20 hl (k := 0) rfl (by rw [ex_11]; rfl) (by decide) rfl (fun ls hl => ?_)
        refine lv_goto (tgt := 7) hx hb dX10_half_23 (by decide) ?_
        exact ih_6 x_11 M_10 _ _ _ (by omega) (by first | omega | decide) (by first | omega | decide) iM_10 (hs_s (b := x_8.toNatClampNeg) j_5 hM_10 (by show (((x_1 : Int32).toInt.toNat : Nat) : Int) = (x_1 : Int32).toInt; omega) yx_9 (by show (x_8).toInt.toNat = 8 + (x_1 : Int32).toInt.toNat; omega) (by omega) (by omega)) hw (lv_sub hl [0, 1, 2] rfl)
  exact hl_7_5 ((8 - 0 : Int).toNat + 1) 0 M _ _ _ (Nat.lt_succ_self _) (by have lt0 : (0 : Int32).toInt = 0 := (by decide); first | omega | decide) (by have lt0 : (0 : Int32).toInt = 0 := (by decide); first | omega | decide) hI hs_0 hw (lv_sub hl [0, 1, 2] rfl)
set_option maxHeartbeats 4000000 in
set_option maxRecDepth 100000 in
theorem s_X10_half_9 (l : Launch) (D : va_G) (A : Nat → Nat → Nat) (cy : Nat → ClassId) (hJ : ti_inj ti_LM A) (M : ti_M) (hI : mI Tm M)  : ti_Kv l yX10_half cX10_half 3 0 ti_LM D A cy M [.ref (A 60 10)] (fun M2 => mI Tm M2 ∧ hv 9 8 M2 M) := by
  refine ti_eV yp_X10_half hJ ti_LM_nd (Nat.le_of_ble_eq_true rfl) ?_
  intro p e s m args below meth c Q H0 C hQ hw ls hl
  have hx := C.1
  have hb := C.2.1
  have hl : lv_has ls 3 [(0, .ref (A 60 10))] := hl
  refine lv_aload_n hx hb dX10_half_0 rfl (lv_at hl 0 rfl) ?_
  refine ti_alen (ci := 10) (k := 9) (n := 16) (t0 := 1) (v := 16) C hw ob_60 (by decide) (fun _ _ => ⟨rfl, rfl⟩) rfl rfl dX10_half_1 ?_
  refine lv_iconst (v := 2) hx hb dX10_half_2 (by decide) ?_
  refine lv_idiv hx hb dX10_half_3 (by decide) ?_
  refine ti_top (y := 8) (by decide) ?_
  refine lv_istore_n (lv' := [(1, .int 8), (0, .ref (A 60 10))]) hx hb dX10_half_4 rfl hl (by decide) rfl (fun ls hl => ?_)
  refine lv_iconst (v := 0) hx hb dX10_half_5 (by decide) ?_
  refine lv_istore_n (lv' := [(2, .int 0), (1, .int 8), (0, .ref (A 60 10))]) hx hb dX10_half_6 rfl hl (by decide) rfl (fun ls hl => ?_)
  have hl_7_5 : ∀ (n_6 : Nat) (x_1 : Int32) (M_4 : ti_M) (H : Heap) (locs : List Loc) (ls : Array Slot), (8 - x_1.toInt : Int).toNat < n_6 → (0 ≤ x_1.toInt) → (x_1.toInt ≤ 8) → (mI Tm M_4) → (hs 9 8 M_4 M x_1.toInt) → ti_H ti_LM D A cy H0 M_4 H locs → lv_has ls 3 [(2, .int x_1), (1, .int 8), (0, .ref (A 60 10))] → W p l e (ti_rm 0) s m args below meth c H locs 0 0 Q (F0 m 7 ls []) := by
    intro n_6
    induction n_6 with
    | zero => intro x_1 M_4 H locs ls hf_6; exact absurd hf_6 (Nat.not_lt_zero _)
    | succ n_6 ih_6 =>
      intro x_1 M_4 H locs ls hf_6 b_2 b_3 iM_4 j_5 hw hl
      refine lv_iload_n hx hb dX10_half_7 rfl (lv_at hl 0 rfl) ?_
      refine lv_iload_n hx hb dX10_half_8 rfl (lv_at hl 1 rfl) ?_
      refine sb_icmp_ge (tgt := 26) hx hb rfl (by decide : (8 : Int32).toInt = 8) dX10_half_9 (by decide) (fun c_9_6 => ?_) (fun c_9_6 => ?_)
      · exact hQ _ _ _ _ _ hw (⟨iM_4, hv_s j_5 (by omega)⟩) dX10_half_26
      · refine lv_aload_n hx hb dX10_half_12 rfl (lv_at hl 2 rfl) ?_
        refine lv_iload_n hx hb dX10_half_13 rfl (lv_at hl 0 rfl) ?_
        refine lv_aload_n hx hb dX10_half_14 rfl (lv_at hl 2 rfl) ?_
        refine lv_iload_n hx hb dX10_half_15 rfl (lv_at hl 1 rfl) ?_
        refine lv_iload_n hx hb dX10_half_16 rfl (lv_at hl 0 rfl) ?_
        refine lv_iadd hx hb dX10_half_17 ?_
        refine lv_topi (fun x_8 ex_8 => ?_)
        have tx_8 : x_8.toInt = 8 + x_1.toInt := i_add ex_8 (by decide : (8 : Int32).toInt = 8) rfl (by omega) (by omega)
        refine ti_iald (ci := 10) (k := 9) (n := 16) C hw ob_60 (by decide) (fun _ _ => rfl) (vp_in_iff.mpr (by omega)) dX10_half_18 ?_
        refine lv_topi (fun x_9 ex_9 => ?_)
        have yx_9 : tY M_4 60 9 x_8.toNatClampNeg = x_9 := (ex_9.symm)
        refine ti_iast (ci := 10) (k := 9) (n := 16) C hw ob_60 (by decide) (fun _ _ => rfl) (vp_in_iff.mpr (by omega)) dX10_half_19 (fun H locs hw => ?_)
        obtain ⟨M_10, hM_10⟩ : ∃ z : ti_M, z = uY M_4 60 9 (upd (tY M_4 60 9) (x_1 : Int32).toNatClampNeg x_9) := ⟨_, rfl⟩
        have hw := hw.to hM_10.symm
        have iM_10 : mI Tm M_10 := mI_up (i := x_1.toNatClampNeg) iM_4 hM_10 trivial
        obtain ⟨x_11, ex_11⟩ : ∃ z : Int32, z = x_1 + 1 := ⟨_, rfl⟩
        have tx_11 : x_11.toInt = x_1.toInt + 1 := i_add ex_11 rfl (by decide) (by omega) (by omega)
        refine lv_iinc (v := x_11) (lv' := [(2, .int x_11), (1, .int 8), (0, .ref (A 60 10))]) hx hb dX10_half_20 hl (k := 0) rfl (by rw [ex_11]; rfl) (by decide) rfl (fun ls hl => ?_)
        refine lv_goto (tgt := 7) hx hb dX10_half_23 (by decide) ?_
        exact ih_6 x_11 M_10 _ _ _ (by omega) (by first | omega | decide) (by first | omega | decide) iM_10 (hs_s (b := x_8.toNatClampNeg) j_5 hM_10 (by show (((x_1 : Int32).toInt.toNat : Nat) : Int) = (x_1 : Int32).toInt; omega) yx_9 (by show (x_8).toInt.toNat = 8 + (x_1 : Int32).toInt.toNat; omega) (by omega) (by omega)) hw (lv_sub hl [0, 1, 2] rfl)
  exact hl_7_5 ((8 - 0 : Int).toNat + 1) 0 M _ _ _ (Nat.lt_succ_self _) (by have lt0 : (0 : Int32).toInt = 0 := (by decide); first | omega | decide) (by have lt0 : (0 : Int32).toInt = 0 := (by decide); first | omega | decide) hI hs_0 hw (lv_sub hl [0, 1, 2] rfl)
set_option maxHeartbeats 4000000 in
set_option maxRecDepth 100000 in
theorem s_X10_half_10 (l : Launch) (D : va_G) (A : Nat → Nat → Nat) (cy : Nat → ClassId) (hJ : ti_inj ti_LM A) (M : ti_M) (hI : mI Tm M)  : ti_Kv l yX10_half cX10_half 3 0 ti_LM D A cy M [.ref (A 60 11)] (fun M2 => mI Tm M2 ∧ hv 10 8 M2 M) := by
  refine ti_eV yp_X10_half hJ ti_LM_nd (Nat.le_of_ble_eq_true rfl) ?_
  intro p e s m args below meth c Q H0 C hQ hw ls hl
  have hx := C.1
  have hb := C.2.1
  have hl : lv_has ls 3 [(0, .ref (A 60 11))] := hl
  refine lv_aload_n hx hb dX10_half_0 rfl (lv_at hl 0 rfl) ?_
  refine ti_alen (ci := 10) (k := 10) (n := 16) (t0 := 1) (v := 16) C hw ob_60 (by decide) (fun _ _ => ⟨rfl, rfl⟩) rfl rfl dX10_half_1 ?_
  refine lv_iconst (v := 2) hx hb dX10_half_2 (by decide) ?_
  refine lv_idiv hx hb dX10_half_3 (by decide) ?_
  refine ti_top (y := 8) (by decide) ?_
  refine lv_istore_n (lv' := [(1, .int 8), (0, .ref (A 60 11))]) hx hb dX10_half_4 rfl hl (by decide) rfl (fun ls hl => ?_)
  refine lv_iconst (v := 0) hx hb dX10_half_5 (by decide) ?_
  refine lv_istore_n (lv' := [(2, .int 0), (1, .int 8), (0, .ref (A 60 11))]) hx hb dX10_half_6 rfl hl (by decide) rfl (fun ls hl => ?_)
  have hl_7_5 : ∀ (n_6 : Nat) (x_1 : Int32) (M_4 : ti_M) (H : Heap) (locs : List Loc) (ls : Array Slot), (8 - x_1.toInt : Int).toNat < n_6 → (0 ≤ x_1.toInt) → (x_1.toInt ≤ 8) → (mI Tm M_4) → (hs 10 8 M_4 M x_1.toInt) → ti_H ti_LM D A cy H0 M_4 H locs → lv_has ls 3 [(2, .int x_1), (1, .int 8), (0, .ref (A 60 11))] → W p l e (ti_rm 0) s m args below meth c H locs 0 0 Q (F0 m 7 ls []) := by
    intro n_6
    induction n_6 with
    | zero => intro x_1 M_4 H locs ls hf_6; exact absurd hf_6 (Nat.not_lt_zero _)
    | succ n_6 ih_6 =>
      intro x_1 M_4 H locs ls hf_6 b_2 b_3 iM_4 j_5 hw hl
      refine lv_iload_n hx hb dX10_half_7 rfl (lv_at hl 0 rfl) ?_
      refine lv_iload_n hx hb dX10_half_8 rfl (lv_at hl 1 rfl) ?_
      refine sb_icmp_ge (tgt := 26) hx hb rfl (by decide : (8 : Int32).toInt = 8) dX10_half_9 (by decide) (fun c_9_6 => ?_) (fun c_9_6 => ?_)
      · exact hQ _ _ _ _ _ hw (⟨iM_4, hv_s j_5 (by omega)⟩) dX10_half_26
      · refine lv_aload_n hx hb dX10_half_12 rfl (lv_at hl 2 rfl) ?_
        refine lv_iload_n hx hb dX10_half_13 rfl (lv_at hl 0 rfl) ?_
        refine lv_aload_n hx hb dX10_half_14 rfl (lv_at hl 2 rfl) ?_
        refine lv_iload_n hx hb dX10_half_15 rfl (lv_at hl 1 rfl) ?_
        refine lv_iload_n hx hb dX10_half_16 rfl (lv_at hl 0 rfl) ?_
        refine lv_iadd hx hb dX10_half_17 ?_
        refine lv_topi (fun x_8 ex_8 => ?_)
        have tx_8 : x_8.toInt = 8 + x_1.toInt := i_add ex_8 (by decide : (8 : Int32).toInt = 8) rfl (by omega) (by omega)
        refine ti_iald (ci := 10) (k := 10) (n := 16) C hw ob_60 (by decide) (fun _ _ => rfl) (vp_in_iff.mpr (by omega)) dX10_half_18 ?_
        refine lv_topi (fun x_9 ex_9 => ?_)
        have yx_9 : tY M_4 60 10 x_8.toNatClampNeg = x_9 := (ex_9.symm)
        refine ti_iast (ci := 10) (k := 10) (n := 16) C hw ob_60 (by decide) (fun _ _ => rfl) (vp_in_iff.mpr (by omega)) dX10_half_19 (fun H locs hw => ?_)
        obtain ⟨M_10, hM_10⟩ : ∃ z : ti_M, z = uY M_4 60 10 (upd (tY M_4 60 10) (x_1 : Int32).toNatClampNeg x_9) := ⟨_, rfl⟩
        have hw := hw.to hM_10.symm
        have iM_10 : mI Tm M_10 := mI_up (i := x_1.toNatClampNeg) iM_4 hM_10 trivial
        obtain ⟨x_11, ex_11⟩ : ∃ z : Int32, z = x_1 + 1 := ⟨_, rfl⟩
        have tx_11 : x_11.toInt = x_1.toInt + 1 := i_add ex_11 rfl (by decide) (by omega) (by omega)
        refine lv_iinc (v := x_11) (lv' := [(2, .int x_11), (1, .int 8), (0, .ref (A 60 11))]) hx hb dX10_half_20 hl (k := 0) rfl (by rw [ex_11]; rfl) (by decide) rfl (fun ls hl => ?_)
        refine lv_goto (tgt := 7) hx hb dX10_half_23 (by decide) ?_
        exact ih_6 x_11 M_10 _ _ _ (by omega) (by first | omega | decide) (by first | omega | decide) iM_10 (hs_s (b := x_8.toNatClampNeg) j_5 hM_10 (by show (((x_1 : Int32).toInt.toNat : Nat) : Int) = (x_1 : Int32).toInt; omega) yx_9 (by show (x_8).toInt.toNat = 8 + (x_1 : Int32).toInt.toNat; omega) (by omega) (by omega)) hw (lv_sub hl [0, 1, 2] rfl)
  exact hl_7_5 ((8 - 0 : Int).toNat + 1) 0 M _ _ _ (Nat.lt_succ_self _) (by have lt0 : (0 : Int32).toInt = 0 := (by decide); first | omega | decide) (by have lt0 : (0 : Int32).toInt = 0 := (by decide); first | omega | decide) hI hs_0 hw (lv_sub hl [0, 1, 2] rfl)
set_option maxHeartbeats 4000000 in
set_option maxRecDepth 100000 in
theorem s_X10_half_11 (l : Launch) (D : va_G) (A : Nat → Nat → Nat) (cy : Nat → ClassId) (hJ : ti_inj ti_LM A) (M : ti_M) (hI : mI Tm M)  : ti_Kv l yX10_half cX10_half 3 0 ti_LM D A cy M [.ref (A 60 12)] (fun M2 => mI Tm M2 ∧ hv 11 8 M2 M) := by
  refine ti_eV yp_X10_half hJ ti_LM_nd (Nat.le_of_ble_eq_true rfl) ?_
  intro p e s m args below meth c Q H0 C hQ hw ls hl
  have hx := C.1
  have hb := C.2.1
  have hl : lv_has ls 3 [(0, .ref (A 60 12))] := hl
  refine lv_aload_n hx hb dX10_half_0 rfl (lv_at hl 0 rfl) ?_
  refine ti_alen (ci := 10) (k := 11) (n := 16) (t0 := 1) (v := 16) C hw ob_60 (by decide) (fun _ _ => ⟨rfl, rfl⟩) rfl rfl dX10_half_1 ?_
  refine lv_iconst (v := 2) hx hb dX10_half_2 (by decide) ?_
  refine lv_idiv hx hb dX10_half_3 (by decide) ?_
  refine ti_top (y := 8) (by decide) ?_
  refine lv_istore_n (lv' := [(1, .int 8), (0, .ref (A 60 12))]) hx hb dX10_half_4 rfl hl (by decide) rfl (fun ls hl => ?_)
  refine lv_iconst (v := 0) hx hb dX10_half_5 (by decide) ?_
  refine lv_istore_n (lv' := [(2, .int 0), (1, .int 8), (0, .ref (A 60 12))]) hx hb dX10_half_6 rfl hl (by decide) rfl (fun ls hl => ?_)
  have hl_7_5 : ∀ (n_6 : Nat) (x_1 : Int32) (M_4 : ti_M) (H : Heap) (locs : List Loc) (ls : Array Slot), (8 - x_1.toInt : Int).toNat < n_6 → (0 ≤ x_1.toInt) → (x_1.toInt ≤ 8) → (mI Tm M_4) → (hs 11 8 M_4 M x_1.toInt) → ti_H ti_LM D A cy H0 M_4 H locs → lv_has ls 3 [(2, .int x_1), (1, .int 8), (0, .ref (A 60 12))] → W p l e (ti_rm 0) s m args below meth c H locs 0 0 Q (F0 m 7 ls []) := by
    intro n_6
    induction n_6 with
    | zero => intro x_1 M_4 H locs ls hf_6; exact absurd hf_6 (Nat.not_lt_zero _)
    | succ n_6 ih_6 =>
      intro x_1 M_4 H locs ls hf_6 b_2 b_3 iM_4 j_5 hw hl
      refine lv_iload_n hx hb dX10_half_7 rfl (lv_at hl 0 rfl) ?_
      refine lv_iload_n hx hb dX10_half_8 rfl (lv_at hl 1 rfl) ?_
      refine sb_icmp_ge (tgt := 26) hx hb rfl (by decide : (8 : Int32).toInt = 8) dX10_half_9 (by decide) (fun c_9_6 => ?_) (fun c_9_6 => ?_)
      · exact hQ _ _ _ _ _ hw (⟨iM_4, hv_s j_5 (by omega)⟩) dX10_half_26
      · refine lv_aload_n hx hb dX10_half_12 rfl (lv_at hl 2 rfl) ?_
        refine lv_iload_n hx hb dX10_half_13 rfl (lv_at hl 0 rfl) ?_
        refine lv_aload_n hx hb dX10_half_14 rfl (lv_at hl 2 rfl) ?_
        refine lv_iload_n hx hb dX10_half_15 rfl (lv_at hl 1 rfl) ?_
        refine lv_iload_n hx hb dX10_half_16 rfl (lv_at hl 0 rfl) ?_
        refine lv_iadd hx hb dX10_half_17 ?_
        refine lv_topi (fun x_8 ex_8 => ?_)
        have tx_8 : x_8.toInt = 8 + x_1.toInt := i_add ex_8 (by decide : (8 : Int32).toInt = 8) rfl (by omega) (by omega)
        refine ti_iald (ci := 10) (k := 11) (n := 16) C hw ob_60 (by decide) (fun _ _ => rfl) (vp_in_iff.mpr (by omega)) dX10_half_18 ?_
        refine lv_topi (fun x_9 ex_9 => ?_)
        have yx_9 : tY M_4 60 11 x_8.toNatClampNeg = x_9 := (ex_9.symm)
        refine ti_iast (ci := 10) (k := 11) (n := 16) C hw ob_60 (by decide) (fun _ _ => rfl) (vp_in_iff.mpr (by omega)) dX10_half_19 (fun H locs hw => ?_)
        obtain ⟨M_10, hM_10⟩ : ∃ z : ti_M, z = uY M_4 60 11 (upd (tY M_4 60 11) (x_1 : Int32).toNatClampNeg x_9) := ⟨_, rfl⟩
        have hw := hw.to hM_10.symm
        have iM_10 : mI Tm M_10 := mI_up (i := x_1.toNatClampNeg) iM_4 hM_10 trivial
        obtain ⟨x_11, ex_11⟩ : ∃ z : Int32, z = x_1 + 1 := ⟨_, rfl⟩
        have tx_11 : x_11.toInt = x_1.toInt + 1 := i_add ex_11 rfl (by decide) (by omega) (by omega)
        refine lv_iinc (v := x_11) (lv' := [(2, .int x_11), (1, .int 8), (0, .ref (A 60 12))]) hx hb dX10_half_20 hl (k := 0) rfl (by rw [ex_11]; rfl) (by decide) rfl (fun ls hl => ?_)
        refine lv_goto (tgt := 7) hx hb dX10_half_23 (by decide) ?_
        exact ih_6 x_11 M_10 _ _ _ (by omega) (by first | omega | decide) (by first | omega | decide) iM_10 (hs_s (b := x_8.toNatClampNeg) j_5 hM_10 (by show (((x_1 : Int32).toInt.toNat : Nat) : Int) = (x_1 : Int32).toInt; omega) yx_9 (by show (x_8).toInt.toNat = 8 + (x_1 : Int32).toInt.toNat; omega) (by omega) (by omega)) hw (lv_sub hl [0, 1, 2] rfl)
  exact hl_7_5 ((8 - 0 : Int).toNat + 1) 0 M _ _ _ (Nat.lt_succ_self _) (by have lt0 : (0 : Int32).toInt = 0 := (by decide); first | omega | decide) (by have lt0 : (0 : Int32).toInt = 0 := (by decide); first | omega | decide) hI hs_0 hw (lv_sub hl [0, 1, 2] rfl)
set_option maxHeartbeats 4000000 in
set_option maxRecDepth 100000 in
theorem s_X10_half_12 (l : Launch) (D : va_G) (A : Nat → Nat → Nat) (cy : Nat → ClassId) (hJ : ti_inj ti_LM A) (M : ti_M) (hI : mI Tm M)  : ti_Kv l yX10_half cX10_half 3 0 ti_LM D A cy M [.ref (A 60 13)] (fun M2 => mI Tm M2 ∧ hv 12 8 M2 M) := by
  refine ti_eV yp_X10_half hJ ti_LM_nd (Nat.le_of_ble_eq_true rfl) ?_
  intro p e s m args below meth c Q H0 C hQ hw ls hl
  have hx := C.1
  have hb := C.2.1
  have hl : lv_has ls 3 [(0, .ref (A 60 13))] := hl
  refine lv_aload_n hx hb dX10_half_0 rfl (lv_at hl 0 rfl) ?_
  refine ti_alen (ci := 10) (k := 12) (n := 16) (t0 := 1) (v := 16) C hw ob_60 (by decide) (fun _ _ => ⟨rfl, rfl⟩) rfl rfl dX10_half_1 ?_
  refine lv_iconst (v := 2) hx hb dX10_half_2 (by decide) ?_
  refine lv_idiv hx hb dX10_half_3 (by decide) ?_
  refine ti_top (y := 8) (by decide) ?_
  refine lv_istore_n (lv' := [(1, .int 8), (0, .ref (A 60 13))]) hx hb dX10_half_4 rfl hl (by decide) rfl (fun ls hl => ?_)
  refine lv_iconst (v := 0) hx hb dX10_half_5 (by decide) ?_
  refine lv_istore_n (lv' := [(2, .int 0), (1, .int 8), (0, .ref (A 60 13))]) hx hb dX10_half_6 rfl hl (by decide) rfl (fun ls hl => ?_)
  have hl_7_5 : ∀ (n_6 : Nat) (x_1 : Int32) (M_4 : ti_M) (H : Heap) (locs : List Loc) (ls : Array Slot), (8 - x_1.toInt : Int).toNat < n_6 → (0 ≤ x_1.toInt) → (x_1.toInt ≤ 8) → (mI Tm M_4) → (hs 12 8 M_4 M x_1.toInt) → ti_H ti_LM D A cy H0 M_4 H locs → lv_has ls 3 [(2, .int x_1), (1, .int 8), (0, .ref (A 60 13))] → W p l e (ti_rm 0) s m args below meth c H locs 0 0 Q (F0 m 7 ls []) := by
    intro n_6
    induction n_6 with
    | zero => intro x_1 M_4 H locs ls hf_6; exact absurd hf_6 (Nat.not_lt_zero _)
    | succ n_6 ih_6 =>
      intro x_1 M_4 H locs ls hf_6 b_2 b_3 iM_4 j_5 hw hl
      refine lv_iload_n hx hb dX10_half_7 rfl (lv_at hl 0 rfl) ?_
      refine lv_iload_n hx hb dX10_half_8 rfl (lv_at hl 1 rfl) ?_
      refine sb_icmp_ge (tgt := 26) hx hb rfl (by decide : (8 : Int32).toInt = 8) dX10_half_9 (by decide) (fun c_9_6 => ?_) (fun c_9_6 => ?_)
      · exact hQ _ _ _ _ _ hw (⟨iM_4, hv_s j_5 (by omega)⟩) dX10_half_26
      · refine lv_aload_n hx hb dX10_half_12 rfl (lv_at hl 2 rfl) ?_
        refine lv_iload_n hx hb dX10_half_13 rfl (lv_at hl 0 rfl) ?_
        refine lv_aload_n hx hb dX10_half_14 rfl (lv_at hl 2 rfl) ?_
        refine lv_iload_n hx hb dX10_half_15 rfl (lv_at hl 1 rfl) ?_
        refine lv_iload_n hx hb dX10_half_16 rfl (lv_at hl 0 rfl) ?_
        refine lv_iadd hx hb dX10_half_17 ?_
        refine lv_topi (fun x_8 ex_8 => ?_)
        have tx_8 : x_8.toInt = 8 + x_1.toInt := i_add ex_8 (by decide : (8 : Int32).toInt = 8) rfl (by omega) (by omega)
        refine ti_iald (ci := 10) (k := 12) (n := 16) C hw ob_60 (by decide) (fun _ _ => rfl) (vp_in_iff.mpr (by omega)) dX10_half_18 ?_
        refine lv_topi (fun x_9 ex_9 => ?_)
        have yx_9 : tY M_4 60 12 x_8.toNatClampNeg = x_9 := (ex_9.symm)
        refine ti_iast (ci := 10) (k := 12) (n := 16) C hw ob_60 (by decide) (fun _ _ => rfl) (vp_in_iff.mpr (by omega)) dX10_half_19 (fun H locs hw => ?_)
        obtain ⟨M_10, hM_10⟩ : ∃ z : ti_M, z = uY M_4 60 12 (upd (tY M_4 60 12) (x_1 : Int32).toNatClampNeg x_9) := ⟨_, rfl⟩
        have hw := hw.to hM_10.symm
        have iM_10 : mI Tm M_10 := mI_up (i := x_1.toNatClampNeg) iM_4 hM_10 trivial
        obtain ⟨x_11, ex_11⟩ : ∃ z : Int32, z = x_1 + 1 := ⟨_, rfl⟩
        have tx_11 : x_11.toInt = x_1.toInt + 1 := i_add ex_11 rfl (by decide) (by omega) (by omega)
        refine lv_iinc (v := x_11) (lv' := [(2, .int x_11), (1, .int 8), (0, .ref (A 60 13))]) hx hb dX10_half_20 hl (k := 0) rfl (by rw [ex_11]; rfl) (by decide) rfl (fun ls hl => ?_)
        refine lv_goto (tgt := 7) hx hb dX10_half_23 (by decide) ?_
        exact ih_6 x_11 M_10 _ _ _ (by omega) (by first | omega | decide) (by first | omega | decide) iM_10 (hs_s (b := x_8.toNatClampNeg) j_5 hM_10 (by show (((x_1 : Int32).toInt.toNat : Nat) : Int) = (x_1 : Int32).toInt; omega) yx_9 (by show (x_8).toInt.toNat = 8 + (x_1 : Int32).toInt.toNat; omega) (by omega) (by omega)) hw (lv_sub hl [0, 1, 2] rfl)
  exact hl_7_5 ((8 - 0 : Int).toNat + 1) 0 M _ _ _ (Nat.lt_succ_self _) (by have lt0 : (0 : Int32).toInt = 0 := (by decide); first | omega | decide) (by have lt0 : (0 : Int32).toInt = 0 := (by decide); first | omega | decide) hI hs_0 hw (lv_sub hl [0, 1, 2] rfl)
set_option maxHeartbeats 4000000 in
set_option maxRecDepth 100000 in
theorem s_X10_half_13 (l : Launch) (D : va_G) (A : Nat → Nat → Nat) (cy : Nat → ClassId) (hJ : ti_inj ti_LM A) (M : ti_M) (hI : mI Tm M)  : ti_Kv l yX10_half cX10_half 3 0 ti_LM D A cy M [.ref (A 60 14)] (fun M2 => mI Tm M2 ∧ hv 13 8 M2 M) := by
  refine ti_eV yp_X10_half hJ ti_LM_nd (Nat.le_of_ble_eq_true rfl) ?_
  intro p e s m args below meth c Q H0 C hQ hw ls hl
  have hx := C.1
  have hb := C.2.1
  have hl : lv_has ls 3 [(0, .ref (A 60 14))] := hl
  refine lv_aload_n hx hb dX10_half_0 rfl (lv_at hl 0 rfl) ?_
  refine ti_alen (ci := 10) (k := 13) (n := 16) (t0 := 1) (v := 16) C hw ob_60 (by decide) (fun _ _ => ⟨rfl, rfl⟩) rfl rfl dX10_half_1 ?_
  refine lv_iconst (v := 2) hx hb dX10_half_2 (by decide) ?_
  refine lv_idiv hx hb dX10_half_3 (by decide) ?_
  refine ti_top (y := 8) (by decide) ?_
  refine lv_istore_n (lv' := [(1, .int 8), (0, .ref (A 60 14))]) hx hb dX10_half_4 rfl hl (by decide) rfl (fun ls hl => ?_)
  refine lv_iconst (v := 0) hx hb dX10_half_5 (by decide) ?_
  refine lv_istore_n (lv' := [(2, .int 0), (1, .int 8), (0, .ref (A 60 14))]) hx hb dX10_half_6 rfl hl (by decide) rfl (fun ls hl => ?_)
  have hl_7_5 : ∀ (n_6 : Nat) (x_1 : Int32) (M_4 : ti_M) (H : Heap) (locs : List Loc) (ls : Array Slot), (8 - x_1.toInt : Int).toNat < n_6 → (0 ≤ x_1.toInt) → (x_1.toInt ≤ 8) → (mI Tm M_4) → (hs 13 8 M_4 M x_1.toInt) → ti_H ti_LM D A cy H0 M_4 H locs → lv_has ls 3 [(2, .int x_1), (1, .int 8), (0, .ref (A 60 14))] → W p l e (ti_rm 0) s m args below meth c H locs 0 0 Q (F0 m 7 ls []) := by
    intro n_6
    induction n_6 with
    | zero => intro x_1 M_4 H locs ls hf_6; exact absurd hf_6 (Nat.not_lt_zero _)
    | succ n_6 ih_6 =>
      intro x_1 M_4 H locs ls hf_6 b_2 b_3 iM_4 j_5 hw hl
      refine lv_iload_n hx hb dX10_half_7 rfl (lv_at hl 0 rfl) ?_
      refine lv_iload_n hx hb dX10_half_8 rfl (lv_at hl 1 rfl) ?_
      refine sb_icmp_ge (tgt := 26) hx hb rfl (by decide : (8 : Int32).toInt = 8) dX10_half_9 (by decide) (fun c_9_6 => ?_) (fun c_9_6 => ?_)
      · exact hQ _ _ _ _ _ hw (⟨iM_4, hv_s j_5 (by omega)⟩) dX10_half_26
      · refine lv_aload_n hx hb dX10_half_12 rfl (lv_at hl 2 rfl) ?_
        refine lv_iload_n hx hb dX10_half_13 rfl (lv_at hl 0 rfl) ?_
        refine lv_aload_n hx hb dX10_half_14 rfl (lv_at hl 2 rfl) ?_
        refine lv_iload_n hx hb dX10_half_15 rfl (lv_at hl 1 rfl) ?_
        refine lv_iload_n hx hb dX10_half_16 rfl (lv_at hl 0 rfl) ?_
        refine lv_iadd hx hb dX10_half_17 ?_
        refine lv_topi (fun x_8 ex_8 => ?_)
        have tx_8 : x_8.toInt = 8 + x_1.toInt := i_add ex_8 (by decide : (8 : Int32).toInt = 8) rfl (by omega) (by omega)
        refine ti_iald (ci := 10) (k := 13) (n := 16) C hw ob_60 (by decide) (fun _ _ => rfl) (vp_in_iff.mpr (by omega)) dX10_half_18 ?_
        refine lv_topi (fun x_9 ex_9 => ?_)
        have yx_9 : tY M_4 60 13 x_8.toNatClampNeg = x_9 := (ex_9.symm)
        refine ti_iast (ci := 10) (k := 13) (n := 16) C hw ob_60 (by decide) (fun _ _ => rfl) (vp_in_iff.mpr (by omega)) dX10_half_19 (fun H locs hw => ?_)
        obtain ⟨M_10, hM_10⟩ : ∃ z : ti_M, z = uY M_4 60 13 (upd (tY M_4 60 13) (x_1 : Int32).toNatClampNeg x_9) := ⟨_, rfl⟩
        have hw := hw.to hM_10.symm
        have iM_10 : mI Tm M_10 := mI_up (i := x_1.toNatClampNeg) iM_4 hM_10 trivial
        obtain ⟨x_11, ex_11⟩ : ∃ z : Int32, z = x_1 + 1 := ⟨_, rfl⟩
        have tx_11 : x_11.toInt = x_1.toInt + 1 := i_add ex_11 rfl (by decide) (by omega) (by omega)
        refine lv_iinc (v := x_11) (lv' := [(2, .int x_11), (1, .int 8), (0, .ref (A 60 14))]) hx hb dX10_half_20 hl (k := 0) rfl (by rw [ex_11]; rfl) (by decide) rfl (fun ls hl => ?_)
        refine lv_goto (tgt := 7) hx hb dX10_half_23 (by decide) ?_
        exact ih_6 x_11 M_10 _ _ _ (by omega) (by first | omega | decide) (by first | omega | decide) iM_10 (hs_s (b := x_8.toNatClampNeg) j_5 hM_10 (by show (((x_1 : Int32).toInt.toNat : Nat) : Int) = (x_1 : Int32).toInt; omega) yx_9 (by show (x_8).toInt.toNat = 8 + (x_1 : Int32).toInt.toNat; omega) (by omega) (by omega)) hw (lv_sub hl [0, 1, 2] rfl)
  exact hl_7_5 ((8 - 0 : Int).toNat + 1) 0 M _ _ _ (Nat.lt_succ_self _) (by have lt0 : (0 : Int32).toInt = 0 := (by decide); first | omega | decide) (by have lt0 : (0 : Int32).toInt = 0 := (by decide); first | omega | decide) hI hs_0 hw (lv_sub hl [0, 1, 2] rfl)
set_option maxHeartbeats 4000000 in
set_option maxRecDepth 100000 in
theorem s_X10_half_14 (l : Launch) (D : va_G) (A : Nat → Nat → Nat) (cy : Nat → ClassId) (hJ : ti_inj ti_LM A) (M : ti_M) (hI : mI Tm M)  : ti_Kv l yX10_half cX10_half 3 0 ti_LM D A cy M [.ref (A 60 15)] (fun M2 => mI Tm M2 ∧ hv 14 3 M2 M) := by
  refine ti_eV yp_X10_half hJ ti_LM_nd (Nat.le_of_ble_eq_true rfl) ?_
  intro p e s m args below meth c Q H0 C hQ hw ls hl
  have hx := C.1
  have hb := C.2.1
  have hl : lv_has ls 3 [(0, .ref (A 60 15))] := hl
  refine lv_aload_n hx hb dX10_half_0 rfl (lv_at hl 0 rfl) ?_
  refine ti_alen (ci := 10) (k := 14) (n := 6) (t0 := 1) (v := 6) C hw ob_60 (by decide) (fun _ _ => ⟨rfl, rfl⟩) rfl rfl dX10_half_1 ?_
  refine lv_iconst (v := 2) hx hb dX10_half_2 (by decide) ?_
  refine lv_idiv hx hb dX10_half_3 (by decide) ?_
  refine ti_top (y := 3) (by decide) ?_
  refine lv_istore_n (lv' := [(1, .int 3), (0, .ref (A 60 15))]) hx hb dX10_half_4 rfl hl (by decide) rfl (fun ls hl => ?_)
  refine lv_iconst (v := 0) hx hb dX10_half_5 (by decide) ?_
  refine lv_istore_n (lv' := [(2, .int 0), (1, .int 3), (0, .ref (A 60 15))]) hx hb dX10_half_6 rfl hl (by decide) rfl (fun ls hl => ?_)
  have hl_7_5 : ∀ (n_6 : Nat) (x_1 : Int32) (M_4 : ti_M) (H : Heap) (locs : List Loc) (ls : Array Slot), (3 - x_1.toInt : Int).toNat < n_6 → (0 ≤ x_1.toInt) → (x_1.toInt ≤ 3) → (mI Tm M_4) → (hs 14 3 M_4 M x_1.toInt) → ti_H ti_LM D A cy H0 M_4 H locs → lv_has ls 3 [(2, .int x_1), (1, .int 3), (0, .ref (A 60 15))] → W p l e (ti_rm 0) s m args below meth c H locs 0 0 Q (F0 m 7 ls []) := by
    intro n_6
    induction n_6 with
    | zero => intro x_1 M_4 H locs ls hf_6; exact absurd hf_6 (Nat.not_lt_zero _)
    | succ n_6 ih_6 =>
      intro x_1 M_4 H locs ls hf_6 b_2 b_3 iM_4 j_5 hw hl
      refine lv_iload_n hx hb dX10_half_7 rfl (lv_at hl 0 rfl) ?_
      refine lv_iload_n hx hb dX10_half_8 rfl (lv_at hl 1 rfl) ?_
      refine sb_icmp_ge (tgt := 26) hx hb rfl (by decide : (3 : Int32).toInt = 3) dX10_half_9 (by decide) (fun c_9_6 => ?_) (fun c_9_6 => ?_)
      · exact hQ _ _ _ _ _ hw (⟨iM_4, hv_s j_5 (by omega)⟩) dX10_half_26
      · refine lv_aload_n hx hb dX10_half_12 rfl (lv_at hl 2 rfl) ?_
        refine lv_iload_n hx hb dX10_half_13 rfl (lv_at hl 0 rfl) ?_
        refine lv_aload_n hx hb dX10_half_14 rfl (lv_at hl 2 rfl) ?_
        refine lv_iload_n hx hb dX10_half_15 rfl (lv_at hl 1 rfl) ?_
        refine lv_iload_n hx hb dX10_half_16 rfl (lv_at hl 0 rfl) ?_
        refine lv_iadd hx hb dX10_half_17 ?_
        refine lv_topi (fun x_8 ex_8 => ?_)
        have tx_8 : x_8.toInt = 3 + x_1.toInt := i_add ex_8 (by decide : (3 : Int32).toInt = 3) rfl (by omega) (by omega)
        refine ti_iald (ci := 10) (k := 14) (n := 6) C hw ob_60 (by decide) (fun _ _ => rfl) (vp_in_iff.mpr (by omega)) dX10_half_18 ?_
        refine lv_topi (fun x_9 ex_9 => ?_)
        have yx_9 : tY M_4 60 14 x_8.toNatClampNeg = x_9 := (ex_9.symm)
        have bx_9 : 0 ≤ x_9.toInt ∧ x_9.toInt ≤ 64 := mI_ry (k := 14) (i := x_8.toNatClampNeg) iM_4 yx_9.symm
        refine ti_iast (ci := 10) (k := 14) (n := 6) C hw ob_60 (by decide) (fun _ _ => rfl) (vp_in_iff.mpr (by omega)) dX10_half_19 (fun H locs hw => ?_)
        obtain ⟨M_10, hM_10⟩ : ∃ z : ti_M, z = uY M_4 60 14 (upd (tY M_4 60 14) (x_1 : Int32).toNatClampNeg x_9) := ⟨_, rfl⟩
        have hw := hw.to hM_10.symm
        have iM_10 : mI Tm M_10 := mI_up (i := x_1.toNatClampNeg) iM_4 hM_10 (ib_mk (lo := 0) (hi := 64) (by omega) (by omega))
        obtain ⟨x_11, ex_11⟩ : ∃ z : Int32, z = x_1 + 1 := ⟨_, rfl⟩
        have tx_11 : x_11.toInt = x_1.toInt + 1 := i_add ex_11 rfl (by decide) (by omega) (by omega)
        refine lv_iinc (v := x_11) (lv' := [(2, .int x_11), (1, .int 3), (0, .ref (A 60 15))]) hx hb dX10_half_20 hl (k := 0) rfl (by rw [ex_11]; rfl) (by decide) rfl (fun ls hl => ?_)
        refine lv_goto (tgt := 7) hx hb dX10_half_23 (by decide) ?_
        exact ih_6 x_11 M_10 _ _ _ (by omega) (by first | omega | decide) (by first | omega | decide) iM_10 (hs_s (b := x_8.toNatClampNeg) j_5 hM_10 (by show (((x_1 : Int32).toInt.toNat : Nat) : Int) = (x_1 : Int32).toInt; omega) yx_9 (by show (x_8).toInt.toNat = 3 + (x_1 : Int32).toInt.toNat; omega) (by omega) (by omega)) hw (lv_sub hl [0, 1, 2] rfl)
  exact hl_7_5 ((3 - 0 : Int).toNat + 1) 0 M _ _ _ (Nat.lt_succ_self _) (by have lt0 : (0 : Int32).toInt = 0 := (by decide); first | omega | decide) (by have lt0 : (0 : Int32).toInt = 0 := (by decide); first | omega | decide) hI hs_0 hw (lv_sub hl [0, 1, 2] rfl)
set_option maxHeartbeats 4000000 in
set_option maxRecDepth 100000 in
theorem s_X10_half_15 (l : Launch) (D : va_G) (A : Nat → Nat → Nat) (cy : Nat → ClassId) (hJ : ti_inj ti_LM A) (M : ti_M) (hI : mI Tm M)  : ti_Kv l yX10_half cX10_half 3 0 ti_LM D A cy M [.ref (A 60 16)] (fun M2 => mI Tm M2 ∧ hv 15 3 M2 M) := by
  refine ti_eV yp_X10_half hJ ti_LM_nd (Nat.le_of_ble_eq_true rfl) ?_
  intro p e s m args below meth c Q H0 C hQ hw ls hl
  have hx := C.1
  have hb := C.2.1
  have hl : lv_has ls 3 [(0, .ref (A 60 16))] := hl
  refine lv_aload_n hx hb dX10_half_0 rfl (lv_at hl 0 rfl) ?_
  refine ti_alen (ci := 10) (k := 15) (n := 6) (t0 := 1) (v := 6) C hw ob_60 (by decide) (fun _ _ => ⟨rfl, rfl⟩) rfl rfl dX10_half_1 ?_
  refine lv_iconst (v := 2) hx hb dX10_half_2 (by decide) ?_
  refine lv_idiv hx hb dX10_half_3 (by decide) ?_
  refine ti_top (y := 3) (by decide) ?_
  refine lv_istore_n (lv' := [(1, .int 3), (0, .ref (A 60 16))]) hx hb dX10_half_4 rfl hl (by decide) rfl (fun ls hl => ?_)
  refine lv_iconst (v := 0) hx hb dX10_half_5 (by decide) ?_
  refine lv_istore_n (lv' := [(2, .int 0), (1, .int 3), (0, .ref (A 60 16))]) hx hb dX10_half_6 rfl hl (by decide) rfl (fun ls hl => ?_)
  have hl_7_5 : ∀ (n_6 : Nat) (x_1 : Int32) (M_4 : ti_M) (H : Heap) (locs : List Loc) (ls : Array Slot), (3 - x_1.toInt : Int).toNat < n_6 → (0 ≤ x_1.toInt) → (x_1.toInt ≤ 3) → (mI Tm M_4) → (hs 15 3 M_4 M x_1.toInt) → ti_H ti_LM D A cy H0 M_4 H locs → lv_has ls 3 [(2, .int x_1), (1, .int 3), (0, .ref (A 60 16))] → W p l e (ti_rm 0) s m args below meth c H locs 0 0 Q (F0 m 7 ls []) := by
    intro n_6
    induction n_6 with
    | zero => intro x_1 M_4 H locs ls hf_6; exact absurd hf_6 (Nat.not_lt_zero _)
    | succ n_6 ih_6 =>
      intro x_1 M_4 H locs ls hf_6 b_2 b_3 iM_4 j_5 hw hl
      refine lv_iload_n hx hb dX10_half_7 rfl (lv_at hl 0 rfl) ?_
      refine lv_iload_n hx hb dX10_half_8 rfl (lv_at hl 1 rfl) ?_
      refine sb_icmp_ge (tgt := 26) hx hb rfl (by decide : (3 : Int32).toInt = 3) dX10_half_9 (by decide) (fun c_9_6 => ?_) (fun c_9_6 => ?_)
      · exact hQ _ _ _ _ _ hw (⟨iM_4, hv_s j_5 (by omega)⟩) dX10_half_26
      · refine lv_aload_n hx hb dX10_half_12 rfl (lv_at hl 2 rfl) ?_
        refine lv_iload_n hx hb dX10_half_13 rfl (lv_at hl 0 rfl) ?_
        refine lv_aload_n hx hb dX10_half_14 rfl (lv_at hl 2 rfl) ?_
        refine lv_iload_n hx hb dX10_half_15 rfl (lv_at hl 1 rfl) ?_
        refine lv_iload_n hx hb dX10_half_16 rfl (lv_at hl 0 rfl) ?_
        refine lv_iadd hx hb dX10_half_17 ?_
        refine lv_topi (fun x_8 ex_8 => ?_)
        have tx_8 : x_8.toInt = 3 + x_1.toInt := i_add ex_8 (by decide : (3 : Int32).toInt = 3) rfl (by omega) (by omega)
        refine ti_iald (ci := 10) (k := 15) (n := 6) C hw ob_60 (by decide) (fun _ _ => rfl) (vp_in_iff.mpr (by omega)) dX10_half_18 ?_
        refine lv_topi (fun x_9 ex_9 => ?_)
        have yx_9 : tY M_4 60 15 x_8.toNatClampNeg = x_9 := (ex_9.symm)
        have bx_9 : 0 ≤ x_9.toInt ∧ x_9.toInt ≤ 64 := mI_ry (k := 15) (i := x_8.toNatClampNeg) iM_4 yx_9.symm
        refine ti_iast (ci := 10) (k := 15) (n := 6) C hw ob_60 (by decide) (fun _ _ => rfl) (vp_in_iff.mpr (by omega)) dX10_half_19 (fun H locs hw => ?_)
        obtain ⟨M_10, hM_10⟩ : ∃ z : ti_M, z = uY M_4 60 15 (upd (tY M_4 60 15) (x_1 : Int32).toNatClampNeg x_9) := ⟨_, rfl⟩
        have hw := hw.to hM_10.symm
        have iM_10 : mI Tm M_10 := mI_up (i := x_1.toNatClampNeg) iM_4 hM_10 (ib_mk (lo := 0) (hi := 64) (by omega) (by omega))
        obtain ⟨x_11, ex_11⟩ : ∃ z : Int32, z = x_1 + 1 := ⟨_, rfl⟩
        have tx_11 : x_11.toInt = x_1.toInt + 1 := i_add ex_11 rfl (by decide) (by omega) (by omega)
        refine lv_iinc (v := x_11) (lv' := [(2, .int x_11), (1, .int 3), (0, .ref (A 60 16))]) hx hb dX10_half_20 hl (k := 0) rfl (by rw [ex_11]; rfl) (by decide) rfl (fun ls hl => ?_)
        refine lv_goto (tgt := 7) hx hb dX10_half_23 (by decide) ?_
        exact ih_6 x_11 M_10 _ _ _ (by omega) (by first | omega | decide) (by first | omega | decide) iM_10 (hs_s (b := x_8.toNatClampNeg) j_5 hM_10 (by show (((x_1 : Int32).toInt.toNat : Nat) : Int) = (x_1 : Int32).toInt; omega) yx_9 (by show (x_8).toInt.toNat = 3 + (x_1 : Int32).toInt.toNat; omega) (by omega) (by omega)) hw (lv_sub hl [0, 1, 2] rfl)
  exact hl_7_5 ((3 - 0 : Int).toNat + 1) 0 M _ _ _ (Nat.lt_succ_self _) (by have lt0 : (0 : Int32).toInt = 0 := (by decide); first | omega | decide) (by have lt0 : (0 : Int32).toInt = 0 := (by decide); first | omega | decide) hI hs_0 hw (lv_sub hl [0, 1, 2] rfl)
set_option maxHeartbeats 4000000 in
set_option maxRecDepth 100000 in
theorem s_X10_half_16 (l : Launch) (D : va_G) (A : Nat → Nat → Nat) (cy : Nat → ClassId) (hJ : ti_inj ti_LM A) (M : ti_M) (hI : mI Tm M)  : ti_Kv l yX10_half cX10_half 3 0 ti_LM D A cy M [.ref (A 60 17)] (fun M2 => mI Tm M2 ∧ hv 16 64 M2 M) := by
  refine ti_eV yp_X10_half hJ ti_LM_nd (Nat.le_of_ble_eq_true rfl) ?_
  intro p e s m args below meth c Q H0 C hQ hw ls hl
  have hx := C.1
  have hb := C.2.1
  have hl : lv_has ls 3 [(0, .ref (A 60 17))] := hl
  refine lv_aload_n hx hb dX10_half_0 rfl (lv_at hl 0 rfl) ?_
  refine ti_alen (ci := 10) (k := 16) (n := 128) (t0 := 1) (v := 128) C hw ob_60 (by decide) (fun _ _ => ⟨rfl, rfl⟩) rfl rfl dX10_half_1 ?_
  refine lv_iconst (v := 2) hx hb dX10_half_2 (by decide) ?_
  refine lv_idiv hx hb dX10_half_3 (by decide) ?_
  refine ti_top (y := 64) (by decide) ?_
  refine lv_istore_n (lv' := [(1, .int 64), (0, .ref (A 60 17))]) hx hb dX10_half_4 rfl hl (by decide) rfl (fun ls hl => ?_)
  refine lv_iconst (v := 0) hx hb dX10_half_5 (by decide) ?_
  refine lv_istore_n (lv' := [(2, .int 0), (1, .int 64), (0, .ref (A 60 17))]) hx hb dX10_half_6 rfl hl (by decide) rfl (fun ls hl => ?_)
  have hl_7_5 : ∀ (n_6 : Nat) (x_1 : Int32) (M_4 : ti_M) (H : Heap) (locs : List Loc) (ls : Array Slot), (64 - x_1.toInt : Int).toNat < n_6 → (0 ≤ x_1.toInt) → (x_1.toInt ≤ 64) → (mI Tm M_4) → (hs 16 64 M_4 M x_1.toInt) → ti_H ti_LM D A cy H0 M_4 H locs → lv_has ls 3 [(2, .int x_1), (1, .int 64), (0, .ref (A 60 17))] → W p l e (ti_rm 0) s m args below meth c H locs 0 0 Q (F0 m 7 ls []) := by
    intro n_6
    induction n_6 with
    | zero => intro x_1 M_4 H locs ls hf_6; exact absurd hf_6 (Nat.not_lt_zero _)
    | succ n_6 ih_6 =>
      intro x_1 M_4 H locs ls hf_6 b_2 b_3 iM_4 j_5 hw hl
      refine lv_iload_n hx hb dX10_half_7 rfl (lv_at hl 0 rfl) ?_
      refine lv_iload_n hx hb dX10_half_8 rfl (lv_at hl 1 rfl) ?_
      refine sb_icmp_ge (tgt := 26) hx hb rfl (by decide : (64 : Int32).toInt = 64) dX10_half_9 (by decide) (fun c_9_6 => ?_) (fun c_9_6 => ?_)
      · exact hQ _ _ _ _ _ hw (⟨iM_4, hv_s j_5 (by omega)⟩) dX10_half_26
      · refine lv_aload_n hx hb dX10_half_12 rfl (lv_at hl 2 rfl) ?_
        refine lv_iload_n hx hb dX10_half_13 rfl (lv_at hl 0 rfl) ?_
        refine lv_aload_n hx hb dX10_half_14 rfl (lv_at hl 2 rfl) ?_
        refine lv_iload_n hx hb dX10_half_15 rfl (lv_at hl 1 rfl) ?_
        refine lv_iload_n hx hb dX10_half_16 rfl (lv_at hl 0 rfl) ?_
        refine lv_iadd hx hb dX10_half_17 ?_
        refine lv_topi (fun x_8 ex_8 => ?_)
        have tx_8 : x_8.toInt = 64 + x_1.toInt := i_add ex_8 (by decide : (64 : Int32).toInt = 64) rfl (by omega) (by omega)
        refine ti_iald (ci := 10) (k := 16) (n := 128) C hw ob_60 (by decide) (fun _ _ => rfl) (vp_in_iff.mpr (by omega)) dX10_half_18 ?_
        refine lv_topi (fun x_9 ex_9 => ?_)
        have yx_9 : tY M_4 60 16 x_8.toNatClampNeg = x_9 := (ex_9.symm)
        refine ti_iast (ci := 10) (k := 16) (n := 128) C hw ob_60 (by decide) (fun _ _ => rfl) (vp_in_iff.mpr (by omega)) dX10_half_19 (fun H locs hw => ?_)
        obtain ⟨M_10, hM_10⟩ : ∃ z : ti_M, z = uY M_4 60 16 (upd (tY M_4 60 16) (x_1 : Int32).toNatClampNeg x_9) := ⟨_, rfl⟩
        have hw := hw.to hM_10.symm
        have iM_10 : mI Tm M_10 := mI_up (i := x_1.toNatClampNeg) iM_4 hM_10 trivial
        obtain ⟨x_11, ex_11⟩ : ∃ z : Int32, z = x_1 + 1 := ⟨_, rfl⟩
        have tx_11 : x_11.toInt = x_1.toInt + 1 := i_add ex_11 rfl (by decide) (by omega) (by omega)
        refine lv_iinc (v := x_11) (lv' := [(2, .int x_11), (1, .int 64), (0, .ref (A 60 17))]) hx hb dX10_half_20 hl (k := 0) rfl (by rw [ex_11]; rfl) (by decide) rfl (fun ls hl => ?_)
        refine lv_goto (tgt := 7) hx hb dX10_half_23 (by decide) ?_
        exact ih_6 x_11 M_10 _ _ _ (by omega) (by first | omega | decide) (by first | omega | decide) iM_10 (hs_s (b := x_8.toNatClampNeg) j_5 hM_10 (by show (((x_1 : Int32).toInt.toNat : Nat) : Int) = (x_1 : Int32).toInt; omega) yx_9 (by show (x_8).toInt.toNat = 64 + (x_1 : Int32).toInt.toNat; omega) (by omega) (by omega)) hw (lv_sub hl [0, 1, 2] rfl)
  exact hl_7_5 ((64 - 0 : Int).toNat + 1) 0 M _ _ _ (Nat.lt_succ_self _) (by have lt0 : (0 : Int32).toInt = 0 := (by decide); first | omega | decide) (by have lt0 : (0 : Int32).toInt = 0 := (by decide); first | omega | decide) hI hs_0 hw (lv_sub hl [0, 1, 2] rfl)
set_option maxHeartbeats 4000000 in
set_option maxRecDepth 100000 in
theorem s_X10_half_17 (l : Launch) (D : va_G) (A : Nat → Nat → Nat) (cy : Nat → ClassId) (hJ : ti_inj ti_LM A) (M : ti_M) (hI : mI Tm M)  : ti_Kv l yX10_half cX10_half 3 0 ti_LM D A cy M [.ref (A 60 18)] (fun M2 => mI Tm M2 ∧ hv 17 64 M2 M) := by
  refine ti_eV yp_X10_half hJ ti_LM_nd (Nat.le_of_ble_eq_true rfl) ?_
  intro p e s m args below meth c Q H0 C hQ hw ls hl
  have hx := C.1
  have hb := C.2.1
  have hl : lv_has ls 3 [(0, .ref (A 60 18))] := hl
  refine lv_aload_n hx hb dX10_half_0 rfl (lv_at hl 0 rfl) ?_
  refine ti_alen (ci := 10) (k := 17) (n := 128) (t0 := 1) (v := 128) C hw ob_60 (by decide) (fun _ _ => ⟨rfl, rfl⟩) rfl rfl dX10_half_1 ?_
  refine lv_iconst (v := 2) hx hb dX10_half_2 (by decide) ?_
  refine lv_idiv hx hb dX10_half_3 (by decide) ?_
  refine ti_top (y := 64) (by decide) ?_
  refine lv_istore_n (lv' := [(1, .int 64), (0, .ref (A 60 18))]) hx hb dX10_half_4 rfl hl (by decide) rfl (fun ls hl => ?_)
  refine lv_iconst (v := 0) hx hb dX10_half_5 (by decide) ?_
  refine lv_istore_n (lv' := [(2, .int 0), (1, .int 64), (0, .ref (A 60 18))]) hx hb dX10_half_6 rfl hl (by decide) rfl (fun ls hl => ?_)
  have hl_7_5 : ∀ (n_6 : Nat) (x_1 : Int32) (M_4 : ti_M) (H : Heap) (locs : List Loc) (ls : Array Slot), (64 - x_1.toInt : Int).toNat < n_6 → (0 ≤ x_1.toInt) → (x_1.toInt ≤ 64) → (mI Tm M_4) → (hs 17 64 M_4 M x_1.toInt) → ti_H ti_LM D A cy H0 M_4 H locs → lv_has ls 3 [(2, .int x_1), (1, .int 64), (0, .ref (A 60 18))] → W p l e (ti_rm 0) s m args below meth c H locs 0 0 Q (F0 m 7 ls []) := by
    intro n_6
    induction n_6 with
    | zero => intro x_1 M_4 H locs ls hf_6; exact absurd hf_6 (Nat.not_lt_zero _)
    | succ n_6 ih_6 =>
      intro x_1 M_4 H locs ls hf_6 b_2 b_3 iM_4 j_5 hw hl
      refine lv_iload_n hx hb dX10_half_7 rfl (lv_at hl 0 rfl) ?_
      refine lv_iload_n hx hb dX10_half_8 rfl (lv_at hl 1 rfl) ?_
      refine sb_icmp_ge (tgt := 26) hx hb rfl (by decide : (64 : Int32).toInt = 64) dX10_half_9 (by decide) (fun c_9_6 => ?_) (fun c_9_6 => ?_)
      · exact hQ _ _ _ _ _ hw (⟨iM_4, hv_s j_5 (by omega)⟩) dX10_half_26
      · refine lv_aload_n hx hb dX10_half_12 rfl (lv_at hl 2 rfl) ?_
        refine lv_iload_n hx hb dX10_half_13 rfl (lv_at hl 0 rfl) ?_
        refine lv_aload_n hx hb dX10_half_14 rfl (lv_at hl 2 rfl) ?_
        refine lv_iload_n hx hb dX10_half_15 rfl (lv_at hl 1 rfl) ?_
        refine lv_iload_n hx hb dX10_half_16 rfl (lv_at hl 0 rfl) ?_
        refine lv_iadd hx hb dX10_half_17 ?_
        refine lv_topi (fun x_8 ex_8 => ?_)
        have tx_8 : x_8.toInt = 64 + x_1.toInt := i_add ex_8 (by decide : (64 : Int32).toInt = 64) rfl (by omega) (by omega)
        refine ti_iald (ci := 10) (k := 17) (n := 128) C hw ob_60 (by decide) (fun _ _ => rfl) (vp_in_iff.mpr (by omega)) dX10_half_18 ?_
        refine lv_topi (fun x_9 ex_9 => ?_)
        have yx_9 : tY M_4 60 17 x_8.toNatClampNeg = x_9 := (ex_9.symm)
        refine ti_iast (ci := 10) (k := 17) (n := 128) C hw ob_60 (by decide) (fun _ _ => rfl) (vp_in_iff.mpr (by omega)) dX10_half_19 (fun H locs hw => ?_)
        obtain ⟨M_10, hM_10⟩ : ∃ z : ti_M, z = uY M_4 60 17 (upd (tY M_4 60 17) (x_1 : Int32).toNatClampNeg x_9) := ⟨_, rfl⟩
        have hw := hw.to hM_10.symm
        have iM_10 : mI Tm M_10 := mI_up (i := x_1.toNatClampNeg) iM_4 hM_10 trivial
        obtain ⟨x_11, ex_11⟩ : ∃ z : Int32, z = x_1 + 1 := ⟨_, rfl⟩
        have tx_11 : x_11.toInt = x_1.toInt + 1 := i_add ex_11 rfl (by decide) (by omega) (by omega)
        refine lv_iinc (v := x_11) (lv' := [(2, .int x_11), (1, .int 64), (0, .ref (A 60 18))]) hx hb dX10_half_20 hl (k := 0) rfl (by rw [ex_11]; rfl) (by decide) rfl (fun ls hl => ?_)
        refine lv_goto (tgt := 7) hx hb dX10_half_23 (by decide) ?_
        exact ih_6 x_11 M_10 _ _ _ (by omega) (by first | omega | decide) (by first | omega | decide) iM_10 (hs_s (b := x_8.toNatClampNeg) j_5 hM_10 (by show (((x_1 : Int32).toInt.toNat : Nat) : Int) = (x_1 : Int32).toInt; omega) yx_9 (by show (x_8).toInt.toNat = 64 + (x_1 : Int32).toInt.toNat; omega) (by omega) (by omega)) hw (lv_sub hl [0, 1, 2] rfl)
  exact hl_7_5 ((64 - 0 : Int).toNat + 1) 0 M _ _ _ (Nat.lt_succ_self _) (by have lt0 : (0 : Int32).toInt = 0 := (by decide); first | omega | decide) (by have lt0 : (0 : Int32).toInt = 0 := (by decide); first | omega | decide) hI hs_0 hw (lv_sub hl [0, 1, 2] rfl)
end
section
variable {Tc : gC} {Tm : gM}
/-- what lasts beside lw_g: nest mates' constructors, arrays over own classes -/
def ti_N (U : State) : Prop := va_Nw (.methodLinkNest RX9 11 yX4_init "ThirdInLine") U ∧ va_Nw (.methodLinkNest RX4 11 yX7_init "ThirdInLine") U ∧ va_Nw (.methodLinkNest RX8 27 yX2_init "ThirdInLine") U ∧ va_Nw (.methodLinkNest RX8 28 yX1_init "ThirdInLine") U ∧ va_Nw (.methodLinkNest RX9 28 yX3_init "ThirdInLine") U ∧ va_Nw (.methodLinkNest RX5 24 yX3_init "ThirdInLine") U ∧ va_Nw (.methodLinkNest RX9 53 yX6_init "ThirdInLine") U ∧ va_Nw (.methodLinkNest RX6 49 yX3_init "ThirdInLine") U ∧ va_Nw (.methodLinkNest RX9 60 yX0_init "ThirdInLine") U ∧ va_Nw (.methodLinkNest RX0 11 yX3_init "ThirdInLine") U ∧ va_AO RX1 U ∧ va_AO RX2 U ∧ va_AO RX3 U
theorem ti_N.warm {s U : State} (hW : s.WarmedH U.vm) (h : ti_N s) : ti_N U := by
  obtain ⟨h0, h1, h2, h3, h4, h5, h6, h7, h8, h9, ha, hb, hc⟩ := h
  exact ⟨h0.warmM hW, h1.warmM hW, h2.warmM hW, h3.warmM hW, h4.warmM hW, h5.warmM hW, h6.warmM hW, h7.warmM hW, h8.warmM hW, h9.warmM hW, ha.moved hW.alike, hb.moved hW.alike, hc.moved hW.alike⟩
theorem ti_N.call {U : State} {g : JFrame} {mk : MethodId} {a : Array Value} (h : ti_N U) : ti_N (U.calling g mk a) := by
  obtain ⟨h0, h1, h2, h3, h4, h5, h6, h7, h8, h9, ha, hb, hc⟩ := h
  exact ⟨va_Nw.same rfl rfl h0, va_Nw.same rfl rfl h1, va_Nw.same rfl rfl h2, va_Nw.same rfl rfl h3, va_Nw.same rfl rfl h4, va_Nw.same rfl rfl h5, va_Nw.same rfl rfl h6, va_Nw.same rfl rfl h7, va_Nw.same rfl rfl h8, va_Nw.same rfl rfl h9, ha.moved (Vm.Alike.refl U.vm), hb.moved (Vm.Alike.refl U.vm), hc.moved (Vm.Alike.refl U.vm)⟩
theorem nl_X9_11 {U : State} (h : ti_N U) : va_Nw (.methodLinkNest RX9 11 yX4_init "ThirdInLine") U := h.1
theorem nl_X4_11 {U : State} (h : ti_N U) : va_Nw (.methodLinkNest RX4 11 yX7_init "ThirdInLine") U := h.2.1
theorem nl_X8_27 {U : State} (h : ti_N U) : va_Nw (.methodLinkNest RX8 27 yX2_init "ThirdInLine") U := h.2.2.1
theorem nl_X8_28 {U : State} (h : ti_N U) : va_Nw (.methodLinkNest RX8 28 yX1_init "ThirdInLine") U := h.2.2.2.1
theorem nl_X9_28 {U : State} (h : ti_N U) : va_Nw (.methodLinkNest RX9 28 yX3_init "ThirdInLine") U := h.2.2.2.2.1
theorem nl_X5_24 {U : State} (h : ti_N U) : va_Nw (.methodLinkNest RX5 24 yX3_init "ThirdInLine") U := h.2.2.2.2.2.1
theorem nl_X9_53 {U : State} (h : ti_N U) : va_Nw (.methodLinkNest RX9 53 yX6_init "ThirdInLine") U := h.2.2.2.2.2.2.1
theorem nl_X6_49 {U : State} (h : ti_N U) : va_Nw (.methodLinkNest RX6 49 yX3_init "ThirdInLine") U := h.2.2.2.2.2.2.2.1
theorem nl_X9_60 {U : State} (h : ti_N U) : va_Nw (.methodLinkNest RX9 60 yX0_init "ThirdInLine") U := h.2.2.2.2.2.2.2.2.1
theorem nl_X0_11 {U : State} (h : ti_N U) : va_Nw (.methodLinkNest RX0 11 yX3_init "ThirdInLine") U := h.2.2.2.2.2.2.2.2.2.1
theorem ao_RX1 {U : State} (h : ti_N U) : va_AO RX1 U := h.2.2.2.2.2.2.2.2.2.2.1
theorem ao_RX2 {U : State} (h : ti_N U) : va_AO RX2 U := h.2.2.2.2.2.2.2.2.2.2.2.1
theorem ao_RX3 {U : State} (h : ti_N U) : va_AO RX3 U := h.2.2.2.2.2.2.2.2.2.2.2.2
theorem in_L : Cond.initialized RL ∈ lw_g := lw_g_mem 121 (by decide +kernel) (by decide +kernel)
theorem in_X9 : Cond.initialized RX9 ∈ lw_g := lw_g_mem 122 (by decide +kernel) (by decide +kernel)
theorem in_X4 : Cond.initialized RX4 ∈ lw_g := lw_g_mem 123 (by decide +kernel) (by decide +kernel)
theorem in_X7 : Cond.initialized RX7 ∈ lw_g := lw_g_mem 124 (by decide +kernel) (by decide +kernel)
theorem in_X8 : Cond.initialized RX8 ∈ lw_g := lw_g_mem 125 (by decide +kernel) (by decide +kernel)
theorem in_X2 : Cond.initialized RX2 ∈ lw_g := lw_g_mem 126 (by decide +kernel) (by decide +kernel)
theorem in_X1 : Cond.initialized RX1 ∈ lw_g := lw_g_mem 127 (by decide +kernel) (by decide +kernel)
theorem in_X3 : Cond.initialized RX3 ∈ lw_g := lw_g_mem 128 (by decide +kernel) (by decide +kernel)
theorem in_X5 : Cond.initialized RX5 ∈ lw_g := lw_g_mem 129 (by decide +kernel) (by decide +kernel)
theorem in_X6 : Cond.initialized RX6 ∈ lw_g := lw_g_mem 130 (by decide +kernel) (by decide +kernel)
theorem in_X0 : Cond.initialized RX0 ∈ lw_g := lw_g_mem 131 (by decide +kernel) (by decide +kernel)
theorem in_X10 : Cond.initialized RX10 ∈ lw_g := lw_g_mem 134 (by decide +kernel) (by decide +kernel)
theorem ck_L_8 : Cond.classLink RL 8 RX9 ∈ lw_g := lw_g_mem 146 (by decide +kernel) (by decide +kernel)
theorem is_X9 : Cond.instantiable RX9 10 ∈ lw_g := lw_g_mem 147 (by decide +kernel) (by decide +kernel)
theorem oi_X9_3 : Cond.methodLink RX9 3 objectInit ∈ lw_g := lw_g_mem 151 (by decide +kernel) (by decide +kernel)
theorem ck_X9_9 : Cond.classLink RX9 9 RX4 ∈ lw_g := lw_g_mem 154 (by decide +kernel) (by decide +kernel)
theorem is_X4 : Cond.instantiable RX4 6 ∈ lw_g := lw_g_mem 155 (by decide +kernel) (by decide +kernel)
theorem oi_X4_3 : Cond.methodLink RX4 3 objectInit ∈ lw_g := lw_g_mem 159 (by decide +kernel) (by decide +kernel)
theorem ck_X4_9 : Cond.classLink RX4 9 RX7 ∈ lw_g := lw_g_mem 160 (by decide +kernel) (by decide +kernel)
theorem is_X7 : Cond.instantiable RX7 7 ∈ lw_g := lw_g_mem 161 (by decide +kernel) (by decide +kernel)
theorem oi_X7_3 : Cond.methodLink RX7 3 objectInit ∈ lw_g := lw_g_mem 165 (by decide +kernel) (by decide +kernel)
theorem ac_byte : Cond.arrayClass .byte ∈ lw_g := lw_g_mem 192 (by decide +kernel) (by decide +kernel)
theorem ck_X9_16 : Cond.classLink RX9 16 RX8 ∈ lw_g := lw_g_mem 215 (by decide +kernel) (by decide +kernel)
theorem is_X8 : Cond.instantiable RX8 12 ∈ lw_g := lw_g_mem 216 (by decide +kernel) (by decide +kernel)
theorem oi_X8_3 : Cond.methodLink RX8 3 objectInit ∈ lw_g := lw_g_mem 220 (by decide +kernel) (by decide +kernel)
theorem ck_X8_9 : Cond.classLink RX8 9 RX2 ∈ lw_g := lw_g_mem 221 (by decide +kernel) (by decide +kernel)
theorem ck_X8_21 : Cond.classLink RX8 21 RX1 ∈ lw_g := lw_g_mem 223 (by decide +kernel) (by decide +kernel)
theorem is_X2 : Cond.instantiable RX2 10 ∈ lw_g := lw_g_mem 225 (by decide +kernel) (by decide +kernel)
theorem oi_X2_1 : Cond.methodLink RX2 1 objectInit ∈ lw_g := lw_g_mem 229 (by decide +kernel) (by decide +kernel)
theorem ac_int : Cond.arrayClass .int ∈ lw_g := lw_g_mem 277 (by decide +kernel) (by decide +kernel)
theorem is_X1 : Cond.instantiable RX1 4 ∈ lw_g := lw_g_mem 278 (by decide +kernel) (by decide +kernel)
theorem oi_X1_5 : Cond.methodLink RX1 5 objectInit ∈ lw_g := lw_g_mem 282 (by decide +kernel) (by decide +kernel)
theorem ac_long : Cond.arrayClass .long ∈ lw_g := lw_g_mem 297 (by decide +kernel) (by decide +kernel)
theorem ck_X9_26 : Cond.classLink RX9 26 RX3 ∈ lw_g := lw_g_mem 370 (by decide +kernel) (by decide +kernel)
theorem is_X3 : Cond.instantiable RX3 17 ∈ lw_g := lw_g_mem 371 (by decide +kernel) (by decide +kernel)
theorem oi_X3_3 : Cond.methodLink RX3 3 objectInit ∈ lw_g := lw_g_mem 375 (by decide +kernel) (by decide +kernel)
theorem ck_X9_37 : Cond.classLink RX9 37 RX5 ∈ lw_g := lw_g_mem 453 (by decide +kernel) (by decide +kernel)
theorem is_X5 : Cond.instantiable RX5 3 ∈ lw_g := lw_g_mem 454 (by decide +kernel) (by decide +kernel)
theorem oi_X5_3 : Cond.methodLink RX5 3 objectInit ∈ lw_g := lw_g_mem 458 (by decide +kernel) (by decide +kernel)
theorem ck_X5_9 : Cond.classLink RX5 9 RX3 ∈ lw_g := lw_g_mem 459 (by decide +kernel) (by decide +kernel)
theorem ck_X9_51 : Cond.classLink RX9 51 RX6 ∈ lw_g := lw_g_mem 473 (by decide +kernel) (by decide +kernel)
theorem is_X6 : Cond.instantiable RX6 13 ∈ lw_g := lw_g_mem 474 (by decide +kernel) (by decide +kernel)
theorem oi_X6_3 : Cond.methodLink RX6 3 objectInit ∈ lw_g := lw_g_mem 478 (by decide +kernel) (by decide +kernel)
theorem ck_X6_47 : Cond.classLink RX6 47 RX3 ∈ lw_g := lw_g_mem 479 (by decide +kernel) (by decide +kernel)
theorem ck_X9_58 : Cond.classLink RX9 58 RX0 ∈ lw_g := lw_g_mem 525 (by decide +kernel) (by decide +kernel)
theorem is_X0 : Cond.instantiable RX0 6 ∈ lw_g := lw_g_mem 526 (by decide +kernel) (by decide +kernel)
theorem oi_X0_3 : Cond.methodLink RX0 3 objectInit ∈ lw_g := lw_g_mem 530 (by decide +kernel) (by decide +kernel)
theorem ck_X0_9 : Cond.classLink RX0 9 RX3 ∈ lw_g := lw_g_mem 531 (by decide +kernel) (by decide +kernel)
theorem ck_L_18 : Cond.classLink RL 18 RX10 ∈ lw_g := lw_g_mem 1328 (by decide +kernel) (by decide +kernel)
theorem is_X10 : Cond.instantiable RX10 67 ∈ lw_g := lw_g_mem 1329 (by decide +kernel) (by decide +kernel)
theorem oi_X10_1 : Cond.methodLink RX10 1 objectInit ∈ lw_g := lw_g_mem 1333 (by decide +kernel) (by decide +kernel)
theorem ac_boolean : Cond.arrayClass .boolean ∈ lw_g := lw_g_mem 1544 (by decide +kernel) (by decide +kernel)
theorem oi_m : Cond.instanceMethod objectInit ∈ lw_g := lw_g_mem 152 (by decide +kernel) (by decide +kernel)
theorem oi_c : Cond.code objectInit ⟨#[0xb1]⟩ 1 none ∈ lw_g := lw_g_mem 153 (by decide +kernel) (by decide +kernel)
theorem ti_ndR (n : Nat) : va_nd (List.range n) = true := by
  have h : ∀ l : List Nat, l.Nodup → va_nd l = true := by
    intro l
    induction l with
    | nil => intro _; rfl
    | cons a l ih =>
      intro h
      have h1 := List.nodup_cons.mp h
      simp [va_nd, ih h1.2, h1.1]
  exact h _ List.nodup_range
def ti_rmc (k mc ms : Nat) : Room := { frames := k, cells := mc, slots := ms, locals := 60 * k }
def ti_PcC (D : va_G) (cy : Nat → ClassId) (h0 sz : Nat) (e0 : va_E) : Array Value → State → Prop := va_Pc [.ref h0] (fun U => U.heap.size = sz ∧ va_P D vwCl [(h0, e0)] U.heap ∧ va_K D vwCl (ti_ty cy) U ∧ ti_N U)
/-- a constructor's contract: of the one cell a block of cells comes -/
def ti_Kc (l : Launch) (y : MethodName) (cc : ByteArray) (n k mc ms : Nat) (D : va_G) (cy : Nat → ClassId) (h0 sz : Nat) (e0 : va_E) {S : Type} (post : S → Prop) (blk : S → va_W) : Prop :=
  Met l y (.code y cc n none :: lw_g) (ti_rmc k mc ms) (ti_PcC D cy h0 sz e0) (va_Qv post (fun u t => va_P D vwCl (blk u) t.heap ∧ va_D (va_A [(h0, e0)] sz) (blk u)) (va_A [(h0, e0)] sz)) mc ms (va_A [(h0, e0)] sz)
def ti_CC (p : Program) (s : State) (m : MethodId) (c : Code) (args : Array Value) (cc : ByteArray) (own : String) (nL : Nat) (D : va_G) (cy : Nat → ClassId) (meth : Method) : Prop :=
  p.tables.exec = Jvm.exec ∧ c.code = cc ∧ (∀ w ∈ lw_g, w.before args s = true) ∧ s.vm.findClass own = some m.cls ∧ va_K D vwCl (ti_ty cy) s ∧ c.maxLocals = nL ∧ meth.name = "<init>" ∧ ti_N s
section
variable {p : Program} {l : Launch} {e : Env} {R : Room} {s : State} {m : MethodId} {args : Array Value} {below : List Frame} {meth : Method} {c : Code} {H H0 : Heap} {locs : List Loc} {cells slots : Nat} {Q : State → Prop} {pc : Nat} {ls : Array Slot} {rest : List Value} {cc : ByteArray} {own : String} {nL : Nat} {D : va_G} {cy : Nat → ClassId} {As : Nat → Prop} {ws : va_W}
theorem ti_blindC {h0 sz : Nat} {e0 : va_E} : FrameBlind (ti_PcC D cy h0 sz e0) := fun a U g mk q => ⟨q.1, q.2.1, q.2.2.1, va_K.moved (u := U) (U := U.calling g mk a) (Vm.Alike.refl U.vm) q.2.2.2.1, q.2.2.2.2.call⟩
theorem ti_eC {y : MethodName} {n k mc ms h0 sz : Nat} {e0 : va_E} {S : Type} {post : S → Prop} {blk : S → va_W} (hy : plainName y.cls = true) (hn : 1 ≤ n) (hname : y.name = "<init>")
    (body : ∀ (p : Program) (e : Env) (s : State) (m : MethodId) (args : Array Value) (below : List Frame) (meth : Method) (c : Code) (Q : State → Prop) (H0 : Heap) (As : Nat → Prop), ti_CC p s m c args cc y.cls n D cy meth →
      (∀ (u : S) (H2 : Heap) (locs2 : List Loc) (pc : Nat) (ls : Array Slot), post u → va_P D vwCl (blk u) H2 → va_D As (blk u) → va_S As H0 H2 locs2 → decode cc pc = .ok (.return_, 1) → W p l e (ti_rmc k mc ms) s m args below meth c H2 locs2 mc ms Q (F0 m pc ls [])) →
      va_P D vwCl [(h0, e0)] H0 → va_D As [(h0, e0)] → va_S As H0 H0 [] → (∀ q, H0.size ≤ q → As q) → ∀ ls : Array Slot, lv_has ls n [(0, .ref h0)] → W p l e (ti_rmc k mc ms) s m args below meth c H0 [] 0 0 Q (F0 m 0 ls [])) : ti_Kc l y cc n k mc ms D cy h0 sz e0 post blk := by
  refine Met.ofW (cc := cc) (maxL := n) (ret := none) hy rfl ?_
  intro p e s m args below meth c s₁ B hml hv
  obtain ⟨rfl, hsz, hP, hK, hN⟩ := hv
  subst hsz
  rw [lg_entry_eq]
  have hD : va_D (va_A [(h0, e0)] s.heap.size) [(h0, e0)] := ⟨fun i j p q hi hj _ => by
    rcases i with _ | i <;> rcases j with _ | j <;> simp_all, fun k q hk => va_A.in hk⟩
  exact body p e s m _ below meth c _ s.heap (va_A [(h0, e0)] s.heap.size) ⟨B.exec, B.bytes, fun w h => atoms_spec (ws := .code y cc n none :: lw_g) B.pre w (List.mem_cons_of_mem _ h), findClass_of_methodNamed B.named, hK, hml, by rw [(name_of_methodNamed B.named B.method).1, hname], hN⟩
    (fun u H2 locs2 pc ls hpo hP2 hD2 hS2 hdg => W.vret B.exec B.bytes B.returns (fun t ht _ => ⟨⟨u, rfl, hpo, by rw [ht]; exact hP2, hD2⟩, hS2.F ht⟩) hS2.2.2 hdg B.notSynchronized) hP hD va_S.rf (fun q h => Or.inr h) _ (lv_entry [.ref h0] (Nat.le_trans (Nat.le_of_ble_eq_true rfl) hn))
theorem ti_sameP {cA : ClassId} {ty : FieldType} {t0 : Nat} {c0 : ClassId} (hp : ∀ C, ty ≠ .object C) (hK : va_K D vwCl (ti_ty cy) s) (h0 : (ti_ty cy)[t0]? = some (c0, ty)) (hK1 : va_K D vwCl (ti_ty cy ++ [(cA, ty)]) s) : cA = c0 := by
  have h1 := (hK.2 t0 _ h0).2
  have h2 := (hK1.2 7 (cA, ty) rfl).2
  cases ty <;> first | (exact absurd rfl (hp _)) | (simp only [va_RA] at h1 h2; rw [h1] at h2; exact (Option.some.inj h2).symm)
theorem ti_sameO {cA : ClassId} {Cn : String} {t0 : Nat} {c0 : ClassId} (hK : va_K D vwCl (ti_ty cy) s) (h0 : (ti_ty cy)[t0]? = some (c0, .object Cn)) (hK1 : va_K D vwCl (ti_ty cy ++ [(cA, .object Cn)]) s) : cA = c0 := by
  obtain ⟨kA, comp, -, -, -, h1⟩ := (hK.2 t0 _ h0).2
  obtain ⟨kB, comp2, -, -, -, h2⟩ := (hK1.2 7 (cA, .object Cn) rfl).2
  rw [h1] at h2; exact (Option.some.inj h2).symm
/-- a new row of a basic type -/
theorem ti_nA {atype : ArrayType} {ty : FieldType} (t0 : Nat) (C : ti_CC p s m c args cc own nL D cy meth) (hac : Cond.arrayClass (newarray.typeOf atype) ∈ lw_g) (hty : newarray.typeOf atype = ty) (hp : ∀ C, ty ≠ .object C) (ht : (ti_ty cy)[t0]? = some (cy t0, ty)) (hP : va_P D vwCl ws H) (hD : va_D As ws) (hS : va_S As H0 H locs) (hA : ∀ q, H0.size ≤ q → As q)
    {n : Int32} {N' : Nat} {a0 : vp_A} (ha : ∀ cA : ClassId, vp_cell cA a0 = arrV cA N' (fun _ => defaultValue ty)) (hn : ¬ n < 0) (hN : n.toNatClampNeg = N') (hbytes : N' * componentBytes ty ≤ 536870912) (k2 n2 : Nat) (hcells : cells + 1 ≤ k2) (hslots : slots + N' ≤ n2) (hR : k2 ≤ R.cells ∧ n2 ≤ R.slots) (hdg : decode cc pc = .ok (.newarray atype, 2))
    (kk : ∀ (q : Nat) (H1 : Heap), va_P D vwCl (ws ++ [(q, .inl (cy t0, a0))]) H1 → va_D As (ws ++ [(q, .inl (cy t0, a0))]) → va_S As H0 H1 locs → W p l e R s m args below meth c H1 locs k2 n2 Q (F0 m (pc + 2) ls (.ref q :: rest))) : W p l e R s m args below meth c H locs cells slots Q (F0 m pc ls (.int n :: rest)) := by
  refine va_newa (atype := atype) (ty := ty) C.1 C.2.1 (C.2.2.1 _ hac) hty C.2.2.2.2.1 hP hD hS hA ha hn hN hbytes (Nat.le_trans hcells hR.1) (Nat.le_trans hslots hR.2) hdg ?_
  intro q cA H1 hK1 hP1 hD1 hS1
  obtain rfl := ti_sameP hp C.2.2.2.2.1 ht hK1
  exact W.widen hcells hslots (kk q H1 hP1 hD1 hS1)
theorem ti_nQ {Cn : String} {idx : Nat} (t0 : Nat) (C : ti_CC p s m c args cc own nL D cy meth) (hck : Cond.classLink own idx Cn ∈ lw_g) (hao : va_AO Cn s) (ht : (ti_ty cy)[t0]? = some (cy t0, .object Cn)) (hP : va_P D vwCl ws H) (hD : va_D As ws) (hS : va_S As H0 H locs) (hA : ∀ q, H0.size ≤ q → As q)
    {n : Int32} {N' : Nat} (hn : ¬ n < 0) (hN : n.toNatClampNeg = N') (hbytes : N' * 4 ≤ 536870912) (k2 n2 : Nat) (hcells : cells + 1 ≤ k2) (hslots : slots + N' ≤ n2) (hR : k2 ≤ R.cells ∧ n2 ≤ R.slots) (hdg : decode cc pc = .ok (.anewarray idx, 3))
    (kk : ∀ (q : Nat) (H1 : Heap), va_P D vwCl (ws ++ [(q, .inl (cy t0, N', .inr (.inr (.inr (.inr (fun _ => none))))))]) H1 → va_D As (ws ++ [(q, .inl (cy t0, N', .inr (.inr (.inr (.inr (fun _ => none))))))]) → va_S As H0 H1 locs → W p l e R s m args below meth c H1 locs k2 n2 Q (F0 m (pc + 3) ls (.ref q :: rest))) : W p l e R s m args below meth c H locs cells slots Q (F0 m pc ls (.int n :: rest)) := by
  refine va_newq (C := Cn) C.1 C.2.1 C.2.2.2.1 (C.2.2.1 _ hck) hao C.2.2.2.2.1 hP hD hS hA hn hN hbytes (Nat.le_trans hcells hR.1) (Nat.le_trans hslots hR.2) hdg ?_
  intro q cA H1 hK1 hP1 hD1 hS1
  obtain rfl := ti_sameO C.2.2.2.2.1 ht hK1
  exact W.widen hcells hslots (kk q H1 hP1 hD1 hS1)
/-- a new object -/
theorem ti_nO {Cn : String} {T : u_T} {N ci idx : Nat} (ty : Nat → FieldType) (hty : ∀ k, k < N → parseFieldDescriptor (T k).2.2.1 = some (ty k)) (C : ti_CC p s m c args cc own nL D cy meth) (hin : ∀ w ∈ u_ws Cn T N, w ∈ lw_g) (hck : Cond.classLink own idx Cn ∈ lw_g) (his : Cond.instantiable Cn N ∈ lw_g) (hini : Cond.initialized Cn ∈ lw_g) (hcl : vwCl[ci]? = some (Cn, T, N)) (hP : va_P D vwCl ws H) (hD : va_D As ws) (hS : va_S As H0 H locs) (hA : ∀ q, H0.size ≤ q → As q)
    {fs : List Value} (hfs : ∀ j, j < N → defaultValue (ty j) = vp_V fs j) (k2 n2 : Nat) (hcells : cells + 1 ≤ k2) (hslots : slots + N ≤ n2) (hR : k2 ≤ R.cells ∧ n2 ≤ R.slots) (hdg : decode cc pc = .ok (.new idx, 3))
    (kk : ∀ (q : Nat) (H1 : Heap), va_P D vwCl (ws ++ [(q, .inr (ci, fs))]) H1 → va_D As (ws ++ [(q, .inr (ci, fs))]) → va_S As H0 H1 locs → W p l e R s m args below meth c H1 locs k2 n2 Q (F0 m (pc + 3) ls (.ref q :: rest))) : W p l e R s m args below meth c H locs cells slots Q (F0 m pc ls rest) := by
  refine va_new (ci := ci) (C := Cn) (T := T) (N := N) C.1 C.2.1 C.2.2.1 hin ty hty C.2.2.2.1 (C.2.2.1 _ hck) (C.2.2.1 _ his) (C.2.2.1 _ hini) C.2.2.2.2.1 hP hD hS hA hcl hfs (Nat.le_trans hcells hR.1) (Nat.le_trans hslots hR.2) hdg ?_
  intro q H1 hP1 hD1 hS1
  exact W.widen hcells hslots (kk q H1 hP1 hD1 hS1)
/-- a world with its last cell made a block -/
theorem ti_joinL {X blk : va_W} {q : Nat} {e0 : va_E} {H1 : Heap} (hP : va_P D vwCl (X ++ [(q, e0)]) H) (hD : va_D As (X ++ [(q, e0)])) (hk : ∀ z : Nat, z < H.size → ¬ va_A [(q, e0)] H.size z → H1[z]? = H[z]?) (hF : ∀ z, va_A [(q, e0)] H.size z → As z) (hP1 : va_P D vwCl blk H1) (hD1 : va_D (va_A [(q, e0)] H.size) blk) : va_P D vwCl (X ++ blk) H1 ∧ va_D As (X ++ blk) := by
  refine va_join (ws := X ++ [(q, e0)]) (wc := [(q, e0)]) (wr := X) hP hD [X.length] (List.range X.length) ?_ ?_ ?_ ?_ hk hF hP1 hD1
  · simp
  · apply List.ext_getElem?
    intro i
    simp only [List.getElem?_map]
    by_cases h : i < X.length
    · rw [List.getElem?_range h]
      simp only [Option.map_some, List.getElem?_append_left h, List.getElem?_eq_getElem h]
    · rw [List.getElem?_eq_none (by simpa using h), List.getElem?_eq_none (by simpa using h)]; rfl
  · exact ti_ndR X.length
  · intro i hi; simp only [List.mem_range] at hi; simp only [List.mem_singleton]; omega
/-- a constructor's call, of the last cell -/
theorem ti_callCx {y : MethodName} {cc2 : ByteArray} {n2 k2 mc ms q : Nat} {X : va_W} {e0 : va_E} {S : Type} {post : S → Prop} {blk : S → va_W} (C : ti_CC p s m c args cc own nL D cy meth) (hM : ti_Kc l y cc2 n2 k2 mc ms D cy q H.size e0 post blk)
    (hrun : ∀ (hp : PreS s H (ti_PcC D cy q H.size e0) [.ref q]), va_Run p l e R s m args below meth c H locs cells slots mc ms (F0 m pc ls (.ref q :: rest)) rest (va_Qv post (fun u t => va_P D vwCl (blk u) t.heap ∧ va_D (va_A [(q, e0)] H.size) (blk u)) (va_A [(q, e0)] H.size) (Value.ref q :: []).toArray) (va_A [(q, e0)] H.size))
    (hP : va_P D vwCl (X ++ [(q, e0)]) H) (hD : va_D As (X ++ [(q, e0)])) (hS : va_S As H0 H locs) (hA : ∀ q, H0.size ≤ q → As q) (k3 n3 : Nat) (hcells : cells + mc ≤ k3) (hslots : slots + ms ≤ n3)
    (kk : ∀ (u : S) (H1 : Heap) (locs1 : List Loc), post u → va_P D vwCl (X ++ blk u) H1 → va_D As (X ++ blk u) → va_S As H0 H1 locs1 → W p l e R s m args below meth c H1 locs1 k3 n3 Q (F0 m (pc + 3) ls rest)) : W p l e R s m args below meth c H locs cells slots Q (F0 m pc ls (.ref q :: rest)) := by
  have hF : ∀ z, va_A [(q, e0)] H.size z → As z := va_free (wc := [(q, e0)]) hD hS hA [X.length] (by simp)
  have hP0 : va_P D vwCl [(q, e0)] H := hP.sub (ws' := [(q, e0)]) [X.length] (by simp)
  refine va_callv (hrun ⟨ti_blindC, fun U hU hW => ⟨rfl, by rw [hU], by rw [hU]; exact hP0, va_K.moved hW.alike C.2.2.2.2.1, C.2.2.2.2.2.2.2.warm hW⟩⟩) hS (fun z _ h => hF z h) hF ?_
  intro u t H1 locs1 ht hvm hpo hB hz hk hS1
  rw [ht] at hB
  obtain ⟨hP2, hD2⟩ := ti_joinL hP hD hk hF hB.1 hB.2
  exact W.widen hcells hslots (kk u H1 locs1 hpo hP2 hD2 hS1)
theorem ti_callCN {y : MethodName} {cc2 : ByteArray} {n2 k2 mc ms idx q : Nat} {X : va_W} {e0 : va_E} {S : Type} {post : S → Prop} {blk : S → va_W} (C : ti_CC p s m c args cc own nL D cy meth) (hM : ti_Kc l y cc2 n2 k2 mc ms D cy q H.size e0 post blk) (hnl : va_Nw (.methodLinkNest own idx y "ThirdInLine") s) (hy : y.name = "<init>") (hm : Cond.instanceMethod y ∈ lw_g) (hi : Cond.initialized y.cls ∈ lw_g) (hc : Cond.code y cc2 n2 none ∈ lw_g) (hd : ti_Vd y 0)
    (hP : va_P D vwCl (X ++ [(q, e0)]) H) (hD : va_D As (X ++ [(q, e0)])) (hS : va_S As H0 H locs) (hA : ∀ q, H0.size ≤ q → As q) (hsz : ls.size = nL) (hrs : (rest.map fun v => v.category).sum ≤ 8) (hR : k2 + 1 ≤ R.frames ∧ 8 + (n2 + 11) + 60 * k2 ≤ R.locals) (k3 n3 : Nat) (hcells : cells + mc ≤ k3) (hslots : slots + ms ≤ n3) (hR2 : k3 ≤ R.cells ∧ n3 ≤ R.slots) (hdg : decode cc pc = .ok (.invokespecial idx, 3))
    (kk : ∀ (u : S) (H1 : Heap) (locs1 : List Loc), post u → va_P D vwCl (X ++ blk u) H1 → va_D As (X ++ blk u) → va_S As H0 H1 locs1 → W p l e R s m args below meth c H1 locs1 k3 n3 Q (F0 m (pc + 3) ls rest)) : W p l e R s m args below meth c H locs cells slots Q (F0 m pc ls (.ref q :: rest)) :=
  ti_callCx (n2 := n2) (k2 := k2) C hM (fun hp => va_runIN (As := []) (rest := rest) ⟨C.1, C.2.1, C.2.2.2.2.2.1, C.2.2.2.1, C.2.2.1⟩ hM ⟨va_cnB 0 C.2.2.1 (lw_g_good (fun w hw => (List.mem_cons.mp hw).elim (fun h => h ▸ hc) (fun h => h))) rfl rfl rfl hnl (C.2.2.1 _ hi) hd hR, hy, C.2.2.1 _ hm⟩ hp rfl rfl hsz rfl (lv_room hrs) hdg ⟨Nat.le_trans hcells hR2.1, Nat.le_trans hslots hR2.2⟩) hP hD hS hA k3 n3 hcells hslots kk
theorem ti_callCI {y : MethodName} {cc2 : ByteArray} {n2 k2 mc ms idx q : Nat} {X : va_W} {e0 : va_E} {S : Type} {post : S → Prop} {blk : S → va_W} (C : ti_CC p s m c args cc own nL D cy meth) (hM : ti_Kc l y cc2 n2 k2 mc ms D cy q H.size e0 post blk) (hml : Cond.methodLink own idx y ∈ lw_g) (hy : y.name = "<init>") (hm : Cond.instanceMethod y ∈ lw_g) (hi : Cond.initialized y.cls ∈ lw_g) (hc : Cond.code y cc2 n2 none ∈ lw_g) (hd : ti_Vd y 0)
    (hP : va_P D vwCl (X ++ [(q, e0)]) H) (hD : va_D As (X ++ [(q, e0)])) (hS : va_S As H0 H locs) (hA : ∀ q, H0.size ≤ q → As q) (hsz : ls.size = nL) (hrs : (rest.map fun v => v.category).sum ≤ 8) (hR : k2 + 1 ≤ R.frames ∧ 8 + (n2 + 11) + 60 * k2 ≤ R.locals) (k3 n3 : Nat) (hcells : cells + mc ≤ k3) (hslots : slots + ms ≤ n3) (hR2 : k3 ≤ R.cells ∧ n3 ≤ R.slots) (hdg : decode cc pc = .ok (.invokespecial idx, 3))
    (kk : ∀ (u : S) (H1 : Heap) (locs1 : List Loc), post u → va_P D vwCl (X ++ blk u) H1 → va_D As (X ++ blk u) → va_S As H0 H1 locs1 → W p l e R s m args below meth c H1 locs1 k3 n3 Q (F0 m (pc + 3) ls rest)) : W p l e R s m args below meth c H locs cells slots Q (F0 m pc ls (.ref q :: rest)) :=
  ti_callCx (n2 := n2) (k2 := k2) C hM (fun hp => va_runI (As := []) (rest := rest) ⟨C.1, C.2.1, C.2.2.2.2.2.1, C.2.2.2.1, C.2.2.1⟩ hM (cwI 0 C.2.2.1 (lw_g_good (fun w hw => (List.mem_cons.mp hw).elim (fun h => h ▸ hc) (fun h => h))) rfl rfl rfl (C.2.2.1 _ hi) (C.2.2.1 _ hml) (C.2.2.1 _ hm) hy hd hR) hp rfl rfl hsz rfl (lv_room hrs) hdg ⟨Nat.le_trans hcells hR2.1, Nat.le_trans hslots hR2.2⟩) hP hD hS hA k3 n3 hcells hslots kk
theorem ti_injD {Ls : List (Nat × Nat)} {A : Nat → Nat → Nat} {M : ti_M} (hD : va_D As (ti_W Ls A cy M)) : ti_inj Ls A := fun i j r r2 h1 h2 e => hD.1 i j _ _ (ti_W_at h1) (ti_W_at h2) e
theorem ti_DW {Ls : List (Nat × Nat)} {A : Nat → Nat → Nat} {M : ti_M} (M2 : ti_M) (hD : va_D As (ti_W Ls A cy M)) : va_D As (ti_W Ls A cy M2) := by
  refine ⟨(ti_W_D (ti_injD hD) cy M2).1, fun k q hk => ?_⟩
  simp only [ti_W, List.getElem?_map, Option.map_eq_some_iff] at hk
  obtain ⟨r, hr, rfl⟩ := hk
  have h1 := hD.2 k (A r.1 r.2, ti_G A cy M r.1 r.2) (ti_W_at hr)
  exact h1
theorem ti_AsD {Ls : List (Nat × Nat)} {A : Nat → Nat → Nat} {M : ti_M} (hD : va_D As (ti_W Ls A cy M)) : ∀ q, ti_As Ls A q → As q := by
  rintro q ⟨r, hr, rfl⟩
  obtain ⟨i, hi⟩ := List.getElem?_of_mem hr
  exact hD.2 i _ (ti_W_at hi)
/-- a method's call out of a constructor, all its world by roles -/
theorem ti_callCV {y : MethodName} {cc2 : ByteArray} {n2 k2 idx o ci : Nat} {av st : List Value} {post : ti_M → Prop} {T : u_T} {N : Nat} {Ls : List (Nat × Nat)} {A : Nat → Nat → Nat} {M : ti_M} (C : ti_CC p s m c args cc own nL D cy meth) (hN : Ls.Nodup)
    (hM : ti_inj Ls A → ti_Kv l y cc2 n2 k2 Ls D A cy M (.ref (A o 0) :: av) post) (hV : ti_V own idx y cc2 n2 none) (hd : ti_Vd y av.length) (hob : ti_ob Ls o ci) (hj : 0 ∈ ti_parts ci) (hcl : vwCl[ci]? = some (y.cls, T, N)) (hst : st = av.reverse ++ .ref (A o 0) :: rest) (hP : va_P D vwCl (ti_W Ls A cy M) H) (hD : va_D As (ti_W Ls A cy M)) (hS : va_S As H0 H locs) (hsz : ls.size = nL) (hrs : (rest.map fun v => v.category).sum ≤ 8) (hR : k2 + 1 ≤ R.frames ∧ 8 + (n2 + 11) + 60 * k2 ≤ R.locals) (hcs : cells ≤ R.cells ∧ slots ≤ R.slots) (hdg : decode cc pc = .ok (.invokevirtual idx, 3))
    (kk : ∀ (M2 : ti_M) (H1 : Heap) (locs1 : List Loc), post M2 → va_P D vwCl (ti_W Ls A cy M2) H1 → va_D As (ti_W Ls A cy M2) → va_S As H0 H1 locs1 → W p l e R s m args below meth c H1 locs1 cells slots Q (F0 m (pc + 3) ls rest)) : W p l e R s m args below meth c H locs cells slots Q (F0 m pc ls st) := by
  subst hst
  have hJ := ti_injD hD
  have C2 : ti_C p s m c args cc own nL D cy Ls A := ⟨C.1, C.2.1, C.2.2.1, C.2.2.2.1, C.2.2.2.2.1, C.2.2.2.2.2.1, hJ, hN⟩
  have hw : ti_H Ls D A cy H M H [] := ⟨hP, va_S.rf⟩
  refine va_callv (va_runV (As := av) (rest := rest) ⟨C.1, C.2.1, C.2.2.2.2.2.1, C.2.2.2.1, C.2.2.1⟩ (hM hJ) (ti_cwV C2 hV hd hR) ⟨ti_blind, ti_recv C2 hw hob hj hcl, ti_pre C2 hw⟩ rfl rfl hsz rfl (lv_room hrs) hdg ⟨hcs.1, hcs.2⟩) hS (fun q _ h => ti_AsD hD q h) (ti_AsD hD) ?_
  intro u t H1 locs1 ht hvm hpo hB hz hk hS1
  exact kk u H1 locs1 hpo (by rw [← ht]; exact hB) (ti_DW u hD) hS1
end
end
section
variable {Tc : gC} {Tm : gM}
theorem nf_0 : ∀ j, j < 6 → defaultValue (tyX0 j) = vp_V [.null, .null, .null, .null, .null, .int 0] j := by
  intro j hj
  match j, hj with
  | 0, _ => rfl
  | 1, _ => rfl
  | 2, _ => rfl
  | 3, _ => rfl
  | 4, _ => rfl
  | 5, _ => rfl
  | j + 6, h => exact absurd h (by omega)
theorem nf_1 : ∀ j, j < 4 → defaultValue (tyX1 j) = vp_V [.null, .null, .null, .int 0] j := by
  intro j hj
  match j, hj with
  | 0, _ => rfl
  | 1, _ => rfl
  | 2, _ => rfl
  | 3, _ => rfl
  | j + 4, h => exact absurd h (by omega)
theorem nf_2 : ∀ j, j < 10 → defaultValue (tyX2 j) = vp_V [.int 0, .int 0, .int 0, .int 0, .int 0, .int 0, .int 0, .int 0, .int 0, .int 0] j := by
  intro j hj
  match j, hj with
  | 0, _ => rfl
  | 1, _ => rfl
  | 2, _ => rfl
  | 3, _ => rfl
  | 4, _ => rfl
  | 5, _ => rfl
  | 6, _ => rfl
  | 7, _ => rfl
  | 8, _ => rfl
  | 9, _ => rfl
  | j + 10, h => exact absurd h (by omega)
theorem nf_3 : ∀ j, j < 17 → defaultValue (tyX3 j) = vp_V [.null, .int 0, .int 0, .int 0, .int 0, .int 0, .null, .null, .null, .null, .null, .null, .null, .null, .null, .null, .null] j := by
  intro j hj
  match j, hj with
  | 0, _ => rfl
  | 1, _ => rfl
  | 2, _ => rfl
  | 3, _ => rfl
  | 4, _ => rfl
  | 5, _ => rfl
  | 6, _ => rfl
  | 7, _ => rfl
  | 8, _ => rfl
  | 9, _ => rfl
  | 10, _ => rfl
  | 11, _ => rfl
  | 12, _ => rfl
  | 13, _ => rfl
  | 14, _ => rfl
  | 15, _ => rfl
  | 16, _ => rfl
  | j + 17, h => exact absurd h (by omega)
theorem nf_4 : ∀ j, j < 6 → defaultValue (tyX4 j) = vp_V [.null, .null, .null, .int 0, .int 0, .int 0] j := by
  intro j hj
  match j, hj with
  | 0, _ => rfl
  | 1, _ => rfl
  | 2, _ => rfl
  | 3, _ => rfl
  | 4, _ => rfl
  | 5, _ => rfl
  | j + 6, h => exact absurd h (by omega)
theorem nf_5 : ∀ j, j < 3 → defaultValue (tyX5 j) = vp_V [.null, .int 0, .int 0] j := by
  intro j hj
  match j, hj with
  | 0, _ => rfl
  | 1, _ => rfl
  | 2, _ => rfl
  | j + 3, h => exact absurd h (by omega)
theorem nf_6 : ∀ j, j < 13 → defaultValue (tyX6 j) = vp_V [.null, .null, .null, .null, .int 0, .int 0, .int 0, .int 0, .null, .null, .int 0, .null, .null] j := by
  intro j hj
  match j, hj with
  | 0, _ => rfl
  | 1, _ => rfl
  | 2, _ => rfl
  | 3, _ => rfl
  | 4, _ => rfl
  | 5, _ => rfl
  | 6, _ => rfl
  | 7, _ => rfl
  | 8, _ => rfl
  | 9, _ => rfl
  | 10, _ => rfl
  | 11, _ => rfl
  | 12, _ => rfl
  | j + 13, h => exact absurd h (by omega)
theorem nf_7 : ∀ j, j < 7 → defaultValue (tyX7 j) = vp_V [.null, .int 0, .int 0, .int 0, .int 0, .int 0, .int 0] j := by
  intro j hj
  match j, hj with
  | 0, _ => rfl
  | 1, _ => rfl
  | 2, _ => rfl
  | 3, _ => rfl
  | 4, _ => rfl
  | 5, _ => rfl
  | 6, _ => rfl
  | j + 7, h => exact absurd h (by omega)
theorem nf_8 : ∀ j, j < 12 → defaultValue (tyX8 j) = vp_V [.null, .null, .null, .int 0, .int 0, .int 0, .int 0, .int 0, .int 0, .int 0, .int 0, .int 0] j := by
  intro j hj
  match j, hj with
  | 0, _ => rfl
  | 1, _ => rfl
  | 2, _ => rfl
  | 3, _ => rfl
  | 4, _ => rfl
  | 5, _ => rfl
  | 6, _ => rfl
  | 7, _ => rfl
  | 8, _ => rfl
  | 9, _ => rfl
  | 10, _ => rfl
  | 11, _ => rfl
  | j + 12, h => exact absurd h (by omega)
theorem nf_9 : ∀ j, j < 10 → defaultValue (tyX9 j) = vp_V [.null, .null, .null, .null, .null, .null, .null, .int 0, .null, .null] j := by
  intro j hj
  match j, hj with
  | 0, _ => rfl
  | 1, _ => rfl
  | 2, _ => rfl
  | 3, _ => rfl
  | 4, _ => rfl
  | 5, _ => rfl
  | 6, _ => rfl
  | 7, _ => rfl
  | 8, _ => rfl
  | 9, _ => rfl
  | j + 10, h => exact absurd h (by omega)
theorem nf_10 : ∀ j, j < 67 → defaultValue (tyX10 j) = vp_V [.int 0, .null, .int 0, .null, .null, .null, .null, .null, .null, .null, .null, .null, .null, .null, .null, .null, .null, .null, .int 0, .int 0, .int 0, .int 0, .int 0, .int 0, .int 0, .int 0, .int 0, .int 0, .int 0, .int 0, .int 0, .null, .null, .int 0, .null, .null, .null, .null, .null, .null, .null, .null, .null, .null, .null, .null, .null, .null, .null, .null, .null, .int 0, .int 0, .int 0, .null, .null, .int 0, .null, .int 0, .int 0, .null, .null, .null, .null, .null, .int 0, .int 0] j := by
  intro j hj
  match j, hj with
  | 0, _ => rfl
  | 1, _ => rfl
  | 2, _ => rfl
  | 3, _ => rfl
  | 4, _ => rfl
  | 5, _ => rfl
  | 6, _ => rfl
  | 7, _ => rfl
  | 8, _ => rfl
  | 9, _ => rfl
  | 10, _ => rfl
  | 11, _ => rfl
  | 12, _ => rfl
  | 13, _ => rfl
  | 14, _ => rfl
  | 15, _ => rfl
  | 16, _ => rfl
  | 17, _ => rfl
  | 18, _ => rfl
  | 19, _ => rfl
  | 20, _ => rfl
  | 21, _ => rfl
  | 22, _ => rfl
  | 23, _ => rfl
  | 24, _ => rfl
  | 25, _ => rfl
  | 26, _ => rfl
  | 27, _ => rfl
  | 28, _ => rfl
  | 29, _ => rfl
  | 30, _ => rfl
  | 31, _ => rfl
  | 32, _ => rfl
  | 33, _ => rfl
  | 34, _ => rfl
  | 35, _ => rfl
  | 36, _ => rfl
  | 37, _ => rfl
  | 38, _ => rfl
  | 39, _ => rfl
  | 40, _ => rfl
  | 41, _ => rfl
  | 42, _ => rfl
  | 43, _ => rfl
  | 44, _ => rfl
  | 45, _ => rfl
  | 46, _ => rfl
  | 47, _ => rfl
  | 48, _ => rfl
  | 49, _ => rfl
  | 50, _ => rfl
  | 51, _ => rfl
  | 52, _ => rfl
  | 53, _ => rfl
  | 54, _ => rfl
  | 55, _ => rfl
  | 56, _ => rfl
  | 57, _ => rfl
  | 58, _ => rfl
  | 59, _ => rfl
  | 60, _ => rfl
  | 61, _ => rfl
  | 62, _ => rfl
  | 63, _ => rfl
  | 64, _ => rfl
  | 65, _ => rfl
  | 66, _ => rfl
  | j + 67, h => exact absurd h (by omega)
set_option maxHeartbeats 8000000 in
set_option maxRecDepth 100000 in
theorem k_X2_init (l : Launch) (D : va_G) (cy : Nat → ClassId) (h0 sz : Nat) : ti_Kc l yX2_init cX2_init 1 1 0 0 D cy h0 sz (.inr (2, [.int 0, .int 0, .int 0, .int 0, .int 0, .int 0, .int 0, .int 0, .int 0, .int 0])) (fun _ : Unit => True) (fun _ => [(h0, .inr (2, [.int 0, .int 0, .int 0, .int 0, .int 0, .int 0, .int 0, .int 0, .int 0, .int 0]))]) := by
  refine ti_eC yp_X2_init (by decide) rfl ?_
  intro p e s m args below meth c Q H0 As C hQ hP hD hS hA ls hl
  have hx := C.1
  have hb := C.2.1
  have hts := C.2.2.1
  have hown := C.2.2.2.1
  have hK := C.2.2.2.2.1
  have hml := C.2.2.2.2.2.1
  have hin := C.2.2.2.2.2.2.1
  have hN := C.2.2.2.2.2.2.2
  refine lv_aload_n hx hb dX2_init_0 rfl (lv_at hl 0 rfl) ?_
  refine W.objInit hx hb hown (hts _ oi_X2_1) (hts _ oi_m) (hts _ oi_c) rfl (by rw [hml]; exact hl.1) rfl dX2_init_1 (Nat.le_of_ble_eq_true rfl) (Nat.le_of_ble_eq_true rfl) ?_
  refine W.eq (g2 := F0 m 4 ls []) rfl ?_
  refine W.widen (k := 0) (n := 0) (Nat.le_of_ble_eq_true rfl) (Nat.le_of_ble_eq_true rfl) ?_
  exact hQ () _ _ _ _ trivial hP hD hS dX2_init_4
def ti_lb (cy : Nat → ClassId) (b : Nat → Nat) : va_W := [(b 0, .inr (1, [.ref (b 1), .ref (b 2), .ref (b 3), .int 0])), (b 1, .inl (cy 1, 64, .inl (fun _ => 0))), (b 2, .inl (cy 2, 64, .inr (.inl (fun _ => 0)))), (b 3, .inl (cy 2, 6, .inr (.inl (fun _ => 0))))]
def ti_qb (cy : Nat → ClassId) (b : Nat → Nat) : va_W := [(b 0, .inr (3, [.null, .int 0, .int 0, .int 0, .int 0, .int 0, .ref (b 7), .ref (b 8), .ref (b 9), .ref (b 10), .ref (b 11), .ref (b 12), .ref (b 13), .ref (b 14), .ref (b 15), .ref (b 16), .ref (b 17)])), (b 7, .inl (cy 1, 8, .inl (fun _ => 0))), (b 8, .inl (cy 1, 3, .inl (fun _ => 0))), (b 9, .inl (cy 1, 8, .inl (fun _ => 0))), (b 10, .inl (cy 1, 8, .inl (fun _ => 0))), (b 11, .inl (cy 1, 8, .inl (fun _ => 0))), (b 12, .inl (cy 1, 8, .inl (fun _ => 0))), (b 13, .inl (cy 1, 8, .inl (fun _ => 0))), (b 14, .inl (cy 1, 8, .inl (fun _ => 0))), (b 15, .inl (cy 1, 8, .inl (fun _ => 0))), (b 16, .inl (cy 1, 8, .inl (fun _ => 0))), (b 17, .inl (cy 1, 8, .inl (fun _ => 0)))]
def ti_kb (cy : Nat → ClassId) (b : Nat → Nat) : va_W := [(b 0, .inr (7, [.ref (b 1), .int 0, .int 0, .int 0, .int 0, .int 0, .int 0])), (b 1, .inl (cy 0, 700, .inl (fun _ => 0)))]
set_option maxHeartbeats 8000000 in
set_option maxRecDepth 100000 in
theorem k_X1_init (l : Launch) (D : va_G) (cy : Nat → ClassId) (h0 sz : Nat) : ti_Kc l yX1_init cX1_init 1 1 3 134 D cy h0 sz (.inr (1, [.null, .null, .null, .int 0])) (fun b : Nat → Nat => b 0 = h0) (fun b => ti_lb cy b) := by
  refine ti_eC yp_X1_init (by decide) rfl ?_
  intro p e s m args below meth c Q H0 As C hQ hP hD hS hA ls hl
  have hx := C.1
  have hb := C.2.1
  have hts := C.2.2.1
  have hown := C.2.2.2.1
  have hK := C.2.2.2.2.1
  have hml := C.2.2.2.2.2.1
  have hin := C.2.2.2.2.2.2.1
  have hN := C.2.2.2.2.2.2.2
  refine lv_aload_n hx hb dX1_init_0 rfl (lv_at hl 0 rfl) ?_
  refine W.objInit hx hb hown (hts _ oi_X1_5) (hts _ oi_m) (hts _ oi_c) rfl (by rw [hml]; exact hl.1) rfl dX1_init_1 (Nat.le_of_ble_eq_true rfl) (Nat.le_of_ble_eq_true rfl) ?_
  refine W.eq (g2 := F0 m 4 ls []) rfl ?_
  refine lv_aload_n hx hb dX1_init_4 rfl (lv_at hl 0 rfl) ?_
  refine lv_bipush (v := 64) hx hb dX1_init_5 (by decide) ?_
  refine ti_nA (atype := .int) (a0 := (64, .inl (fun _ => 0))) 1 C ac_int rfl (fun C h => by cases h) rfl hP hD hS hA (fun _ => rfl) (by decide) (by decide) (Nat.le_of_ble_eq_true rfl) 1 64 (Nat.le_of_ble_eq_true rfl) (Nat.le_of_ble_eq_true rfl) ⟨Nat.le_of_ble_eq_true rfl, Nat.le_of_ble_eq_true rfl⟩ dX1_init_7 (fun q_1 H hP hD hS => ?_)
  have hP : va_P D vwCl ([(h0, .inr (1, [.null, .null, .null, .int 0])), (q_1, .inl (cy 1, 64, .inl (fun _ => 0)))]) H := hP
  have hD : va_D As ([(h0, .inr (1, [.null, .null, .null, .int 0])), (q_1, .inl (cy 1, 64, .inl (fun _ => 0)))]) := hD
  refine va_putF (D := D) (ci := 1) (v := .ref q_1) (ty := (.array .int)) (C := RX1) (T := TX1) (N := 4) hx hb hts iw_1 tyX1 tyX1_ok nmX1 hown hK hP hD hS 0 rfl rfl 0 (by decide) (hts _ fl_X1_11) (fun _ h9 => h9) rfl hin rfl (by decide +kernel) rfl rfl (Nat.le_of_ble_eq_true rfl) dX1_init_9 (fun H locs hP hD hS => ?_)
  have hP : va_P D vwCl ([(h0, .inr (1, [.ref q_1, .null, .null, .int 0])), (q_1, .inl (cy 1, 64, .inl (fun _ => 0)))]) H := hP
  have hD : va_D As ([(h0, .inr (1, [.ref q_1, .null, .null, .int 0])), (q_1, .inl (cy 1, 64, .inl (fun _ => 0)))]) := hD
  refine lv_aload_n hx hb dX1_init_12 rfl (lv_at hl 0 rfl) ?_
  refine lv_bipush (v := 64) hx hb dX1_init_13 (by decide) ?_
  refine ti_nA (atype := .long) (a0 := (64, .inr (.inl (fun _ => 0)))) 2 C ac_long rfl (fun C h => by cases h) rfl hP hD hS hA (fun _ => rfl) (by decide) (by decide) (Nat.le_of_ble_eq_true rfl) 2 128 (Nat.le_of_ble_eq_true rfl) (Nat.le_of_ble_eq_true rfl) ⟨Nat.le_of_ble_eq_true rfl, Nat.le_of_ble_eq_true rfl⟩ dX1_init_15 (fun q_2 H hP hD hS => ?_)
  have hP : va_P D vwCl ([(h0, .inr (1, [.ref q_1, .null, .null, .int 0])), (q_1, .inl (cy 1, 64, .inl (fun _ => 0))), (q_2, .inl (cy 2, 64, .inr (.inl (fun _ => 0))))]) H := hP
  have hD : va_D As ([(h0, .inr (1, [.ref q_1, .null, .null, .int 0])), (q_1, .inl (cy 1, 64, .inl (fun _ => 0))), (q_2, .inl (cy 2, 64, .inr (.inl (fun _ => 0))))]) := hD
  refine va_putF (D := D) (ci := 1) (v := .ref q_2) (ty := (.array .long)) (C := RX1) (T := TX1) (N := 4) hx hb hts iw_1 tyX1 tyX1_ok nmX1 hown hK hP hD hS 0 rfl rfl 1 (by decide) (hts _ fl_X1_17) (fun _ h9 => h9) rfl hin rfl (by decide +kernel) rfl rfl (Nat.le_of_ble_eq_true rfl) dX1_init_17 (fun H locs hP hD hS => ?_)
  have hP : va_P D vwCl ([(h0, .inr (1, [.ref q_1, .ref q_2, .null, .int 0])), (q_1, .inl (cy 1, 64, .inl (fun _ => 0))), (q_2, .inl (cy 2, 64, .inr (.inl (fun _ => 0))))]) H := hP
  have hD : va_D As ([(h0, .inr (1, [.ref q_1, .ref q_2, .null, .int 0])), (q_1, .inl (cy 1, 64, .inl (fun _ => 0))), (q_2, .inl (cy 2, 64, .inr (.inl (fun _ => 0))))]) := hD
  refine lv_aload_n hx hb dX1_init_20 rfl (lv_at hl 0 rfl) ?_
  refine lv_bipush (v := 6) hx hb dX1_init_21 (by decide) ?_
  refine ti_nA (atype := .long) (a0 := (6, .inr (.inl (fun _ => 0)))) 2 C ac_long rfl (fun C h => by cases h) rfl hP hD hS hA (fun _ => rfl) (by decide) (by decide) (Nat.le_of_ble_eq_true rfl) 3 134 (Nat.le_of_ble_eq_true rfl) (Nat.le_of_ble_eq_true rfl) ⟨Nat.le_of_ble_eq_true rfl, Nat.le_of_ble_eq_true rfl⟩ dX1_init_23 (fun q_3 H hP hD hS => ?_)
  have hP : va_P D vwCl ([(h0, .inr (1, [.ref q_1, .ref q_2, .null, .int 0])), (q_1, .inl (cy 1, 64, .inl (fun _ => 0))), (q_2, .inl (cy 2, 64, .inr (.inl (fun _ => 0)))), (q_3, .inl (cy 2, 6, .inr (.inl (fun _ => 0))))]) H := hP
  have hD : va_D As ([(h0, .inr (1, [.ref q_1, .ref q_2, .null, .int 0])), (q_1, .inl (cy 1, 64, .inl (fun _ => 0))), (q_2, .inl (cy 2, 64, .inr (.inl (fun _ => 0)))), (q_3, .inl (cy 2, 6, .inr (.inl (fun _ => 0))))]) := hD
  refine va_putF (D := D) (ci := 1) (v := .ref q_3) (ty := (.array .long)) (C := RX1) (T := TX1) (N := 4) hx hb hts iw_1 tyX1 tyX1_ok nmX1 hown hK hP hD hS 0 rfl rfl 2 (by decide) (hts _ fl_X1_21) (fun _ h9 => h9) rfl hin rfl (by decide +kernel) rfl rfl (Nat.le_of_ble_eq_true rfl) dX1_init_25 (fun H locs hP hD hS => ?_)
  have hP : va_P D vwCl ([(h0, .inr (1, [.ref q_1, .ref q_2, .ref q_3, .int 0])), (q_1, .inl (cy 1, 64, .inl (fun _ => 0))), (q_2, .inl (cy 2, 64, .inr (.inl (fun _ => 0)))), (q_3, .inl (cy 2, 6, .inr (.inl (fun _ => 0))))]) H := hP
  have hD : va_D As ([(h0, .inr (1, [.ref q_1, .ref q_2, .ref q_3, .int 0])), (q_1, .inl (cy 1, 64, .inl (fun _ => 0))), (q_2, .inl (cy 2, 64, .inr (.inl (fun _ => 0)))), (q_3, .inl (cy 2, 6, .inr (.inl (fun _ => 0))))]) := hD
  refine lv_aload_n hx hb dX1_init_28 rfl (lv_at hl 0 rfl) ?_
  refine lv_iconst (v := 0) hx hb dX1_init_29 (by decide) ?_
  refine va_put (D := D) (ci := 1) (v := .int 0) (ty := .int) (C := RX1) (T := TX1) (N := 4) hx hb hts iw_1 tyX1 tyX1_ok nmX1 hown hK hP hD hS 0 rfl rfl 3 (by decide) (hts _ fl_X1_24) (fun _ h9 => h9) rfl (by decide +kernel) rfl rfl (Nat.le_of_ble_eq_true rfl) dX1_init_30 (fun H locs hP hD hS => ?_)
  have hP : va_P D vwCl ([(h0, .inr (1, [.ref q_1, .ref q_2, .ref q_3, .int 0])), (q_1, .inl (cy 1, 64, .inl (fun _ => 0))), (q_2, .inl (cy 2, 64, .inr (.inl (fun _ => 0)))), (q_3, .inl (cy 2, 6, .inr (.inl (fun _ => 0))))]) H := hP
  have hD : va_D As ([(h0, .inr (1, [.ref q_1, .ref q_2, .ref q_3, .int 0])), (q_1, .inl (cy 1, 64, .inl (fun _ => 0))), (q_2, .inl (cy 2, 64, .inr (.inl (fun _ => 0)))), (q_3, .inl (cy 2, 6, .inr (.inl (fun _ => 0))))]) := hD
  refine W.widen (k := 3) (n := 134) (Nat.le_of_ble_eq_true rfl) (Nat.le_of_ble_eq_true rfl) ?_
  exact hQ (fun j : Nat => if j = 0 then h0 else if j = 1 then q_1 else if j = 2 then q_2 else if j = 3 then q_3 else 0) _ _ _ _ rfl hP hD hS dX1_init_33
set_option maxHeartbeats 8000000 in
set_option maxRecDepth 100000 in
theorem k_X3_init (l : Launch) (D : va_G) (cy : Nat → ClassId) (h0 sz : Nat) : ti_Kc l yX3_init cX3_init 1 1 11 83 D cy h0 sz (.inr (3, [.null, .int 0, .int 0, .int 0, .int 0, .int 0, .null, .null, .null, .null, .null, .null, .null, .null, .null, .null, .null])) (fun b : Nat → Nat => b 0 = h0) (fun b => ti_qb cy b) := by
  refine ti_eC yp_X3_init (by decide) rfl ?_
  intro p e s m args below meth c Q H0 As C hQ hP hD hS hA ls hl
  have hx := C.1
  have hb := C.2.1
  have hts := C.2.2.1
  have hown := C.2.2.2.1
  have hK := C.2.2.2.2.1
  have hml := C.2.2.2.2.2.1
  have hin := C.2.2.2.2.2.2.1
  have hN := C.2.2.2.2.2.2.2
  refine lv_aload_n hx hb dX3_init_0 rfl (lv_at hl 0 rfl) ?_
  refine W.objInit hx hb hown (hts _ oi_X3_3) (hts _ oi_m) (hts _ oi_c) rfl (by rw [hml]; exact hl.1) rfl dX3_init_1 (Nat.le_of_ble_eq_true rfl) (Nat.le_of_ble_eq_true rfl) ?_
  refine W.eq (g2 := F0 m 4 ls []) rfl ?_
  refine lv_aload_n hx hb dX3_init_4 rfl (lv_at hl 0 rfl) ?_
  refine lv_bipush (v := 8) hx hb dX3_init_5 (by decide) ?_
  refine ti_nA (atype := .int) (a0 := (8, .inl (fun _ => 0))) 1 C ac_int rfl (fun C h => by cases h) rfl hP hD hS hA (fun _ => rfl) (by decide) (by decide) (Nat.le_of_ble_eq_true rfl) 1 8 (Nat.le_of_ble_eq_true rfl) (Nat.le_of_ble_eq_true rfl) ⟨Nat.le_of_ble_eq_true rfl, Nat.le_of_ble_eq_true rfl⟩ dX3_init_7 (fun q_1 H hP hD hS => ?_)
  have hP : va_P D vwCl ([(h0, .inr (3, [.null, .int 0, .int 0, .int 0, .int 0, .int 0, .null, .null, .null, .null, .null, .null, .null, .null, .null, .null, .null])), (q_1, .inl (cy 1, 8, .inl (fun _ => 0)))]) H := hP
  have hD : va_D As ([(h0, .inr (3, [.null, .int 0, .int 0, .int 0, .int 0, .int 0, .null, .null, .null, .null, .null, .null, .null, .null, .null, .null, .null])), (q_1, .inl (cy 1, 8, .inl (fun _ => 0)))]) := hD
  refine va_putF (D := D) (ci := 3) (v := .ref q_1) (ty := (.array .int)) (C := RX3) (T := TX3) (N := 17) hx hb hts iw_3 tyX3 tyX3_ok nmX3 hown hK hP hD hS 0 rfl rfl 6 (by decide) (hts _ fl_X3_9) (fun _ h9 => h9) rfl hin rfl (by decide +kernel) rfl rfl (Nat.le_of_ble_eq_true rfl) dX3_init_9 (fun H locs hP hD hS => ?_)
  have hP : va_P D vwCl ([(h0, .inr (3, [.null, .int 0, .int 0, .int 0, .int 0, .int 0, .ref q_1, .null, .null, .null, .null, .null, .null, .null, .null, .null, .null])), (q_1, .inl (cy 1, 8, .inl (fun _ => 0)))]) H := hP
  have hD : va_D As ([(h0, .inr (3, [.null, .int 0, .int 0, .int 0, .int 0, .int 0, .ref q_1, .null, .null, .null, .null, .null, .null, .null, .null, .null, .null])), (q_1, .inl (cy 1, 8, .inl (fun _ => 0)))]) := hD
  refine lv_aload_n hx hb dX3_init_12 rfl (lv_at hl 0 rfl) ?_
  refine lv_iconst (v := 3) hx hb dX3_init_13 (by decide) ?_
  refine ti_nA (atype := .int) (a0 := (3, .inl (fun _ => 0))) 1 C ac_int rfl (fun C h => by cases h) rfl hP hD hS hA (fun _ => rfl) (by decide) (by decide) (Nat.le_of_ble_eq_true rfl) 2 11 (Nat.le_of_ble_eq_true rfl) (Nat.le_of_ble_eq_true rfl) ⟨Nat.le_of_ble_eq_true rfl, Nat.le_of_ble_eq_true rfl⟩ dX3_init_14 (fun q_2 H hP hD hS => ?_)
  have hP : va_P D vwCl ([(h0, .inr (3, [.null, .int 0, .int 0, .int 0, .int 0, .int 0, .ref q_1, .null, .null, .null, .null, .null, .null, .null, .null, .null, .null])), (q_1, .inl (cy 1, 8, .inl (fun _ => 0))), (q_2, .inl (cy 1, 3, .inl (fun _ => 0)))]) H := hP
  have hD : va_D As ([(h0, .inr (3, [.null, .int 0, .int 0, .int 0, .int 0, .int 0, .ref q_1, .null, .null, .null, .null, .null, .null, .null, .null, .null, .null])), (q_1, .inl (cy 1, 8, .inl (fun _ => 0))), (q_2, .inl (cy 1, 3, .inl (fun _ => 0)))]) := hD
  refine va_putF (D := D) (ci := 3) (v := .ref q_2) (ty := (.array .int)) (C := RX3) (T := TX3) (N := 17) hx hb hts iw_3 tyX3 tyX3_ok nmX3 hown hK hP hD hS 0 rfl rfl 7 (by decide) (hts _ fl_X3_15) (fun _ h9 => h9) rfl hin rfl (by decide +kernel) rfl rfl (Nat.le_of_ble_eq_true rfl) dX3_init_16 (fun H locs hP hD hS => ?_)
  have hP : va_P D vwCl ([(h0, .inr (3, [.null, .int 0, .int 0, .int 0, .int 0, .int 0, .ref q_1, .ref q_2, .null, .null, .null, .null, .null, .null, .null, .null, .null])), (q_1, .inl (cy 1, 8, .inl (fun _ => 0))), (q_2, .inl (cy 1, 3, .inl (fun _ => 0)))]) H := hP
  have hD : va_D As ([(h0, .inr (3, [.null, .int 0, .int 0, .int 0, .int 0, .int 0, .ref q_1, .ref q_2, .null, .null, .null, .null, .null, .null, .null, .null, .null])), (q_1, .inl (cy 1, 8, .inl (fun _ => 0))), (q_2, .inl (cy 1, 3, .inl (fun _ => 0)))]) := hD
  refine lv_aload_n hx hb dX3_init_19 rfl (lv_at hl 0 rfl) ?_
  refine lv_bipush (v := 8) hx hb dX3_init_20 (by decide) ?_
  refine ti_nA (atype := .int) (a0 := (8, .inl (fun _ => 0))) 1 C ac_int rfl (fun C h => by cases h) rfl hP hD hS hA (fun _ => rfl) (by decide) (by decide) (Nat.le_of_ble_eq_true rfl) 3 19 (Nat.le_of_ble_eq_true rfl) (Nat.le_of_ble_eq_true rfl) ⟨Nat.le_of_ble_eq_true rfl, Nat.le_of_ble_eq_true rfl⟩ dX3_init_22 (fun q_3 H hP hD hS => ?_)
  have hP : va_P D vwCl ([(h0, .inr (3, [.null, .int 0, .int 0, .int 0, .int 0, .int 0, .ref q_1, .ref q_2, .null, .null, .null, .null, .null, .null, .null, .null, .null])), (q_1, .inl (cy 1, 8, .inl (fun _ => 0))), (q_2, .inl (cy 1, 3, .inl (fun _ => 0))), (q_3, .inl (cy 1, 8, .inl (fun _ => 0)))]) H := hP
  have hD : va_D As ([(h0, .inr (3, [.null, .int 0, .int 0, .int 0, .int 0, .int 0, .ref q_1, .ref q_2, .null, .null, .null, .null, .null, .null, .null, .null, .null])), (q_1, .inl (cy 1, 8, .inl (fun _ => 0))), (q_2, .inl (cy 1, 3, .inl (fun _ => 0))), (q_3, .inl (cy 1, 8, .inl (fun _ => 0)))]) := hD
  refine va_putF (D := D) (ci := 3) (v := .ref q_3) (ty := (.array .int)) (C := RX3) (T := TX3) (N := 17) hx hb hts iw_3 tyX3 tyX3_ok nmX3 hown hK hP hD hS 0 rfl rfl 8 (by decide) (hts _ fl_X3_18) (fun _ h9 => h9) rfl hin rfl (by decide +kernel) rfl rfl (Nat.le_of_ble_eq_true rfl) dX3_init_24 (fun H locs hP hD hS => ?_)
  have hP : va_P D vwCl ([(h0, .inr (3, [.null, .int 0, .int 0, .int 0, .int 0, .int 0, .ref q_1, .ref q_2, .ref q_3, .null, .null, .null, .null, .null, .null, .null, .null])), (q_1, .inl (cy 1, 8, .inl (fun _ => 0))), (q_2, .inl (cy 1, 3, .inl (fun _ => 0))), (q_3, .inl (cy 1, 8, .inl (fun _ => 0)))]) H := hP
  have hD : va_D As ([(h0, .inr (3, [.null, .int 0, .int 0, .int 0, .int 0, .int 0, .ref q_1, .ref q_2, .ref q_3, .null, .null, .null, .null, .null, .null, .null, .null])), (q_1, .inl (cy 1, 8, .inl (fun _ => 0))), (q_2, .inl (cy 1, 3, .inl (fun _ => 0))), (q_3, .inl (cy 1, 8, .inl (fun _ => 0)))]) := hD
  refine lv_aload_n hx hb dX3_init_27 rfl (lv_at hl 0 rfl) ?_
  refine lv_bipush (v := 8) hx hb dX3_init_28 (by decide) ?_
  refine ti_nA (atype := .int) (a0 := (8, .inl (fun _ => 0))) 1 C ac_int rfl (fun C h => by cases h) rfl hP hD hS hA (fun _ => rfl) (by decide) (by decide) (Nat.le_of_ble_eq_true rfl) 4 27 (Nat.le_of_ble_eq_true rfl) (Nat.le_of_ble_eq_true rfl) ⟨Nat.le_of_ble_eq_true rfl, Nat.le_of_ble_eq_true rfl⟩ dX3_init_30 (fun q_4 H hP hD hS => ?_)
  have hP : va_P D vwCl ([(h0, .inr (3, [.null, .int 0, .int 0, .int 0, .int 0, .int 0, .ref q_1, .ref q_2, .ref q_3, .null, .null, .null, .null, .null, .null, .null, .null])), (q_1, .inl (cy 1, 8, .inl (fun _ => 0))), (q_2, .inl (cy 1, 3, .inl (fun _ => 0))), (q_3, .inl (cy 1, 8, .inl (fun _ => 0))), (q_4, .inl (cy 1, 8, .inl (fun _ => 0)))]) H := hP
  have hD : va_D As ([(h0, .inr (3, [.null, .int 0, .int 0, .int 0, .int 0, .int 0, .ref q_1, .ref q_2, .ref q_3, .null, .null, .null, .null, .null, .null, .null, .null])), (q_1, .inl (cy 1, 8, .inl (fun _ => 0))), (q_2, .inl (cy 1, 3, .inl (fun _ => 0))), (q_3, .inl (cy 1, 8, .inl (fun _ => 0))), (q_4, .inl (cy 1, 8, .inl (fun _ => 0)))]) := hD
  refine va_putF (D := D) (ci := 3) (v := .ref q_4) (ty := (.array .int)) (C := RX3) (T := TX3) (N := 17) hx hb hts iw_3 tyX3 tyX3_ok nmX3 hown hK hP hD hS 0 rfl rfl 9 (by decide) (hts _ fl_X3_21) (fun _ h9 => h9) rfl hin rfl (by decide +kernel) rfl rfl (Nat.le_of_ble_eq_true rfl) dX3_init_32 (fun H locs hP hD hS => ?_)
  have hP : va_P D vwCl ([(h0, .inr (3, [.null, .int 0, .int 0, .int 0, .int 0, .int 0, .ref q_1, .ref q_2, .ref q_3, .ref q_4, .null, .null, .null, .null, .null, .null, .null])), (q_1, .inl (cy 1, 8, .inl (fun _ => 0))), (q_2, .inl (cy 1, 3, .inl (fun _ => 0))), (q_3, .inl (cy 1, 8, .inl (fun _ => 0))), (q_4, .inl (cy 1, 8, .inl (fun _ => 0)))]) H := hP
  have hD : va_D As ([(h0, .inr (3, [.null, .int 0, .int 0, .int 0, .int 0, .int 0, .ref q_1, .ref q_2, .ref q_3, .ref q_4, .null, .null, .null, .null, .null, .null, .null])), (q_1, .inl (cy 1, 8, .inl (fun _ => 0))), (q_2, .inl (cy 1, 3, .inl (fun _ => 0))), (q_3, .inl (cy 1, 8, .inl (fun _ => 0))), (q_4, .inl (cy 1, 8, .inl (fun _ => 0)))]) := hD
  refine lv_aload_n hx hb dX3_init_35 rfl (lv_at hl 0 rfl) ?_
  refine lv_bipush (v := 8) hx hb dX3_init_36 (by decide) ?_
  refine ti_nA (atype := .int) (a0 := (8, .inl (fun _ => 0))) 1 C ac_int rfl (fun C h => by cases h) rfl hP hD hS hA (fun _ => rfl) (by decide) (by decide) (Nat.le_of_ble_eq_true rfl) 5 35 (Nat.le_of_ble_eq_true rfl) (Nat.le_of_ble_eq_true rfl) ⟨Nat.le_of_ble_eq_true rfl, Nat.le_of_ble_eq_true rfl⟩ dX3_init_38 (fun q_5 H hP hD hS => ?_)
  have hP : va_P D vwCl ([(h0, .inr (3, [.null, .int 0, .int 0, .int 0, .int 0, .int 0, .ref q_1, .ref q_2, .ref q_3, .ref q_4, .null, .null, .null, .null, .null, .null, .null])), (q_1, .inl (cy 1, 8, .inl (fun _ => 0))), (q_2, .inl (cy 1, 3, .inl (fun _ => 0))), (q_3, .inl (cy 1, 8, .inl (fun _ => 0))), (q_4, .inl (cy 1, 8, .inl (fun _ => 0))), (q_5, .inl (cy 1, 8, .inl (fun _ => 0)))]) H := hP
  have hD : va_D As ([(h0, .inr (3, [.null, .int 0, .int 0, .int 0, .int 0, .int 0, .ref q_1, .ref q_2, .ref q_3, .ref q_4, .null, .null, .null, .null, .null, .null, .null])), (q_1, .inl (cy 1, 8, .inl (fun _ => 0))), (q_2, .inl (cy 1, 3, .inl (fun _ => 0))), (q_3, .inl (cy 1, 8, .inl (fun _ => 0))), (q_4, .inl (cy 1, 8, .inl (fun _ => 0))), (q_5, .inl (cy 1, 8, .inl (fun _ => 0)))]) := hD
  refine va_putF (D := D) (ci := 3) (v := .ref q_5) (ty := (.array .int)) (C := RX3) (T := TX3) (N := 17) hx hb hts iw_3 tyX3 tyX3_ok nmX3 hown hK hP hD hS 0 rfl rfl 10 (by decide) (hts _ fl_X3_24) (fun _ h9 => h9) rfl hin rfl (by decide +kernel) rfl rfl (Nat.le_of_ble_eq_true rfl) dX3_init_40 (fun H locs hP hD hS => ?_)
  have hP : va_P D vwCl ([(h0, .inr (3, [.null, .int 0, .int 0, .int 0, .int 0, .int 0, .ref q_1, .ref q_2, .ref q_3, .ref q_4, .ref q_5, .null, .null, .null, .null, .null, .null])), (q_1, .inl (cy 1, 8, .inl (fun _ => 0))), (q_2, .inl (cy 1, 3, .inl (fun _ => 0))), (q_3, .inl (cy 1, 8, .inl (fun _ => 0))), (q_4, .inl (cy 1, 8, .inl (fun _ => 0))), (q_5, .inl (cy 1, 8, .inl (fun _ => 0)))]) H := hP
  have hD : va_D As ([(h0, .inr (3, [.null, .int 0, .int 0, .int 0, .int 0, .int 0, .ref q_1, .ref q_2, .ref q_3, .ref q_4, .ref q_5, .null, .null, .null, .null, .null, .null])), (q_1, .inl (cy 1, 8, .inl (fun _ => 0))), (q_2, .inl (cy 1, 3, .inl (fun _ => 0))), (q_3, .inl (cy 1, 8, .inl (fun _ => 0))), (q_4, .inl (cy 1, 8, .inl (fun _ => 0))), (q_5, .inl (cy 1, 8, .inl (fun _ => 0)))]) := hD
  refine lv_aload_n hx hb dX3_init_43 rfl (lv_at hl 0 rfl) ?_
  refine lv_bipush (v := 8) hx hb dX3_init_44 (by decide) ?_
  refine ti_nA (atype := .int) (a0 := (8, .inl (fun _ => 0))) 1 C ac_int rfl (fun C h => by cases h) rfl hP hD hS hA (fun _ => rfl) (by decide) (by decide) (Nat.le_of_ble_eq_true rfl) 6 43 (Nat.le_of_ble_eq_true rfl) (Nat.le_of_ble_eq_true rfl) ⟨Nat.le_of_ble_eq_true rfl, Nat.le_of_ble_eq_true rfl⟩ dX3_init_46 (fun q_6 H hP hD hS => ?_)
  have hP : va_P D vwCl ([(h0, .inr (3, [.null, .int 0, .int 0, .int 0, .int 0, .int 0, .ref q_1, .ref q_2, .ref q_3, .ref q_4, .ref q_5, .null, .null, .null, .null, .null, .null])), (q_1, .inl (cy 1, 8, .inl (fun _ => 0))), (q_2, .inl (cy 1, 3, .inl (fun _ => 0))), (q_3, .inl (cy 1, 8, .inl (fun _ => 0))), (q_4, .inl (cy 1, 8, .inl (fun _ => 0))), (q_5, .inl (cy 1, 8, .inl (fun _ => 0))), (q_6, .inl (cy 1, 8, .inl (fun _ => 0)))]) H := hP
  have hD : va_D As ([(h0, .inr (3, [.null, .int 0, .int 0, .int 0, .int 0, .int 0, .ref q_1, .ref q_2, .ref q_3, .ref q_4, .ref q_5, .null, .null, .null, .null, .null, .null])), (q_1, .inl (cy 1, 8, .inl (fun _ => 0))), (q_2, .inl (cy 1, 3, .inl (fun _ => 0))), (q_3, .inl (cy 1, 8, .inl (fun _ => 0))), (q_4, .inl (cy 1, 8, .inl (fun _ => 0))), (q_5, .inl (cy 1, 8, .inl (fun _ => 0))), (q_6, .inl (cy 1, 8, .inl (fun _ => 0)))]) := hD
  refine va_putF (D := D) (ci := 3) (v := .ref q_6) (ty := (.array .int)) (C := RX3) (T := TX3) (N := 17) hx hb hts iw_3 tyX3 tyX3_ok nmX3 hown hK hP hD hS 0 rfl rfl 11 (by decide) (hts _ fl_X3_27) (fun _ h9 => h9) rfl hin rfl (by decide +kernel) rfl rfl (Nat.le_of_ble_eq_true rfl) dX3_init_48 (fun H locs hP hD hS => ?_)
  have hP : va_P D vwCl ([(h0, .inr (3, [.null, .int 0, .int 0, .int 0, .int 0, .int 0, .ref q_1, .ref q_2, .ref q_3, .ref q_4, .ref q_5, .ref q_6, .null, .null, .null, .null, .null])), (q_1, .inl (cy 1, 8, .inl (fun _ => 0))), (q_2, .inl (cy 1, 3, .inl (fun _ => 0))), (q_3, .inl (cy 1, 8, .inl (fun _ => 0))), (q_4, .inl (cy 1, 8, .inl (fun _ => 0))), (q_5, .inl (cy 1, 8, .inl (fun _ => 0))), (q_6, .inl (cy 1, 8, .inl (fun _ => 0)))]) H := hP
  have hD : va_D As ([(h0, .inr (3, [.null, .int 0, .int 0, .int 0, .int 0, .int 0, .ref q_1, .ref q_2, .ref q_3, .ref q_4, .ref q_5, .ref q_6, .null, .null, .null, .null, .null])), (q_1, .inl (cy 1, 8, .inl (fun _ => 0))), (q_2, .inl (cy 1, 3, .inl (fun _ => 0))), (q_3, .inl (cy 1, 8, .inl (fun _ => 0))), (q_4, .inl (cy 1, 8, .inl (fun _ => 0))), (q_5, .inl (cy 1, 8, .inl (fun _ => 0))), (q_6, .inl (cy 1, 8, .inl (fun _ => 0)))]) := hD
  refine lv_aload_n hx hb dX3_init_51 rfl (lv_at hl 0 rfl) ?_
  refine lv_bipush (v := 8) hx hb dX3_init_52 (by decide) ?_
  refine ti_nA (atype := .int) (a0 := (8, .inl (fun _ => 0))) 1 C ac_int rfl (fun C h => by cases h) rfl hP hD hS hA (fun _ => rfl) (by decide) (by decide) (Nat.le_of_ble_eq_true rfl) 7 51 (Nat.le_of_ble_eq_true rfl) (Nat.le_of_ble_eq_true rfl) ⟨Nat.le_of_ble_eq_true rfl, Nat.le_of_ble_eq_true rfl⟩ dX3_init_54 (fun q_7 H hP hD hS => ?_)
  have hP : va_P D vwCl ([(h0, .inr (3, [.null, .int 0, .int 0, .int 0, .int 0, .int 0, .ref q_1, .ref q_2, .ref q_3, .ref q_4, .ref q_5, .ref q_6, .null, .null, .null, .null, .null])), (q_1, .inl (cy 1, 8, .inl (fun _ => 0))), (q_2, .inl (cy 1, 3, .inl (fun _ => 0))), (q_3, .inl (cy 1, 8, .inl (fun _ => 0))), (q_4, .inl (cy 1, 8, .inl (fun _ => 0))), (q_5, .inl (cy 1, 8, .inl (fun _ => 0))), (q_6, .inl (cy 1, 8, .inl (fun _ => 0))), (q_7, .inl (cy 1, 8, .inl (fun _ => 0)))]) H := hP
  have hD : va_D As ([(h0, .inr (3, [.null, .int 0, .int 0, .int 0, .int 0, .int 0, .ref q_1, .ref q_2, .ref q_3, .ref q_4, .ref q_5, .ref q_6, .null, .null, .null, .null, .null])), (q_1, .inl (cy 1, 8, .inl (fun _ => 0))), (q_2, .inl (cy 1, 3, .inl (fun _ => 0))), (q_3, .inl (cy 1, 8, .inl (fun _ => 0))), (q_4, .inl (cy 1, 8, .inl (fun _ => 0))), (q_5, .inl (cy 1, 8, .inl (fun _ => 0))), (q_6, .inl (cy 1, 8, .inl (fun _ => 0))), (q_7, .inl (cy 1, 8, .inl (fun _ => 0)))]) := hD
  refine va_putF (D := D) (ci := 3) (v := .ref q_7) (ty := (.array .int)) (C := RX3) (T := TX3) (N := 17) hx hb hts iw_3 tyX3 tyX3_ok nmX3 hown hK hP hD hS 0 rfl rfl 12 (by decide) (hts _ fl_X3_30) (fun _ h9 => h9) rfl hin rfl (by decide +kernel) rfl rfl (Nat.le_of_ble_eq_true rfl) dX3_init_56 (fun H locs hP hD hS => ?_)
  have hP : va_P D vwCl ([(h0, .inr (3, [.null, .int 0, .int 0, .int 0, .int 0, .int 0, .ref q_1, .ref q_2, .ref q_3, .ref q_4, .ref q_5, .ref q_6, .ref q_7, .null, .null, .null, .null])), (q_1, .inl (cy 1, 8, .inl (fun _ => 0))), (q_2, .inl (cy 1, 3, .inl (fun _ => 0))), (q_3, .inl (cy 1, 8, .inl (fun _ => 0))), (q_4, .inl (cy 1, 8, .inl (fun _ => 0))), (q_5, .inl (cy 1, 8, .inl (fun _ => 0))), (q_6, .inl (cy 1, 8, .inl (fun _ => 0))), (q_7, .inl (cy 1, 8, .inl (fun _ => 0)))]) H := hP
  have hD : va_D As ([(h0, .inr (3, [.null, .int 0, .int 0, .int 0, .int 0, .int 0, .ref q_1, .ref q_2, .ref q_3, .ref q_4, .ref q_5, .ref q_6, .ref q_7, .null, .null, .null, .null])), (q_1, .inl (cy 1, 8, .inl (fun _ => 0))), (q_2, .inl (cy 1, 3, .inl (fun _ => 0))), (q_3, .inl (cy 1, 8, .inl (fun _ => 0))), (q_4, .inl (cy 1, 8, .inl (fun _ => 0))), (q_5, .inl (cy 1, 8, .inl (fun _ => 0))), (q_6, .inl (cy 1, 8, .inl (fun _ => 0))), (q_7, .inl (cy 1, 8, .inl (fun _ => 0)))]) := hD
  refine lv_aload_n hx hb dX3_init_59 rfl (lv_at hl 0 rfl) ?_
  refine lv_bipush (v := 8) hx hb dX3_init_60 (by decide) ?_
  refine ti_nA (atype := .int) (a0 := (8, .inl (fun _ => 0))) 1 C ac_int rfl (fun C h => by cases h) rfl hP hD hS hA (fun _ => rfl) (by decide) (by decide) (Nat.le_of_ble_eq_true rfl) 8 59 (Nat.le_of_ble_eq_true rfl) (Nat.le_of_ble_eq_true rfl) ⟨Nat.le_of_ble_eq_true rfl, Nat.le_of_ble_eq_true rfl⟩ dX3_init_62 (fun q_8 H hP hD hS => ?_)
  have hP : va_P D vwCl ([(h0, .inr (3, [.null, .int 0, .int 0, .int 0, .int 0, .int 0, .ref q_1, .ref q_2, .ref q_3, .ref q_4, .ref q_5, .ref q_6, .ref q_7, .null, .null, .null, .null])), (q_1, .inl (cy 1, 8, .inl (fun _ => 0))), (q_2, .inl (cy 1, 3, .inl (fun _ => 0))), (q_3, .inl (cy 1, 8, .inl (fun _ => 0))), (q_4, .inl (cy 1, 8, .inl (fun _ => 0))), (q_5, .inl (cy 1, 8, .inl (fun _ => 0))), (q_6, .inl (cy 1, 8, .inl (fun _ => 0))), (q_7, .inl (cy 1, 8, .inl (fun _ => 0))), (q_8, .inl (cy 1, 8, .inl (fun _ => 0)))]) H := hP
  have hD : va_D As ([(h0, .inr (3, [.null, .int 0, .int 0, .int 0, .int 0, .int 0, .ref q_1, .ref q_2, .ref q_3, .ref q_4, .ref q_5, .ref q_6, .ref q_7, .null, .null, .null, .null])), (q_1, .inl (cy 1, 8, .inl (fun _ => 0))), (q_2, .inl (cy 1, 3, .inl (fun _ => 0))), (q_3, .inl (cy 1, 8, .inl (fun _ => 0))), (q_4, .inl (cy 1, 8, .inl (fun _ => 0))), (q_5, .inl (cy 1, 8, .inl (fun _ => 0))), (q_6, .inl (cy 1, 8, .inl (fun _ => 0))), (q_7, .inl (cy 1, 8, .inl (fun _ => 0))), (q_8, .inl (cy 1, 8, .inl (fun _ => 0)))]) := hD
  refine va_putF (D := D) (ci := 3) (v := .ref q_8) (ty := (.array .int)) (C := RX3) (T := TX3) (N := 17) hx hb hts iw_3 tyX3 tyX3_ok nmX3 hown hK hP hD hS 0 rfl rfl 13 (by decide) (hts _ fl_X3_33) (fun _ h9 => h9) rfl hin rfl (by decide +kernel) rfl rfl (Nat.le_of_ble_eq_true rfl) dX3_init_64 (fun H locs hP hD hS => ?_)
  have hP : va_P D vwCl ([(h0, .inr (3, [.null, .int 0, .int 0, .int 0, .int 0, .int 0, .ref q_1, .ref q_2, .ref q_3, .ref q_4, .ref q_5, .ref q_6, .ref q_7, .ref q_8, .null, .null, .null])), (q_1, .inl (cy 1, 8, .inl (fun _ => 0))), (q_2, .inl (cy 1, 3, .inl (fun _ => 0))), (q_3, .inl (cy 1, 8, .inl (fun _ => 0))), (q_4, .inl (cy 1, 8, .inl (fun _ => 0))), (q_5, .inl (cy 1, 8, .inl (fun _ => 0))), (q_6, .inl (cy 1, 8, .inl (fun _ => 0))), (q_7, .inl (cy 1, 8, .inl (fun _ => 0))), (q_8, .inl (cy 1, 8, .inl (fun _ => 0)))]) H := hP
  have hD : va_D As ([(h0, .inr (3, [.null, .int 0, .int 0, .int 0, .int 0, .int 0, .ref q_1, .ref q_2, .ref q_3, .ref q_4, .ref q_5, .ref q_6, .ref q_7, .ref q_8, .null, .null, .null])), (q_1, .inl (cy 1, 8, .inl (fun _ => 0))), (q_2, .inl (cy 1, 3, .inl (fun _ => 0))), (q_3, .inl (cy 1, 8, .inl (fun _ => 0))), (q_4, .inl (cy 1, 8, .inl (fun _ => 0))), (q_5, .inl (cy 1, 8, .inl (fun _ => 0))), (q_6, .inl (cy 1, 8, .inl (fun _ => 0))), (q_7, .inl (cy 1, 8, .inl (fun _ => 0))), (q_8, .inl (cy 1, 8, .inl (fun _ => 0)))]) := hD
  refine lv_aload_n hx hb dX3_init_67 rfl (lv_at hl 0 rfl) ?_
  refine lv_bipush (v := 8) hx hb dX3_init_68 (by decide) ?_
  refine ti_nA (atype := .int) (a0 := (8, .inl (fun _ => 0))) 1 C ac_int rfl (fun C h => by cases h) rfl hP hD hS hA (fun _ => rfl) (by decide) (by decide) (Nat.le_of_ble_eq_true rfl) 9 67 (Nat.le_of_ble_eq_true rfl) (Nat.le_of_ble_eq_true rfl) ⟨Nat.le_of_ble_eq_true rfl, Nat.le_of_ble_eq_true rfl⟩ dX3_init_70 (fun q_9 H hP hD hS => ?_)
  have hP : va_P D vwCl ([(h0, .inr (3, [.null, .int 0, .int 0, .int 0, .int 0, .int 0, .ref q_1, .ref q_2, .ref q_3, .ref q_4, .ref q_5, .ref q_6, .ref q_7, .ref q_8, .null, .null, .null])), (q_1, .inl (cy 1, 8, .inl (fun _ => 0))), (q_2, .inl (cy 1, 3, .inl (fun _ => 0))), (q_3, .inl (cy 1, 8, .inl (fun _ => 0))), (q_4, .inl (cy 1, 8, .inl (fun _ => 0))), (q_5, .inl (cy 1, 8, .inl (fun _ => 0))), (q_6, .inl (cy 1, 8, .inl (fun _ => 0))), (q_7, .inl (cy 1, 8, .inl (fun _ => 0))), (q_8, .inl (cy 1, 8, .inl (fun _ => 0))), (q_9, .inl (cy 1, 8, .inl (fun _ => 0)))]) H := hP
  have hD : va_D As ([(h0, .inr (3, [.null, .int 0, .int 0, .int 0, .int 0, .int 0, .ref q_1, .ref q_2, .ref q_3, .ref q_4, .ref q_5, .ref q_6, .ref q_7, .ref q_8, .null, .null, .null])), (q_1, .inl (cy 1, 8, .inl (fun _ => 0))), (q_2, .inl (cy 1, 3, .inl (fun _ => 0))), (q_3, .inl (cy 1, 8, .inl (fun _ => 0))), (q_4, .inl (cy 1, 8, .inl (fun _ => 0))), (q_5, .inl (cy 1, 8, .inl (fun _ => 0))), (q_6, .inl (cy 1, 8, .inl (fun _ => 0))), (q_7, .inl (cy 1, 8, .inl (fun _ => 0))), (q_8, .inl (cy 1, 8, .inl (fun _ => 0))), (q_9, .inl (cy 1, 8, .inl (fun _ => 0)))]) := hD
  refine va_putF (D := D) (ci := 3) (v := .ref q_9) (ty := (.array .int)) (C := RX3) (T := TX3) (N := 17) hx hb hts iw_3 tyX3 tyX3_ok nmX3 hown hK hP hD hS 0 rfl rfl 14 (by decide) (hts _ fl_X3_36) (fun _ h9 => h9) rfl hin rfl (by decide +kernel) rfl rfl (Nat.le_of_ble_eq_true rfl) dX3_init_72 (fun H locs hP hD hS => ?_)
  have hP : va_P D vwCl ([(h0, .inr (3, [.null, .int 0, .int 0, .int 0, .int 0, .int 0, .ref q_1, .ref q_2, .ref q_3, .ref q_4, .ref q_5, .ref q_6, .ref q_7, .ref q_8, .ref q_9, .null, .null])), (q_1, .inl (cy 1, 8, .inl (fun _ => 0))), (q_2, .inl (cy 1, 3, .inl (fun _ => 0))), (q_3, .inl (cy 1, 8, .inl (fun _ => 0))), (q_4, .inl (cy 1, 8, .inl (fun _ => 0))), (q_5, .inl (cy 1, 8, .inl (fun _ => 0))), (q_6, .inl (cy 1, 8, .inl (fun _ => 0))), (q_7, .inl (cy 1, 8, .inl (fun _ => 0))), (q_8, .inl (cy 1, 8, .inl (fun _ => 0))), (q_9, .inl (cy 1, 8, .inl (fun _ => 0)))]) H := hP
  have hD : va_D As ([(h0, .inr (3, [.null, .int 0, .int 0, .int 0, .int 0, .int 0, .ref q_1, .ref q_2, .ref q_3, .ref q_4, .ref q_5, .ref q_6, .ref q_7, .ref q_8, .ref q_9, .null, .null])), (q_1, .inl (cy 1, 8, .inl (fun _ => 0))), (q_2, .inl (cy 1, 3, .inl (fun _ => 0))), (q_3, .inl (cy 1, 8, .inl (fun _ => 0))), (q_4, .inl (cy 1, 8, .inl (fun _ => 0))), (q_5, .inl (cy 1, 8, .inl (fun _ => 0))), (q_6, .inl (cy 1, 8, .inl (fun _ => 0))), (q_7, .inl (cy 1, 8, .inl (fun _ => 0))), (q_8, .inl (cy 1, 8, .inl (fun _ => 0))), (q_9, .inl (cy 1, 8, .inl (fun _ => 0)))]) := hD
  refine lv_aload_n hx hb dX3_init_75 rfl (lv_at hl 0 rfl) ?_
  refine lv_bipush (v := 8) hx hb dX3_init_76 (by decide) ?_
  refine ti_nA (atype := .int) (a0 := (8, .inl (fun _ => 0))) 1 C ac_int rfl (fun C h => by cases h) rfl hP hD hS hA (fun _ => rfl) (by decide) (by decide) (Nat.le_of_ble_eq_true rfl) 10 75 (Nat.le_of_ble_eq_true rfl) (Nat.le_of_ble_eq_true rfl) ⟨Nat.le_of_ble_eq_true rfl, Nat.le_of_ble_eq_true rfl⟩ dX3_init_78 (fun q_10 H hP hD hS => ?_)
  have hP : va_P D vwCl ([(h0, .inr (3, [.null, .int 0, .int 0, .int 0, .int 0, .int 0, .ref q_1, .ref q_2, .ref q_3, .ref q_4, .ref q_5, .ref q_6, .ref q_7, .ref q_8, .ref q_9, .null, .null])), (q_1, .inl (cy 1, 8, .inl (fun _ => 0))), (q_2, .inl (cy 1, 3, .inl (fun _ => 0))), (q_3, .inl (cy 1, 8, .inl (fun _ => 0))), (q_4, .inl (cy 1, 8, .inl (fun _ => 0))), (q_5, .inl (cy 1, 8, .inl (fun _ => 0))), (q_6, .inl (cy 1, 8, .inl (fun _ => 0))), (q_7, .inl (cy 1, 8, .inl (fun _ => 0))), (q_8, .inl (cy 1, 8, .inl (fun _ => 0))), (q_9, .inl (cy 1, 8, .inl (fun _ => 0))), (q_10, .inl (cy 1, 8, .inl (fun _ => 0)))]) H := hP
  have hD : va_D As ([(h0, .inr (3, [.null, .int 0, .int 0, .int 0, .int 0, .int 0, .ref q_1, .ref q_2, .ref q_3, .ref q_4, .ref q_5, .ref q_6, .ref q_7, .ref q_8, .ref q_9, .null, .null])), (q_1, .inl (cy 1, 8, .inl (fun _ => 0))), (q_2, .inl (cy 1, 3, .inl (fun _ => 0))), (q_3, .inl (cy 1, 8, .inl (fun _ => 0))), (q_4, .inl (cy 1, 8, .inl (fun _ => 0))), (q_5, .inl (cy 1, 8, .inl (fun _ => 0))), (q_6, .inl (cy 1, 8, .inl (fun _ => 0))), (q_7, .inl (cy 1, 8, .inl (fun _ => 0))), (q_8, .inl (cy 1, 8, .inl (fun _ => 0))), (q_9, .inl (cy 1, 8, .inl (fun _ => 0))), (q_10, .inl (cy 1, 8, .inl (fun _ => 0)))]) := hD
  refine va_putF (D := D) (ci := 3) (v := .ref q_10) (ty := (.array .int)) (C := RX3) (T := TX3) (N := 17) hx hb hts iw_3 tyX3 tyX3_ok nmX3 hown hK hP hD hS 0 rfl rfl 15 (by decide) (hts _ fl_X3_39) (fun _ h9 => h9) rfl hin rfl (by decide +kernel) rfl rfl (Nat.le_of_ble_eq_true rfl) dX3_init_80 (fun H locs hP hD hS => ?_)
  have hP : va_P D vwCl ([(h0, .inr (3, [.null, .int 0, .int 0, .int 0, .int 0, .int 0, .ref q_1, .ref q_2, .ref q_3, .ref q_4, .ref q_5, .ref q_6, .ref q_7, .ref q_8, .ref q_9, .ref q_10, .null])), (q_1, .inl (cy 1, 8, .inl (fun _ => 0))), (q_2, .inl (cy 1, 3, .inl (fun _ => 0))), (q_3, .inl (cy 1, 8, .inl (fun _ => 0))), (q_4, .inl (cy 1, 8, .inl (fun _ => 0))), (q_5, .inl (cy 1, 8, .inl (fun _ => 0))), (q_6, .inl (cy 1, 8, .inl (fun _ => 0))), (q_7, .inl (cy 1, 8, .inl (fun _ => 0))), (q_8, .inl (cy 1, 8, .inl (fun _ => 0))), (q_9, .inl (cy 1, 8, .inl (fun _ => 0))), (q_10, .inl (cy 1, 8, .inl (fun _ => 0)))]) H := hP
  have hD : va_D As ([(h0, .inr (3, [.null, .int 0, .int 0, .int 0, .int 0, .int 0, .ref q_1, .ref q_2, .ref q_3, .ref q_4, .ref q_5, .ref q_6, .ref q_7, .ref q_8, .ref q_9, .ref q_10, .null])), (q_1, .inl (cy 1, 8, .inl (fun _ => 0))), (q_2, .inl (cy 1, 3, .inl (fun _ => 0))), (q_3, .inl (cy 1, 8, .inl (fun _ => 0))), (q_4, .inl (cy 1, 8, .inl (fun _ => 0))), (q_5, .inl (cy 1, 8, .inl (fun _ => 0))), (q_6, .inl (cy 1, 8, .inl (fun _ => 0))), (q_7, .inl (cy 1, 8, .inl (fun _ => 0))), (q_8, .inl (cy 1, 8, .inl (fun _ => 0))), (q_9, .inl (cy 1, 8, .inl (fun _ => 0))), (q_10, .inl (cy 1, 8, .inl (fun _ => 0)))]) := hD
  refine lv_aload_n hx hb dX3_init_83 rfl (lv_at hl 0 rfl) ?_
  refine lv_bipush (v := 8) hx hb dX3_init_84 (by decide) ?_
  refine ti_nA (atype := .int) (a0 := (8, .inl (fun _ => 0))) 1 C ac_int rfl (fun C h => by cases h) rfl hP hD hS hA (fun _ => rfl) (by decide) (by decide) (Nat.le_of_ble_eq_true rfl) 11 83 (Nat.le_of_ble_eq_true rfl) (Nat.le_of_ble_eq_true rfl) ⟨Nat.le_of_ble_eq_true rfl, Nat.le_of_ble_eq_true rfl⟩ dX3_init_86 (fun q_11 H hP hD hS => ?_)
  have hP : va_P D vwCl ([(h0, .inr (3, [.null, .int 0, .int 0, .int 0, .int 0, .int 0, .ref q_1, .ref q_2, .ref q_3, .ref q_4, .ref q_5, .ref q_6, .ref q_7, .ref q_8, .ref q_9, .ref q_10, .null])), (q_1, .inl (cy 1, 8, .inl (fun _ => 0))), (q_2, .inl (cy 1, 3, .inl (fun _ => 0))), (q_3, .inl (cy 1, 8, .inl (fun _ => 0))), (q_4, .inl (cy 1, 8, .inl (fun _ => 0))), (q_5, .inl (cy 1, 8, .inl (fun _ => 0))), (q_6, .inl (cy 1, 8, .inl (fun _ => 0))), (q_7, .inl (cy 1, 8, .inl (fun _ => 0))), (q_8, .inl (cy 1, 8, .inl (fun _ => 0))), (q_9, .inl (cy 1, 8, .inl (fun _ => 0))), (q_10, .inl (cy 1, 8, .inl (fun _ => 0))), (q_11, .inl (cy 1, 8, .inl (fun _ => 0)))]) H := hP
  have hD : va_D As ([(h0, .inr (3, [.null, .int 0, .int 0, .int 0, .int 0, .int 0, .ref q_1, .ref q_2, .ref q_3, .ref q_4, .ref q_5, .ref q_6, .ref q_7, .ref q_8, .ref q_9, .ref q_10, .null])), (q_1, .inl (cy 1, 8, .inl (fun _ => 0))), (q_2, .inl (cy 1, 3, .inl (fun _ => 0))), (q_3, .inl (cy 1, 8, .inl (fun _ => 0))), (q_4, .inl (cy 1, 8, .inl (fun _ => 0))), (q_5, .inl (cy 1, 8, .inl (fun _ => 0))), (q_6, .inl (cy 1, 8, .inl (fun _ => 0))), (q_7, .inl (cy 1, 8, .inl (fun _ => 0))), (q_8, .inl (cy 1, 8, .inl (fun _ => 0))), (q_9, .inl (cy 1, 8, .inl (fun _ => 0))), (q_10, .inl (cy 1, 8, .inl (fun _ => 0))), (q_11, .inl (cy 1, 8, .inl (fun _ => 0)))]) := hD
  refine va_putF (D := D) (ci := 3) (v := .ref q_11) (ty := (.array .int)) (C := RX3) (T := TX3) (N := 17) hx hb hts iw_3 tyX3 tyX3_ok nmX3 hown hK hP hD hS 0 rfl rfl 16 (by decide) (hts _ fl_X3_42) (fun _ h9 => h9) rfl hin rfl (by decide +kernel) rfl rfl (Nat.le_of_ble_eq_true rfl) dX3_init_88 (fun H locs hP hD hS => ?_)
  have hP : va_P D vwCl ([(h0, .inr (3, [.null, .int 0, .int 0, .int 0, .int 0, .int 0, .ref q_1, .ref q_2, .ref q_3, .ref q_4, .ref q_5, .ref q_6, .ref q_7, .ref q_8, .ref q_9, .ref q_10, .ref q_11])), (q_1, .inl (cy 1, 8, .inl (fun _ => 0))), (q_2, .inl (cy 1, 3, .inl (fun _ => 0))), (q_3, .inl (cy 1, 8, .inl (fun _ => 0))), (q_4, .inl (cy 1, 8, .inl (fun _ => 0))), (q_5, .inl (cy 1, 8, .inl (fun _ => 0))), (q_6, .inl (cy 1, 8, .inl (fun _ => 0))), (q_7, .inl (cy 1, 8, .inl (fun _ => 0))), (q_8, .inl (cy 1, 8, .inl (fun _ => 0))), (q_9, .inl (cy 1, 8, .inl (fun _ => 0))), (q_10, .inl (cy 1, 8, .inl (fun _ => 0))), (q_11, .inl (cy 1, 8, .inl (fun _ => 0)))]) H := hP
  have hD : va_D As ([(h0, .inr (3, [.null, .int 0, .int 0, .int 0, .int 0, .int 0, .ref q_1, .ref q_2, .ref q_3, .ref q_4, .ref q_5, .ref q_6, .ref q_7, .ref q_8, .ref q_9, .ref q_10, .ref q_11])), (q_1, .inl (cy 1, 8, .inl (fun _ => 0))), (q_2, .inl (cy 1, 3, .inl (fun _ => 0))), (q_3, .inl (cy 1, 8, .inl (fun _ => 0))), (q_4, .inl (cy 1, 8, .inl (fun _ => 0))), (q_5, .inl (cy 1, 8, .inl (fun _ => 0))), (q_6, .inl (cy 1, 8, .inl (fun _ => 0))), (q_7, .inl (cy 1, 8, .inl (fun _ => 0))), (q_8, .inl (cy 1, 8, .inl (fun _ => 0))), (q_9, .inl (cy 1, 8, .inl (fun _ => 0))), (q_10, .inl (cy 1, 8, .inl (fun _ => 0))), (q_11, .inl (cy 1, 8, .inl (fun _ => 0)))]) := hD
  refine W.widen (k := 11) (n := 83) (Nat.le_of_ble_eq_true rfl) (Nat.le_of_ble_eq_true rfl) ?_
  exact hQ (fun j : Nat => if j = 0 then h0 else if j = 7 then q_1 else if j = 8 then q_2 else if j = 9 then q_3 else if j = 10 then q_4 else if j = 11 then q_5 else if j = 12 then q_6 else if j = 13 then q_7 else if j = 14 then q_8 else if j = 15 then q_9 else if j = 16 then q_10 else if j = 17 then q_11 else 0) _ _ _ _ rfl hP hD hS dX3_init_91
set_option maxHeartbeats 8000000 in
set_option maxRecDepth 100000 in
theorem k_X7_init (l : Launch) (D : va_G) (cy : Nat → ClassId) (h0 sz : Nat) : ti_Kc l yX7_init cX7_init 1 1 1 700 D cy h0 sz (.inr (7, [.null, .int 0, .int 0, .int 0, .int 0, .int 0, .int 0])) (fun b : Nat → Nat => b 0 = h0) (fun b => ti_kb cy b) := by
  refine ti_eC yp_X7_init (by decide) rfl ?_
  intro p e s m args below meth c Q H0 As C hQ hP hD hS hA ls hl
  have hx := C.1
  have hb := C.2.1
  have hts := C.2.2.1
  have hown := C.2.2.2.1
  have hK := C.2.2.2.2.1
  have hml := C.2.2.2.2.2.1
  have hin := C.2.2.2.2.2.2.1
  have hN := C.2.2.2.2.2.2.2
  refine lv_aload_n hx hb dX7_init_0 rfl (lv_at hl 0 rfl) ?_
  refine W.objInit hx hb hown (hts _ oi_X7_3) (hts _ oi_m) (hts _ oi_c) rfl (by rw [hml]; exact hl.1) rfl dX7_init_1 (Nat.le_of_ble_eq_true rfl) (Nat.le_of_ble_eq_true rfl) ?_
  refine W.eq (g2 := F0 m 4 ls []) rfl ?_
  refine lv_aload_n hx hb dX7_init_4 rfl (lv_at hl 0 rfl) ?_
  refine lv_sipush (v := 700) hx hb dX7_init_5 (by decide) ?_
  refine ti_nA (atype := .byte) (a0 := (700, .inl (fun _ => 0))) 0 C ac_byte rfl (fun C h => by cases h) rfl hP hD hS hA (fun _ => rfl) (by decide) (by decide) (Nat.le_of_ble_eq_true rfl) 1 700 (Nat.le_of_ble_eq_true rfl) (Nat.le_of_ble_eq_true rfl) ⟨Nat.le_of_ble_eq_true rfl, Nat.le_of_ble_eq_true rfl⟩ dX7_init_8 (fun q_1 H hP hD hS => ?_)
  have hP : va_P D vwCl ([(h0, .inr (7, [.null, .int 0, .int 0, .int 0, .int 0, .int 0, .int 0])), (q_1, .inl (cy 0, 700, .inl (fun _ => 0)))]) H := hP
  have hD : va_D As ([(h0, .inr (7, [.null, .int 0, .int 0, .int 0, .int 0, .int 0, .int 0])), (q_1, .inl (cy 0, 700, .inl (fun _ => 0)))]) := hD
  refine va_putF (D := D) (ci := 7) (v := .ref q_1) (ty := (.array .byte)) (C := RX7) (T := TX7) (N := 7) hx hb hts iw_7 tyX7 tyX7_ok nmX7 hown hK hP hD hS 0 rfl rfl 0 (by decide) (hts _ fl_X7_9) (fun _ h9 => h9) rfl hin rfl (by decide +kernel) rfl rfl (Nat.le_of_ble_eq_true rfl) dX7_init_10 (fun H locs hP hD hS => ?_)
  have hP : va_P D vwCl ([(h0, .inr (7, [.ref q_1, .int 0, .int 0, .int 0, .int 0, .int 0, .int 0])), (q_1, .inl (cy 0, 700, .inl (fun _ => 0)))]) H := hP
  have hD : va_D As ([(h0, .inr (7, [.ref q_1, .int 0, .int 0, .int 0, .int 0, .int 0, .int 0])), (q_1, .inl (cy 0, 700, .inl (fun _ => 0)))]) := hD
  refine lv_aload_n hx hb dX7_init_13 rfl (lv_at hl 0 rfl) ?_
  refine lv_iconst (v := 0) hx hb dX7_init_14 (by decide) ?_
  refine va_put (D := D) (ci := 7) (v := .int 0) (ty := .int) (C := RX7) (T := TX7) (N := 7) hx hb hts iw_7 tyX7 tyX7_ok nmX7 hown hK hP hD hS 0 rfl rfl 1 (by decide) (hts _ fl_X7_15) (fun _ h9 => h9) rfl (by decide +kernel) rfl rfl (Nat.le_of_ble_eq_true rfl) dX7_init_15 (fun H locs hP hD hS => ?_)
  have hP : va_P D vwCl ([(h0, .inr (7, [.ref q_1, .int 0, .int 0, .int 0, .int 0, .int 0, .int 0])), (q_1, .inl (cy 0, 700, .inl (fun _ => 0)))]) H := hP
  have hD : va_D As ([(h0, .inr (7, [.ref q_1, .int 0, .int 0, .int 0, .int 0, .int 0, .int 0])), (q_1, .inl (cy 0, 700, .inl (fun _ => 0)))]) := hD
  refine lv_aload_n hx hb dX7_init_18 rfl (lv_at hl 0 rfl) ?_
  refine lv_iconst (v := 0) hx hb dX7_init_19 (by decide) ?_
  refine va_put (D := D) (ci := 7) (v := .int 0) (ty := .int) (C := RX7) (T := TX7) (N := 7) hx hb hts iw_7 tyX7 tyX7_ok nmX7 hown hK hP hD hS 0 rfl rfl 2 (by decide) (hts _ fl_X7_19) (fun _ h9 => h9) rfl (by decide +kernel) rfl rfl (Nat.le_of_ble_eq_true rfl) dX7_init_20 (fun H locs hP hD hS => ?_)
  have hP : va_P D vwCl ([(h0, .inr (7, [.ref q_1, .int 0, .int 0, .int 0, .int 0, .int 0, .int 0])), (q_1, .inl (cy 0, 700, .inl (fun _ => 0)))]) H := hP
  have hD : va_D As ([(h0, .inr (7, [.ref q_1, .int 0, .int 0, .int 0, .int 0, .int 0, .int 0])), (q_1, .inl (cy 0, 700, .inl (fun _ => 0)))]) := hD
  refine lv_aload_n hx hb dX7_init_23 rfl (lv_at hl 0 rfl) ?_
  refine lv_iconst (v := 0) hx hb dX7_init_24 (by decide) ?_
  refine va_put (D := D) (ci := 7) (v := .int 0) (ty := .int) (C := RX7) (T := TX7) (N := 7) hx hb hts iw_7 tyX7 tyX7_ok nmX7 hown hK hP hD hS 0 rfl rfl 3 (by decide) (hts _ fl_X7_22) (fun _ h9 => h9) rfl (by decide +kernel) rfl rfl (Nat.le_of_ble_eq_true rfl) dX7_init_25 (fun H locs hP hD hS => ?_)
  have hP : va_P D vwCl ([(h0, .inr (7, [.ref q_1, .int 0, .int 0, .int 0, .int 0, .int 0, .int 0])), (q_1, .inl (cy 0, 700, .inl (fun _ => 0)))]) H := hP
  have hD : va_D As ([(h0, .inr (7, [.ref q_1, .int 0, .int 0, .int 0, .int 0, .int 0, .int 0])), (q_1, .inl (cy 0, 700, .inl (fun _ => 0)))]) := hD
  refine W.widen (k := 1) (n := 700) (Nat.le_of_ble_eq_true rfl) (Nat.le_of_ble_eq_true rfl) ?_
  exact hQ (fun j : Nat => if j = 0 then h0 else if j = 1 then q_1 else 0) _ _ _ _ rfl hP hD hS dX7_init_28
def ti_rb (cy : Nat → ClassId) (u : Nat × (Nat → Nat)) : va_W := (u.1, .inr (4, [.ref (u.2 0), .null, .null, .int 0, .int 0, .int (-1)])) :: ti_kb cy u.2
set_option maxHeartbeats 8000000 in
set_option maxRecDepth 100000 in
theorem k_X4_init (l : Launch) (D : va_G) (cy : Nat → ClassId) (h0 sz : Nat) : ti_Kc l yX4_init cX4_init 1 2 2 707 D cy h0 sz (.inr (4, [.null, .null, .null, .int 0, .int 0, .int 0])) (fun u : Nat × (Nat → Nat) => u.1 = h0) (fun u => ti_rb cy u) := by
  refine ti_eC yp_X4_init (by decide) rfl ?_
  intro p e s m args below meth c Q H0 As C hQ hP hD hS hA ls hl
  have hx := C.1
  have hb := C.2.1
  have hts := C.2.2.1
  have hown := C.2.2.2.1
  have hK := C.2.2.2.2.1
  have hml := C.2.2.2.2.2.1
  have hin := C.2.2.2.2.2.2.1
  have hN := C.2.2.2.2.2.2.2
  refine lv_aload_n hx hb dX4_init_0 rfl (lv_at hl 0 rfl) ?_
  refine W.objInit hx hb hown (hts _ oi_X4_3) (hts _ oi_m) (hts _ oi_c) rfl (by rw [hml]; exact hl.1) rfl dX4_init_1 (Nat.le_of_ble_eq_true rfl) (Nat.le_of_ble_eq_true rfl) ?_
  refine W.eq (g2 := F0 m 4 ls []) rfl ?_
  refine lv_aload_n hx hb dX4_init_4 rfl (lv_at hl 0 rfl) ?_
  refine ti_nO (ci := 7) (fs := [.null, .int 0, .int 0, .int 0, .int 0, .int 0, .int 0]) (T := TX7) (N := 7) tyX7 tyX7_ok C iw_7 ck_X4_9 is_X7 in_X7 rfl hP hD hS hA nf_7 1 7 (Nat.le_of_ble_eq_true rfl) (Nat.le_of_ble_eq_true rfl) ⟨Nat.le_of_ble_eq_true rfl, Nat.le_of_ble_eq_true rfl⟩ dX4_init_5 (fun q_1 H hP hD hS => ?_)
  refine lv_dup hx hb dX4_init_8 rfl ?_
  refine ti_callCN C (k_X7_init l D cy q_1 H.size) (nl_X4_11 hN) rfl ym_X7_init yi_X7_init yc_X7_init yd_X7_init hP hD hS hA hl.1 (Nat.le_of_ble_eq_true rfl) ⟨by decide, by decide⟩ 2 707 (Nat.le_of_ble_eq_true rfl) (Nat.le_of_ble_eq_true rfl) ⟨Nat.le_of_ble_eq_true rfl, Nat.le_of_ble_eq_true rfl⟩ dX4_init_9 (fun u_2 H locs hp_2 hPn hDn hSn => ?_)
  obtain rfl := hp_2
  obtain ⟨X_3, hX_3⟩ : ∃ Z : va_W, Z = [] ++ ti_kb cy u_2 := ⟨_, rfl⟩
  have hP : va_P D vwCl ((h0, .inr (4, [.null, .null, .null, .int 0, .int 0, .int 0])) :: X_3) H := by rw [hX_3]; exact hPn
  have hD : va_D As ((h0, .inr (4, [.null, .null, .null, .int 0, .int 0, .int 0])) :: X_3) := by rw [hX_3]; exact hDn
  have hS := hSn
  refine va_putF (D := D) (ci := 4) (v := .ref (u_2 0)) (ty := (.object "ThirdInLine$Tokens")) (C := RX4) (T := TX4) (N := 6) hx hb hts iw_4 tyX4 tyX4_ok nmX4 hown hK hP hD hS 0 rfl rfl 0 (by decide) (hts _ fl_X4_12) (fun _ h9 => h9) rfl hin rfl (by decide +kernel) rfl rfl (Nat.le_of_ble_eq_true rfl) dX4_init_12 (fun H locs hP hD hS => ?_)
  have hP : va_P D vwCl ((h0, .inr (4, [.ref (u_2 0), .null, .null, .int 0, .int 0, .int 0])) :: X_3) H := hP
  have hD : va_D As ((h0, .inr (4, [.ref (u_2 0), .null, .null, .int 0, .int 0, .int 0])) :: X_3) := hD
  refine lv_aload_n hx hb dX4_init_15 rfl (lv_at hl 0 rfl) ?_
  refine lv_iconst (v := 0) hx hb dX4_init_16 (by decide) ?_
  refine va_put (D := D) (ci := 4) (v := .int 0) (ty := .int) (C := RX4) (T := TX4) (N := 6) hx hb hts iw_4 tyX4 tyX4_ok nmX4 hown hK hP hD hS 0 rfl rfl 3 (by decide) (hts _ fl_X4_18) (fun _ h9 => h9) rfl (by decide +kernel) rfl rfl (Nat.le_of_ble_eq_true rfl) dX4_init_17 (fun H locs hP hD hS => ?_)
  have hP : va_P D vwCl ((h0, .inr (4, [.ref (u_2 0), .null, .null, .int 0, .int 0, .int 0])) :: X_3) H := hP
  have hD : va_D As ((h0, .inr (4, [.ref (u_2 0), .null, .null, .int 0, .int 0, .int 0])) :: X_3) := hD
  refine lv_aload_n hx hb dX4_init_20 rfl (lv_at hl 0 rfl) ?_
  refine lv_iconst (v := 0) hx hb dX4_init_21 (by decide) ?_
  refine va_put (D := D) (ci := 4) (v := .int 0) (ty := .int) (C := RX4) (T := TX4) (N := 6) hx hb hts iw_4 tyX4 tyX4_ok nmX4 hown hK hP hD hS 0 rfl rfl 4 (by decide) (hts _ fl_X4_22) (fun _ h9 => h9) rfl (by decide +kernel) rfl rfl (Nat.le_of_ble_eq_true rfl) dX4_init_22 (fun H locs hP hD hS => ?_)
  have hP : va_P D vwCl ((h0, .inr (4, [.ref (u_2 0), .null, .null, .int 0, .int 0, .int 0])) :: X_3) H := hP
  have hD : va_D As ((h0, .inr (4, [.ref (u_2 0), .null, .null, .int 0, .int 0, .int 0])) :: X_3) := hD
  refine lv_aload_n hx hb dX4_init_25 rfl (lv_at hl 0 rfl) ?_
  refine lv_iconst (v := (-1)) hx hb dX4_init_26 (by decide) ?_
  refine va_put (D := D) (ci := 4) (v := .int (-1)) (ty := .int) (C := RX4) (T := TX4) (N := 6) hx hb hts iw_4 tyX4 tyX4_ok nmX4 hown hK hP hD hS 0 rfl rfl 5 (by decide) (hts _ fl_X4_25) (fun _ h9 => h9) rfl (by decide +kernel) rfl rfl (Nat.le_of_ble_eq_true rfl) dX4_init_27 (fun H locs hP hD hS => ?_)
  have hP : va_P D vwCl ((h0, .inr (4, [.ref (u_2 0), .null, .null, .int 0, .int 0, .int (-1)])) :: X_3) H := hP
  have hD : va_D As ((h0, .inr (4, [.ref (u_2 0), .null, .null, .int 0, .int 0, .int (-1)])) :: X_3) := hD
  refine W.widen (k := 2) (n := 707) (Nat.le_of_ble_eq_true rfl) (Nat.le_of_ble_eq_true rfl) ?_
  simp only [hX_3, List.nil_append, List.append_assoc, List.cons_append] at hP hD
  exact hQ (h0, u_2) _ _ _ _ rfl hP hD hS dX4_init_30
def ti_cb (cy : Nat → ClassId) (u : (Nat → Nat) × (Nat → Nat) × (Nat → Nat)) : va_W := (u.1 0, .inr (0, [.ref (u.2.1 0), .ref (u.2.2 0), .ref (u.1 3), .ref (u.1 4), .ref (u.1 5), .int 0])) :: (ti_qb cy u.2.1 ++ (ti_qb cy u.2.2 ++ [(u.1 3, .inl (cy 1, 16, .inl (fun _ => 0))), (u.1 4, .inl (cy 1, 16, .inl (fun _ => 0))), (u.1 5, .inl (cy 1, 16, .inl (fun _ => 0)))]))
set_option maxHeartbeats 8000000 in
set_option maxRecDepth 100000 in
theorem k_X0_init (l : Launch) (D : va_G) (cy : Nat → ClassId) (h0 sz : Nat) : ti_Kc l yX0_init cX0_init 1 2 27 248 D cy h0 sz (.inr (0, [.null, .null, .null, .null, .null, .int 0])) (fun u : (Nat → Nat) × (Nat → Nat) × (Nat → Nat) => u.1 0 = h0) (fun u => ti_cb cy u) := by
  refine ti_eC yp_X0_init (by decide) rfl ?_
  intro p e s m args below meth c Q H0 As C hQ hP hD hS hA ls hl
  have hx := C.1
  have hb := C.2.1
  have hts := C.2.2.1
  have hown := C.2.2.2.1
  have hK := C.2.2.2.2.1
  have hml := C.2.2.2.2.2.1
  have hin := C.2.2.2.2.2.2.1
  have hN := C.2.2.2.2.2.2.2
  refine lv_aload_n hx hb dX0_init_0 rfl (lv_at hl 0 rfl) ?_
  refine W.objInit hx hb hown (hts _ oi_X0_3) (hts _ oi_m) (hts _ oi_c) rfl (by rw [hml]; exact hl.1) rfl dX0_init_1 (Nat.le_of_ble_eq_true rfl) (Nat.le_of_ble_eq_true rfl) ?_
  refine W.eq (g2 := F0 m 4 ls []) rfl ?_
  refine lv_aload_n hx hb dX0_init_4 rfl (lv_at hl 0 rfl) ?_
  refine ti_nO (ci := 3) (fs := [.null, .int 0, .int 0, .int 0, .int 0, .int 0, .null, .null, .null, .null, .null, .null, .null, .null, .null, .null, .null]) (T := TX3) (N := 17) tyX3 tyX3_ok C iw_3 ck_X0_9 is_X3 in_X3 rfl hP hD hS hA nf_3 1 17 (Nat.le_of_ble_eq_true rfl) (Nat.le_of_ble_eq_true rfl) ⟨Nat.le_of_ble_eq_true rfl, Nat.le_of_ble_eq_true rfl⟩ dX0_init_5 (fun q_1 H hP hD hS => ?_)
  refine lv_dup hx hb dX0_init_8 rfl ?_
  refine ti_callCN C (k_X3_init l D cy q_1 H.size) (nl_X0_11 hN) rfl ym_X3_init yi_X3_init yc_X3_init yd_X3_init hP hD hS hA hl.1 (Nat.le_of_ble_eq_true rfl) ⟨by decide, by decide⟩ 12 100 (Nat.le_of_ble_eq_true rfl) (Nat.le_of_ble_eq_true rfl) ⟨Nat.le_of_ble_eq_true rfl, Nat.le_of_ble_eq_true rfl⟩ dX0_init_9 (fun u_2 H locs hp_2 hPn hDn hSn => ?_)
  obtain rfl := hp_2
  obtain ⟨X_3, hX_3⟩ : ∃ Z : va_W, Z = [] ++ ti_qb cy u_2 := ⟨_, rfl⟩
  have hP : va_P D vwCl ((h0, .inr (0, [.null, .null, .null, .null, .null, .int 0])) :: X_3) H := by rw [hX_3]; exact hPn
  have hD : va_D As ((h0, .inr (0, [.null, .null, .null, .null, .null, .int 0])) :: X_3) := by rw [hX_3]; exact hDn
  have hS := hSn
  refine va_putF (D := D) (ci := 0) (v := .ref (u_2 0)) (ty := (.object "ThirdInLine$Queue")) (C := RX0) (T := TX0) (N := 6) hx hb hts iw_0 tyX0 tyX0_ok nmX0 hown hK hP hD hS 0 rfl rfl 0 (by decide) (hts _ fl_X0_12) (fun _ h9 => h9) rfl hin rfl (by decide +kernel) rfl rfl (Nat.le_of_ble_eq_true rfl) dX0_init_12 (fun H locs hP hD hS => ?_)
  have hP : va_P D vwCl ((h0, .inr (0, [.ref (u_2 0), .null, .null, .null, .null, .int 0])) :: X_3) H := hP
  have hD : va_D As ((h0, .inr (0, [.ref (u_2 0), .null, .null, .null, .null, .int 0])) :: X_3) := hD
  refine lv_aload_n hx hb dX0_init_15 rfl (lv_at hl 0 rfl) ?_
  refine ti_nO (ci := 3) (fs := [.null, .int 0, .int 0, .int 0, .int 0, .int 0, .null, .null, .null, .null, .null, .null, .null, .null, .null, .null, .null]) (T := TX3) (N := 17) tyX3 tyX3_ok C iw_3 ck_X0_9 is_X3 in_X3 rfl hP hD hS hA nf_3 13 117 (Nat.le_of_ble_eq_true rfl) (Nat.le_of_ble_eq_true rfl) ⟨Nat.le_of_ble_eq_true rfl, Nat.le_of_ble_eq_true rfl⟩ dX0_init_16 (fun q_4 H hP hD hS => ?_)
  refine lv_dup hx hb dX0_init_19 rfl ?_
  refine ti_callCN C (k_X3_init l D cy q_4 H.size) (nl_X0_11 hN) rfl ym_X3_init yi_X3_init yc_X3_init yd_X3_init hP hD hS hA hl.1 (Nat.le_of_ble_eq_true rfl) ⟨by decide, by decide⟩ 24 200 (Nat.le_of_ble_eq_true rfl) (Nat.le_of_ble_eq_true rfl) ⟨Nat.le_of_ble_eq_true rfl, Nat.le_of_ble_eq_true rfl⟩ dX0_init_20 (fun u_5 H locs hp_5 hPn hDn hSn => ?_)
  obtain rfl := hp_5
  obtain ⟨X_6, hX_6⟩ : ∃ Z : va_W, Z = X_3 ++ ti_qb cy u_5 := ⟨_, rfl⟩
  have hP : va_P D vwCl ((h0, .inr (0, [.ref (u_2 0), .null, .null, .null, .null, .int 0])) :: X_6) H := by rw [hX_6]; exact hPn
  have hD : va_D As ((h0, .inr (0, [.ref (u_2 0), .null, .null, .null, .null, .int 0])) :: X_6) := by rw [hX_6]; exact hDn
  have hS := hSn
  refine va_putF (D := D) (ci := 0) (v := .ref (u_5 0)) (ty := (.object "ThirdInLine$Queue")) (C := RX0) (T := TX0) (N := 6) hx hb hts iw_0 tyX0 tyX0_ok nmX0 hown hK hP hD hS 0 rfl rfl 1 (by decide) (hts _ fl_X0_18) (fun _ h9 => h9) rfl hin rfl (by decide +kernel) rfl rfl (Nat.le_of_ble_eq_true rfl) dX0_init_23 (fun H locs hP hD hS => ?_)
  have hP : va_P D vwCl ((h0, .inr (0, [.ref (u_2 0), .ref (u_5 0), .null, .null, .null, .int 0])) :: X_6) H := hP
  have hD : va_D As ((h0, .inr (0, [.ref (u_2 0), .ref (u_5 0), .null, .null, .null, .int 0])) :: X_6) := hD
  refine lv_aload_n hx hb dX0_init_26 rfl (lv_at hl 0 rfl) ?_
  refine lv_bipush (v := 16) hx hb dX0_init_27 (by decide) ?_
  refine ti_nA (atype := .int) (a0 := (16, .inl (fun _ => 0))) 1 C ac_int rfl (fun C h => by cases h) rfl hP hD hS hA (fun _ => rfl) (by decide) (by decide) (Nat.le_of_ble_eq_true rfl) 25 216 (Nat.le_of_ble_eq_true rfl) (Nat.le_of_ble_eq_true rfl) ⟨Nat.le_of_ble_eq_true rfl, Nat.le_of_ble_eq_true rfl⟩ dX0_init_29 (fun q_7 H hP hD hS => ?_)
  obtain ⟨X_8, hX_8⟩ : ∃ Z : va_W, Z = X_6 ++ [(q_7, .inl (cy 1, 16, .inl (fun _ => 0)))] := ⟨_, rfl⟩
  have hP : va_P D vwCl ((h0, .inr (0, [.ref (u_2 0), .ref (u_5 0), .null, .null, .null, .int 0])) :: X_8) H := by rw [hX_8]; exact hP
  have hD : va_D As ((h0, .inr (0, [.ref (u_2 0), .ref (u_5 0), .null, .null, .null, .int 0])) :: X_8) := by rw [hX_8]; exact hD
  refine va_putF (D := D) (ci := 0) (v := .ref q_7) (ty := (.array .int)) (C := RX0) (T := TX0) (N := 6) hx hb hts iw_0 tyX0 tyX0_ok nmX0 hown hK hP hD hS 0 rfl rfl 2 (by decide) (hts _ fl_X0_21) (fun _ h9 => h9) rfl hin rfl (by decide +kernel) rfl rfl (Nat.le_of_ble_eq_true rfl) dX0_init_31 (fun H locs hP hD hS => ?_)
  have hP : va_P D vwCl ((h0, .inr (0, [.ref (u_2 0), .ref (u_5 0), .ref q_7, .null, .null, .int 0])) :: X_8) H := hP
  have hD : va_D As ((h0, .inr (0, [.ref (u_2 0), .ref (u_5 0), .ref q_7, .null, .null, .int 0])) :: X_8) := hD
  refine lv_aload_n hx hb dX0_init_34 rfl (lv_at hl 0 rfl) ?_
  refine lv_bipush (v := 16) hx hb dX0_init_35 (by decide) ?_
  refine ti_nA (atype := .int) (a0 := (16, .inl (fun _ => 0))) 1 C ac_int rfl (fun C h => by cases h) rfl hP hD hS hA (fun _ => rfl) (by decide) (by decide) (Nat.le_of_ble_eq_true rfl) 26 232 (Nat.le_of_ble_eq_true rfl) (Nat.le_of_ble_eq_true rfl) ⟨Nat.le_of_ble_eq_true rfl, Nat.le_of_ble_eq_true rfl⟩ dX0_init_37 (fun q_9 H hP hD hS => ?_)
  obtain ⟨X_10, hX_10⟩ : ∃ Z : va_W, Z = X_8 ++ [(q_9, .inl (cy 1, 16, .inl (fun _ => 0)))] := ⟨_, rfl⟩
  have hP : va_P D vwCl ((h0, .inr (0, [.ref (u_2 0), .ref (u_5 0), .ref q_7, .null, .null, .int 0])) :: X_10) H := by rw [hX_10]; exact hP
  have hD : va_D As ((h0, .inr (0, [.ref (u_2 0), .ref (u_5 0), .ref q_7, .null, .null, .int 0])) :: X_10) := by rw [hX_10]; exact hD
  refine va_putF (D := D) (ci := 0) (v := .ref q_9) (ty := (.array .int)) (C := RX0) (T := TX0) (N := 6) hx hb hts iw_0 tyX0 tyX0_ok nmX0 hown hK hP hD hS 0 rfl rfl 3 (by decide) (hts _ fl_X0_25) (fun _ h9 => h9) rfl hin rfl (by decide +kernel) rfl rfl (Nat.le_of_ble_eq_true rfl) dX0_init_39 (fun H locs hP hD hS => ?_)
  have hP : va_P D vwCl ((h0, .inr (0, [.ref (u_2 0), .ref (u_5 0), .ref q_7, .ref q_9, .null, .int 0])) :: X_10) H := hP
  have hD : va_D As ((h0, .inr (0, [.ref (u_2 0), .ref (u_5 0), .ref q_7, .ref q_9, .null, .int 0])) :: X_10) := hD
  refine lv_aload_n hx hb dX0_init_42 rfl (lv_at hl 0 rfl) ?_
  refine lv_bipush (v := 16) hx hb dX0_init_43 (by decide) ?_
  refine ti_nA (atype := .int) (a0 := (16, .inl (fun _ => 0))) 1 C ac_int rfl (fun C h => by cases h) rfl hP hD hS hA (fun _ => rfl) (by decide) (by decide) (Nat.le_of_ble_eq_true rfl) 27 248 (Nat.le_of_ble_eq_true rfl) (Nat.le_of_ble_eq_true rfl) ⟨Nat.le_of_ble_eq_true rfl, Nat.le_of_ble_eq_true rfl⟩ dX0_init_45 (fun q_11 H hP hD hS => ?_)
  obtain ⟨X_12, hX_12⟩ : ∃ Z : va_W, Z = X_10 ++ [(q_11, .inl (cy 1, 16, .inl (fun _ => 0)))] := ⟨_, rfl⟩
  have hP : va_P D vwCl ((h0, .inr (0, [.ref (u_2 0), .ref (u_5 0), .ref q_7, .ref q_9, .null, .int 0])) :: X_12) H := by rw [hX_12]; exact hP
  have hD : va_D As ((h0, .inr (0, [.ref (u_2 0), .ref (u_5 0), .ref q_7, .ref q_9, .null, .int 0])) :: X_12) := by rw [hX_12]; exact hD
  refine va_putF (D := D) (ci := 0) (v := .ref q_11) (ty := (.array .int)) (C := RX0) (T := TX0) (N := 6) hx hb hts iw_0 tyX0 tyX0_ok nmX0 hown hK hP hD hS 0 rfl rfl 4 (by decide) (hts _ fl_X0_28) (fun _ h9 => h9) rfl hin rfl (by decide +kernel) rfl rfl (Nat.le_of_ble_eq_true rfl) dX0_init_47 (fun H locs hP hD hS => ?_)
  have hP : va_P D vwCl ((h0, .inr (0, [.ref (u_2 0), .ref (u_5 0), .ref q_7, .ref q_9, .ref q_11, .int 0])) :: X_12) H := hP
  have hD : va_D As ((h0, .inr (0, [.ref (u_2 0), .ref (u_5 0), .ref q_7, .ref q_9, .ref q_11, .int 0])) :: X_12) := hD
  refine lv_aload_n hx hb dX0_init_50 rfl (lv_at hl 0 rfl) ?_
  refine lv_iconst (v := 0) hx hb dX0_init_51 (by decide) ?_
  refine va_put (D := D) (ci := 0) (v := .int 0) (ty := .int) (C := RX0) (T := TX0) (N := 6) hx hb hts iw_0 tyX0 tyX0_ok nmX0 hown hK hP hD hS 0 rfl rfl 5 (by decide) (hts _ fl_X0_31) (fun _ h9 => h9) rfl (by decide +kernel) rfl rfl (Nat.le_of_ble_eq_true rfl) dX0_init_52 (fun H locs hP hD hS => ?_)
  have hP : va_P D vwCl ((h0, .inr (0, [.ref (u_2 0), .ref (u_5 0), .ref q_7, .ref q_9, .ref q_11, .int 0])) :: X_12) H := hP
  have hD : va_D As ((h0, .inr (0, [.ref (u_2 0), .ref (u_5 0), .ref q_7, .ref q_9, .ref q_11, .int 0])) :: X_12) := hD
  refine W.widen (k := 27) (n := 248) (Nat.le_of_ble_eq_true rfl) (Nat.le_of_ble_eq_true rfl) ?_
  simp only [hX_12, hX_10, hX_8, hX_6, hX_3, List.nil_append, List.append_assoc, List.cons_append] at hP hD
  exact hQ ((fun j : Nat => if j = 0 then h0 else if j = 3 then q_7 else if j = 4 then q_9 else if j = 5 then q_11 else 0), u_2, u_5) _ _ _ _ rfl hP hD hS dX0_init_55
def ti_sb (cy : Nat → ClassId) (u : (Nat → Nat) × (Nat → Nat) × (Nat → Nat)) : va_W := (u.1 0, .inr (6, [.ref (u.1 1), .ref (u.1 2), .ref (u.1 3), .ref (u.1 4), .int 0, .int 0, .int (-1), .int 0, .ref (u.1 9), .ref (u.1 10), .int 0, .ref (u.2.1 0), .ref (u.2.2 0)])) :: ([(u.1 1, .inl (cy 1, 24, .inl (fun _ => 0))), (u.1 2, .inl (cy 1, 24, .inl (fun _ => 0))), (u.1 3, .inl (cy 1, 24, .inl (fun _ => 0))), (u.1 4, .inl (cy 1, 24, .inl (fun _ => 0))), (u.1 9, .inl (cy 1, 480, .inl (fun _ => 0))), (u.1 10, .inl (cy 1, 480, .inl (fun _ => 0)))] ++ (ti_qb cy u.2.1 ++ ti_qb cy u.2.2))
set_option maxHeartbeats 8000000 in
set_option maxRecDepth 100000 in
theorem k_X6_init (l : Launch) (D : va_G) (cy : Nat → ClassId) (h0 sz : Nat) : ti_Kc l yX6_init cX6_init 1 2 30 1256 D cy h0 sz (.inr (6, [.null, .null, .null, .null, .int 0, .int 0, .int 0, .int 0, .null, .null, .int 0, .null, .null])) (fun u : (Nat → Nat) × (Nat → Nat) × (Nat → Nat) => u.1 0 = h0) (fun u => ti_sb cy u) := by
  refine ti_eC yp_X6_init (by decide) rfl ?_
  intro p e s m args below meth c Q H0 As C hQ hP hD hS hA ls hl
  have hx := C.1
  have hb := C.2.1
  have hts := C.2.2.1
  have hown := C.2.2.2.1
  have hK := C.2.2.2.2.1
  have hml := C.2.2.2.2.2.1
  have hin := C.2.2.2.2.2.2.1
  have hN := C.2.2.2.2.2.2.2
  refine lv_aload_n hx hb dX6_init_0 rfl (lv_at hl 0 rfl) ?_
  refine W.objInit hx hb hown (hts _ oi_X6_3) (hts _ oi_m) (hts _ oi_c) rfl (by rw [hml]; exact hl.1) rfl dX6_init_1 (Nat.le_of_ble_eq_true rfl) (Nat.le_of_ble_eq_true rfl) ?_
  refine W.eq (g2 := F0 m 4 ls []) rfl ?_
  refine lv_aload_n hx hb dX6_init_4 rfl (lv_at hl 0 rfl) ?_
  refine lv_bipush (v := 24) hx hb dX6_init_5 (by decide) ?_
  refine ti_nA (atype := .int) (a0 := (24, .inl (fun _ => 0))) 1 C ac_int rfl (fun C h => by cases h) rfl hP hD hS hA (fun _ => rfl) (by decide) (by decide) (Nat.le_of_ble_eq_true rfl) 1 24 (Nat.le_of_ble_eq_true rfl) (Nat.le_of_ble_eq_true rfl) ⟨Nat.le_of_ble_eq_true rfl, Nat.le_of_ble_eq_true rfl⟩ dX6_init_7 (fun q_1 H hP hD hS => ?_)
  obtain ⟨X_2, hX_2⟩ : ∃ Z : va_W, Z = [] ++ [(q_1, .inl (cy 1, 24, .inl (fun _ => 0)))] := ⟨_, rfl⟩
  have hP : va_P D vwCl ((h0, .inr (6, [.null, .null, .null, .null, .int 0, .int 0, .int 0, .int 0, .null, .null, .int 0, .null, .null])) :: X_2) H := by rw [hX_2]; exact hP
  have hD : va_D As ((h0, .inr (6, [.null, .null, .null, .null, .int 0, .int 0, .int 0, .int 0, .null, .null, .int 0, .null, .null])) :: X_2) := by rw [hX_2]; exact hD
  refine va_putF (D := D) (ci := 6) (v := .ref q_1) (ty := (.array .int)) (C := RX6) (T := TX6) (N := 13) hx hb hts iw_6 tyX6 tyX6_ok nmX6 hown hK hP hD hS 0 rfl rfl 0 (by decide) (hts _ fl_X6_9) (fun _ h9 => h9) rfl hin rfl (by decide +kernel) rfl rfl (Nat.le_of_ble_eq_true rfl) dX6_init_9 (fun H locs hP hD hS => ?_)
  have hP : va_P D vwCl ((h0, .inr (6, [.ref q_1, .null, .null, .null, .int 0, .int 0, .int 0, .int 0, .null, .null, .int 0, .null, .null])) :: X_2) H := hP
  have hD : va_D As ((h0, .inr (6, [.ref q_1, .null, .null, .null, .int 0, .int 0, .int 0, .int 0, .null, .null, .int 0, .null, .null])) :: X_2) := hD
  refine lv_aload_n hx hb dX6_init_12 rfl (lv_at hl 0 rfl) ?_
  refine lv_bipush (v := 24) hx hb dX6_init_13 (by decide) ?_
  refine ti_nA (atype := .int) (a0 := (24, .inl (fun _ => 0))) 1 C ac_int rfl (fun C h => by cases h) rfl hP hD hS hA (fun _ => rfl) (by decide) (by decide) (Nat.le_of_ble_eq_true rfl) 2 48 (Nat.le_of_ble_eq_true rfl) (Nat.le_of_ble_eq_true rfl) ⟨Nat.le_of_ble_eq_true rfl, Nat.le_of_ble_eq_true rfl⟩ dX6_init_15 (fun q_3 H hP hD hS => ?_)
  obtain ⟨X_4, hX_4⟩ : ∃ Z : va_W, Z = X_2 ++ [(q_3, .inl (cy 1, 24, .inl (fun _ => 0)))] := ⟨_, rfl⟩
  have hP : va_P D vwCl ((h0, .inr (6, [.ref q_1, .null, .null, .null, .int 0, .int 0, .int 0, .int 0, .null, .null, .int 0, .null, .null])) :: X_4) H := by rw [hX_4]; exact hP
  have hD : va_D As ((h0, .inr (6, [.ref q_1, .null, .null, .null, .int 0, .int 0, .int 0, .int 0, .null, .null, .int 0, .null, .null])) :: X_4) := by rw [hX_4]; exact hD
  refine va_putF (D := D) (ci := 6) (v := .ref q_3) (ty := (.array .int)) (C := RX6) (T := TX6) (N := 13) hx hb hts iw_6 tyX6 tyX6_ok nmX6 hown hK hP hD hS 0 rfl rfl 1 (by decide) (hts _ fl_X6_15) (fun _ h9 => h9) rfl hin rfl (by decide +kernel) rfl rfl (Nat.le_of_ble_eq_true rfl) dX6_init_17 (fun H locs hP hD hS => ?_)
  have hP : va_P D vwCl ((h0, .inr (6, [.ref q_1, .ref q_3, .null, .null, .int 0, .int 0, .int 0, .int 0, .null, .null, .int 0, .null, .null])) :: X_4) H := hP
  have hD : va_D As ((h0, .inr (6, [.ref q_1, .ref q_3, .null, .null, .int 0, .int 0, .int 0, .int 0, .null, .null, .int 0, .null, .null])) :: X_4) := hD
  refine lv_aload_n hx hb dX6_init_20 rfl (lv_at hl 0 rfl) ?_
  refine lv_bipush (v := 24) hx hb dX6_init_21 (by decide) ?_
  refine ti_nA (atype := .int) (a0 := (24, .inl (fun _ => 0))) 1 C ac_int rfl (fun C h => by cases h) rfl hP hD hS hA (fun _ => rfl) (by decide) (by decide) (Nat.le_of_ble_eq_true rfl) 3 72 (Nat.le_of_ble_eq_true rfl) (Nat.le_of_ble_eq_true rfl) ⟨Nat.le_of_ble_eq_true rfl, Nat.le_of_ble_eq_true rfl⟩ dX6_init_23 (fun q_5 H hP hD hS => ?_)
  obtain ⟨X_6, hX_6⟩ : ∃ Z : va_W, Z = X_4 ++ [(q_5, .inl (cy 1, 24, .inl (fun _ => 0)))] := ⟨_, rfl⟩
  have hP : va_P D vwCl ((h0, .inr (6, [.ref q_1, .ref q_3, .null, .null, .int 0, .int 0, .int 0, .int 0, .null, .null, .int 0, .null, .null])) :: X_6) H := by rw [hX_6]; exact hP
  have hD : va_D As ((h0, .inr (6, [.ref q_1, .ref q_3, .null, .null, .int 0, .int 0, .int 0, .int 0, .null, .null, .int 0, .null, .null])) :: X_6) := by rw [hX_6]; exact hD
  refine va_putF (D := D) (ci := 6) (v := .ref q_5) (ty := (.array .int)) (C := RX6) (T := TX6) (N := 13) hx hb hts iw_6 tyX6 tyX6_ok nmX6 hown hK hP hD hS 0 rfl rfl 2 (by decide) (hts _ fl_X6_18) (fun _ h9 => h9) rfl hin rfl (by decide +kernel) rfl rfl (Nat.le_of_ble_eq_true rfl) dX6_init_25 (fun H locs hP hD hS => ?_)
  have hP : va_P D vwCl ((h0, .inr (6, [.ref q_1, .ref q_3, .ref q_5, .null, .int 0, .int 0, .int 0, .int 0, .null, .null, .int 0, .null, .null])) :: X_6) H := hP
  have hD : va_D As ((h0, .inr (6, [.ref q_1, .ref q_3, .ref q_5, .null, .int 0, .int 0, .int 0, .int 0, .null, .null, .int 0, .null, .null])) :: X_6) := hD
  refine lv_aload_n hx hb dX6_init_28 rfl (lv_at hl 0 rfl) ?_
  refine lv_bipush (v := 24) hx hb dX6_init_29 (by decide) ?_
  refine ti_nA (atype := .int) (a0 := (24, .inl (fun _ => 0))) 1 C ac_int rfl (fun C h => by cases h) rfl hP hD hS hA (fun _ => rfl) (by decide) (by decide) (Nat.le_of_ble_eq_true rfl) 4 96 (Nat.le_of_ble_eq_true rfl) (Nat.le_of_ble_eq_true rfl) ⟨Nat.le_of_ble_eq_true rfl, Nat.le_of_ble_eq_true rfl⟩ dX6_init_31 (fun q_7 H hP hD hS => ?_)
  obtain ⟨X_8, hX_8⟩ : ∃ Z : va_W, Z = X_6 ++ [(q_7, .inl (cy 1, 24, .inl (fun _ => 0)))] := ⟨_, rfl⟩
  have hP : va_P D vwCl ((h0, .inr (6, [.ref q_1, .ref q_3, .ref q_5, .null, .int 0, .int 0, .int 0, .int 0, .null, .null, .int 0, .null, .null])) :: X_8) H := by rw [hX_8]; exact hP
  have hD : va_D As ((h0, .inr (6, [.ref q_1, .ref q_3, .ref q_5, .null, .int 0, .int 0, .int 0, .int 0, .null, .null, .int 0, .null, .null])) :: X_8) := by rw [hX_8]; exact hD
  refine va_putF (D := D) (ci := 6) (v := .ref q_7) (ty := (.array .int)) (C := RX6) (T := TX6) (N := 13) hx hb hts iw_6 tyX6 tyX6_ok nmX6 hown hK hP hD hS 0 rfl rfl 3 (by decide) (hts _ fl_X6_21) (fun _ h9 => h9) rfl hin rfl (by decide +kernel) rfl rfl (Nat.le_of_ble_eq_true rfl) dX6_init_33 (fun H locs hP hD hS => ?_)
  have hP : va_P D vwCl ((h0, .inr (6, [.ref q_1, .ref q_3, .ref q_5, .ref q_7, .int 0, .int 0, .int 0, .int 0, .null, .null, .int 0, .null, .null])) :: X_8) H := hP
  have hD : va_D As ((h0, .inr (6, [.ref q_1, .ref q_3, .ref q_5, .ref q_7, .int 0, .int 0, .int 0, .int 0, .null, .null, .int 0, .null, .null])) :: X_8) := hD
  refine lv_aload_n hx hb dX6_init_36 rfl (lv_at hl 0 rfl) ?_
  refine lv_iconst (v := 0) hx hb dX6_init_37 (by decide) ?_
  refine va_put (D := D) (ci := 6) (v := .int 0) (ty := .int) (C := RX6) (T := TX6) (N := 13) hx hb hts iw_6 tyX6 tyX6_ok nmX6 hown hK hP hD hS 0 rfl rfl 4 (by decide) (hts _ fl_X6_24) (fun _ h9 => h9) rfl (by decide +kernel) rfl rfl (Nat.le_of_ble_eq_true rfl) dX6_init_38 (fun H locs hP hD hS => ?_)
  have hP : va_P D vwCl ((h0, .inr (6, [.ref q_1, .ref q_3, .ref q_5, .ref q_7, .int 0, .int 0, .int 0, .int 0, .null, .null, .int 0, .null, .null])) :: X_8) H := hP
  have hD : va_D As ((h0, .inr (6, [.ref q_1, .ref q_3, .ref q_5, .ref q_7, .int 0, .int 0, .int 0, .int 0, .null, .null, .int 0, .null, .null])) :: X_8) := hD
  refine lv_aload_n hx hb dX6_init_41 rfl (lv_at hl 0 rfl) ?_
  refine lv_iconst (v := 0) hx hb dX6_init_42 (by decide) ?_
  refine va_put (D := D) (ci := 6) (v := .int 0) (ty := .int) (C := RX6) (T := TX6) (N := 13) hx hb hts iw_6 tyX6 tyX6_ok nmX6 hown hK hP hD hS 0 rfl rfl 5 (by decide) (hts _ fl_X6_28) (fun _ h9 => h9) rfl (by decide +kernel) rfl rfl (Nat.le_of_ble_eq_true rfl) dX6_init_43 (fun H locs hP hD hS => ?_)
  have hP : va_P D vwCl ((h0, .inr (6, [.ref q_1, .ref q_3, .ref q_5, .ref q_7, .int 0, .int 0, .int 0, .int 0, .null, .null, .int 0, .null, .null])) :: X_8) H := hP
  have hD : va_D As ((h0, .inr (6, [.ref q_1, .ref q_3, .ref q_5, .ref q_7, .int 0, .int 0, .int 0, .int 0, .null, .null, .int 0, .null, .null])) :: X_8) := hD
  refine lv_aload_n hx hb dX6_init_46 rfl (lv_at hl 0 rfl) ?_
  refine lv_iconst (v := (-1)) hx hb dX6_init_47 (by decide) ?_
  refine va_put (D := D) (ci := 6) (v := .int (-1)) (ty := .int) (C := RX6) (T := TX6) (N := 13) hx hb hts iw_6 tyX6 tyX6_ok nmX6 hown hK hP hD hS 0 rfl rfl 6 (by decide) (hts _ fl_X6_31) (fun _ h9 => h9) rfl (by decide +kernel) rfl rfl (Nat.le_of_ble_eq_true rfl) dX6_init_48 (fun H locs hP hD hS => ?_)
  have hP : va_P D vwCl ((h0, .inr (6, [.ref q_1, .ref q_3, .ref q_5, .ref q_7, .int 0, .int 0, .int (-1), .int 0, .null, .null, .int 0, .null, .null])) :: X_8) H := hP
  have hD : va_D As ((h0, .inr (6, [.ref q_1, .ref q_3, .ref q_5, .ref q_7, .int 0, .int 0, .int (-1), .int 0, .null, .null, .int 0, .null, .null])) :: X_8) := hD
  refine lv_aload_n hx hb dX6_init_51 rfl (lv_at hl 0 rfl) ?_
  refine lv_iconst (v := 0) hx hb dX6_init_52 (by decide) ?_
  refine va_put (D := D) (ci := 6) (v := .int 0) (ty := .boolean) (C := RX6) (T := TX6) (N := 13) hx hb hts iw_6 tyX6 tyX6_ok nmX6 hown hK hP hD hS 0 rfl rfl 7 (by decide) (hts _ fl_X6_34) (fun _ h9 => h9) rfl (by decide +kernel) rfl rfl (Nat.le_of_ble_eq_true rfl) dX6_init_53 (fun H locs hP hD hS => ?_)
  have hP : va_P D vwCl ((h0, .inr (6, [.ref q_1, .ref q_3, .ref q_5, .ref q_7, .int 0, .int 0, .int (-1), .int 0, .null, .null, .int 0, .null, .null])) :: X_8) H := hP
  have hD : va_D As ((h0, .inr (6, [.ref q_1, .ref q_3, .ref q_5, .ref q_7, .int 0, .int 0, .int (-1), .int 0, .null, .null, .int 0, .null, .null])) :: X_8) := hD
  refine lv_aload_n hx hb dX6_init_56 rfl (lv_at hl 0 rfl) ?_
  refine lv_sipush (v := 480) hx hb dX6_init_57 (by decide) ?_
  refine ti_nA (atype := .int) (a0 := (480, .inl (fun _ => 0))) 1 C ac_int rfl (fun C h => by cases h) rfl hP hD hS hA (fun _ => rfl) (by decide) (by decide) (Nat.le_of_ble_eq_true rfl) 5 576 (Nat.le_of_ble_eq_true rfl) (Nat.le_of_ble_eq_true rfl) ⟨Nat.le_of_ble_eq_true rfl, Nat.le_of_ble_eq_true rfl⟩ dX6_init_60 (fun q_9 H hP hD hS => ?_)
  obtain ⟨X_10, hX_10⟩ : ∃ Z : va_W, Z = X_8 ++ [(q_9, .inl (cy 1, 480, .inl (fun _ => 0)))] := ⟨_, rfl⟩
  have hP : va_P D vwCl ((h0, .inr (6, [.ref q_1, .ref q_3, .ref q_5, .ref q_7, .int 0, .int 0, .int (-1), .int 0, .null, .null, .int 0, .null, .null])) :: X_10) H := by rw [hX_10]; exact hP
  have hD : va_D As ((h0, .inr (6, [.ref q_1, .ref q_3, .ref q_5, .ref q_7, .int 0, .int 0, .int (-1), .int 0, .null, .null, .int 0, .null, .null])) :: X_10) := by rw [hX_10]; exact hD
  refine va_putF (D := D) (ci := 6) (v := .ref q_9) (ty := (.array .int)) (C := RX6) (T := TX6) (N := 13) hx hb hts iw_6 tyX6 tyX6_ok nmX6 hown hK hP hD hS 0 rfl rfl 8 (by decide) (hts _ fl_X6_38) (fun _ h9 => h9) rfl hin rfl (by decide +kernel) rfl rfl (Nat.le_of_ble_eq_true rfl) dX6_init_62 (fun H locs hP hD hS => ?_)
  have hP : va_P D vwCl ((h0, .inr (6, [.ref q_1, .ref q_3, .ref q_5, .ref q_7, .int 0, .int 0, .int (-1), .int 0, .ref q_9, .null, .int 0, .null, .null])) :: X_10) H := hP
  have hD : va_D As ((h0, .inr (6, [.ref q_1, .ref q_3, .ref q_5, .ref q_7, .int 0, .int 0, .int (-1), .int 0, .ref q_9, .null, .int 0, .null, .null])) :: X_10) := hD
  refine lv_aload_n hx hb dX6_init_65 rfl (lv_at hl 0 rfl) ?_
  refine lv_sipush (v := 480) hx hb dX6_init_66 (by decide) ?_
  refine ti_nA (atype := .int) (a0 := (480, .inl (fun _ => 0))) 1 C ac_int rfl (fun C h => by cases h) rfl hP hD hS hA (fun _ => rfl) (by decide) (by decide) (Nat.le_of_ble_eq_true rfl) 6 1056 (Nat.le_of_ble_eq_true rfl) (Nat.le_of_ble_eq_true rfl) ⟨Nat.le_of_ble_eq_true rfl, Nat.le_of_ble_eq_true rfl⟩ dX6_init_69 (fun q_11 H hP hD hS => ?_)
  obtain ⟨X_12, hX_12⟩ : ∃ Z : va_W, Z = X_10 ++ [(q_11, .inl (cy 1, 480, .inl (fun _ => 0)))] := ⟨_, rfl⟩
  have hP : va_P D vwCl ((h0, .inr (6, [.ref q_1, .ref q_3, .ref q_5, .ref q_7, .int 0, .int 0, .int (-1), .int 0, .ref q_9, .null, .int 0, .null, .null])) :: X_12) H := by rw [hX_12]; exact hP
  have hD : va_D As ((h0, .inr (6, [.ref q_1, .ref q_3, .ref q_5, .ref q_7, .int 0, .int 0, .int (-1), .int 0, .ref q_9, .null, .int 0, .null, .null])) :: X_12) := by rw [hX_12]; exact hD
  refine va_putF (D := D) (ci := 6) (v := .ref q_11) (ty := (.array .int)) (C := RX6) (T := TX6) (N := 13) hx hb hts iw_6 tyX6 tyX6_ok nmX6 hown hK hP hD hS 0 rfl rfl 9 (by decide) (hts _ fl_X6_41) (fun _ h9 => h9) rfl hin rfl (by decide +kernel) rfl rfl (Nat.le_of_ble_eq_true rfl) dX6_init_71 (fun H locs hP hD hS => ?_)
  have hP : va_P D vwCl ((h0, .inr (6, [.ref q_1, .ref q_3, .ref q_5, .ref q_7, .int 0, .int 0, .int (-1), .int 0, .ref q_9, .ref q_11, .int 0, .null, .null])) :: X_12) H := hP
  have hD : va_D As ((h0, .inr (6, [.ref q_1, .ref q_3, .ref q_5, .ref q_7, .int 0, .int 0, .int (-1), .int 0, .ref q_9, .ref q_11, .int 0, .null, .null])) :: X_12) := hD
  refine lv_aload_n hx hb dX6_init_74 rfl (lv_at hl 0 rfl) ?_
  refine lv_iconst (v := 0) hx hb dX6_init_75 (by decide) ?_
  refine va_put (D := D) (ci := 6) (v := .int 0) (ty := .int) (C := RX6) (T := TX6) (N := 13) hx hb hts iw_6 tyX6 tyX6_ok nmX6 hown hK hP hD hS 0 rfl rfl 10 (by decide) (hts _ fl_X6_44) (fun _ h9 => h9) rfl (by decide +kernel) rfl rfl (Nat.le_of_ble_eq_true rfl) dX6_init_76 (fun H locs hP hD hS => ?_)
  have hP : va_P D vwCl ((h0, .inr (6, [.ref q_1, .ref q_3, .ref q_5, .ref q_7, .int 0, .int 0, .int (-1), .int 0, .ref q_9, .ref q_11, .int 0, .null, .null])) :: X_12) H := hP
  have hD : va_D As ((h0, .inr (6, [.ref q_1, .ref q_3, .ref q_5, .ref q_7, .int 0, .int 0, .int (-1), .int 0, .ref q_9, .ref q_11, .int 0, .null, .null])) :: X_12) := hD
  refine lv_aload_n hx hb dX6_init_79 rfl (lv_at hl 0 rfl) ?_
  refine ti_nO (ci := 3) (fs := [.null, .int 0, .int 0, .int 0, .int 0, .int 0, .null, .null, .null, .null, .null, .null, .null, .null, .null, .null, .null]) (T := TX3) (N := 17) tyX3 tyX3_ok C iw_3 ck_X6_47 is_X3 in_X3 rfl hP hD hS hA nf_3 7 1073 (Nat.le_of_ble_eq_true rfl) (Nat.le_of_ble_eq_true rfl) ⟨Nat.le_of_ble_eq_true rfl, Nat.le_of_ble_eq_true rfl⟩ dX6_init_80 (fun q_13 H hP hD hS => ?_)
  refine lv_dup hx hb dX6_init_83 rfl ?_
  refine ti_callCN C (k_X3_init l D cy q_13 H.size) (nl_X6_49 hN) rfl ym_X3_init yi_X3_init yc_X3_init yd_X3_init hP hD hS hA hl.1 (Nat.le_of_ble_eq_true rfl) ⟨by decide, by decide⟩ 18 1156 (Nat.le_of_ble_eq_true rfl) (Nat.le_of_ble_eq_true rfl) ⟨Nat.le_of_ble_eq_true rfl, Nat.le_of_ble_eq_true rfl⟩ dX6_init_84 (fun u_14 H locs hp_14 hPn hDn hSn => ?_)
  obtain rfl := hp_14
  obtain ⟨X_15, hX_15⟩ : ∃ Z : va_W, Z = X_12 ++ ti_qb cy u_14 := ⟨_, rfl⟩
  have hP : va_P D vwCl ((h0, .inr (6, [.ref q_1, .ref q_3, .ref q_5, .ref q_7, .int 0, .int 0, .int (-1), .int 0, .ref q_9, .ref q_11, .int 0, .null, .null])) :: X_15) H := by rw [hX_15]; exact hPn
  have hD : va_D As ((h0, .inr (6, [.ref q_1, .ref q_3, .ref q_5, .ref q_7, .int 0, .int 0, .int (-1), .int 0, .ref q_9, .ref q_11, .int 0, .null, .null])) :: X_15) := by rw [hX_15]; exact hDn
  have hS := hSn
  refine va_putF (D := D) (ci := 6) (v := .ref (u_14 0)) (ty := (.object "ThirdInLine$Queue")) (C := RX6) (T := TX6) (N := 13) hx hb hts iw_6 tyX6 tyX6_ok nmX6 hown hK hP hD hS 0 rfl rfl 11 (by decide) (hts _ fl_X6_50) (fun _ h9 => h9) rfl hin rfl (by decide +kernel) rfl rfl (Nat.le_of_ble_eq_true rfl) dX6_init_87 (fun H locs hP hD hS => ?_)
  have hP : va_P D vwCl ((h0, .inr (6, [.ref q_1, .ref q_3, .ref q_5, .ref q_7, .int 0, .int 0, .int (-1), .int 0, .ref q_9, .ref q_11, .int 0, .ref (u_14 0), .null])) :: X_15) H := hP
  have hD : va_D As ((h0, .inr (6, [.ref q_1, .ref q_3, .ref q_5, .ref q_7, .int 0, .int 0, .int (-1), .int 0, .ref q_9, .ref q_11, .int 0, .ref (u_14 0), .null])) :: X_15) := hD
  refine lv_aload_n hx hb dX6_init_90 rfl (lv_at hl 0 rfl) ?_
  refine ti_nO (ci := 3) (fs := [.null, .int 0, .int 0, .int 0, .int 0, .int 0, .null, .null, .null, .null, .null, .null, .null, .null, .null, .null, .null]) (T := TX3) (N := 17) tyX3 tyX3_ok C iw_3 ck_X6_47 is_X3 in_X3 rfl hP hD hS hA nf_3 19 1173 (Nat.le_of_ble_eq_true rfl) (Nat.le_of_ble_eq_true rfl) ⟨Nat.le_of_ble_eq_true rfl, Nat.le_of_ble_eq_true rfl⟩ dX6_init_91 (fun q_16 H hP hD hS => ?_)
  refine lv_dup hx hb dX6_init_94 rfl ?_
  refine ti_callCN C (k_X3_init l D cy q_16 H.size) (nl_X6_49 hN) rfl ym_X3_init yi_X3_init yc_X3_init yd_X3_init hP hD hS hA hl.1 (Nat.le_of_ble_eq_true rfl) ⟨by decide, by decide⟩ 30 1256 (Nat.le_of_ble_eq_true rfl) (Nat.le_of_ble_eq_true rfl) ⟨Nat.le_of_ble_eq_true rfl, Nat.le_of_ble_eq_true rfl⟩ dX6_init_95 (fun u_17 H locs hp_17 hPn hDn hSn => ?_)
  obtain rfl := hp_17
  obtain ⟨X_18, hX_18⟩ : ∃ Z : va_W, Z = X_15 ++ ti_qb cy u_17 := ⟨_, rfl⟩
  have hP : va_P D vwCl ((h0, .inr (6, [.ref q_1, .ref q_3, .ref q_5, .ref q_7, .int 0, .int 0, .int (-1), .int 0, .ref q_9, .ref q_11, .int 0, .ref (u_14 0), .null])) :: X_18) H := by rw [hX_18]; exact hPn
  have hD : va_D As ((h0, .inr (6, [.ref q_1, .ref q_3, .ref q_5, .ref q_7, .int 0, .int 0, .int (-1), .int 0, .ref q_9, .ref q_11, .int 0, .ref (u_14 0), .null])) :: X_18) := by rw [hX_18]; exact hDn
  have hS := hSn
  refine va_putF (D := D) (ci := 6) (v := .ref (u_17 0)) (ty := (.object "ThirdInLine$Queue")) (C := RX6) (T := TX6) (N := 13) hx hb hts iw_6 tyX6 tyX6_ok nmX6 hown hK hP hD hS 0 rfl rfl 12 (by decide) (hts _ fl_X6_54) (fun _ h9 => h9) rfl hin rfl (by decide +kernel) rfl rfl (Nat.le_of_ble_eq_true rfl) dX6_init_98 (fun H locs hP hD hS => ?_)
  have hP : va_P D vwCl ((h0, .inr (6, [.ref q_1, .ref q_3, .ref q_5, .ref q_7, .int 0, .int 0, .int (-1), .int 0, .ref q_9, .ref q_11, .int 0, .ref (u_14 0), .ref (u_17 0)])) :: X_18) H := hP
  have hD : va_D As ((h0, .inr (6, [.ref q_1, .ref q_3, .ref q_5, .ref q_7, .int 0, .int 0, .int (-1), .int 0, .ref q_9, .ref q_11, .int 0, .ref (u_14 0), .ref (u_17 0)])) :: X_18) := hD
  refine W.widen (k := 30) (n := 1256) (Nat.le_of_ble_eq_true rfl) (Nat.le_of_ble_eq_true rfl) ?_
  simp only [hX_18, hX_15, hX_12, hX_10, hX_8, hX_6, hX_4, hX_2, List.nil_append, List.append_assoc, List.cons_append] at hP hD
  exact hQ ((fun j : Nat => if j = 0 then h0 else if j = 1 then q_1 else if j = 2 then q_3 else if j = 3 then q_5 else if j = 4 then q_7 else if j = 9 then q_9 else if j = 10 then q_11 else 0), u_14, u_17) _ _ _ _ rfl hP hD hS dX6_init_101
end

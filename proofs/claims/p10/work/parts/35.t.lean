variable {Tc : gC} {Tm : gM}
/-- a row's upper half goes to its lower one -/
def hs (k h : Nat) (N M : ti_M) (i : Int) : Prop := 0 ≤ i ∧ (∀ x : Nat, (x : Int) < i → tY N 60 k x = tY M 60 k (h + x)) ∧ (∀ x : Nat, i ≤ (x : Int) → tY N 60 k x = tY M 60 k x) ∧ (∀ k2, k2 ≠ k → tY N 60 k2 = tY M 60 k2) ∧ (∀ k2, tI N 60 k2 = tI M 60 k2)
theorem hs_0 {k h : Nat} {M : ti_M} : hs k h M M 0 := ⟨Int.le_refl _, fun x hx => absurd hx (by omega), fun _ _ => rfl, fun _ _ => rfl, fun _ => rfl⟩
theorem hs_s {k h a b : Nat} {G N M : ti_M} {v : Int32} {i i2 : Int} (p : hs k h G M i) (e : N = uY G 60 k (upd (tY G 60 k) a v)) (ha : (a : Int) = i) (hv : tY G 60 k b = v) (hb : b = h + a) (h2 : i2 = i + 1) (hlt : i ≤ (h : Int)) : hs k h N M i2 := by
  obtain ⟨p0, p1, p2, p3, p4⟩ := p
  refine ⟨by omega, fun x hx => ?_, fun x hx => ?_, fun k2 hk => (tY_nE e (nk hk)).trans (p3 k2 hk), fun k2 => (tI_uYE e).trans (p4 k2)⟩
  · rw [tY_uE e]
    by_cases q : x = a
    · subst q; rw [pk_us, ← hv, hb]; exact p2 _ (by omega)
    · rw [pk_un q]; exact p1 x (by omega)
  · rw [tY_uE e, pk_un (by omega)]; exact p2 x (by omega)
def hv (k h : Nat) (N M : ti_M) : Prop := (∀ k2, k2 ≠ k → tY N 60 k2 = tY M 60 k2) ∧ (∀ i : Nat, i < h → tY N 60 k i = tY M 60 k (h + i)) ∧ (∀ k2, tI N 60 k2 = tI M 60 k2)
theorem hv_s {k h : Nat} {N M : ti_M} {i : Int} (p : hs k h N M i) (e : i = (h : Int)) : hv k h N M := ⟨p.2.2.2.1, fun x hx => p.2.1 x (by omega), p.2.2.2.2⟩
theorem bn_h {v : Int32} (i : Nat) (hi : i < 11) (h : mBN (11 + i) v) : mBN i v := by
  obtain rfl | rfl | rfl | rfl | rfl | rfl | rfl | rfl | rfl | rfl | rfl : i = 0 ∨ i = 1 ∨ i = 2 ∨ i = 3 ∨ i = 4 ∨ i = 5 ∨ i = 6 ∨ i = 7 ∨ i = 8 ∨ i = 9 ∨ i = 10 := by omega
  all_goals exact h
theorem bn_g {G : ti_M} {v : Int32} {a b : Nat} (hG : mI Tm G) (hv : tY G 60 3 b = v) (hb : b = 11 + a) (ha : a < 11) : mBY 3 a v := by
  have h := hG.2.1 3 b
  rw [hv] at h
  subst hb
  exact bn_h a ha h
theorem mL_hv {G N : ti_M} (hG : mI Tm G) (u : mU G) (e14 : ∀ i : Nat, i < 3 → tY N 60 14 i = tY G 60 14 (3 + i)) (e15 : ∀ i : Nat, i < 3 → tY N 60 15 i = tY G 60 15 (3 + i)) (e16 : ∀ i : Nat, i < 64 → tY N 60 16 i = tY G 60 16 (64 + i)) (e17 : ∀ i : Nat, i < 64 → tY N 60 17 i = tY G 60 17 (64 + i)) : mL N := by
  intro j hj a n h1 h2
  obtain ⟨a2, n2, d, g1, g2, g3, g4⟩ := u j hj
  rw [e14 j hj] at h1
  rw [e15 j hj] at h2
  obtain rfl : a = a2 := by omega
  obtain rfl : n = n2 := by omega
  have := b18 hG
  refine ⟨d, ?_⟩
  rw [← g4]
  unfold ud
  exact dp_ext n (fun x hx => ⟨e16 _ (by omega), e17 _ (by omega)⟩)
theorem mF_st {N X : ti_M} (hI : mI Tm N) (hL : mL X) (r : rq 0 N X) (c : mC N 0) (p : mP N 0) (h1 : tI X 60 51 = 0) (h2 : tI X 60 52 = 0) : mF Tm N := by
  have z : (0 : Int32).toInt = 0 := by decide
  refine ⟨hI, mL_lw r.1 hL, ⟨c, p⟩, fun h => absurd ?_ h, fun k hk => absurd hk ?_⟩
  · rw [r.2.1.2.1, h1]; exact z
  · rw [r.2.1.2.2, h2, z]; omega
/-- what text leaves while it reads -/
def lx (N M : ti_M) : Prop := (∀ k, (k < 3 ∨ 17 < k) → tY N 60 k = tY M 60 k) ∧ (∀ i, (i < 11 → tY N 60 3 i = tY M 60 3 i) ∧ (i < 8 → tY N 60 4 i = tY M 60 4 i)) ∧ (∀ i, i < 3 → tY N 60 14 i = tY M 60 14 i ∧ tY N 60 15 i = tY M 60 15 i) ∧ (∀ i, i < 64 → tY N 60 16 i = tY M 60 16 i ∧ tY N 60 17 i = tY M 60 17 i) ∧ (∀ k, 30 < k → tI N 60 k = tI M 60 k)
theorem lx_ln {N M : ti_M} (x : ln N M) : lx N M := ⟨x.1, x.2.1, x.2.2.1, x.2.2.2.1, fun k h => x.2.2.2.2 k (by omega)⟩
theorem lx.refl {M : ti_M} : lx M M := lx_ln ln.refl
theorem lx.trans {K N M : ti_M} (x : lx K N) (y : lx N M) : lx K M := ⟨fun k h => (x.1 k h).trans (y.1 k h), fun k => ⟨fun h => ((x.2.1 k).1 h).trans ((y.2.1 k).1 h), fun h => ((x.2.1 k).2 h).trans ((y.2.1 k).2 h)⟩, fun k h => ⟨(x.2.2.1 k h).1.trans (y.2.2.1 k h).1, (x.2.2.1 k h).2.trans (y.2.2.1 k h).2⟩, fun k h => ⟨(x.2.2.2.1 k h).1.trans (y.2.2.2.1 k h).1, (x.2.2.2.1 k h).2.trans (y.2.2.2.1 k h).2⟩, fun k h => (x.2.2.2.2 k h).trans (y.2.2.2.2 k h)⟩
theorem lx_I {k : Nat} {N M : ti_M} {v : Int32} (e : N = uI M 60 k v) (h : k ≤ 30) : lx N M := ⟨fun _ _ => tY_uIE e, fun _ => ⟨fun _ => by rw [tY_uIE e], fun _ => by rw [tY_uIE e]⟩, fun _ _ => ⟨by rw [tY_uIE e], by rw [tY_uIE e]⟩, fun _ _ => ⟨by rw [tY_uIE e], by rw [tY_uIE e]⟩, fun k2 h2 => tI_nE e (nk (by omega))⟩
theorem mF_self {M : ti_M} (h : mF Tm M) : mF (mG M) M := ⟨mI_self h.1, h.2⟩
theorem mF_lx {N M : ti_M} {Tn : gM} (h : mF Tn M) (hI : mI Tm N) (x : lx N M) : mF Tm N := by
  obtain ⟨hM, hL, h1, h3, h4⟩ := h
  have g : ∀ q, mC M q ∧ mP M q → mC N q ∧ mP N q := fun q p => by
    unfold mC mP at *
    rw [x.1 38 (by decide), x.1 39 (by decide), x.1 40 (by decide), (x.2.1 0).1 (by decide)]; exact p
  refine ⟨hI, ?_, g 0 h1, ?_, ?_⟩
  · intro j hj a n e1 e2
    rw [(x.2.2.1 j hj).1] at e1
    rw [(x.2.2.1 j hj).2] at e2
    have b : ib 0 64 (tY M 60 15 j) := hM.2.1 15 j
    have b2 := b.2
    obtain ⟨d, hd⟩ := hL j hj a n e1 e2
    exact ⟨d, by rw [← hd]; exact dp_ext n (fun y hy => x.2.2.2.1 (a + y) (by omega))⟩
  · rw [x.2.2.2.2 51 (by decide)]; exact fun p => g 2 (h3 p)
  · rw [x.2.2.2.2 52 (by decide)]; exact fun k hk => g _ (h4 k hk)
theorem um_0 {M : ti_M} (hI : mI Tm M) (a0 : tY M 60 14 3 = 0) (a1 : tY M 60 14 4 = 0) (a2 : tY M 60 14 5 = 0) (b0 : tY M 60 15 3 = 0) (b1 : tY M 60 15 4 = 0) (b2 : tY M 60 15 5 = 0) : um M := by
  have k1 := b18 hI
  refine Or.inr (fun j hj => ⟨0, 0, 0, ?_, ?_, by omega, rfl⟩)
  · obtain rfl | rfl | rfl : j = 0 ∨ j = 1 ∨ j = 2 := by omega
    · rw [a0]; decide
    · rw [a1]; decide
    · rw [a2]; decide
  · obtain rfl | rfl | rfl : j = 0 ∨ j = 1 ∨ j = 2 := by omega
    · rw [b0]; decide
    · rw [b1]; decide
    · rw [b2]; decide
theorem b21 {M : ti_M} (h : mI Tm M) : 0 ≤ (tI M 60 21).toInt ∧ (tI M 60 21).toInt ≤ 700 := h.1 21
set_option maxHeartbeats 4000000 in
set_option maxRecDepth 100000 in
theorem s_X10_half_3 (l : Launch) (D : va_G) (A : Nat → Nat → Nat) (cy : Nat → ClassId) (hJ : ti_inj ti_LM A) (M : ti_M) (hI : mI Tm M)  : ti_Kv l yX10_half cX10_half 3 0 ti_LM D A cy M [.ref (A 60 4)] (fun M2 => mI Tm M2 ∧ hv 3 11 M2 M) := by
  refine ti_eV yp_X10_half hJ ti_LM_nd (Nat.le_of_ble_eq_true rfl) ?_
  intro p e s m args below meth c Q H0 C hQ hw ls hl
  have hx := C.1
  have hb := C.2.1
  have hl : lv_has ls 3 [(0, .ref (A 60 4))] := hl
  refine lv_aload_n hx hb dX10_half_0 rfl (lv_at hl 0 rfl) ?_
  refine ti_alen (ci := 10) (k := 3) (n := 22) (t0 := 1) (v := 22) C hw ob_60 (by decide) (fun _ _ => ⟨rfl, rfl⟩) rfl rfl dX10_half_1 ?_
  refine lv_iconst (v := 2) hx hb dX10_half_2 (by decide) ?_
  refine lv_idiv hx hb dX10_half_3 (by decide) ?_
  refine ti_top (y := 11) (by decide) ?_
  refine lv_istore_n (lv' := [(1, .int 11), (0, .ref (A 60 4))]) hx hb dX10_half_4 rfl hl (by decide) rfl (fun ls hl => ?_)
  refine lv_iconst (v := 0) hx hb dX10_half_5 (by decide) ?_
  refine lv_istore_n (lv' := [(2, .int 0), (1, .int 11), (0, .ref (A 60 4))]) hx hb dX10_half_6 rfl hl (by decide) rfl (fun ls hl => ?_)
  have hl_7_5 : ∀ (n_6 : Nat) (x_1 : Int32) (M_4 : ti_M) (H : Heap) (locs : List Loc) (ls : Array Slot), (11 - x_1.toInt : Int).toNat < n_6 → (0 ≤ x_1.toInt) → (x_1.toInt ≤ 11) → (mI Tm M_4) → (hs 3 11 M_4 M x_1.toInt) → ti_H ti_LM D A cy H0 M_4 H locs → lv_has ls 3 [(2, .int x_1), (1, .int 11), (0, .ref (A 60 4))] → W p l e (ti_rm 0) s m args below meth c H locs 0 0 Q (F0 m 7 ls []) := by
    intro n_6
    induction n_6 with
    | zero => intro x_1 M_4 H locs ls hf_6; exact absurd hf_6 (Nat.not_lt_zero _)
    | succ n_6 ih_6 =>
      intro x_1 M_4 H locs ls hf_6 b_2 b_3 iM_4 j_5 hw hl
      refine lv_iload_n hx hb dX10_half_7 rfl (lv_at hl 0 rfl) ?_
      refine lv_iload_n hx hb dX10_half_8 rfl (lv_at hl 1 rfl) ?_
      refine sb_icmp_ge (tgt := 26) hx hb rfl (by decide : (11 : Int32).toInt = 11) dX10_half_9 (by decide) (fun c_9_6 => ?_) (fun c_9_6 => ?_)
      · exact hQ _ _ _ _ _ hw (⟨iM_4, hv_s j_5 (by omega)⟩) dX10_half_26
      · refine lv_aload_n hx hb dX10_half_12 rfl (lv_at hl 2 rfl) ?_
        refine lv_iload_n hx hb dX10_half_13 rfl (lv_at hl 0 rfl) ?_
        refine lv_aload_n hx hb dX10_half_14 rfl (lv_at hl 2 rfl) ?_
        refine lv_iload_n hx hb dX10_half_15 rfl (lv_at hl 1 rfl) ?_
        refine lv_iload_n hx hb dX10_half_16 rfl (lv_at hl 0 rfl) ?_
        refine lv_iadd hx hb dX10_half_17 ?_
        refine lv_topi (fun x_8 ex_8 => ?_)
        have tx_8 : x_8.toInt = 11 + x_1.toInt := i_add ex_8 (by decide : (11 : Int32).toInt = 11) rfl (by omega) (by omega)
        refine ti_iald (ci := 10) (k := 3) (n := 22) C hw ob_60 (by decide) (fun _ _ => rfl) (vp_in_iff.mpr (by omega)) dX10_half_18 ?_
        refine lv_topi (fun x_9 ex_9 => ?_)
        have yx_9 : tY M_4 60 3 x_8.toNatClampNeg = x_9 := (ex_9.symm)
        have zx_9 : (tY M_4 60 3 x_8.toNatClampNeg).toInt = x_9.toInt := by rw [yx_9]
        refine ti_iast (ci := 10) (k := 3) (n := 22) C hw ob_60 (by decide) (fun _ _ => rfl) (vp_in_iff.mpr (by omega)) dX10_half_19 (fun H locs hw => ?_)
        obtain ⟨M_10, hM_10⟩ : ∃ z : ti_M, z = uY M_4 60 3 (upd (tY M_4 60 3) (x_1 : Int32).toNatClampNeg x_9) := ⟨_, rfl⟩
        have hw := hw.to hM_10.symm
        have iM_10 : mI Tm M_10 := mI_up iM_4 hM_10 (bn_g iM_4 yx_9 (by show (x_8).toInt.toNat = 11 + (x_1 : Int32).toInt.toNat; omega) (by show (x_1 : Int32).toInt.toNat < 11; omega))
        obtain ⟨x_11, ex_11⟩ : ∃ z : Int32, z = x_1 + 1 := ⟨_, rfl⟩
        have tx_11 : x_11.toInt = x_1.toInt + 1 := i_add ex_11 rfl (by decide) (by omega) (by omega)
        refine lv_iinc (v := x_11) (lv' := [(2, .int x_11), (1, .int 11), (0, .ref (A 60 4))]) hx hb dX10_half_20 hl (k := 0) rfl (by rw [ex_11]; rfl) (by decide) rfl (fun ls hl => ?_)
        refine lv_goto (tgt := 7) hx hb dX10_half_23 (by decide) ?_
        exact ih_6 x_11 M_10 _ _ _ (by omega) (by first | omega | decide) (by first | omega | decide) iM_10 (hs_s (b := x_8.toNatClampNeg) j_5 hM_10 (by show (((x_1 : Int32).toInt.toNat : Nat) : Int) = (x_1 : Int32).toInt; omega) yx_9 (by show (x_8).toInt.toNat = 11 + (x_1 : Int32).toInt.toNat; omega) (by omega) (by omega)) hw (lv_sub hl [0, 1, 2] rfl)
  exact hl_7_5 ((11 - 0 : Int).toNat + 1) 0 M _ _ _ (Nat.lt_succ_self _) (by have lt0 : (0 : Int32).toInt = 0 := (by decide); first | omega | decide) (by have lt0 : (0 : Int32).toInt = 0 := (by decide); first | omega | decide) hI hs_0 hw (lv_sub hl [0, 1, 2] rfl)
set_option maxHeartbeats 4000000 in
set_option maxRecDepth 100000 in
theorem s_X10_half_4 (l : Launch) (D : va_G) (A : Nat → Nat → Nat) (cy : Nat → ClassId) (hJ : ti_inj ti_LM A) (M : ti_M) (hI : mI Tm M)  : ti_Kv l yX10_half cX10_half 3 0 ti_LM D A cy M [.ref (A 60 5)] (fun M2 => mI Tm M2 ∧ hv 4 8 M2 M) := by
  refine ti_eV yp_X10_half hJ ti_LM_nd (Nat.le_of_ble_eq_true rfl) ?_
  intro p e s m args below meth c Q H0 C hQ hw ls hl
  have hx := C.1
  have hb := C.2.1
  have hl : lv_has ls 3 [(0, .ref (A 60 5))] := hl
  refine lv_aload_n hx hb dX10_half_0 rfl (lv_at hl 0 rfl) ?_
  refine ti_alen (ci := 10) (k := 4) (n := 16) (t0 := 1) (v := 16) C hw ob_60 (by decide) (fun _ _ => ⟨rfl, rfl⟩) rfl rfl dX10_half_1 ?_
  refine lv_iconst (v := 2) hx hb dX10_half_2 (by decide) ?_
  refine lv_idiv hx hb dX10_half_3 (by decide) ?_
  refine ti_top (y := 8) (by decide) ?_
  refine lv_istore_n (lv' := [(1, .int 8), (0, .ref (A 60 5))]) hx hb dX10_half_4 rfl hl (by decide) rfl (fun ls hl => ?_)
  refine lv_iconst (v := 0) hx hb dX10_half_5 (by decide) ?_
  refine lv_istore_n (lv' := [(2, .int 0), (1, .int 8), (0, .ref (A 60 5))]) hx hb dX10_half_6 rfl hl (by decide) rfl (fun ls hl => ?_)
  have hl_7_5 : ∀ (n_6 : Nat) (x_1 : Int32) (M_4 : ti_M) (H : Heap) (locs : List Loc) (ls : Array Slot), (8 - x_1.toInt : Int).toNat < n_6 → (0 ≤ x_1.toInt) → (x_1.toInt ≤ 8) → (mI Tm M_4) → (hs 4 8 M_4 M x_1.toInt) → ti_H ti_LM D A cy H0 M_4 H locs → lv_has ls 3 [(2, .int x_1), (1, .int 8), (0, .ref (A 60 5))] → W p l e (ti_rm 0) s m args below meth c H locs 0 0 Q (F0 m 7 ls []) := by
    intro n_6
    induction n_6 with
    | zero => intro x_1 M_4 H locs ls hf_6; exact absurd hf_6 (Nat.not_lt_zero _)
    | succ n_6 ih_6 =>
      intro x_1 M_4 H locs ls hf_6 b_2 b_3 iM_4 j_5 hw hl
      refine lv_iload_n hx hb dX10_half_7 rfl (lv_at hl 0 rfl) ?_
      refine lv_iload_n hx hb dX10_half_8 rfl (lv_at hl 1 rfl) ?_
      refine sb_icmp_ge (tgt := 26) hx hb rfl (by decide : (8 : Int32).toInt = 8) dX10_half_9 (by decide) (fun c_9_6 => ?_) (fun c_9_6 => ?_)
      · exact hQ _ _ _ _ _ hw (⟨iM_4, hv_s j_5 (by omega)⟩) dX10_half_26
      · refine lv_aload_n hx hb dX10_half_12 rfl (lv_at hl 2 rfl) ?_
        refine lv_iload_n hx hb dX10_half_13 rfl (lv_at hl 0 rfl) ?_
        refine lv_aload_n hx hb dX10_half_14 rfl (lv_at hl 2 rfl) ?_
        refine lv_iload_n hx hb dX10_half_15 rfl (lv_at hl 1 rfl) ?_
        refine lv_iload_n hx hb dX10_half_16 rfl (lv_at hl 0 rfl) ?_
        refine lv_iadd hx hb dX10_half_17 ?_
        refine lv_topi (fun x_8 ex_8 => ?_)
        have tx_8 : x_8.toInt = 8 + x_1.toInt := i_add ex_8 (by decide : (8 : Int32).toInt = 8) rfl (by omega) (by omega)
        refine ti_iald (ci := 10) (k := 4) (n := 16) C hw ob_60 (by decide) (fun _ _ => rfl) (vp_in_iff.mpr (by omega)) dX10_half_18 ?_
        refine lv_topi (fun x_9 ex_9 => ?_)
        have yx_9 : tY M_4 60 4 x_8.toNatClampNeg = x_9 := (ex_9.symm)
        refine ti_iast (ci := 10) (k := 4) (n := 16) C hw ob_60 (by decide) (fun _ _ => rfl) (vp_in_iff.mpr (by omega)) dX10_half_19 (fun H locs hw => ?_)
        obtain ⟨M_10, hM_10⟩ : ∃ z : ti_M, z = uY M_4 60 4 (upd (tY M_4 60 4) (x_1 : Int32).toNatClampNeg x_9) := ⟨_, rfl⟩
        have hw := hw.to hM_10.symm
        have iM_10 : mI Tm M_10 := mI_up (i := x_1.toNatClampNeg) iM_4 hM_10 trivial
        obtain ⟨x_11, ex_11⟩ : ∃ z : Int32, z = x_1 + 1 := ⟨_, rfl⟩
        have tx_11 : x_11.toInt = x_1.toInt + 1 := i_add ex_11 rfl (by decide) (by omega) (by omega)
        refine lv_iinc (v := x_11) (lv' := [(2, .int x_11), (1, .int 8), (0, .ref (A 60 5))]) hx hb dX10_half_20 hl (k := 0) rfl (by rw [ex_11]; rfl) (by decide) rfl (fun ls hl => ?_)
        refine lv_goto (tgt := 7) hx hb dX10_half_23 (by decide) ?_
        exact ih_6 x_11 M_10 _ _ _ (by omega) (by first | omega | decide) (by first | omega | decide) iM_10 (hs_s (b := x_8.toNatClampNeg) j_5 hM_10 (by show (((x_1 : Int32).toInt.toNat : Nat) : Int) = (x_1 : Int32).toInt; omega) yx_9 (by show (x_8).toInt.toNat = 8 + (x_1 : Int32).toInt.toNat; omega) (by omega) (by omega)) hw (lv_sub hl [0, 1, 2] rfl)
  exact hl_7_5 ((8 - 0 : Int).toNat + 1) 0 M _ _ _ (Nat.lt_succ_self _) (by have lt0 : (0 : Int32).toInt = 0 := (by decide); first | omega | decide) (by have lt0 : (0 : Int32).toInt = 0 := (by decide); first | omega | decide) hI hs_0 hw (lv_sub hl [0, 1, 2] rfl)
set_option maxHeartbeats 4000000 in
set_option maxRecDepth 100000 in
theorem s_X10_half_5 (l : Launch) (D : va_G) (A : Nat → Nat → Nat) (cy : Nat → ClassId) (hJ : ti_inj ti_LM A) (M : ti_M) (hI : mI Tm M)  : ti_Kv l yX10_half cX10_half 3 0 ti_LM D A cy M [.ref (A 60 6)] (fun M2 => mI Tm M2 ∧ hv 5 8 M2 M) := by
  refine ti_eV yp_X10_half hJ ti_LM_nd (Nat.le_of_ble_eq_true rfl) ?_
  intro p e s m args below meth c Q H0 C hQ hw ls hl
  have hx := C.1
  have hb := C.2.1
  have hl : lv_has ls 3 [(0, .ref (A 60 6))] := hl
  refine lv_aload_n hx hb dX10_half_0 rfl (lv_at hl 0 rfl) ?_
  refine ti_alen (ci := 10) (k := 5) (n := 16) (t0 := 1) (v := 16) C hw ob_60 (by decide) (fun _ _ => ⟨rfl, rfl⟩) rfl rfl dX10_half_1 ?_
  refine lv_iconst (v := 2) hx hb dX10_half_2 (by decide) ?_
  refine lv_idiv hx hb dX10_half_3 (by decide) ?_
  refine ti_top (y := 8) (by decide) ?_
  refine lv_istore_n (lv' := [(1, .int 8), (0, .ref (A 60 6))]) hx hb dX10_half_4 rfl hl (by decide) rfl (fun ls hl => ?_)
  refine lv_iconst (v := 0) hx hb dX10_half_5 (by decide) ?_
  refine lv_istore_n (lv' := [(2, .int 0), (1, .int 8), (0, .ref (A 60 6))]) hx hb dX10_half_6 rfl hl (by decide) rfl (fun ls hl => ?_)
  have hl_7_5 : ∀ (n_6 : Nat) (x_1 : Int32) (M_4 : ti_M) (H : Heap) (locs : List Loc) (ls : Array Slot), (8 - x_1.toInt : Int).toNat < n_6 → (0 ≤ x_1.toInt) → (x_1.toInt ≤ 8) → (mI Tm M_4) → (hs 5 8 M_4 M x_1.toInt) → ti_H ti_LM D A cy H0 M_4 H locs → lv_has ls 3 [(2, .int x_1), (1, .int 8), (0, .ref (A 60 6))] → W p l e (ti_rm 0) s m args below meth c H locs 0 0 Q (F0 m 7 ls []) := by
    intro n_6
    induction n_6 with
    | zero => intro x_1 M_4 H locs ls hf_6; exact absurd hf_6 (Nat.not_lt_zero _)
    | succ n_6 ih_6 =>
      intro x_1 M_4 H locs ls hf_6 b_2 b_3 iM_4 j_5 hw hl
      refine lv_iload_n hx hb dX10_half_7 rfl (lv_at hl 0 rfl) ?_
      refine lv_iload_n hx hb dX10_half_8 rfl (lv_at hl 1 rfl) ?_
      refine sb_icmp_ge (tgt := 26) hx hb rfl (by decide : (8 : Int32).toInt = 8) dX10_half_9 (by decide) (fun c_9_6 => ?_) (fun c_9_6 => ?_)
      · exact hQ _ _ _ _ _ hw (⟨iM_4, hv_s j_5 (by omega)⟩) dX10_half_26
      · refine lv_aload_n hx hb dX10_half_12 rfl (lv_at hl 2 rfl) ?_
        refine lv_iload_n hx hb dX10_half_13 rfl (lv_at hl 0 rfl) ?_
        refine lv_aload_n hx hb dX10_half_14 rfl (lv_at hl 2 rfl) ?_
        refine lv_iload_n hx hb dX10_half_15 rfl (lv_at hl 1 rfl) ?_
        refine lv_iload_n hx hb dX10_half_16 rfl (lv_at hl 0 rfl) ?_
        refine lv_iadd hx hb dX10_half_17 ?_
        refine lv_topi (fun x_8 ex_8 => ?_)
        have tx_8 : x_8.toInt = 8 + x_1.toInt := i_add ex_8 (by decide : (8 : Int32).toInt = 8) rfl (by omega) (by omega)
        refine ti_iald (ci := 10) (k := 5) (n := 16) C hw ob_60 (by decide) (fun _ _ => rfl) (vp_in_iff.mpr (by omega)) dX10_half_18 ?_
        refine lv_topi (fun x_9 ex_9 => ?_)
        have yx_9 : tY M_4 60 5 x_8.toNatClampNeg = x_9 := (ex_9.symm)
        refine ti_iast (ci := 10) (k := 5) (n := 16) C hw ob_60 (by decide) (fun _ _ => rfl) (vp_in_iff.mpr (by omega)) dX10_half_19 (fun H locs hw => ?_)
        obtain ⟨M_10, hM_10⟩ : ∃ z : ti_M, z = uY M_4 60 5 (upd (tY M_4 60 5) (x_1 : Int32).toNatClampNeg x_9) := ⟨_, rfl⟩
        have hw := hw.to hM_10.symm
        have iM_10 : mI Tm M_10 := mI_up (i := x_1.toNatClampNeg) iM_4 hM_10 trivial
        obtain ⟨x_11, ex_11⟩ : ∃ z : Int32, z = x_1 + 1 := ⟨_, rfl⟩
        have tx_11 : x_11.toInt = x_1.toInt + 1 := i_add ex_11 rfl (by decide) (by omega) (by omega)
        refine lv_iinc (v := x_11) (lv' := [(2, .int x_11), (1, .int 8), (0, .ref (A 60 6))]) hx hb dX10_half_20 hl (k := 0) rfl (by rw [ex_11]; rfl) (by decide) rfl (fun ls hl => ?_)
        refine lv_goto (tgt := 7) hx hb dX10_half_23 (by decide) ?_
        exact ih_6 x_11 M_10 _ _ _ (by omega) (by first | omega | decide) (by first | omega | decide) iM_10 (hs_s (b := x_8.toNatClampNeg) j_5 hM_10 (by show (((x_1 : Int32).toInt.toNat : Nat) : Int) = (x_1 : Int32).toInt; omega) yx_9 (by show (x_8).toInt.toNat = 8 + (x_1 : Int32).toInt.toNat; omega) (by omega) (by omega)) hw (lv_sub hl [0, 1, 2] rfl)
  exact hl_7_5 ((8 - 0 : Int).toNat + 1) 0 M _ _ _ (Nat.lt_succ_self _) (by have lt0 : (0 : Int32).toInt = 0 := (by decide); first | omega | decide) (by have lt0 : (0 : Int32).toInt = 0 := (by decide); first | omega | decide) hI hs_0 hw (lv_sub hl [0, 1, 2] rfl)
set_option maxHeartbeats 4000000 in
set_option maxRecDepth 100000 in
theorem s_X10_half_6 (l : Launch) (D : va_G) (A : Nat → Nat → Nat) (cy : Nat → ClassId) (hJ : ti_inj ti_LM A) (M : ti_M) (hI : mI Tm M)  : ti_Kv l yX10_half cX10_half 3 0 ti_LM D A cy M [.ref (A 60 7)] (fun M2 => mI Tm M2 ∧ hv 6 8 M2 M) := by
  refine ti_eV yp_X10_half hJ ti_LM_nd (Nat.le_of_ble_eq_true rfl) ?_
  intro p e s m args below meth c Q H0 C hQ hw ls hl
  have hx := C.1
  have hb := C.2.1
  have hl : lv_has ls 3 [(0, .ref (A 60 7))] := hl
  refine lv_aload_n hx hb dX10_half_0 rfl (lv_at hl 0 rfl) ?_
  refine ti_alen (ci := 10) (k := 6) (n := 16) (t0 := 1) (v := 16) C hw ob_60 (by decide) (fun _ _ => ⟨rfl, rfl⟩) rfl rfl dX10_half_1 ?_
  refine lv_iconst (v := 2) hx hb dX10_half_2 (by decide) ?_
  refine lv_idiv hx hb dX10_half_3 (by decide) ?_
  refine ti_top (y := 8) (by decide) ?_
  refine lv_istore_n (lv' := [(1, .int 8), (0, .ref (A 60 7))]) hx hb dX10_half_4 rfl hl (by decide) rfl (fun ls hl => ?_)
  refine lv_iconst (v := 0) hx hb dX10_half_5 (by decide) ?_
  refine lv_istore_n (lv' := [(2, .int 0), (1, .int 8), (0, .ref (A 60 7))]) hx hb dX10_half_6 rfl hl (by decide) rfl (fun ls hl => ?_)
  have hl_7_5 : ∀ (n_6 : Nat) (x_1 : Int32) (M_4 : ti_M) (H : Heap) (locs : List Loc) (ls : Array Slot), (8 - x_1.toInt : Int).toNat < n_6 → (0 ≤ x_1.toInt) → (x_1.toInt ≤ 8) → (mI Tm M_4) → (hs 6 8 M_4 M x_1.toInt) → ti_H ti_LM D A cy H0 M_4 H locs → lv_has ls 3 [(2, .int x_1), (1, .int 8), (0, .ref (A 60 7))] → W p l e (ti_rm 0) s m args below meth c H locs 0 0 Q (F0 m 7 ls []) := by
    intro n_6
    induction n_6 with
    | zero => intro x_1 M_4 H locs ls hf_6; exact absurd hf_6 (Nat.not_lt_zero _)
    | succ n_6 ih_6 =>
      intro x_1 M_4 H locs ls hf_6 b_2 b_3 iM_4 j_5 hw hl
      refine lv_iload_n hx hb dX10_half_7 rfl (lv_at hl 0 rfl) ?_
      refine lv_iload_n hx hb dX10_half_8 rfl (lv_at hl 1 rfl) ?_
      refine sb_icmp_ge (tgt := 26) hx hb rfl (by decide : (8 : Int32).toInt = 8) dX10_half_9 (by decide) (fun c_9_6 => ?_) (fun c_9_6 => ?_)
      · exact hQ _ _ _ _ _ hw (⟨iM_4, hv_s j_5 (by omega)⟩) dX10_half_26
      · refine lv_aload_n hx hb dX10_half_12 rfl (lv_at hl 2 rfl) ?_
        refine lv_iload_n hx hb dX10_half_13 rfl (lv_at hl 0 rfl) ?_
        refine lv_aload_n hx hb dX10_half_14 rfl (lv_at hl 2 rfl) ?_
        refine lv_iload_n hx hb dX10_half_15 rfl (lv_at hl 1 rfl) ?_
        refine lv_iload_n hx hb dX10_half_16 rfl (lv_at hl 0 rfl) ?_
        refine lv_iadd hx hb dX10_half_17 ?_
        refine lv_topi (fun x_8 ex_8 => ?_)
        have tx_8 : x_8.toInt = 8 + x_1.toInt := i_add ex_8 (by decide : (8 : Int32).toInt = 8) rfl (by omega) (by omega)
        refine ti_iald (ci := 10) (k := 6) (n := 16) C hw ob_60 (by decide) (fun _ _ => rfl) (vp_in_iff.mpr (by omega)) dX10_half_18 ?_
        refine lv_topi (fun x_9 ex_9 => ?_)
        have yx_9 : tY M_4 60 6 x_8.toNatClampNeg = x_9 := (ex_9.symm)
        refine ti_iast (ci := 10) (k := 6) (n := 16) C hw ob_60 (by decide) (fun _ _ => rfl) (vp_in_iff.mpr (by omega)) dX10_half_19 (fun H locs hw => ?_)
        obtain ⟨M_10, hM_10⟩ : ∃ z : ti_M, z = uY M_4 60 6 (upd (tY M_4 60 6) (x_1 : Int32).toNatClampNeg x_9) := ⟨_, rfl⟩
        have hw := hw.to hM_10.symm
        have iM_10 : mI Tm M_10 := mI_up (i := x_1.toNatClampNeg) iM_4 hM_10 trivial
        obtain ⟨x_11, ex_11⟩ : ∃ z : Int32, z = x_1 + 1 := ⟨_, rfl⟩
        have tx_11 : x_11.toInt = x_1.toInt + 1 := i_add ex_11 rfl (by decide) (by omega) (by omega)
        refine lv_iinc (v := x_11) (lv' := [(2, .int x_11), (1, .int 8), (0, .ref (A 60 7))]) hx hb dX10_half_20 hl (k := 0) rfl (by rw [ex_11]; rfl) (by decide) rfl (fun ls hl => ?_)
        refine lv_goto (tgt := 7) hx hb dX10_half_23 (by decide) ?_
        exact ih_6 x_11 M_10 _ _ _ (by omega) (by first | omega | decide) (by first | omega | decide) iM_10 (hs_s (b := x_8.toNatClampNeg) j_5 hM_10 (by show (((x_1 : Int32).toInt.toNat : Nat) : Int) = (x_1 : Int32).toInt; omega) yx_9 (by show (x_8).toInt.toNat = 8 + (x_1 : Int32).toInt.toNat; omega) (by omega) (by omega)) hw (lv_sub hl [0, 1, 2] rfl)
  exact hl_7_5 ((8 - 0 : Int).toNat + 1) 0 M _ _ _ (Nat.lt_succ_self _) (by have lt0 : (0 : Int32).toInt = 0 := (by decide); first | omega | decide) (by have lt0 : (0 : Int32).toInt = 0 := (by decide); first | omega | decide) hI hs_0 hw (lv_sub hl [0, 1, 2] rfl)
set_option maxHeartbeats 4000000 in
set_option maxRecDepth 100000 in
theorem s_X10_half_7 (l : Launch) (D : va_G) (A : Nat → Nat → Nat) (cy : Nat → ClassId) (hJ : ti_inj ti_LM A) (M : ti_M) (hI : mI Tm M)  : ti_Kv l yX10_half cX10_half 3 0 ti_LM D A cy M [.ref (A 60 8)] (fun M2 => mI Tm M2 ∧ hv 7 8 M2 M) := by
  refine ti_eV yp_X10_half hJ ti_LM_nd (Nat.le_of_ble_eq_true rfl) ?_
  intro p e s m args below meth c Q H0 C hQ hw ls hl
  have hx := C.1
  have hb := C.2.1
  have hl : lv_has ls 3 [(0, .ref (A 60 8))] := hl
  refine lv_aload_n hx hb dX10_half_0 rfl (lv_at hl 0 rfl) ?_
  refine ti_alen (ci := 10) (k := 7) (n := 16) (t0 := 1) (v := 16) C hw ob_60 (by decide) (fun _ _ => ⟨rfl, rfl⟩) rfl rfl dX10_half_1 ?_
  refine lv_iconst (v := 2) hx hb dX10_half_2 (by decide) ?_
  refine lv_idiv hx hb dX10_half_3 (by decide) ?_
  refine ti_top (y := 8) (by decide) ?_
  refine lv_istore_n (lv' := [(1, .int 8), (0, .ref (A 60 8))]) hx hb dX10_half_4 rfl hl (by decide) rfl (fun ls hl => ?_)
  refine lv_iconst (v := 0) hx hb dX10_half_5 (by decide) ?_
  refine lv_istore_n (lv' := [(2, .int 0), (1, .int 8), (0, .ref (A 60 8))]) hx hb dX10_half_6 rfl hl (by decide) rfl (fun ls hl => ?_)
  have hl_7_5 : ∀ (n_6 : Nat) (x_1 : Int32) (M_4 : ti_M) (H : Heap) (locs : List Loc) (ls : Array Slot), (8 - x_1.toInt : Int).toNat < n_6 → (0 ≤ x_1.toInt) → (x_1.toInt ≤ 8) → (mI Tm M_4) → (hs 7 8 M_4 M x_1.toInt) → ti_H ti_LM D A cy H0 M_4 H locs → lv_has ls 3 [(2, .int x_1), (1, .int 8), (0, .ref (A 60 8))] → W p l e (ti_rm 0) s m args below meth c H locs 0 0 Q (F0 m 7 ls []) := by
    intro n_6
    induction n_6 with
    | zero => intro x_1 M_4 H locs ls hf_6; exact absurd hf_6 (Nat.not_lt_zero _)
    | succ n_6 ih_6 =>
      intro x_1 M_4 H locs ls hf_6 b_2 b_3 iM_4 j_5 hw hl
      refine lv_iload_n hx hb dX10_half_7 rfl (lv_at hl 0 rfl) ?_
      refine lv_iload_n hx hb dX10_half_8 rfl (lv_at hl 1 rfl) ?_
      refine sb_icmp_ge (tgt := 26) hx hb rfl (by decide : (8 : Int32).toInt = 8) dX10_half_9 (by decide) (fun c_9_6 => ?_) (fun c_9_6 => ?_)
      · exact hQ _ _ _ _ _ hw (⟨iM_4, hv_s j_5 (by omega)⟩) dX10_half_26
      · refine lv_aload_n hx hb dX10_half_12 rfl (lv_at hl 2 rfl) ?_
        refine lv_iload_n hx hb dX10_half_13 rfl (lv_at hl 0 rfl) ?_
        refine lv_aload_n hx hb dX10_half_14 rfl (lv_at hl 2 rfl) ?_
        refine lv_iload_n hx hb dX10_half_15 rfl (lv_at hl 1 rfl) ?_
        refine lv_iload_n hx hb dX10_half_16 rfl (lv_at hl 0 rfl) ?_
        refine lv_iadd hx hb dX10_half_17 ?_
        refine lv_topi (fun x_8 ex_8 => ?_)
        have tx_8 : x_8.toInt = 8 + x_1.toInt := i_add ex_8 (by decide : (8 : Int32).toInt = 8) rfl (by omega) (by omega)
        refine ti_iald (ci := 10) (k := 7) (n := 16) C hw ob_60 (by decide) (fun _ _ => rfl) (vp_in_iff.mpr (by omega)) dX10_half_18 ?_
        refine lv_topi (fun x_9 ex_9 => ?_)
        have yx_9 : tY M_4 60 7 x_8.toNatClampNeg = x_9 := (ex_9.symm)
        refine ti_iast (ci := 10) (k := 7) (n := 16) C hw ob_60 (by decide) (fun _ _ => rfl) (vp_in_iff.mpr (by omega)) dX10_half_19 (fun H locs hw => ?_)
        obtain ⟨M_10, hM_10⟩ : ∃ z : ti_M, z = uY M_4 60 7 (upd (tY M_4 60 7) (x_1 : Int32).toNatClampNeg x_9) := ⟨_, rfl⟩
        have hw := hw.to hM_10.symm
        have iM_10 : mI Tm M_10 := mI_up (i := x_1.toNatClampNeg) iM_4 hM_10 trivial
        obtain ⟨x_11, ex_11⟩ : ∃ z : Int32, z = x_1 + 1 := ⟨_, rfl⟩
        have tx_11 : x_11.toInt = x_1.toInt + 1 := i_add ex_11 rfl (by decide) (by omega) (by omega)
        refine lv_iinc (v := x_11) (lv' := [(2, .int x_11), (1, .int 8), (0, .ref (A 60 8))]) hx hb dX10_half_20 hl (k := 0) rfl (by rw [ex_11]; rfl) (by decide) rfl (fun ls hl => ?_)
        refine lv_goto (tgt := 7) hx hb dX10_half_23 (by decide) ?_
        exact ih_6 x_11 M_10 _ _ _ (by omega) (by first | omega | decide) (by first | omega | decide) iM_10 (hs_s (b := x_8.toNatClampNeg) j_5 hM_10 (by show (((x_1 : Int32).toInt.toNat : Nat) : Int) = (x_1 : Int32).toInt; omega) yx_9 (by show (x_8).toInt.toNat = 8 + (x_1 : Int32).toInt.toNat; omega) (by omega) (by omega)) hw (lv_sub hl [0, 1, 2] rfl)
  exact hl_7_5 ((8 - 0 : Int).toNat + 1) 0 M _ _ _ (Nat.lt_succ_self _) (by have lt0 : (0 : Int32).toInt = 0 := (by decide); first | omega | decide) (by have lt0 : (0 : Int32).toInt = 0 := (by decide); first | omega | decide) hI hs_0 hw (lv_sub hl [0, 1, 2] rfl)
set_option maxHeartbeats 4000000 in
set_option maxRecDepth 100000 in
theorem s_X10_half_8 (l : Launch) (D : va_G) (A : Nat → Nat → Nat) (cy : Nat → ClassId) (hJ : ti_inj ti_LM A) (M : ti_M) (hI : mI Tm M)  : ti_Kv l yX10_half cX10_half 3 0 ti_LM D A cy M [.ref (A 60 9)] (fun M2 => mI Tm M2 ∧ hv 8 8 M2 M) := by
  refine ti_eV yp_X10_half hJ ti_LM_nd (Nat.le_of_ble_eq_true rfl) ?_
  intro p e s m args below meth c Q H0 C hQ hw ls hl
  have hx := C.1
  have hb := C.2.1
  have hl : lv_has ls 3 [(0, .ref (A 60 9))] := hl
  refine lv_aload_n hx hb dX10_half_0 rfl (lv_at hl 0 rfl) ?_
  refine ti_alen (ci := 10) (k := 8) (n := 16) (t0 := 1) (v := 16) C hw ob_60 (by decide) (fun _ _ => ⟨rfl, rfl⟩) rfl rfl dX10_half_1 ?_
  refine lv_iconst (v := 2) hx hb dX10_half_2 (by decide) ?_
  refine lv_idiv hx hb dX10_half_3 (by decide) ?_
  refine ti_top (y := 8) (by decide) ?_
  refine lv_istore_n (lv' := [(1, .int 8), (0, .ref (A 60 9))]) hx hb dX10_half_4 rfl hl (by decide) rfl (fun ls hl => ?_)
  refine lv_iconst (v := 0) hx hb dX10_half_5 (by decide) ?_
  refine lv_istore_n (lv' := [(2, .int 0), (1, .int 8), (0, .ref (A 60 9))]) hx hb dX10_half_6 rfl hl (by decide) rfl (fun ls hl => ?_)
  have hl_7_5 : ∀ (n_6 : Nat) (x_1 : Int32) (M_4 : ti_M) (H : Heap) (locs : List Loc) (ls : Array Slot), (8 - x_1.toInt : Int).toNat < n_6 → (0 ≤ x_1.toInt) → (x_1.toInt ≤ 8) → (mI Tm M_4) → (hs 8 8 M_4 M x_1.toInt) → ti_H ti_LM D A cy H0 M_4 H locs → lv_has ls 3 [(2, .int x_1), (1, .int 8), (0, .ref (A 60 9))] → W p l e (ti_rm 0) s m args below meth c H locs 0 0 Q (F0 m 7 ls []) := by
    intro n_6
    induction n_6 with
    | zero => intro x_1 M_4 H locs ls hf_6; exact absurd hf_6 (Nat.not_lt_zero _)
    | succ n_6 ih_6 =>
      intro x_1 M_4 H locs ls hf_6 b_2 b_3 iM_4 j_5 hw hl
      refine lv_iload_n hx hb dX10_half_7 rfl (lv_at hl 0 rfl) ?_
      refine lv_iload_n hx hb dX10_half_8 rfl (lv_at hl 1 rfl) ?_
      refine sb_icmp_ge (tgt := 26) hx hb rfl (by decide : (8 : Int32).toInt = 8) dX10_half_9 (by decide) (fun c_9_6 => ?_) (fun c_9_6 => ?_)
      · exact hQ _ _ _ _ _ hw (⟨iM_4, hv_s j_5 (by omega)⟩) dX10_half_26
      · refine lv_aload_n hx hb dX10_half_12 rfl (lv_at hl 2 rfl) ?_
        refine lv_iload_n hx hb dX10_half_13 rfl (lv_at hl 0 rfl) ?_
        refine lv_aload_n hx hb dX10_half_14 rfl (lv_at hl 2 rfl) ?_
        refine lv_iload_n hx hb dX10_half_15 rfl (lv_at hl 1 rfl) ?_
        refine lv_iload_n hx hb dX10_half_16 rfl (lv_at hl 0 rfl) ?_
        refine lv_iadd hx hb dX10_half_17 ?_
        refine lv_topi (fun x_8 ex_8 => ?_)
        have tx_8 : x_8.toInt = 8 + x_1.toInt := i_add ex_8 (by decide : (8 : Int32).toInt = 8) rfl (by omega) (by omega)
        refine ti_iald (ci := 10) (k := 8) (n := 16) C hw ob_60 (by decide) (fun _ _ => rfl) (vp_in_iff.mpr (by omega)) dX10_half_18 ?_
        refine lv_topi (fun x_9 ex_9 => ?_)
        have yx_9 : tY M_4 60 8 x_8.toNatClampNeg = x_9 := (ex_9.symm)
        refine ti_iast (ci := 10) (k := 8) (n := 16) C hw ob_60 (by decide) (fun _ _ => rfl) (vp_in_iff.mpr (by omega)) dX10_half_19 (fun H locs hw => ?_)
        obtain ⟨M_10, hM_10⟩ : ∃ z : ti_M, z = uY M_4 60 8 (upd (tY M_4 60 8) (x_1 : Int32).toNatClampNeg x_9) := ⟨_, rfl⟩
        have hw := hw.to hM_10.symm
        have iM_10 : mI Tm M_10 := mI_up (i := x_1.toNatClampNeg) iM_4 hM_10 trivial
        obtain ⟨x_11, ex_11⟩ : ∃ z : Int32, z = x_1 + 1 := ⟨_, rfl⟩
        have tx_11 : x_11.toInt = x_1.toInt + 1 := i_add ex_11 rfl (by decide) (by omega) (by omega)
        refine lv_iinc (v := x_11) (lv' := [(2, .int x_11), (1, .int 8), (0, .ref (A 60 9))]) hx hb dX10_half_20 hl (k := 0) rfl (by rw [ex_11]; rfl) (by decide) rfl (fun ls hl => ?_)
        refine lv_goto (tgt := 7) hx hb dX10_half_23 (by decide) ?_
        exact ih_6 x_11 M_10 _ _ _ (by omega) (by first | omega | decide) (by first | omega | decide) iM_10 (hs_s (b := x_8.toNatClampNeg) j_5 hM_10 (by show (((x_1 : Int32).toInt.toNat : Nat) : Int) = (x_1 : Int32).toInt; omega) yx_9 (by show (x_8).toInt.toNat = 8 + (x_1 : Int32).toInt.toNat; omega) (by omega) (by omega)) hw (lv_sub hl [0, 1, 2] rfl)
  exact hl_7_5 ((8 - 0 : Int).toNat + 1) 0 M _ _ _ (Nat.lt_succ_self _) (by have lt0 : (0 : Int32).toInt = 0 := (by decide); first | omega | decide) (by have lt0 : (0 : Int32).toInt = 0 := (by decide); first | omega | decide) hI hs_0 hw (lv_sub hl [0, 1, 2] rfl)
set_option maxHeartbeats 4000000 in
set_option maxRecDepth 100000 in
theorem s_X10_half_9 (l : Launch) (D : va_G) (A : Nat → Nat → Nat) (cy : Nat → ClassId) (hJ : ti_inj ti_LM A) (M : ti_M) (hI : mI Tm M)  : ti_Kv l yX10_half cX10_half 3 0 ti_LM D A cy M [.ref (A 60 10)] (fun M2 => mI Tm M2 ∧ hv 9 8 M2 M) := by
  refine ti_eV yp_X10_half hJ ti_LM_nd (Nat.le_of_ble_eq_true rfl) ?_
  intro p e s m args below meth c Q H0 C hQ hw ls hl
  have hx := C.1
  have hb := C.2.1
  have hl : lv_has ls 3 [(0, .ref (A 60 10))] := hl
  refine lv_aload_n hx hb dX10_half_0 rfl (lv_at hl 0 rfl) ?_
  refine ti_alen (ci := 10) (k := 9) (n := 16) (t0 := 1) (v := 16) C hw ob_60 (by decide) (fun _ _ => ⟨rfl, rfl⟩) rfl rfl dX10_half_1 ?_
  refine lv_iconst (v := 2) hx hb dX10_half_2 (by decide) ?_
  refine lv_idiv hx hb dX10_half_3 (by decide) ?_
  refine ti_top (y := 8) (by decide) ?_
  refine lv_istore_n (lv' := [(1, .int 8), (0, .ref (A 60 10))]) hx hb dX10_half_4 rfl hl (by decide) rfl (fun ls hl => ?_)
  refine lv_iconst (v := 0) hx hb dX10_half_5 (by decide) ?_
  refine lv_istore_n (lv' := [(2, .int 0), (1, .int 8), (0, .ref (A 60 10))]) hx hb dX10_half_6 rfl hl (by decide) rfl (fun ls hl => ?_)
  have hl_7_5 : ∀ (n_6 : Nat) (x_1 : Int32) (M_4 : ti_M) (H : Heap) (locs : List Loc) (ls : Array Slot), (8 - x_1.toInt : Int).toNat < n_6 → (0 ≤ x_1.toInt) → (x_1.toInt ≤ 8) → (mI Tm M_4) → (hs 9 8 M_4 M x_1.toInt) → ti_H ti_LM D A cy H0 M_4 H locs → lv_has ls 3 [(2, .int x_1), (1, .int 8), (0, .ref (A 60 10))] → W p l e (ti_rm 0) s m args below meth c H locs 0 0 Q (F0 m 7 ls []) := by
    intro n_6
    induction n_6 with
    | zero => intro x_1 M_4 H locs ls hf_6; exact absurd hf_6 (Nat.not_lt_zero _)
    | succ n_6 ih_6 =>
      intro x_1 M_4 H locs ls hf_6 b_2 b_3 iM_4 j_5 hw hl
      refine lv_iload_n hx hb dX10_half_7 rfl (lv_at hl 0 rfl) ?_
      refine lv_iload_n hx hb dX10_half_8 rfl (lv_at hl 1 rfl) ?_
      refine sb_icmp_ge (tgt := 26) hx hb rfl (by decide : (8 : Int32).toInt = 8) dX10_half_9 (by decide) (fun c_9_6 => ?_) (fun c_9_6 => ?_)
      · exact hQ _ _ _ _ _ hw (⟨iM_4, hv_s j_5 (by omega)⟩) dX10_half_26
      · refine lv_aload_n hx hb dX10_half_12 rfl (lv_at hl 2 rfl) ?_
        refine lv_iload_n hx hb dX10_half_13 rfl (lv_at hl 0 rfl) ?_
        refine lv_aload_n hx hb dX10_half_14 rfl (lv_at hl 2 rfl) ?_
        refine lv_iload_n hx hb dX10_half_15 rfl (lv_at hl 1 rfl) ?_
        refine lv_iload_n hx hb dX10_half_16 rfl (lv_at hl 0 rfl) ?_
        refine lv_iadd hx hb dX10_half_17 ?_
        refine lv_topi (fun x_8 ex_8 => ?_)
        have tx_8 : x_8.toInt = 8 + x_1.toInt := i_add ex_8 (by decide : (8 : Int32).toInt = 8) rfl (by omega) (by omega)
        refine ti_iald (ci := 10) (k := 9) (n := 16) C hw ob_60 (by decide) (fun _ _ => rfl) (vp_in_iff.mpr (by omega)) dX10_half_18 ?_
        refine lv_topi (fun x_9 ex_9 => ?_)
        have yx_9 : tY M_4 60 9 x_8.toNatClampNeg = x_9 := (ex_9.symm)
        refine ti_iast (ci := 10) (k := 9) (n := 16) C hw ob_60 (by decide) (fun _ _ => rfl) (vp_in_iff.mpr (by omega)) dX10_half_19 (fun H locs hw => ?_)
        obtain ⟨M_10, hM_10⟩ : ∃ z : ti_M, z = uY M_4 60 9 (upd (tY M_4 60 9) (x_1 : Int32).toNatClampNeg x_9) := ⟨_, rfl⟩
        have hw := hw.to hM_10.symm
        have iM_10 : mI Tm M_10 := mI_up (i := x_1.toNatClampNeg) iM_4 hM_10 trivial
        obtain ⟨x_11, ex_11⟩ : ∃ z : Int32, z = x_1 + 1 := ⟨_, rfl⟩
        have tx_11 : x_11.toInt = x_1.toInt + 1 := i_add ex_11 rfl (by decide) (by omega) (by omega)
        refine lv_iinc (v := x_11) (lv' := [(2, .int x_11), (1, .int 8), (0, .ref (A 60 10))]) hx hb dX10_half_20 hl (k := 0) rfl (by rw [ex_11]; rfl) (by decide) rfl (fun ls hl => ?_)
        refine lv_goto (tgt := 7) hx hb dX10_half_23 (by decide) ?_
        exact ih_6 x_11 M_10 _ _ _ (by omega) (by first | omega | decide) (by first | omega | decide) iM_10 (hs_s (b := x_8.toNatClampNeg) j_5 hM_10 (by show (((x_1 : Int32).toInt.toNat : Nat) : Int) = (x_1 : Int32).toInt; omega) yx_9 (by show (x_8).toInt.toNat = 8 + (x_1 : Int32).toInt.toNat; omega) (by omega) (by omega)) hw (lv_sub hl [0, 1, 2] rfl)
  exact hl_7_5 ((8 - 0 : Int).toNat + 1) 0 M _ _ _ (Nat.lt_succ_self _) (by have lt0 : (0 : Int32).toInt = 0 := (by decide); first | omega | decide) (by have lt0 : (0 : Int32).toInt = 0 := (by decide); first | omega | decide) hI hs_0 hw (lv_sub hl [0, 1, 2] rfl)
set_option maxHeartbeats 4000000 in
set_option maxRecDepth 100000 in
theorem s_X10_half_10 (l : Launch) (D : va_G) (A : Nat → Nat → Nat) (cy : Nat → ClassId) (hJ : ti_inj ti_LM A) (M : ti_M) (hI : mI Tm M)  : ti_Kv l yX10_half cX10_half 3 0 ti_LM D A cy M [.ref (A 60 11)] (fun M2 => mI Tm M2 ∧ hv 10 8 M2 M) := by
  refine ti_eV yp_X10_half hJ ti_LM_nd (Nat.le_of_ble_eq_true rfl) ?_
  intro p e s m args below meth c Q H0 C hQ hw ls hl
  have hx := C.1
  have hb := C.2.1
  have hl : lv_has ls 3 [(0, .ref (A 60 11))] := hl
  refine lv_aload_n hx hb dX10_half_0 rfl (lv_at hl 0 rfl) ?_
  refine ti_alen (ci := 10) (k := 10) (n := 16) (t0 := 1) (v := 16) C hw ob_60 (by decide) (fun _ _ => ⟨rfl, rfl⟩) rfl rfl dX10_half_1 ?_
  refine lv_iconst (v := 2) hx hb dX10_half_2 (by decide) ?_
  refine lv_idiv hx hb dX10_half_3 (by decide) ?_
  refine ti_top (y := 8) (by decide) ?_
  refine lv_istore_n (lv' := [(1, .int 8), (0, .ref (A 60 11))]) hx hb dX10_half_4 rfl hl (by decide) rfl (fun ls hl => ?_)
  refine lv_iconst (v := 0) hx hb dX10_half_5 (by decide) ?_
  refine lv_istore_n (lv' := [(2, .int 0), (1, .int 8), (0, .ref (A 60 11))]) hx hb dX10_half_6 rfl hl (by decide) rfl (fun ls hl => ?_)
  have hl_7_5 : ∀ (n_6 : Nat) (x_1 : Int32) (M_4 : ti_M) (H : Heap) (locs : List Loc) (ls : Array Slot), (8 - x_1.toInt : Int).toNat < n_6 → (0 ≤ x_1.toInt) → (x_1.toInt ≤ 8) → (mI Tm M_4) → (hs 10 8 M_4 M x_1.toInt) → ti_H ti_LM D A cy H0 M_4 H locs → lv_has ls 3 [(2, .int x_1), (1, .int 8), (0, .ref (A 60 11))] → W p l e (ti_rm 0) s m args below meth c H locs 0 0 Q (F0 m 7 ls []) := by
    intro n_6
    induction n_6 with
    | zero => intro x_1 M_4 H locs ls hf_6; exact absurd hf_6 (Nat.not_lt_zero _)
    | succ n_6 ih_6 =>
      intro x_1 M_4 H locs ls hf_6 b_2 b_3 iM_4 j_5 hw hl
      refine lv_iload_n hx hb dX10_half_7 rfl (lv_at hl 0 rfl) ?_
      refine lv_iload_n hx hb dX10_half_8 rfl (lv_at hl 1 rfl) ?_
      refine sb_icmp_ge (tgt := 26) hx hb rfl (by decide : (8 : Int32).toInt = 8) dX10_half_9 (by decide) (fun c_9_6 => ?_) (fun c_9_6 => ?_)
      · exact hQ _ _ _ _ _ hw (⟨iM_4, hv_s j_5 (by omega)⟩) dX10_half_26
      · refine lv_aload_n hx hb dX10_half_12 rfl (lv_at hl 2 rfl) ?_
        refine lv_iload_n hx hb dX10_half_13 rfl (lv_at hl 0 rfl) ?_
        refine lv_aload_n hx hb dX10_half_14 rfl (lv_at hl 2 rfl) ?_
        refine lv_iload_n hx hb dX10_half_15 rfl (lv_at hl 1 rfl) ?_
        refine lv_iload_n hx hb dX10_half_16 rfl (lv_at hl 0 rfl) ?_
        refine lv_iadd hx hb dX10_half_17 ?_
        refine lv_topi (fun x_8 ex_8 => ?_)
        have tx_8 : x_8.toInt = 8 + x_1.toInt := i_add ex_8 (by decide : (8 : Int32).toInt = 8) rfl (by omega) (by omega)
        refine ti_iald (ci := 10) (k := 10) (n := 16) C hw ob_60 (by decide) (fun _ _ => rfl) (vp_in_iff.mpr (by omega)) dX10_half_18 ?_
        refine lv_topi (fun x_9 ex_9 => ?_)
        have yx_9 : tY M_4 60 10 x_8.toNatClampNeg = x_9 := (ex_9.symm)
        refine ti_iast (ci := 10) (k := 10) (n := 16) C hw ob_60 (by decide) (fun _ _ => rfl) (vp_in_iff.mpr (by omega)) dX10_half_19 (fun H locs hw => ?_)
        obtain ⟨M_10, hM_10⟩ : ∃ z : ti_M, z = uY M_4 60 10 (upd (tY M_4 60 10) (x_1 : Int32).toNatClampNeg x_9) := ⟨_, rfl⟩
        have hw := hw.to hM_10.symm
        have iM_10 : mI Tm M_10 := mI_up (i := x_1.toNatClampNeg) iM_4 hM_10 trivial
        obtain ⟨x_11, ex_11⟩ : ∃ z : Int32, z = x_1 + 1 := ⟨_, rfl⟩
        have tx_11 : x_11.toInt = x_1.toInt + 1 := i_add ex_11 rfl (by decide) (by omega) (by omega)
        refine lv_iinc (v := x_11) (lv' := [(2, .int x_11), (1, .int 8), (0, .ref (A 60 11))]) hx hb dX10_half_20 hl (k := 0) rfl (by rw [ex_11]; rfl) (by decide) rfl (fun ls hl => ?_)
        refine lv_goto (tgt := 7) hx hb dX10_half_23 (by decide) ?_
        exact ih_6 x_11 M_10 _ _ _ (by omega) (by first | omega | decide) (by first | omega | decide) iM_10 (hs_s (b := x_8.toNatClampNeg) j_5 hM_10 (by show (((x_1 : Int32).toInt.toNat : Nat) : Int) = (x_1 : Int32).toInt; omega) yx_9 (by show (x_8).toInt.toNat = 8 + (x_1 : Int32).toInt.toNat; omega) (by omega) (by omega)) hw (lv_sub hl [0, 1, 2] rfl)
  exact hl_7_5 ((8 - 0 : Int).toNat + 1) 0 M _ _ _ (Nat.lt_succ_self _) (by have lt0 : (0 : Int32).toInt = 0 := (by decide); first | omega | decide) (by have lt0 : (0 : Int32).toInt = 0 := (by decide); first | omega | decide) hI hs_0 hw (lv_sub hl [0, 1, 2] rfl)
set_option maxHeartbeats 4000000 in
set_option maxRecDepth 100000 in
theorem s_X10_half_11 (l : Launch) (D : va_G) (A : Nat → Nat → Nat) (cy : Nat → ClassId) (hJ : ti_inj ti_LM A) (M : ti_M) (hI : mI Tm M)  : ti_Kv l yX10_half cX10_half 3 0 ti_LM D A cy M [.ref (A 60 12)] (fun M2 => mI Tm M2 ∧ hv 11 8 M2 M) := by
  refine ti_eV yp_X10_half hJ ti_LM_nd (Nat.le_of_ble_eq_true rfl) ?_
  intro p e s m args below meth c Q H0 C hQ hw ls hl
  have hx := C.1
  have hb := C.2.1
  have hl : lv_has ls 3 [(0, .ref (A 60 12))] := hl
  refine lv_aload_n hx hb dX10_half_0 rfl (lv_at hl 0 rfl) ?_
  refine ti_alen (ci := 10) (k := 11) (n := 16) (t0 := 1) (v := 16) C hw ob_60 (by decide) (fun _ _ => ⟨rfl, rfl⟩) rfl rfl dX10_half_1 ?_
  refine lv_iconst (v := 2) hx hb dX10_half_2 (by decide) ?_
  refine lv_idiv hx hb dX10_half_3 (by decide) ?_
  refine ti_top (y := 8) (by decide) ?_
  refine lv_istore_n (lv' := [(1, .int 8), (0, .ref (A 60 12))]) hx hb dX10_half_4 rfl hl (by decide) rfl (fun ls hl => ?_)
  refine lv_iconst (v := 0) hx hb dX10_half_5 (by decide) ?_
  refine lv_istore_n (lv' := [(2, .int 0), (1, .int 8), (0, .ref (A 60 12))]) hx hb dX10_half_6 rfl hl (by decide) rfl (fun ls hl => ?_)
  have hl_7_5 : ∀ (n_6 : Nat) (x_1 : Int32) (M_4 : ti_M) (H : Heap) (locs : List Loc) (ls : Array Slot), (8 - x_1.toInt : Int).toNat < n_6 → (0 ≤ x_1.toInt) → (x_1.toInt ≤ 8) → (mI Tm M_4) → (hs 11 8 M_4 M x_1.toInt) → ti_H ti_LM D A cy H0 M_4 H locs → lv_has ls 3 [(2, .int x_1), (1, .int 8), (0, .ref (A 60 12))] → W p l e (ti_rm 0) s m args below meth c H locs 0 0 Q (F0 m 7 ls []) := by
    intro n_6
    induction n_6 with
    | zero => intro x_1 M_4 H locs ls hf_6; exact absurd hf_6 (Nat.not_lt_zero _)
    | succ n_6 ih_6 =>
      intro x_1 M_4 H locs ls hf_6 b_2 b_3 iM_4 j_5 hw hl
      refine lv_iload_n hx hb dX10_half_7 rfl (lv_at hl 0 rfl) ?_
      refine lv_iload_n hx hb dX10_half_8 rfl (lv_at hl 1 rfl) ?_
      refine sb_icmp_ge (tgt := 26) hx hb rfl (by decide : (8 : Int32).toInt = 8) dX10_half_9 (by decide) (fun c_9_6 => ?_) (fun c_9_6 => ?_)
      · exact hQ _ _ _ _ _ hw (⟨iM_4, hv_s j_5 (by omega)⟩) dX10_half_26
      · refine lv_aload_n hx hb dX10_half_12 rfl (lv_at hl 2 rfl) ?_
        refine lv_iload_n hx hb dX10_half_13 rfl (lv_at hl 0 rfl) ?_
        refine lv_aload_n hx hb dX10_half_14 rfl (lv_at hl 2 rfl) ?_
        refine lv_iload_n hx hb dX10_half_15 rfl (lv_at hl 1 rfl) ?_
        refine lv_iload_n hx hb dX10_half_16 rfl (lv_at hl 0 rfl) ?_
        refine lv_iadd hx hb dX10_half_17 ?_
        refine lv_topi (fun x_8 ex_8 => ?_)
        have tx_8 : x_8.toInt = 8 + x_1.toInt := i_add ex_8 (by decide : (8 : Int32).toInt = 8) rfl (by omega) (by omega)
        refine ti_iald (ci := 10) (k := 11) (n := 16) C hw ob_60 (by decide) (fun _ _ => rfl) (vp_in_iff.mpr (by omega)) dX10_half_18 ?_
        refine lv_topi (fun x_9 ex_9 => ?_)
        have yx_9 : tY M_4 60 11 x_8.toNatClampNeg = x_9 := (ex_9.symm)
        refine ti_iast (ci := 10) (k := 11) (n := 16) C hw ob_60 (by decide) (fun _ _ => rfl) (vp_in_iff.mpr (by omega)) dX10_half_19 (fun H locs hw => ?_)
        obtain ⟨M_10, hM_10⟩ : ∃ z : ti_M, z = uY M_4 60 11 (upd (tY M_4 60 11) (x_1 : Int32).toNatClampNeg x_9) := ⟨_, rfl⟩
        have hw := hw.to hM_10.symm
        have iM_10 : mI Tm M_10 := mI_up (i := x_1.toNatClampNeg) iM_4 hM_10 trivial
        obtain ⟨x_11, ex_11⟩ : ∃ z : Int32, z = x_1 + 1 := ⟨_, rfl⟩
        have tx_11 : x_11.toInt = x_1.toInt + 1 := i_add ex_11 rfl (by decide) (by omega) (by omega)
        refine lv_iinc (v := x_11) (lv' := [(2, .int x_11), (1, .int 8), (0, .ref (A 60 12))]) hx hb dX10_half_20 hl (k := 0) rfl (by rw [ex_11]; rfl) (by decide) rfl (fun ls hl => ?_)
        refine lv_goto (tgt := 7) hx hb dX10_half_23 (by decide) ?_
        exact ih_6 x_11 M_10 _ _ _ (by omega) (by first | omega | decide) (by first | omega | decide) iM_10 (hs_s (b := x_8.toNatClampNeg) j_5 hM_10 (by show (((x_1 : Int32).toInt.toNat : Nat) : Int) = (x_1 : Int32).toInt; omega) yx_9 (by show (x_8).toInt.toNat = 8 + (x_1 : Int32).toInt.toNat; omega) (by omega) (by omega)) hw (lv_sub hl [0, 1, 2] rfl)
  exact hl_7_5 ((8 - 0 : Int).toNat + 1) 0 M _ _ _ (Nat.lt_succ_self _) (by have lt0 : (0 : Int32).toInt = 0 := (by decide); first | omega | decide) (by have lt0 : (0 : Int32).toInt = 0 := (by decide); first | omega | decide) hI hs_0 hw (lv_sub hl [0, 1, 2] rfl)
set_option maxHeartbeats 4000000 in
set_option maxRecDepth 100000 in
theorem s_X10_half_12 (l : Launch) (D : va_G) (A : Nat → Nat → Nat) (cy : Nat → ClassId) (hJ : ti_inj ti_LM A) (M : ti_M) (hI : mI Tm M)  : ti_Kv l yX10_half cX10_half 3 0 ti_LM D A cy M [.ref (A 60 13)] (fun M2 => mI Tm M2 ∧ hv 12 8 M2 M) := by
  refine ti_eV yp_X10_half hJ ti_LM_nd (Nat.le_of_ble_eq_true rfl) ?_
  intro p e s m args below meth c Q H0 C hQ hw ls hl
  have hx := C.1
  have hb := C.2.1
  have hl : lv_has ls 3 [(0, .ref (A 60 13))] := hl
  refine lv_aload_n hx hb dX10_half_0 rfl (lv_at hl 0 rfl) ?_
  refine ti_alen (ci := 10) (k := 12) (n := 16) (t0 := 1) (v := 16) C hw ob_60 (by decide) (fun _ _ => ⟨rfl, rfl⟩) rfl rfl dX10_half_1 ?_
  refine lv_iconst (v := 2) hx hb dX10_half_2 (by decide) ?_
  refine lv_idiv hx hb dX10_half_3 (by decide) ?_
  refine ti_top (y := 8) (by decide) ?_
  refine lv_istore_n (lv' := [(1, .int 8), (0, .ref (A 60 13))]) hx hb dX10_half_4 rfl hl (by decide) rfl (fun ls hl => ?_)
  refine lv_iconst (v := 0) hx hb dX10_half_5 (by decide) ?_
  refine lv_istore_n (lv' := [(2, .int 0), (1, .int 8), (0, .ref (A 60 13))]) hx hb dX10_half_6 rfl hl (by decide) rfl (fun ls hl => ?_)
  have hl_7_5 : ∀ (n_6 : Nat) (x_1 : Int32) (M_4 : ti_M) (H : Heap) (locs : List Loc) (ls : Array Slot), (8 - x_1.toInt : Int).toNat < n_6 → (0 ≤ x_1.toInt) → (x_1.toInt ≤ 8) → (mI Tm M_4) → (hs 12 8 M_4 M x_1.toInt) → ti_H ti_LM D A cy H0 M_4 H locs → lv_has ls 3 [(2, .int x_1), (1, .int 8), (0, .ref (A 60 13))] → W p l e (ti_rm 0) s m args below meth c H locs 0 0 Q (F0 m 7 ls []) := by
    intro n_6
    induction n_6 with
    | zero => intro x_1 M_4 H locs ls hf_6; exact absurd hf_6 (Nat.not_lt_zero _)
    | succ n_6 ih_6 =>
      intro x_1 M_4 H locs ls hf_6 b_2 b_3 iM_4 j_5 hw hl
      refine lv_iload_n hx hb dX10_half_7 rfl (lv_at hl 0 rfl) ?_
      refine lv_iload_n hx hb dX10_half_8 rfl (lv_at hl 1 rfl) ?_
      refine sb_icmp_ge (tgt := 26) hx hb rfl (by decide : (8 : Int32).toInt = 8) dX10_half_9 (by decide) (fun c_9_6 => ?_) (fun c_9_6 => ?_)
      · exact hQ _ _ _ _ _ hw (⟨iM_4, hv_s j_5 (by omega)⟩) dX10_half_26
      · refine lv_aload_n hx hb dX10_half_12 rfl (lv_at hl 2 rfl) ?_
        refine lv_iload_n hx hb dX10_half_13 rfl (lv_at hl 0 rfl) ?_
        refine lv_aload_n hx hb dX10_half_14 rfl (lv_at hl 2 rfl) ?_
        refine lv_iload_n hx hb dX10_half_15 rfl (lv_at hl 1 rfl) ?_
        refine lv_iload_n hx hb dX10_half_16 rfl (lv_at hl 0 rfl) ?_
        refine lv_iadd hx hb dX10_half_17 ?_
        refine lv_topi (fun x_8 ex_8 => ?_)
        have tx_8 : x_8.toInt = 8 + x_1.toInt := i_add ex_8 (by decide : (8 : Int32).toInt = 8) rfl (by omega) (by omega)
        refine ti_iald (ci := 10) (k := 12) (n := 16) C hw ob_60 (by decide) (fun _ _ => rfl) (vp_in_iff.mpr (by omega)) dX10_half_18 ?_
        refine lv_topi (fun x_9 ex_9 => ?_)
        have yx_9 : tY M_4 60 12 x_8.toNatClampNeg = x_9 := (ex_9.symm)
        refine ti_iast (ci := 10) (k := 12) (n := 16) C hw ob_60 (by decide) (fun _ _ => rfl) (vp_in_iff.mpr (by omega)) dX10_half_19 (fun H locs hw => ?_)
        obtain ⟨M_10, hM_10⟩ : ∃ z : ti_M, z = uY M_4 60 12 (upd (tY M_4 60 12) (x_1 : Int32).toNatClampNeg x_9) := ⟨_, rfl⟩
        have hw := hw.to hM_10.symm
        have iM_10 : mI Tm M_10 := mI_up (i := x_1.toNatClampNeg) iM_4 hM_10 trivial
        obtain ⟨x_11, ex_11⟩ : ∃ z : Int32, z = x_1 + 1 := ⟨_, rfl⟩
        have tx_11 : x_11.toInt = x_1.toInt + 1 := i_add ex_11 rfl (by decide) (by omega) (by omega)
        refine lv_iinc (v := x_11) (lv' := [(2, .int x_11), (1, .int 8), (0, .ref (A 60 13))]) hx hb dX10_half_20 hl (k := 0) rfl (by rw [ex_11]; rfl) (by decide) rfl (fun ls hl => ?_)
        refine lv_goto (tgt := 7) hx hb dX10_half_23 (by decide) ?_
        exact ih_6 x_11 M_10 _ _ _ (by omega) (by first | omega | decide) (by first | omega | decide) iM_10 (hs_s (b := x_8.toNatClampNeg) j_5 hM_10 (by show (((x_1 : Int32).toInt.toNat : Nat) : Int) = (x_1 : Int32).toInt; omega) yx_9 (by show (x_8).toInt.toNat = 8 + (x_1 : Int32).toInt.toNat; omega) (by omega) (by omega)) hw (lv_sub hl [0, 1, 2] rfl)
  exact hl_7_5 ((8 - 0 : Int).toNat + 1) 0 M _ _ _ (Nat.lt_succ_self _) (by have lt0 : (0 : Int32).toInt = 0 := (by decide); first | omega | decide) (by have lt0 : (0 : Int32).toInt = 0 := (by decide); first | omega | decide) hI hs_0 hw (lv_sub hl [0, 1, 2] rfl)
set_option maxHeartbeats 4000000 in
set_option maxRecDepth 100000 in
theorem s_X10_half_13 (l : Launch) (D : va_G) (A : Nat → Nat → Nat) (cy : Nat → ClassId) (hJ : ti_inj ti_LM A) (M : ti_M) (hI : mI Tm M)  : ti_Kv l yX10_half cX10_half 3 0 ti_LM D A cy M [.ref (A 60 14)] (fun M2 => mI Tm M2 ∧ hv 13 8 M2 M) := by
  refine ti_eV yp_X10_half hJ ti_LM_nd (Nat.le_of_ble_eq_true rfl) ?_
  intro p e s m args below meth c Q H0 C hQ hw ls hl
  have hx := C.1
  have hb := C.2.1
  have hl : lv_has ls 3 [(0, .ref (A 60 14))] := hl
  refine lv_aload_n hx hb dX10_half_0 rfl (lv_at hl 0 rfl) ?_
  refine ti_alen (ci := 10) (k := 13) (n := 16) (t0 := 1) (v := 16) C hw ob_60 (by decide) (fun _ _ => ⟨rfl, rfl⟩) rfl rfl dX10_half_1 ?_
  refine lv_iconst (v := 2) hx hb dX10_half_2 (by decide) ?_
  refine lv_idiv hx hb dX10_half_3 (by decide) ?_
  refine ti_top (y := 8) (by decide) ?_
  refine lv_istore_n (lv' := [(1, .int 8), (0, .ref (A 60 14))]) hx hb dX10_half_4 rfl hl (by decide) rfl (fun ls hl => ?_)
  refine lv_iconst (v := 0) hx hb dX10_half_5 (by decide) ?_
  refine lv_istore_n (lv' := [(2, .int 0), (1, .int 8), (0, .ref (A 60 14))]) hx hb dX10_half_6 rfl hl (by decide) rfl (fun ls hl => ?_)
  have hl_7_5 : ∀ (n_6 : Nat) (x_1 : Int32) (M_4 : ti_M) (H : Heap) (locs : List Loc) (ls : Array Slot), (8 - x_1.toInt : Int).toNat < n_6 → (0 ≤ x_1.toInt) → (x_1.toInt ≤ 8) → (mI Tm M_4) → (hs 13 8 M_4 M x_1.toInt) → ti_H ti_LM D A cy H0 M_4 H locs → lv_has ls 3 [(2, .int x_1), (1, .int 8), (0, .ref (A 60 14))] → W p l e (ti_rm 0) s m args below meth c H locs 0 0 Q (F0 m 7 ls []) := by
    intro n_6
    induction n_6 with
    | zero => intro x_1 M_4 H locs ls hf_6; exact absurd hf_6 (Nat.not_lt_zero _)
    | succ n_6 ih_6 =>
      intro x_1 M_4 H locs ls hf_6 b_2 b_3 iM_4 j_5 hw hl
      refine lv_iload_n hx hb dX10_half_7 rfl (lv_at hl 0 rfl) ?_
      refine lv_iload_n hx hb dX10_half_8 rfl (lv_at hl 1 rfl) ?_
      refine sb_icmp_ge (tgt := 26) hx hb rfl (by decide : (8 : Int32).toInt = 8) dX10_half_9 (by decide) (fun c_9_6 => ?_) (fun c_9_6 => ?_)
      · exact hQ _ _ _ _ _ hw (⟨iM_4, hv_s j_5 (by omega)⟩) dX10_half_26
      · refine lv_aload_n hx hb dX10_half_12 rfl (lv_at hl 2 rfl) ?_
        refine lv_iload_n hx hb dX10_half_13 rfl (lv_at hl 0 rfl) ?_
        refine lv_aload_n hx hb dX10_half_14 rfl (lv_at hl 2 rfl) ?_
        refine lv_iload_n hx hb dX10_half_15 rfl (lv_at hl 1 rfl) ?_
        refine lv_iload_n hx hb dX10_half_16 rfl (lv_at hl 0 rfl) ?_
        refine lv_iadd hx hb dX10_half_17 ?_
        refine lv_topi (fun x_8 ex_8 => ?_)
        have tx_8 : x_8.toInt = 8 + x_1.toInt := i_add ex_8 (by decide : (8 : Int32).toInt = 8) rfl (by omega) (by omega)
        refine ti_iald (ci := 10) (k := 13) (n := 16) C hw ob_60 (by decide) (fun _ _ => rfl) (vp_in_iff.mpr (by omega)) dX10_half_18 ?_
        refine lv_topi (fun x_9 ex_9 => ?_)
        have yx_9 : tY M_4 60 13 x_8.toNatClampNeg = x_9 := (ex_9.symm)
        refine ti_iast (ci := 10) (k := 13) (n := 16) C hw ob_60 (by decide) (fun _ _ => rfl) (vp_in_iff.mpr (by omega)) dX10_half_19 (fun H locs hw => ?_)
        obtain ⟨M_10, hM_10⟩ : ∃ z : ti_M, z = uY M_4 60 13 (upd (tY M_4 60 13) (x_1 : Int32).toNatClampNeg x_9) := ⟨_, rfl⟩
        have hw := hw.to hM_10.symm
        have iM_10 : mI Tm M_10 := mI_up (i := x_1.toNatClampNeg) iM_4 hM_10 trivial
        obtain ⟨x_11, ex_11⟩ : ∃ z : Int32, z = x_1 + 1 := ⟨_, rfl⟩
        have tx_11 : x_11.toInt = x_1.toInt + 1 := i_add ex_11 rfl (by decide) (by omega) (by omega)
        refine lv_iinc (v := x_11) (lv' := [(2, .int x_11), (1, .int 8), (0, .ref (A 60 14))]) hx hb dX10_half_20 hl (k := 0) rfl (by rw [ex_11]; rfl) (by decide) rfl (fun ls hl => ?_)
        refine lv_goto (tgt := 7) hx hb dX10_half_23 (by decide) ?_
        exact ih_6 x_11 M_10 _ _ _ (by omega) (by first | omega | decide) (by first | omega | decide) iM_10 (hs_s (b := x_8.toNatClampNeg) j_5 hM_10 (by show (((x_1 : Int32).toInt.toNat : Nat) : Int) = (x_1 : Int32).toInt; omega) yx_9 (by show (x_8).toInt.toNat = 8 + (x_1 : Int32).toInt.toNat; omega) (by omega) (by omega)) hw (lv_sub hl [0, 1, 2] rfl)
  exact hl_7_5 ((8 - 0 : Int).toNat + 1) 0 M _ _ _ (Nat.lt_succ_self _) (by have lt0 : (0 : Int32).toInt = 0 := (by decide); first | omega | decide) (by have lt0 : (0 : Int32).toInt = 0 := (by decide); first | omega | decide) hI hs_0 hw (lv_sub hl [0, 1, 2] rfl)
set_option maxHeartbeats 4000000 in
set_option maxRecDepth 100000 in
theorem s_X10_half_14 (l : Launch) (D : va_G) (A : Nat → Nat → Nat) (cy : Nat → ClassId) (hJ : ti_inj ti_LM A) (M : ti_M) (hI : mI Tm M)  : ti_Kv l yX10_half cX10_half 3 0 ti_LM D A cy M [.ref (A 60 15)] (fun M2 => mI Tm M2 ∧ hv 14 3 M2 M) := by
  refine ti_eV yp_X10_half hJ ti_LM_nd (Nat.le_of_ble_eq_true rfl) ?_
  intro p e s m args below meth c Q H0 C hQ hw ls hl
  have hx := C.1
  have hb := C.2.1
  have hl : lv_has ls 3 [(0, .ref (A 60 15))] := hl
  refine lv_aload_n hx hb dX10_half_0 rfl (lv_at hl 0 rfl) ?_
  refine ti_alen (ci := 10) (k := 14) (n := 6) (t0 := 1) (v := 6) C hw ob_60 (by decide) (fun _ _ => ⟨rfl, rfl⟩) rfl rfl dX10_half_1 ?_
  refine lv_iconst (v := 2) hx hb dX10_half_2 (by decide) ?_
  refine lv_idiv hx hb dX10_half_3 (by decide) ?_
  refine ti_top (y := 3) (by decide) ?_
  refine lv_istore_n (lv' := [(1, .int 3), (0, .ref (A 60 15))]) hx hb dX10_half_4 rfl hl (by decide) rfl (fun ls hl => ?_)
  refine lv_iconst (v := 0) hx hb dX10_half_5 (by decide) ?_
  refine lv_istore_n (lv' := [(2, .int 0), (1, .int 3), (0, .ref (A 60 15))]) hx hb dX10_half_6 rfl hl (by decide) rfl (fun ls hl => ?_)
  have hl_7_5 : ∀ (n_6 : Nat) (x_1 : Int32) (M_4 : ti_M) (H : Heap) (locs : List Loc) (ls : Array Slot), (3 - x_1.toInt : Int).toNat < n_6 → (0 ≤ x_1.toInt) → (x_1.toInt ≤ 3) → (mI Tm M_4) → (hs 14 3 M_4 M x_1.toInt) → ti_H ti_LM D A cy H0 M_4 H locs → lv_has ls 3 [(2, .int x_1), (1, .int 3), (0, .ref (A 60 15))] → W p l e (ti_rm 0) s m args below meth c H locs 0 0 Q (F0 m 7 ls []) := by
    intro n_6
    induction n_6 with
    | zero => intro x_1 M_4 H locs ls hf_6; exact absurd hf_6 (Nat.not_lt_zero _)
    | succ n_6 ih_6 =>
      intro x_1 M_4 H locs ls hf_6 b_2 b_3 iM_4 j_5 hw hl
      refine lv_iload_n hx hb dX10_half_7 rfl (lv_at hl 0 rfl) ?_
      refine lv_iload_n hx hb dX10_half_8 rfl (lv_at hl 1 rfl) ?_
      refine sb_icmp_ge (tgt := 26) hx hb rfl (by decide : (3 : Int32).toInt = 3) dX10_half_9 (by decide) (fun c_9_6 => ?_) (fun c_9_6 => ?_)
      · exact hQ _ _ _ _ _ hw (⟨iM_4, hv_s j_5 (by omega)⟩) dX10_half_26
      · refine lv_aload_n hx hb dX10_half_12 rfl (lv_at hl 2 rfl) ?_
        refine lv_iload_n hx hb dX10_half_13 rfl (lv_at hl 0 rfl) ?_
        refine lv_aload_n hx hb dX10_half_14 rfl (lv_at hl 2 rfl) ?_
        refine lv_iload_n hx hb dX10_half_15 rfl (lv_at hl 1 rfl) ?_
        refine lv_iload_n hx hb dX10_half_16 rfl (lv_at hl 0 rfl) ?_
        refine lv_iadd hx hb dX10_half_17 ?_
        refine lv_topi (fun x_8 ex_8 => ?_)
        have tx_8 : x_8.toInt = 3 + x_1.toInt := i_add ex_8 (by decide : (3 : Int32).toInt = 3) rfl (by omega) (by omega)
        refine ti_iald (ci := 10) (k := 14) (n := 6) C hw ob_60 (by decide) (fun _ _ => rfl) (vp_in_iff.mpr (by omega)) dX10_half_18 ?_
        refine lv_topi (fun x_9 ex_9 => ?_)
        have yx_9 : tY M_4 60 14 x_8.toNatClampNeg = x_9 := (ex_9.symm)
        have bx_9 : 0 ≤ x_9.toInt ∧ x_9.toInt ≤ 64 := mI_ry (k := 14) (i := x_8.toNatClampNeg) iM_4 yx_9.symm
        refine ti_iast (ci := 10) (k := 14) (n := 6) C hw ob_60 (by decide) (fun _ _ => rfl) (vp_in_iff.mpr (by omega)) dX10_half_19 (fun H locs hw => ?_)
        obtain ⟨M_10, hM_10⟩ : ∃ z : ti_M, z = uY M_4 60 14 (upd (tY M_4 60 14) (x_1 : Int32).toNatClampNeg x_9) := ⟨_, rfl⟩
        have hw := hw.to hM_10.symm
        have iM_10 : mI Tm M_10 := mI_up (i := x_1.toNatClampNeg) iM_4 hM_10 (ib_mk (lo := 0) (hi := 64) (by omega) (by omega))
        obtain ⟨x_11, ex_11⟩ : ∃ z : Int32, z = x_1 + 1 := ⟨_, rfl⟩
        have tx_11 : x_11.toInt = x_1.toInt + 1 := i_add ex_11 rfl (by decide) (by omega) (by omega)
        refine lv_iinc (v := x_11) (lv' := [(2, .int x_11), (1, .int 3), (0, .ref (A 60 15))]) hx hb dX10_half_20 hl (k := 0) rfl (by rw [ex_11]; rfl) (by decide) rfl (fun ls hl => ?_)
        refine lv_goto (tgt := 7) hx hb dX10_half_23 (by decide) ?_
        exact ih_6 x_11 M_10 _ _ _ (by omega) (by first | omega | decide) (by first | omega | decide) iM_10 (hs_s (b := x_8.toNatClampNeg) j_5 hM_10 (by show (((x_1 : Int32).toInt.toNat : Nat) : Int) = (x_1 : Int32).toInt; omega) yx_9 (by show (x_8).toInt.toNat = 3 + (x_1 : Int32).toInt.toNat; omega) (by omega) (by omega)) hw (lv_sub hl [0, 1, 2] rfl)
  exact hl_7_5 ((3 - 0 : Int).toNat + 1) 0 M _ _ _ (Nat.lt_succ_self _) (by have lt0 : (0 : Int32).toInt = 0 := (by decide); first | omega | decide) (by have lt0 : (0 : Int32).toInt = 0 := (by decide); first | omega | decide) hI hs_0 hw (lv_sub hl [0, 1, 2] rfl)
set_option maxHeartbeats 4000000 in
set_option maxRecDepth 100000 in
theorem s_X10_half_15 (l : Launch) (D : va_G) (A : Nat → Nat → Nat) (cy : Nat → ClassId) (hJ : ti_inj ti_LM A) (M : ti_M) (hI : mI Tm M)  : ti_Kv l yX10_half cX10_half 3 0 ti_LM D A cy M [.ref (A 60 16)] (fun M2 => mI Tm M2 ∧ hv 15 3 M2 M) := by
  refine ti_eV yp_X10_half hJ ti_LM_nd (Nat.le_of_ble_eq_true rfl) ?_
  intro p e s m args below meth c Q H0 C hQ hw ls hl
  have hx := C.1
  have hb := C.2.1
  have hl : lv_has ls 3 [(0, .ref (A 60 16))] := hl
  refine lv_aload_n hx hb dX10_half_0 rfl (lv_at hl 0 rfl) ?_
  refine ti_alen (ci := 10) (k := 15) (n := 6) (t0 := 1) (v := 6) C hw ob_60 (by decide) (fun _ _ => ⟨rfl, rfl⟩) rfl rfl dX10_half_1 ?_
  refine lv_iconst (v := 2) hx hb dX10_half_2 (by decide) ?_
  refine lv_idiv hx hb dX10_half_3 (by decide) ?_
  refine ti_top (y := 3) (by decide) ?_
  refine lv_istore_n (lv' := [(1, .int 3), (0, .ref (A 60 16))]) hx hb dX10_half_4 rfl hl (by decide) rfl (fun ls hl => ?_)
  refine lv_iconst (v := 0) hx hb dX10_half_5 (by decide) ?_
  refine lv_istore_n (lv' := [(2, .int 0), (1, .int 3), (0, .ref (A 60 16))]) hx hb dX10_half_6 rfl hl (by decide) rfl (fun ls hl => ?_)
  have hl_7_5 : ∀ (n_6 : Nat) (x_1 : Int32) (M_4 : ti_M) (H : Heap) (locs : List Loc) (ls : Array Slot), (3 - x_1.toInt : Int).toNat < n_6 → (0 ≤ x_1.toInt) → (x_1.toInt ≤ 3) → (mI Tm M_4) → (hs 15 3 M_4 M x_1.toInt) → ti_H ti_LM D A cy H0 M_4 H locs → lv_has ls 3 [(2, .int x_1), (1, .int 3), (0, .ref (A 60 16))] → W p l e (ti_rm 0) s m args below meth c H locs 0 0 Q (F0 m 7 ls []) := by
    intro n_6
    induction n_6 with
    | zero => intro x_1 M_4 H locs ls hf_6; exact absurd hf_6 (Nat.not_lt_zero _)
    | succ n_6 ih_6 =>
      intro x_1 M_4 H locs ls hf_6 b_2 b_3 iM_4 j_5 hw hl
      refine lv_iload_n hx hb dX10_half_7 rfl (lv_at hl 0 rfl) ?_
      refine lv_iload_n hx hb dX10_half_8 rfl (lv_at hl 1 rfl) ?_
      refine sb_icmp_ge (tgt := 26) hx hb rfl (by decide : (3 : Int32).toInt = 3) dX10_half_9 (by decide) (fun c_9_6 => ?_) (fun c_9_6 => ?_)
      · exact hQ _ _ _ _ _ hw (⟨iM_4, hv_s j_5 (by omega)⟩) dX10_half_26
      · refine lv_aload_n hx hb dX10_half_12 rfl (lv_at hl 2 rfl) ?_
        refine lv_iload_n hx hb dX10_half_13 rfl (lv_at hl 0 rfl) ?_
        refine lv_aload_n hx hb dX10_half_14 rfl (lv_at hl 2 rfl) ?_
        refine lv_iload_n hx hb dX10_half_15 rfl (lv_at hl 1 rfl) ?_
        refine lv_iload_n hx hb dX10_half_16 rfl (lv_at hl 0 rfl) ?_
        refine lv_iadd hx hb dX10_half_17 ?_
        refine lv_topi (fun x_8 ex_8 => ?_)
        have tx_8 : x_8.toInt = 3 + x_1.toInt := i_add ex_8 (by decide : (3 : Int32).toInt = 3) rfl (by omega) (by omega)
        refine ti_iald (ci := 10) (k := 15) (n := 6) C hw ob_60 (by decide) (fun _ _ => rfl) (vp_in_iff.mpr (by omega)) dX10_half_18 ?_
        refine lv_topi (fun x_9 ex_9 => ?_)
        have yx_9 : tY M_4 60 15 x_8.toNatClampNeg = x_9 := (ex_9.symm)
        have bx_9 : 0 ≤ x_9.toInt ∧ x_9.toInt ≤ 64 := mI_ry (k := 15) (i := x_8.toNatClampNeg) iM_4 yx_9.symm
        refine ti_iast (ci := 10) (k := 15) (n := 6) C hw ob_60 (by decide) (fun _ _ => rfl) (vp_in_iff.mpr (by omega)) dX10_half_19 (fun H locs hw => ?_)
        obtain ⟨M_10, hM_10⟩ : ∃ z : ti_M, z = uY M_4 60 15 (upd (tY M_4 60 15) (x_1 : Int32).toNatClampNeg x_9) := ⟨_, rfl⟩
        have hw := hw.to hM_10.symm
        have iM_10 : mI Tm M_10 := mI_up (i := x_1.toNatClampNeg) iM_4 hM_10 (ib_mk (lo := 0) (hi := 64) (by omega) (by omega))
        obtain ⟨x_11, ex_11⟩ : ∃ z : Int32, z = x_1 + 1 := ⟨_, rfl⟩
        have tx_11 : x_11.toInt = x_1.toInt + 1 := i_add ex_11 rfl (by decide) (by omega) (by omega)
        refine lv_iinc (v := x_11) (lv' := [(2, .int x_11), (1, .int 3), (0, .ref (A 60 16))]) hx hb dX10_half_20 hl (k := 0) rfl (by rw [ex_11]; rfl) (by decide) rfl (fun ls hl => ?_)
        refine lv_goto (tgt := 7) hx hb dX10_half_23 (by decide) ?_
        exact ih_6 x_11 M_10 _ _ _ (by omega) (by first | omega | decide) (by first | omega | decide) iM_10 (hs_s (b := x_8.toNatClampNeg) j_5 hM_10 (by show (((x_1 : Int32).toInt.toNat : Nat) : Int) = (x_1 : Int32).toInt; omega) yx_9 (by show (x_8).toInt.toNat = 3 + (x_1 : Int32).toInt.toNat; omega) (by omega) (by omega)) hw (lv_sub hl [0, 1, 2] rfl)
  exact hl_7_5 ((3 - 0 : Int).toNat + 1) 0 M _ _ _ (Nat.lt_succ_self _) (by have lt0 : (0 : Int32).toInt = 0 := (by decide); first | omega | decide) (by have lt0 : (0 : Int32).toInt = 0 := (by decide); first | omega | decide) hI hs_0 hw (lv_sub hl [0, 1, 2] rfl)
set_option maxHeartbeats 4000000 in
set_option maxRecDepth 100000 in
theorem s_X10_half_16 (l : Launch) (D : va_G) (A : Nat → Nat → Nat) (cy : Nat → ClassId) (hJ : ti_inj ti_LM A) (M : ti_M) (hI : mI Tm M)  : ti_Kv l yX10_half cX10_half 3 0 ti_LM D A cy M [.ref (A 60 17)] (fun M2 => mI Tm M2 ∧ hv 16 64 M2 M) := by
  refine ti_eV yp_X10_half hJ ti_LM_nd (Nat.le_of_ble_eq_true rfl) ?_
  intro p e s m args below meth c Q H0 C hQ hw ls hl
  have hx := C.1
  have hb := C.2.1
  have hl : lv_has ls 3 [(0, .ref (A 60 17))] := hl
  refine lv_aload_n hx hb dX10_half_0 rfl (lv_at hl 0 rfl) ?_
  refine ti_alen (ci := 10) (k := 16) (n := 128) (t0 := 1) (v := 128) C hw ob_60 (by decide) (fun _ _ => ⟨rfl, rfl⟩) rfl rfl dX10_half_1 ?_
  refine lv_iconst (v := 2) hx hb dX10_half_2 (by decide) ?_
  refine lv_idiv hx hb dX10_half_3 (by decide) ?_
  refine ti_top (y := 64) (by decide) ?_
  refine lv_istore_n (lv' := [(1, .int 64), (0, .ref (A 60 17))]) hx hb dX10_half_4 rfl hl (by decide) rfl (fun ls hl => ?_)
  refine lv_iconst (v := 0) hx hb dX10_half_5 (by decide) ?_
  refine lv_istore_n (lv' := [(2, .int 0), (1, .int 64), (0, .ref (A 60 17))]) hx hb dX10_half_6 rfl hl (by decide) rfl (fun ls hl => ?_)
  have hl_7_5 : ∀ (n_6 : Nat) (x_1 : Int32) (M_4 : ti_M) (H : Heap) (locs : List Loc) (ls : Array Slot), (64 - x_1.toInt : Int).toNat < n_6 → (0 ≤ x_1.toInt) → (x_1.toInt ≤ 64) → (mI Tm M_4) → (hs 16 64 M_4 M x_1.toInt) → ti_H ti_LM D A cy H0 M_4 H locs → lv_has ls 3 [(2, .int x_1), (1, .int 64), (0, .ref (A 60 17))] → W p l e (ti_rm 0) s m args below meth c H locs 0 0 Q (F0 m 7 ls []) := by
    intro n_6
    induction n_6 with
    | zero => intro x_1 M_4 H locs ls hf_6; exact absurd hf_6 (Nat.not_lt_zero _)
    | succ n_6 ih_6 =>
      intro x_1 M_4 H locs ls hf_6 b_2 b_3 iM_4 j_5 hw hl
      refine lv_iload_n hx hb dX10_half_7 rfl (lv_at hl 0 rfl) ?_
      refine lv_iload_n hx hb dX10_half_8 rfl (lv_at hl 1 rfl) ?_
      refine sb_icmp_ge (tgt := 26) hx hb rfl (by decide : (64 : Int32).toInt = 64) dX10_half_9 (by decide) (fun c_9_6 => ?_) (fun c_9_6 => ?_)
      · exact hQ _ _ _ _ _ hw (⟨iM_4, hv_s j_5 (by omega)⟩) dX10_half_26
      · refine lv_aload_n hx hb dX10_half_12 rfl (lv_at hl 2 rfl) ?_
        refine lv_iload_n hx hb dX10_half_13 rfl (lv_at hl 0 rfl) ?_
        refine lv_aload_n hx hb dX10_half_14 rfl (lv_at hl 2 rfl) ?_
        refine lv_iload_n hx hb dX10_half_15 rfl (lv_at hl 1 rfl) ?_
        refine lv_iload_n hx hb dX10_half_16 rfl (lv_at hl 0 rfl) ?_
        refine lv_iadd hx hb dX10_half_17 ?_
        refine lv_topi (fun x_8 ex_8 => ?_)
        have tx_8 : x_8.toInt = 64 + x_1.toInt := i_add ex_8 (by decide : (64 : Int32).toInt = 64) rfl (by omega) (by omega)
        refine ti_iald (ci := 10) (k := 16) (n := 128) C hw ob_60 (by decide) (fun _ _ => rfl) (vp_in_iff.mpr (by omega)) dX10_half_18 ?_
        refine lv_topi (fun x_9 ex_9 => ?_)
        have yx_9 : tY M_4 60 16 x_8.toNatClampNeg = x_9 := (ex_9.symm)
        refine ti_iast (ci := 10) (k := 16) (n := 128) C hw ob_60 (by decide) (fun _ _ => rfl) (vp_in_iff.mpr (by omega)) dX10_half_19 (fun H locs hw => ?_)
        obtain ⟨M_10, hM_10⟩ : ∃ z : ti_M, z = uY M_4 60 16 (upd (tY M_4 60 16) (x_1 : Int32).toNatClampNeg x_9) := ⟨_, rfl⟩
        have hw := hw.to hM_10.symm
        have iM_10 : mI Tm M_10 := mI_up (i := x_1.toNatClampNeg) iM_4 hM_10 trivial
        obtain ⟨x_11, ex_11⟩ : ∃ z : Int32, z = x_1 + 1 := ⟨_, rfl⟩
        have tx_11 : x_11.toInt = x_1.toInt + 1 := i_add ex_11 rfl (by decide) (by omega) (by omega)
        refine lv_iinc (v := x_11) (lv' := [(2, .int x_11), (1, .int 64), (0, .ref (A 60 17))]) hx hb dX10_half_20 hl (k := 0) rfl (by rw [ex_11]; rfl) (by decide) rfl (fun ls hl => ?_)
        refine lv_goto (tgt := 7) hx hb dX10_half_23 (by decide) ?_
        exact ih_6 x_11 M_10 _ _ _ (by omega) (by first | omega | decide) (by first | omega | decide) iM_10 (hs_s (b := x_8.toNatClampNeg) j_5 hM_10 (by show (((x_1 : Int32).toInt.toNat : Nat) : Int) = (x_1 : Int32).toInt; omega) yx_9 (by show (x_8).toInt.toNat = 64 + (x_1 : Int32).toInt.toNat; omega) (by omega) (by omega)) hw (lv_sub hl [0, 1, 2] rfl)
  exact hl_7_5 ((64 - 0 : Int).toNat + 1) 0 M _ _ _ (Nat.lt_succ_self _) (by have lt0 : (0 : Int32).toInt = 0 := (by decide); first | omega | decide) (by have lt0 : (0 : Int32).toInt = 0 := (by decide); first | omega | decide) hI hs_0 hw (lv_sub hl [0, 1, 2] rfl)
set_option maxHeartbeats 4000000 in
set_option maxRecDepth 100000 in
theorem s_X10_half_17 (l : Launch) (D : va_G) (A : Nat → Nat → Nat) (cy : Nat → ClassId) (hJ : ti_inj ti_LM A) (M : ti_M) (hI : mI Tm M)  : ti_Kv l yX10_half cX10_half 3 0 ti_LM D A cy M [.ref (A 60 18)] (fun M2 => mI Tm M2 ∧ hv 17 64 M2 M) := by
  refine ti_eV yp_X10_half hJ ti_LM_nd (Nat.le_of_ble_eq_true rfl) ?_
  intro p e s m args below meth c Q H0 C hQ hw ls hl
  have hx := C.1
  have hb := C.2.1
  have hl : lv_has ls 3 [(0, .ref (A 60 18))] := hl
  refine lv_aload_n hx hb dX10_half_0 rfl (lv_at hl 0 rfl) ?_
  refine ti_alen (ci := 10) (k := 17) (n := 128) (t0 := 1) (v := 128) C hw ob_60 (by decide) (fun _ _ => ⟨rfl, rfl⟩) rfl rfl dX10_half_1 ?_
  refine lv_iconst (v := 2) hx hb dX10_half_2 (by decide) ?_
  refine lv_idiv hx hb dX10_half_3 (by decide) ?_
  refine ti_top (y := 64) (by decide) ?_
  refine lv_istore_n (lv' := [(1, .int 64), (0, .ref (A 60 18))]) hx hb dX10_half_4 rfl hl (by decide) rfl (fun ls hl => ?_)
  refine lv_iconst (v := 0) hx hb dX10_half_5 (by decide) ?_
  refine lv_istore_n (lv' := [(2, .int 0), (1, .int 64), (0, .ref (A 60 18))]) hx hb dX10_half_6 rfl hl (by decide) rfl (fun ls hl => ?_)
  have hl_7_5 : ∀ (n_6 : Nat) (x_1 : Int32) (M_4 : ti_M) (H : Heap) (locs : List Loc) (ls : Array Slot), (64 - x_1.toInt : Int).toNat < n_6 → (0 ≤ x_1.toInt) → (x_1.toInt ≤ 64) → (mI Tm M_4) → (hs 17 64 M_4 M x_1.toInt) → ti_H ti_LM D A cy H0 M_4 H locs → lv_has ls 3 [(2, .int x_1), (1, .int 64), (0, .ref (A 60 18))] → W p l e (ti_rm 0) s m args below meth c H locs 0 0 Q (F0 m 7 ls []) := by
    intro n_6
    induction n_6 with
    | zero => intro x_1 M_4 H locs ls hf_6; exact absurd hf_6 (Nat.not_lt_zero _)
    | succ n_6 ih_6 =>
      intro x_1 M_4 H locs ls hf_6 b_2 b_3 iM_4 j_5 hw hl
      refine lv_iload_n hx hb dX10_half_7 rfl (lv_at hl 0 rfl) ?_
      refine lv_iload_n hx hb dX10_half_8 rfl (lv_at hl 1 rfl) ?_
      refine sb_icmp_ge (tgt := 26) hx hb rfl (by decide : (64 : Int32).toInt = 64) dX10_half_9 (by decide) (fun c_9_6 => ?_) (fun c_9_6 => ?_)
      · exact hQ _ _ _ _ _ hw (⟨iM_4, hv_s j_5 (by omega)⟩) dX10_half_26
      · refine lv_aload_n hx hb dX10_half_12 rfl (lv_at hl 2 rfl) ?_
        refine lv_iload_n hx hb dX10_half_13 rfl (lv_at hl 0 rfl) ?_
        refine lv_aload_n hx hb dX10_half_14 rfl (lv_at hl 2 rfl) ?_
        refine lv_iload_n hx hb dX10_half_15 rfl (lv_at hl 1 rfl) ?_
        refine lv_iload_n hx hb dX10_half_16 rfl (lv_at hl 0 rfl) ?_
        refine lv_iadd hx hb dX10_half_17 ?_
        refine lv_topi (fun x_8 ex_8 => ?_)
        have tx_8 : x_8.toInt = 64 + x_1.toInt := i_add ex_8 (by decide : (64 : Int32).toInt = 64) rfl (by omega) (by omega)
        refine ti_iald (ci := 10) (k := 17) (n := 128) C hw ob_60 (by decide) (fun _ _ => rfl) (vp_in_iff.mpr (by omega)) dX10_half_18 ?_
        refine lv_topi (fun x_9 ex_9 => ?_)
        have yx_9 : tY M_4 60 17 x_8.toNatClampNeg = x_9 := (ex_9.symm)
        refine ti_iast (ci := 10) (k := 17) (n := 128) C hw ob_60 (by decide) (fun _ _ => rfl) (vp_in_iff.mpr (by omega)) dX10_half_19 (fun H locs hw => ?_)
        obtain ⟨M_10, hM_10⟩ : ∃ z : ti_M, z = uY M_4 60 17 (upd (tY M_4 60 17) (x_1 : Int32).toNatClampNeg x_9) := ⟨_, rfl⟩
        have hw := hw.to hM_10.symm
        have iM_10 : mI Tm M_10 := mI_up (i := x_1.toNatClampNeg) iM_4 hM_10 trivial
        obtain ⟨x_11, ex_11⟩ : ∃ z : Int32, z = x_1 + 1 := ⟨_, rfl⟩
        have tx_11 : x_11.toInt = x_1.toInt + 1 := i_add ex_11 rfl (by decide) (by omega) (by omega)
        refine lv_iinc (v := x_11) (lv' := [(2, .int x_11), (1, .int 64), (0, .ref (A 60 18))]) hx hb dX10_half_20 hl (k := 0) rfl (by rw [ex_11]; rfl) (by decide) rfl (fun ls hl => ?_)
        refine lv_goto (tgt := 7) hx hb dX10_half_23 (by decide) ?_
        exact ih_6 x_11 M_10 _ _ _ (by omega) (by first | omega | decide) (by first | omega | decide) iM_10 (hs_s (b := x_8.toNatClampNeg) j_5 hM_10 (by show (((x_1 : Int32).toInt.toNat : Nat) : Int) = (x_1 : Int32).toInt; omega) yx_9 (by show (x_8).toInt.toNat = 64 + (x_1 : Int32).toInt.toNat; omega) (by omega) (by omega)) hw (lv_sub hl [0, 1, 2] rfl)
  exact hl_7_5 ((64 - 0 : Int).toNat + 1) 0 M _ _ _ (Nat.lt_succ_self _) (by have lt0 : (0 : Int32).toInt = 0 := (by decide); first | omega | decide) (by have lt0 : (0 : Int32).toInt = 0 := (by decide); first | omega | decide) hI hs_0 hw (lv_sub hl [0, 1, 2] rfl)
set_option maxHeartbeats 4000000 in
set_option maxRecDepth 100000 in
theorem s_X10_begins (l : Launch) (D : va_G) (A : Nat → Nat → Nat) (cy : Nat → ClassId) (hJ : ti_inj ti_LM A) (M : ti_M) (hI : mI Tm M)  : ti_Kv l yX10_begins cX10_begins 1 1 ti_LM D A cy M [.ref (A 60 0)] (fun M2 => mI Tm M2 ∧ rq 0 M2 M ∧ mC M2 0 ∧ mP M2 0) := by
  refine ti_eV yp_X10_begins hJ ti_LM_nd (Nat.le_of_ble_eq_true rfl) ?_
  intro p e s m args below meth c Q H0 C hQ hw ls hl
  have hx := C.1
  have hb := C.2.1
  have hl : lv_has ls 1 [(0, .ref (A 60 0))] := hl
  refine lv_aload_n hx hb dX10_begins_0 rfl (lv_at hl 0 rfl) ?_
  refine lv_iconst (v := 0) hx hb dX10_begins_1 (by decide) ?_
  refine ti_callVv (ci := 10) (av := [.int 0]) C hw (s_X10_starts_0 l D A cy hJ M hI ) ⟨ml_X10_353, ym_X10_starts, yv_X10_starts, yi_X10_starts, yc_X10_starts⟩ yd_X10_starts ob_60 (by decide) rfl rfl hl.1 (Nat.le_of_ble_eq_true rfl) ⟨by decide, by decide⟩ ⟨Nat.zero_le _, Nat.zero_le _⟩ dX10_begins_2 (fun M_2 H locs hp_2 hw => ?_)
  obtain ⟨iM_2, q_3, q_4, q_5⟩ := hp_2
  exact hQ _ _ _ _ _ hw (⟨iM_2, q_3, q_4, q_5⟩) dX10_begins_5

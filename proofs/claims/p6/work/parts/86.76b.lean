section
variable {Tc : gC} {Tm : gM}
variable {Tc : gC} {Tm : gM}
theorem sc_b {v : Int} : 22 ≤ bq_sc v ∧ bq_sc v ≤ 41 ∧ (bq_sc v = 24 ↔ v = 260) := by
  unfold bq_sc
  repeat' split
  all_goals omega
def qR (n q : Nat) (s : Nat → Int) (M : ti_M) : Prop :=
  (s 2 = (tY M 60 34 q).toInt ∧ s 3 = (tY M 60 38 q).toInt ∧ s 4 = (tY M 60 35 q).toInt ∧ s 5 = (tY M 60 36 q).toInt) ∧
  (∀ p : Nat, p < 8 → (p : Int) < s 3 → s (96 + p) = (tY M 60 39 (8 * q + p)).toInt) ∧
  (∀ k : Nat, k < 3 → s (112 + k) = (tY M 60 49 (3 * q + k)).toInt) ∧
  (∀ m : Nat, m < n → s (128 + m) = (tY M 60 40 (8 * q + m)).toInt ∧ s (144 + m) = (tY M 60 44 (8 * q + m)).toInt ∧ s (160 + m) = (tY M 60 41 (8 * q + m)).toInt ∧ s (176 + m) = (tY M 60 42 (8 * q + m)).toInt ∧ s (192 + m) = (tY M 60 43 (8 * q + m)).toInt ∧ s (240 + m) = (tY M 60 47 (8 * q + m)).toInt) ∧
  (∀ m : Nat, m < n → (s (128 + m) ≠ 0 → s (208 + m) = (tY M 60 45 (8 * q + m)).toInt) ∧ (2 ≤ s (128 + m) → s (224 + m) = (tY M 60 46 (8 * q + m)).toInt)) ∧
  (if s 1 = 0 then ∀ m : Nat, m < 8 → s (256 + m) = pp_bt (tY M 60 37 q) m else tY M 60 37 q = 0)
/-- when one was served -/
def qV (n q : Nat) (s : Nat → Int) (M : ti_M) : Prop := ∀ m : Nat, m < n → (tY M 60 48 (8 * q + m)).toInt = if s (128 + m) = 2 then s (224 + m) else -2
def tR (tx : Nat → Int) (M : ti_M) : Prop :=
  (tx 4 = (tY M 60 3 0).toInt ∧ tx 6 = (tY M 60 3 1).toInt ∧ tx 7 = (tY M 60 3 2).toInt ∧ tx 8 = (tY M 60 3 3).toInt ∧ tx 9 = (tY M 60 3 4).toInt ∧ tx 10 = (tY M 60 3 5).toInt ∧ tx 11 = (tY M 60 3 6).toInt ∧ tx 5 = (tY M 60 3 7).toInt) ∧
  (∀ k : Nat, k < 3 → tx (32 + k) = (tY M 60 3 (8 + k)).toInt) ∧
  (∀ m : Nat, m < 8 → (m : Int) < tx 4 → tx (100 + 16 * m + 1) = (tY M 60 5 m).toInt ∧ tx (100 + 16 * m + 2) = (tY M 60 6 m).toInt ∧ tx (100 + 16 * m + 3) = (tY M 60 7 m).toInt ∧ tx (100 + 16 * m + 4) = (tY M 60 8 m).toInt ∧ tx (100 + 16 * m + 5) = (tY M 60 9 m).toInt ∧ tx (100 + 16 * m + 6) = (tY M 60 10 m).toInt ∧ tx (100 + 16 * m + 7) = (tY M 60 11 m).toInt ∧ tx (100 + 16 * m + 8) = (tY M 60 12 m).toInt ∧ tx (100 + 16 * m + 9) = (tY M 60 13 m).toInt - 1) ∧
  ∀ j : Nat, j < 3 → ∃ a : Nat, (tY M 60 14 j).toInt = a ∧ (tY M 60 15 j).toInt = a + tx (300 + j) ∧ 0 ≤ tx (300 + j) ∧ (0 < tx (300 + j) → dp (tY M 60 16) (tY M 60 17) a (tx (300 + j)).toNat = some 1) ∧ ∀ n : Nat, (n : Int) < tx (300 + j) → tx (400 + 64 * j + n) = bq_kc (tY M 60 16 (a + n)).toInt (tY M 60 17 (a + n)).toInt ∧ ((tY M 60 16 (a + n)).toInt = 0 → 0 ≤ (tY M 60 17 (a + n)).toInt)
theorem tR_lw {tx : Nat → Int} {M N : ti_M} (h : tR tx M) (e : lw N M) : tR tx N := by
  have e3 := e 3 (by decide) (by decide)
  unfold tR
  rw [e3, e 5 (by decide) (by decide), e 6 (by decide) (by decide), e 7 (by decide) (by decide), e 8 (by decide) (by decide), e 9 (by decide) (by decide), e 10 (by decide) (by decide), e 11 (by decide) (by decide), e 12 (by decide) (by decide), e 13 (by decide) (by decide), e 14 (by decide) (by decide), e 15 (by decide) (by decide), e 16 (by decide) (by decide), e 17 (by decide) (by decide)]
  exact h
/-- all rows of queues but those of q stay -/
def bk (q k i : Nat) : Prop := 34 ≤ k ∧ k ≤ 49 ∧ (if k ≤ 38 then i = q else if k ≤ 48 then 8 * q ≤ i ∧ i < 8 * q + 8 else 3 * q ≤ i ∧ i < 3 * q + 3)
def eR (q : Nat) (N M : ti_M) : Prop := (∀ k : Nat, k ≠ 33 → tI N 60 k = tI M 60 k) ∧ ∀ k i : Nat, ¬ bk q k i → tY N 60 k i = tY M 60 k i
theorem eR.refl {q : Nat} {M : ti_M} : eR q M M := ⟨fun _ _ => rfl, fun _ _ _ => rfl⟩
theorem eR.trans {q : Nat} {K N M : ti_M} (x : eR q K N) (y : eR q N M) : eR q K M := ⟨fun k h => (x.1 k h).trans (y.1 k h), fun k i h => (x.2 k i h).trans (y.2 k i h)⟩
theorem eR_Y {q k j : Nat} {N M : ti_M} {v : Int32} (e : N = uY M 60 k (upd (tY M 60 k) j v)) (h : bk q k j) : eR q N M := ⟨fun _ _ => tI_uYE e, fun k2 i hn => by
  by_cases r : k2 = k
  · subst r
    rw [tY_uE e, pk_un (fun r2 => hn (by subst r2; exact h))]
  · exact cg (tY_nE e (nk r)) i⟩
def rz (st : Nat → Int) (t : Int) (M : ti_M) : Prop := ∀ j : Nat, (j : Int) < t → (tZ M 60 32 j).toInt = st j ∧ -1000000000000 ≤ st j ∧ st j ≤ 1000000000000
def rn6 (fa : Nat → Int) (n : Nat) (M : ti_M) : Prop := ∀ j : Nat, j < n → (tZ M 60 31 j).toInt = fa j ∧ -1000000000000 ≤ fa j ∧ fa j ≤ 1000000000000
section
variable {fa st : Nat → Int} {t t2 z j0 : Int} {n : Nat} {y : Int32} {v x : Int64} {M N : ti_M}
theorem rz_up (h : rz st t M) (e : N = uZ M 60 32 (vp_updL (tZ M 60 32) y.toNatClampNeg v)) (hy : y.toInt = j0) (h0 : 0 ≤ j0) (hv : v.toInt = z) (hz : -1000000000000 ≤ z ∧ z ≤ 1000000000000) (ht : ∀ j : Nat, (j : Int) < t2 → (j : Int) = j0 ∨ (j : Int) < t) : rz (pp_su st j0.toNat z) t2 N := by
  rw [i_cl (n := j0.toNat) (by omega)] at e
  intro j hj
  rw [tZ_uE e]
  unfold vp_updL
  by_cases q : j = j0.toNat
  · subst q
    rw [su_s, if_pos rfl]
    exact ⟨hv, hz⟩
  · rw [su_n q, if_neg q]
    exact h j (by rcases ht j hj with r | r; omega; exact r)
theorem rz_I {k : Nat} {w : Int32} (h : rz st t M) (e : N = uI M 60 k w) : rz st t N := by subst e; exact h
theorem rz_1 (h : rz st t M) {i : Int32} (ex : x = tZ M 60 32 i.toNatClampNeg) (h0 : 0 ≤ i.toInt) (h1 : i.toInt < t) : x.toInt = st i.toInt.toNat ∧ -1000000000000 ≤ x.toInt ∧ x.toInt ≤ 1000000000000 := by
  rw [i_cl (n := i.toInt.toNat) (by omega)] at ex
  have q := h i.toInt.toNat (by omega)
  rw [ex, q.1]; exact ⟨rfl, q.2⟩
theorem rn6_I {k : Nat} {w : Int32} (h : rn6 fa n M) (e : N = uI M 60 k w) : rn6 fa n N := by subst e; exact h
theorem rn6_32 {f : Nat → Int64} (h : rn6 fa n M) (e : N = uZ M 60 32 f) : rn6 fa n N := fun j hj => by rw [tZ_nE e (nk (by decide))]; exact h j hj
theorem rn6_1 (h : rn6 fa n M) {i : Int32} (ex : x = tZ M 60 31 i.toNatClampNeg) (h0 : 0 ≤ i.toInt) (h1 : i.toInt < n) : x.toInt = fa i.toInt.toNat ∧ -1000000000000 ≤ x.toInt ∧ x.toInt ≤ 1000000000000 := by
  rw [i_cl (n := i.toInt.toNat) (by omega)] at ex
  have q := h i.toInt.toNat (by omega)
  rw [ex, q.1]; exact ⟨rfl, q.2⟩
theorem rn6_s (h : rn6 fa n M) (e : N = uZ M 60 31 (vp_updL (tZ M 60 31) y.toNatClampNeg v)) (hy : y.toInt = (n : Int)) (hv : v.toInt = fa n) (hb : -1000000000000 ≤ v.toInt ∧ v.toInt ≤ 1000000000000) : rn6 fa (n + 1) N := by
  rw [i_cl hy] at e
  intro j hj
  rw [tZ_uE e]
  unfold vp_updL
  by_cases q : j = n
  · subst q; rw [if_pos rfl, ← hv]; exact ⟨rfl, hb⟩
  · rw [if_neg q]; exact h j (by omega)
end
theorem rn6_0 {fa : Nat → Int} {M : ti_M} : rn6 fa 0 M := fun j hj => absurd hj (Nat.not_lt_zero _)
theorem l_abs {x z : Int64} (e : z = if 0 < x then x else -x) (h1 : -9223372036854775807 ≤ x.toInt) (h2 : x.toInt ≤ 9223372036854775807) : (0 < x.toInt ∧ z.toInt = x.toInt) ∨ (x.toInt ≤ 0 ∧ z.toInt = -x.toInt) := by
  have z0 : (0 : Int64).toInt = 0 := by decide
  by_cases h : 0 < x
  · rw [if_pos h] at e
    have := Int64.lt_iff_toInt_lt.mp h
    exact Or.inl ⟨by omega, by rw [e]⟩
  · rw [if_neg h] at e
    have : ¬ (0 : Int64).toInt < x.toInt := fun q => h (Int64.lt_iff_toInt_lt.mpr q)
    exact Or.inr ⟨by omega, l_neg e rfl h1 h2⟩
/-- whether a product is too much, by a quotient -/
theorem bl_mr {a b n m w : Int} (hn : (a < 0 ∧ n = -a) ∨ (0 < a ∧ n = a)) (hm : m = Int.tdiv 1000000000000 n) (hw : (b < 0 ∧ w = -b) ∨ (0 ≤ b ∧ w = b)) : w ≤ m ↔ (a * b ≤ 1000000000000 ∧ -1000000000000 ≤ a * b) := by
  rw [← bl_mq hn hm]; omega
def fI (N M : ti_M) : Prop := ∀ k : Nat, k ≠ 33 → tI N 60 k = tI M 60 k
theorem fI.refl {M : ti_M} : fI M M := fun _ _ => rfl
theorem fI.trans {K N M : ti_M} (x : fI K N) (y : fI N M) : fI K M := fun k h => (x k h).trans (y k h)
theorem fI_I {N M : ti_M} {v : Int32} (e : N = uI M 60 33 v) : fI N M := fun _ h => tI_nE e (nk h)
theorem fI_Z {k : Nat} {N M : ti_M} {f : Nat → Int64} (e : N = uZ M 60 k f) : fI N M := fun _ _ => tI_uZE e
theorem fI_Y {k : Nat} {N M : ti_M} {f : Nat → Int32} (e : N = uY M 60 k f) : fI N M := fun _ _ => tI_uYE e
theorem eR_fI {q : Nat} {N M : ti_M} (h : fI N M) (e : N.2.1 = M.2.1) : eR q N M := ⟨h, fun _ i _ => cg (tY_fr e) i⟩
theorem bk_q {q k : Nat} {z : Int32} (hz : z.toInt = (q : Int)) (h : 34 ≤ k ∧ k ≤ 38) : bk q k z.toNatClampNeg := ⟨h.1, by omega, by rw [if_pos h.2, i_cl hz]⟩
theorem bk_m {q k : Nat} {z : Int32} (hz : 8 * (q : Int) ≤ z.toInt ∧ z.toInt < 8 * (q : Int) + 8) (h : 39 ≤ k ∧ k ≤ 48) : bk q k z.toNatClampNeg := ⟨by omega, by omega, by
  rw [if_neg (by omega), if_pos h.2, i_cl (n := z.toInt.toNat) (by omega)]; omega⟩
theorem bk_p {q : Nat} {z : Int32} (hz : 3 * (q : Int) ≤ z.toInt ∧ z.toInt < 3 * (q : Int) + 3) : bk q 49 z.toNatClampNeg := ⟨by decide, by decide, by
  rw [if_neg (by decide), if_neg (by decide), i_cl (n := z.toInt.toNat) (by omega)]; omega⟩
end
section
variable {Tc : gC} {Tm : gM}
set_option maxHeartbeats 4000000 in
set_option maxRecDepth 100000 in
theorem z_X10_is (l : Launch) (D : va_G) (A : Nat → Nat → Nat) (cy : Nat → ClassId) (hJ : ti_inj ti_LM A) (M : ti_M) (hI : mI Tm M)  (a : Int32) : ti_Kl l yX10_is cX10_is 1 (some .long) 0 ti_LM D A cy M [.int a] (fun r M2 => M2 = M ∧ ((a.toInt = 0 ∧ r.toInt = 0) ∨ (a.toInt ≠ 0 ∧ r.toInt = 1))) := by
  refine ti_eL yp_X10_is hJ ti_LM_nd (Nat.le_of_ble_eq_true rfl) ?_
  intro p e s m args below meth c Q H0 C hQ hw ls hl
  have hx := C.1
  have hb := C.2.1
  have hl : lv_has ls 1 [(0, .int a)] := hl
  refine lv_iload_n hx hb dX10_is_0 rfl (lv_at hl 0 rfl) ?_
  refine sb_if_eq (tgt := 8) hx hb rfl dX10_is_1 (by decide) (fun c_1_0 => ?_) (fun c_1_0 => ?_)
  · refine lv_lconst (v := 0) hx hb dX10_is_8 (by decide) ?_
    exact hQ _ _ _ _ _ _ hw (⟨rfl, Or.inl ⟨by omega, by decide⟩⟩) dX10_is_9
  · refine lv_lconst (v := 1) hx hb dX10_is_4 (by decide) ?_
    refine lv_goto (tgt := 9) hx hb dX10_is_5 (by decide) ?_
    exact hQ _ _ _ _ _ _ hw (⟨rfl, Or.inr ⟨by omega, by decide⟩⟩) dX10_is_9
set_option maxHeartbeats 4000000 in
set_option maxRecDepth 100000 in
theorem z_X10_works (l : Launch) (D : va_G) (A : Nat → Nat → Nat) (cy : Nat → ClassId) (hJ : ti_inj ti_LM A) (M : ti_M) (hI : mI Tm M) (sg d : Int32) (hd : tI M 60 33 = d) (d1 : 1 ≤ d.toInt) (d2 : d.toInt ≤ 64) (hs : sg.toInt = 260 ∨ 2 ≤ d.toInt) (st : Nat → Int) (hz : rz st d.toInt M) : ti_Ki l yX10_works cX10_works 8 (some .boolean) 1 ti_LM D A cy M [.ref (A 60 0), .int sg] (fun r M2 => fI M2 M ∧ tZ M2 60 31 = tZ M 60 31 ∧ ((r.toInt = 1 ∧ sg.toInt = 260 ∧ rz (pp_su st (d.toInt.toNat - 1) (if st (d.toInt.toNat - 1) = 0 then 1 else 0)) d.toInt M2) ∨ (r.toInt = 1 ∧ sg.toInt ≠ 260 ∧ (bl_w (bq_sc sg.toInt) (st (d.toInt.toNat - 2)) (st (d.toInt.toNat - 1)) ≤ 1000000000000 ∧ -1000000000000 ≤ bl_w (bq_sc sg.toInt) (st (d.toInt.toNat - 2)) (st (d.toInt.toNat - 1))) ∧ rz (pp_su st (d.toInt.toNat - 2) (bl_w (bq_sc sg.toInt) (st (d.toInt.toNat - 2)) (st (d.toInt.toNat - 1)))) (d.toInt - 1) M2) ∨ (r.toInt = 0 ∧ sg.toInt ≠ 260 ∧ ¬ (bl_w (bq_sc sg.toInt) (st (d.toInt.toNat - 2)) (st (d.toInt.toNat - 1)) ≤ 1000000000000 ∧ -1000000000000 ≤ bl_w (bq_sc sg.toInt) (st (d.toInt.toNat - 2)) (st (d.toInt.toNat - 1))))) ∧ mI Tm M2 ∧ qw M2 M ∧ M2.2.1 = M.2.1 ∧ 0 ≤ r.toInt ∧ r.toInt ≤ 1 ∧ ((sg.toInt = 260 ∧ (tI M2 60 33).toInt = d.toInt) ∨ (sg.toInt ≠ 260 ∧ (tI M2 60 33).toInt = d.toInt - 1))) := by
  refine ti_eI yp_X10_works hJ ti_LM_nd (Nat.le_of_ble_eq_true rfl) ?_
  intro p e s m args below meth c Q H0 C hQ hw ls hl
  have hx := C.1
  have hb := C.2.1
  have hl : lv_has ls 8 [(0, .ref (A 60 0)), (1, .int sg)] := hl
  refine lv_aload_n hx hb dX10_works_0 rfl (lv_at hl 0 rfl) ?_
  refine ti_get (ci := 10) (k := 32) (N := 67) (T := TX10) (v := .ref (A 60 33)) C hw iw_10 rfl ob_60 (by decide) (by decide) fl_X10_66 rfl rfl dX10_works_1 ?_
  refine lv_aload_n hx hb dX10_works_4 rfl (lv_at hl 0 rfl) ?_
  refine ti_get (ci := 10) (k := 33) (N := 67) (T := TX10) C hw iw_10 rfl ob_60 (by decide) (by decide) fl_X10_320 rfl rfl dX10_works_5 ?_
  refine ti_top (y := d) (hd) ?_
  have u_1 : (tI M 60 33).toInt = (d : Int32).toInt := by rw [(hd)]
  refine lv_iconst (v := 1) hx hb dX10_works_8 (by decide) ?_
  refine lv_isub hx hb dX10_works_9 ?_
  refine lv_topi (fun x_2 ex_2 => ?_)
  have tx_2 : x_2.toInt = d.toInt - 1 := i_sub ex_2 rfl (by decide : (1 : Int32).toInt = 1) (by omega) (by omega)
  refine ti_lald (ci := 10) (k := 32) (n := 64) C hw ob_60 (by decide) (fun _ _ => rfl) (vp_in_iff.mpr (by omega)) dX10_works_10 ?_
  refine lv_topl (fun x_3 ex_3 => ?_)
  have lzx_3 := rz_1 hz ex_3 (by omega) (by omega)
  have lax_3 := lzx_3.1
  have lbx_3 := lzx_3.2.1
  have lcx_3 := lzx_3.2.2
  have sy1 : st (d.toInt.toNat - 1) = x_3.toInt := by rw [lax_3]; exact congrArg _ (by omega)
  refine lv_lstore_n (lv' := [(2, .long x_3), (0, .ref (A 60 0)), (1, .int sg)]) hx hb dX10_works_11 rfl hl (by decide) rfl (fun ls hl => ?_)
  refine lv_iload_n hx hb dX10_works_12 rfl (lv_at hl 2 rfl) ?_
  refine lv_sipush (v := 260) hx hb dX10_works_13 (by decide) ?_
  refine sb_icmp_ne (tgt := 46) hx hb rfl (by decide : (260 : Int32).toInt = 260) dX10_works_16 (by decide) (fun c_16_3 => ?_) (fun c_16_3 => ?_)
  · refine lv_aload_n hx hb dX10_works_46 rfl (lv_at hl 1 rfl) ?_
    refine ti_get (ci := 10) (k := 32) (N := 67) (T := TX10) (v := .ref (A 60 33)) C hw iw_10 rfl ob_60 (by decide) (by decide) fl_X10_66 rfl rfl dX10_works_47 ?_
    refine lv_aload_n hx hb dX10_works_50 rfl (lv_at hl 1 rfl) ?_
    refine ti_get (ci := 10) (k := 33) (N := 67) (T := TX10) C hw iw_10 rfl ob_60 (by decide) (by decide) fl_X10_320 rfl rfl dX10_works_51 ?_
    refine ti_top (y := d) (hd) ?_
    have u_16 : (tI M 60 33).toInt = (d : Int32).toInt := by rw [(hd)]
    refine lv_iconst (v := 2) hx hb dX10_works_54 (by decide) ?_
    refine lv_isub hx hb dX10_works_55 ?_
    refine lv_topi (fun x_17 ex_17 => ?_)
    have tx_17 : x_17.toInt = d.toInt - 2 := i_sub ex_17 rfl (by decide : (2 : Int32).toInt = 2) (by omega) (by omega)
    refine ti_lald (ci := 10) (k := 32) (n := 64) C hw ob_60 (by decide) (fun _ _ => rfl) (vp_in_iff.mpr (by omega)) dX10_works_56 ?_
    refine lv_topl (fun x_18 ex_18 => ?_)
    have lzx_18 := rz_1 hz ex_18 (by omega) (by omega)
    have lax_18 := lzx_18.1
    have lbx_18 := lzx_18.2.1
    have lcx_18 := lzx_18.2.2
    have sy2 : st (d.toInt.toNat - 2) = x_18.toInt := by rw [lax_18]; exact congrArg _ (by omega)
    refine lv_lstore (lv' := [(4, .long x_18), (2, .long x_3), (0, .ref (A 60 0)), (1, .int sg)]) hx hb dX10_works_57 hl (by decide) rfl (fun ls hl => ?_)
    refine lv_aload_n hx hb dX10_works_59 rfl (lv_at hl 2 rfl) ?_
    refine lv_dup hx hb dX10_works_60 rfl ?_
    refine ti_get (ci := 10) (k := 33) (N := 67) (T := TX10) C hw iw_10 rfl ob_60 (by decide) (by decide) fl_X10_320 rfl rfl dX10_works_61 ?_
    refine ti_top (y := d) (hd) ?_
    have u_19 : (tI M 60 33).toInt = (d : Int32).toInt := by rw [(hd)]
    refine lv_iconst (v := 1) hx hb dX10_works_64 (by decide) ?_
    refine lv_isub hx hb dX10_works_65 ?_
    refine lv_topi (fun x_20 ex_20 => ?_)
    have tx_20 : x_20.toInt = d.toInt - 1 := i_sub ex_20 rfl (by decide : (1 : Int32).toInt = 1) (by omega) (by omega)
    refine ti_putI (ci := 10) (k := 33) (N := 67) (T := TX10) C hw iw_10 tyX10 tyX10_ok nmX10 rfl ob_60 (by decide) (by decide) fl_X10_320 rfl rfl rfl rfl (fn_10 A _) fs_10_33 dX10_works_66 (fun H locs hw => ?_)
    obtain ⟨M_21, hM_21⟩ : ∃ z : ti_M, z = uI M 60 33 x_20 := ⟨_, rfl⟩
    have hw := hw.to hM_21.symm
    have iM_21 : mI Tm M_21 := mI_uI hI hM_21 (by decide) (by decide) (ib_mk (lo := 0) (hi := 64) (by omega) (by omega))
    have vM_21 : (tI M_21 60 33).toInt = (x_20 : Int32).toInt := by rw [tI_uE hM_21]
    have hz_22 : rz st (d.toInt) M_21 := rz_I hz hM_21
    refine lv_iload_n hx hb dX10_works_69 rfl (lv_at hl 3 rfl) ?_
    by_cases s_23_42 : sg = 42
    · have qs_23_42 : sg.toInt = 42 := by rw [s_23_42]; decide
      refine lv_lookup (tgt := 186) hx hb dX10_works_70 (by decide) (off := 116) (by rw [s_23_42]; decide) (by decide) ?_
      refine lv_lload hx hb dX10_works_186 (lv_at hl 0 rfl) ?_
      refine lv_lconst (v := 0) hx hb dX10_works_188 (by decide) ?_
      have z_26 : (0 : Int64).toInt = 0 := by decide
      refine W.lcmp hx hb dX10_works_189 ?_
      refine lv_topi (fun x_27 ex_27 => ?_)
      have cx_27 := lg_c ex_27
      refine sb_if_eq (tgt := 212) hx hb rfl dX10_works_190 (by decide) (fun c_190_27 => ?_) (fun c_190_27 => ?_)
      · have mq0 : x_18.toInt * x_3.toInt = 0 := by rw [show x_18.toInt = 0 by omega, Int.zero_mul]
        refine lv_lload hx hb dX10_works_212 (lv_at hl 0 rfl) ?_
        refine lv_lload_n hx hb dX10_works_214 rfl (lv_at hl 1 rfl) ?_
        refine lv_lmul hx hb dX10_works_215 ?_
        refine lv_topl (fun x_35 ex_35 => ?_)
        have tx_35 : x_35.toInt = x_18.toInt * x_3.toInt := l_mul ex_35 rfl rfl (by omega) (by omega)
        refine lv_lstore (lv' := [(6, .long x_35), (4, .long x_18), (2, .long x_3), (0, .ref (A 60 0)), (1, .int sg)]) hx hb dX10_works_216 hl (by decide) rfl (fun ls hl => ?_)
        refine lv_goto (tgt := 407) hx hb dX10_works_218 (by decide) ?_
        refine lv_aload_n hx hb dX10_works_407 rfl (lv_at hl 3 rfl) ?_
        refine ti_get (ci := 10) (k := 32) (N := 67) (T := TX10) (v := .ref (A 60 33)) C hw iw_10 rfl ob_60 (by decide) (by decide) fl_X10_66 rfl rfl dX10_works_408 ?_
        refine lv_aload_n hx hb dX10_works_411 rfl (lv_at hl 3 rfl) ?_
        refine ti_get (ci := 10) (k := 33) (N := 67) (T := TX10) C hw iw_10 rfl ob_60 (by decide) (by decide) fl_X10_320 rfl rfl dX10_works_412 ?_
        refine ti_top (y := x_20) (tI_uE hM_21) ?_
        have u_113 : (tI M_21 60 33).toInt = (x_20 : Int32).toInt := by rw [(tI_uE hM_21)]
        refine lv_iconst (v := 1) hx hb dX10_works_415 (by decide) ?_
        refine lv_isub hx hb dX10_works_416 ?_
        refine lv_topi (fun x_114 ex_114 => ?_)
        have tx_114 : x_114.toInt = x_20.toInt - 1 := i_sub ex_114 rfl (by decide : (1 : Int32).toInt = 1) (by omega) (by omega)
        refine lv_lload hx hb dX10_works_417 (lv_at hl 0 rfl) ?_
        refine ti_last (ci := 10) (k := 32) (n := 64) C hw ob_60 (by decide) (fun _ _ => rfl) (vp_in_iff.mpr (by omega)) dX10_works_419 (fun H locs hw => ?_)
        obtain ⟨M_115, hM_115⟩ : ∃ z : ti_M, z = uZ M_21 60 32 (vp_updL (tZ M_21 60 32) (x_114 : Int32).toNatClampNeg x_35) := ⟨_, rfl⟩
        have hw := hw.to hM_115.symm
        have iM_115 : mI Tm M_115 := mI_uZ iM_21 hM_115
        refine lv_lload hx hb dX10_works_420 (lv_at hl 0 rfl) ?_
        refine lv_ldc2 (v := 1000000000000) hx hb C.2.2.2.1 (C.2.2.1 _ cn_X10_333) dX10_works_422 ?_
        have z_116 : (1000000000000 : Int64).toInt = 1000000000000 := by decide
        refine W.lcmp hx hb dX10_works_425 ?_
        refine lv_topi (fun x_117 ex_117 => ?_)
        have cx_117 := lg_c ex_117
        refine sb_if_gt (tgt := 442) hx hb rfl dX10_works_426 (by decide) (fun c_426_117 => ?_) (fun c_426_117 => ?_)
        · refine lv_iconst (v := 0) hx hb dX10_works_442 (by decide) ?_
          exact hQ _ _ _ _ _ _ hw rfl (by exfalso; omega) dX10_works_443
        · refine lv_lload hx hb dX10_works_429 (lv_at hl 0 rfl) ?_
          refine lv_ldc2 (v := (-1000000000000)) hx hb C.2.2.2.1 (C.2.2.1 _ cn_X10_335) dX10_works_431 ?_
          have z_245 : ((-1000000000000) : Int64).toInt = -1000000000000 := by decide
          refine W.lcmp hx hb dX10_works_434 ?_
          refine lv_topi (fun x_246 ex_246 => ?_)
          have cx_246 := lg_c ex_246
          refine sb_if_lt (tgt := 442) hx hb rfl dX10_works_435 (by decide) (fun c_435_246 => ?_) (fun c_435_246 => ?_)
          · refine lv_iconst (v := 0) hx hb dX10_works_442 (by decide) ?_
            exact hQ _ _ _ _ _ _ hw rfl (by exfalso; omega) dX10_works_443
          · refine lv_iconst (v := 1) hx hb dX10_works_438 (by decide) ?_
            refine lv_goto (tgt := 443) hx hb dX10_works_439 (by decide) ?_
            have hsc : bq_sc sg.toInt = 40 := by unfold bq_sc; (repeat (first | rw [if_pos (by omega)] | rw [if_neg (by omega)]))
            have er : bl_ER = -9223372036854775808 := rfl
            have hbw : bl_w (bq_sc sg.toInt) (st (d.toInt.toNat - 2)) (st (d.toInt.toNat - 1)) = x_35.toInt := by rw [hsc, sy1, sy2]; unfold bl_w; (repeat (first | rw [if_pos (by omega)] | rw [if_neg (by omega)])); (try unfold bl_if); (repeat (first | rw [if_pos (by omega)] | rw [if_neg (by omega)])); first | omega | (rw [tx_35])
            have hzN : rz (pp_su st (d.toInt.toNat - 2) (bl_w (bq_sc sg.toInt) (st (d.toInt.toNat - 2)) (st (d.toInt.toNat - 1)))) (d.toInt - 1) M_115 := by
              have q := rz_up (t2 := d.toInt - 1) hz_22 hM_115 rfl (by omega) (z := bl_w (bq_sc sg.toInt) (st (d.toInt.toNat - 2)) (st (d.toInt.toNat - 1))) hbw.symm (by rw [hbw]; omega) (fun j hj => by omega)
              rw [show x_114.toInt.toNat = d.toInt.toNat - 2 by omega] at q; exact q
            exact hQ _ _ _ _ _ _ hw rfl (⟨(fI.trans (fI_Z hM_115) (fI_I hM_21)), (((tZ_nE hM_115 (nk (by decide))).trans (tZ_uIE hM_21))), Or.inr (Or.inl ⟨by decide, by omega, by rw [hbw]; omega, hzN⟩), iM_115, (qw.trans (qw_Z hM_115) (qw_I hM_21 (by decide))), ((ry_Z hM_115).trans (ry_I hM_21)), (by first | omega | decide), (by first | omega | decide), by rw [((tI_uZE hM_115).trans (tI_uE hM_21))]; omega⟩) dX10_works_443
      · refine lv_lload_n hx hb dX10_works_193 rfl (lv_at hl 1 rfl) ?_
        refine ti_absl C ml_X10_327 hl.1 (by decide) (Nat.le_of_ble_eq_true rfl) ⟨Nat.zero_le _, Nat.zero_le _⟩ dX10_works_194 ?_
        refine lv_topl (fun x_29 ex_29 => ?_)
        have tax_29 := l_abs ex_29 (by omega) (by omega)
        refine lv_ldc2 (v := 1000000000000) hx hb C.2.2.2.1 (C.2.2.1 _ cn_X10_333) dX10_works_197 ?_
        have z_30 : (1000000000000 : Int64).toInt = 1000000000000 := by decide
        refine lv_lload hx hb dX10_works_200 (lv_at hl 0 rfl) ?_
        refine ti_absl C ml_X10_327 hl.1 (by decide) (Nat.le_of_ble_eq_true rfl) ⟨Nat.zero_le _, Nat.zero_le _⟩ dX10_works_202 ?_
        refine lv_topl (fun x_31 ex_31 => ?_)
        have tax_31 := l_abs ex_31 (by omega) (by omega)
        refine lv_ldiv hx hb dX10_works_205 (ab0 ex_31 (lc0 ex_27 c_190_27)) ?_
        refine lv_topl (fun x_32 ex_32 => ?_)
        have tx_32 : x_32.toInt = Int.tdiv ((1000000000000 : Int64).toInt) x_31.toInt := l_div ex_32 rfl rfl (by omega) (by omega)
        have md : x_32.toInt = Int.tdiv 1000000000000 x_31.toInt := by rw [tx_32, show (1000000000000 : Int64).toInt = 1000000000000 by decide]
        have mb := bl_dv (by omega) md
        have mq := bl_mr (a := x_18.toInt) (b := x_3.toInt) (n := x_31.toInt) (m := x_32.toInt) (w := x_29.toInt) (by omega) md (by omega)
        refine W.lcmp hx hb dX10_works_206 ?_
        refine lv_topi (fun x_33 ex_33 => ?_)
        have cx_33 := lg_c ex_33
        refine sb_if_le (tgt := 212) hx hb rfl dX10_works_207 (by decide) (fun c_207_33 => ?_) (fun c_207_33 => ?_)
        · refine lv_lload hx hb dX10_works_212 (lv_at hl 0 rfl) ?_
          refine lv_lload_n hx hb dX10_works_214 rfl (lv_at hl 1 rfl) ?_
          refine lv_lmul hx hb dX10_works_215 ?_
          refine lv_topl (fun x_36 ex_36 => ?_)
          have tx_36 : x_36.toInt = x_18.toInt * x_3.toInt := l_mul ex_36 rfl rfl (by omega) (by omega)
          refine lv_lstore (lv' := [(6, .long x_36), (4, .long x_18), (2, .long x_3), (0, .ref (A 60 0)), (1, .int sg)]) hx hb dX10_works_216 hl (by decide) rfl (fun ls hl => ?_)
          refine lv_goto (tgt := 407) hx hb dX10_works_218 (by decide) ?_
          refine lv_aload_n hx hb dX10_works_407 rfl (lv_at hl 3 rfl) ?_
          refine ti_get (ci := 10) (k := 32) (N := 67) (T := TX10) (v := .ref (A 60 33)) C hw iw_10 rfl ob_60 (by decide) (by decide) fl_X10_66 rfl rfl dX10_works_408 ?_
          refine lv_aload_n hx hb dX10_works_411 rfl (lv_at hl 3 rfl) ?_
          refine ti_get (ci := 10) (k := 33) (N := 67) (T := TX10) C hw iw_10 rfl ob_60 (by decide) (by decide) fl_X10_320 rfl rfl dX10_works_412 ?_
          refine ti_top (y := x_20) (tI_uE hM_21) ?_
          have u_119 : (tI M_21 60 33).toInt = (x_20 : Int32).toInt := by rw [(tI_uE hM_21)]
          refine lv_iconst (v := 1) hx hb dX10_works_415 (by decide) ?_
          refine lv_isub hx hb dX10_works_416 ?_
          refine lv_topi (fun x_120 ex_120 => ?_)
          have tx_120 : x_120.toInt = x_20.toInt - 1 := i_sub ex_120 rfl (by decide : (1 : Int32).toInt = 1) (by omega) (by omega)
          refine lv_lload hx hb dX10_works_417 (lv_at hl 0 rfl) ?_
          refine ti_last (ci := 10) (k := 32) (n := 64) C hw ob_60 (by decide) (fun _ _ => rfl) (vp_in_iff.mpr (by omega)) dX10_works_419 (fun H locs hw => ?_)
          obtain ⟨M_121, hM_121⟩ : ∃ z : ti_M, z = uZ M_21 60 32 (vp_updL (tZ M_21 60 32) (x_120 : Int32).toNatClampNeg x_36) := ⟨_, rfl⟩
          have hw := hw.to hM_121.symm
          have iM_121 : mI Tm M_121 := mI_uZ iM_21 hM_121
          refine lv_lload hx hb dX10_works_420 (lv_at hl 0 rfl) ?_
          refine lv_ldc2 (v := 1000000000000) hx hb C.2.2.2.1 (C.2.2.1 _ cn_X10_333) dX10_works_422 ?_
          have z_122 : (1000000000000 : Int64).toInt = 1000000000000 := by decide
          refine W.lcmp hx hb dX10_works_425 ?_
          refine lv_topi (fun x_123 ex_123 => ?_)
          have cx_123 := lg_c ex_123
          refine sb_if_gt (tgt := 442) hx hb rfl dX10_works_426 (by decide) (fun c_426_123 => ?_) (fun c_426_123 => ?_)
          · refine lv_iconst (v := 0) hx hb dX10_works_442 (by decide) ?_
            exact hQ _ _ _ _ _ _ hw rfl (by exfalso; omega) dX10_works_443
          · refine lv_lload hx hb dX10_works_429 (lv_at hl 0 rfl) ?_
            refine lv_ldc2 (v := (-1000000000000)) hx hb C.2.2.2.1 (C.2.2.1 _ cn_X10_335) dX10_works_431 ?_
            have z_248 : ((-1000000000000) : Int64).toInt = -1000000000000 := by decide
            refine W.lcmp hx hb dX10_works_434 ?_
            refine lv_topi (fun x_249 ex_249 => ?_)
            have cx_249 := lg_c ex_249
            refine sb_if_lt (tgt := 442) hx hb rfl dX10_works_435 (by decide) (fun c_435_249 => ?_) (fun c_435_249 => ?_)
            · refine lv_iconst (v := 0) hx hb dX10_works_442 (by decide) ?_
              exact hQ _ _ _ _ _ _ hw rfl (by exfalso; omega) dX10_works_443
            · refine lv_iconst (v := 1) hx hb dX10_works_438 (by decide) ?_
              refine lv_goto (tgt := 443) hx hb dX10_works_439 (by decide) ?_
              have hsc : bq_sc sg.toInt = 40 := by unfold bq_sc; (repeat (first | rw [if_pos (by omega)] | rw [if_neg (by omega)]))
              have er : bl_ER = -9223372036854775808 := rfl
              have hbw : bl_w (bq_sc sg.toInt) (st (d.toInt.toNat - 2)) (st (d.toInt.toNat - 1)) = x_36.toInt := by rw [hsc, sy1, sy2]; unfold bl_w; (repeat (first | rw [if_pos (by omega)] | rw [if_neg (by omega)])); (try unfold bl_if); (repeat (first | rw [if_pos (by omega)] | rw [if_neg (by omega)])); first | omega | (rw [tx_36])
              have hzN : rz (pp_su st (d.toInt.toNat - 2) (bl_w (bq_sc sg.toInt) (st (d.toInt.toNat - 2)) (st (d.toInt.toNat - 1)))) (d.toInt - 1) M_121 := by
                have q := rz_up (t2 := d.toInt - 1) hz_22 hM_121 rfl (by omega) (z := bl_w (bq_sc sg.toInt) (st (d.toInt.toNat - 2)) (st (d.toInt.toNat - 1))) hbw.symm (by rw [hbw]; omega) (fun j hj => by omega)
                rw [show x_120.toInt.toNat = d.toInt.toNat - 2 by omega] at q; exact q
              exact hQ _ _ _ _ _ _ hw rfl (⟨(fI.trans (fI_Z hM_121) (fI_I hM_21)), (((tZ_nE hM_121 (nk (by decide))).trans (tZ_uIE hM_21))), Or.inr (Or.inl ⟨by decide, by omega, by rw [hbw]; omega, hzN⟩), iM_121, (qw.trans (qw_Z hM_121) (qw_I hM_21 (by decide))), ((ry_Z hM_121).trans (ry_I hM_21)), (by first | omega | decide), (by first | omega | decide), by rw [((tI_uZE hM_121).trans (tI_uE hM_21))]; omega⟩) dX10_works_443
        · refine lv_iconst (v := 0) hx hb dX10_works_210 (by decide) ?_
          have hsc : bq_sc sg.toInt = 40 := by unfold bq_sc; (repeat (first | rw [if_pos (by omega)] | rw [if_neg (by omega)]))
          have er : bl_ER = -9223372036854775808 := rfl
          have hbw : bl_w (bq_sc sg.toInt) (st (d.toInt.toNat - 2)) (st (d.toInt.toNat - 1)) = bl_ER := by rw [hsc, sy1, sy2]; unfold bl_w; (repeat (first | rw [if_pos (by omega)] | rw [if_neg (by omega)]))
          exact hQ _ _ _ _ _ _ hw rfl (⟨(fI_I hM_21), ((tZ_uIE hM_21)), Or.inr (Or.inr ⟨by decide, by omega, by rw [hbw]; decide⟩), iM_21, (qw_I hM_21 (by decide)), (ry_I hM_21), (by first | omega | decide), (by first | omega | decide), by rw [(tI_uE hM_21)]; omega⟩) dX10_works_211
    · have qs_23_42 : sg.toInt ≠ 42 := pt_ne s_23_42 (by decide)
      by_cases s_23_43 : sg = 43
      · have qs_23_43 : sg.toInt = 43 := by rw [s_23_43]; decide
        refine lv_lookup (tgt := 168) hx hb dX10_works_70 (by decide) (off := 98) (by rw [s_23_43]; decide) (by decide) ?_
        refine lv_lload hx hb dX10_works_168 (lv_at hl 0 rfl) ?_
        refine lv_lload_n hx hb dX10_works_170 rfl (lv_at hl 1 rfl) ?_
        refine lv_ladd hx hb dX10_works_171 ?_
        refine lv_topl (fun x_24 ex_24 => ?_)
        have tx_24 : x_24.toInt = x_18.toInt + x_3.toInt := l_add ex_24 rfl rfl (by omega) (by omega)
        refine lv_lstore (lv' := [(6, .long x_24), (4, .long x_18), (2, .long x_3), (0, .ref (A 60 0)), (1, .int sg)]) hx hb dX10_works_172 hl (by decide) rfl (fun ls hl => ?_)
        refine lv_goto (tgt := 407) hx hb dX10_works_174 (by decide) ?_
        refine lv_aload_n hx hb dX10_works_407 rfl (lv_at hl 3 rfl) ?_
        refine ti_get (ci := 10) (k := 32) (N := 67) (T := TX10) (v := .ref (A 60 33)) C hw iw_10 rfl ob_60 (by decide) (by decide) fl_X10_66 rfl rfl dX10_works_408 ?_
        refine lv_aload_n hx hb dX10_works_411 rfl (lv_at hl 3 rfl) ?_
        refine ti_get (ci := 10) (k := 33) (N := 67) (T := TX10) C hw iw_10 rfl ob_60 (by decide) (by decide) fl_X10_320 rfl rfl dX10_works_412 ?_
        refine ti_top (y := x_20) (tI_uE hM_21) ?_
        have u_101 : (tI M_21 60 33).toInt = (x_20 : Int32).toInt := by rw [(tI_uE hM_21)]
        refine lv_iconst (v := 1) hx hb dX10_works_415 (by decide) ?_
        refine lv_isub hx hb dX10_works_416 ?_
        refine lv_topi (fun x_102 ex_102 => ?_)
        have tx_102 : x_102.toInt = x_20.toInt - 1 := i_sub ex_102 rfl (by decide : (1 : Int32).toInt = 1) (by omega) (by omega)
        refine lv_lload hx hb dX10_works_417 (lv_at hl 0 rfl) ?_
        refine ti_last (ci := 10) (k := 32) (n := 64) C hw ob_60 (by decide) (fun _ _ => rfl) (vp_in_iff.mpr (by omega)) dX10_works_419 (fun H locs hw => ?_)
        obtain ⟨M_103, hM_103⟩ : ∃ z : ti_M, z = uZ M_21 60 32 (vp_updL (tZ M_21 60 32) (x_102 : Int32).toNatClampNeg x_24) := ⟨_, rfl⟩
        have hw := hw.to hM_103.symm
        have iM_103 : mI Tm M_103 := mI_uZ iM_21 hM_103
        refine lv_lload hx hb dX10_works_420 (lv_at hl 0 rfl) ?_
        refine lv_ldc2 (v := 1000000000000) hx hb C.2.2.2.1 (C.2.2.1 _ cn_X10_333) dX10_works_422 ?_
        have z_104 : (1000000000000 : Int64).toInt = 1000000000000 := by decide
        refine W.lcmp hx hb dX10_works_425 ?_
        refine lv_topi (fun x_105 ex_105 => ?_)
        have cx_105 := lg_c ex_105
        refine sb_if_gt (tgt := 442) hx hb rfl dX10_works_426 (by decide) (fun c_426_105 => ?_) (fun c_426_105 => ?_)
        · refine lv_iconst (v := 0) hx hb dX10_works_442 (by decide) ?_
          have hsc : bq_sc sg.toInt = 38 := by unfold bq_sc; (repeat (first | rw [if_pos (by omega)] | rw [if_neg (by omega)]))
          have er : bl_ER = -9223372036854775808 := rfl
          have hbw : bl_w (bq_sc sg.toInt) (st (d.toInt.toNat - 2)) (st (d.toInt.toNat - 1)) = x_24.toInt := by rw [hsc, sy1, sy2]; unfold bl_w; (repeat (first | rw [if_pos (by omega)] | rw [if_neg (by omega)])); (try unfold bl_if); (repeat (first | rw [if_pos (by omega)] | rw [if_neg (by omega)])); first | omega | (rw [tx_24])
          exact hQ _ _ _ _ _ _ hw rfl (⟨(fI.trans (fI_Z hM_103) (fI_I hM_21)), (((tZ_nE hM_103 (nk (by decide))).trans (tZ_uIE hM_21))), Or.inr (Or.inr ⟨by decide, by omega, by rw [hbw]; omega⟩), iM_103, (qw.trans (qw_Z hM_103) (qw_I hM_21 (by decide))), ((ry_Z hM_103).trans (ry_I hM_21)), (by first | omega | decide), (by first | omega | decide), by rw [((tI_uZE hM_103).trans (tI_uE hM_21))]; omega⟩) dX10_works_443
        · refine lv_lload hx hb dX10_works_429 (lv_at hl 0 rfl) ?_
          refine lv_ldc2 (v := (-1000000000000)) hx hb C.2.2.2.1 (C.2.2.1 _ cn_X10_335) dX10_works_431 ?_
          have z_239 : ((-1000000000000) : Int64).toInt = -1000000000000 := by decide
          refine W.lcmp hx hb dX10_works_434 ?_
          refine lv_topi (fun x_240 ex_240 => ?_)
          have cx_240 := lg_c ex_240
          refine sb_if_lt (tgt := 442) hx hb rfl dX10_works_435 (by decide) (fun c_435_240 => ?_) (fun c_435_240 => ?_)
          · refine lv_iconst (v := 0) hx hb dX10_works_442 (by decide) ?_
            have hsc : bq_sc sg.toInt = 38 := by unfold bq_sc; (repeat (first | rw [if_pos (by omega)] | rw [if_neg (by omega)]))
            have er : bl_ER = -9223372036854775808 := rfl
            have hbw : bl_w (bq_sc sg.toInt) (st (d.toInt.toNat - 2)) (st (d.toInt.toNat - 1)) = x_24.toInt := by rw [hsc, sy1, sy2]; unfold bl_w; (repeat (first | rw [if_pos (by omega)] | rw [if_neg (by omega)])); (try unfold bl_if); (repeat (first | rw [if_pos (by omega)] | rw [if_neg (by omega)])); first | omega | (rw [tx_24])
            exact hQ _ _ _ _ _ _ hw rfl (⟨(fI.trans (fI_Z hM_103) (fI_I hM_21)), (((tZ_nE hM_103 (nk (by decide))).trans (tZ_uIE hM_21))), Or.inr (Or.inr ⟨by decide, by omega, by rw [hbw]; omega⟩), iM_103, (qw.trans (qw_Z hM_103) (qw_I hM_21 (by decide))), ((ry_Z hM_103).trans (ry_I hM_21)), (by first | omega | decide), (by first | omega | decide), by rw [((tI_uZE hM_103).trans (tI_uE hM_21))]; omega⟩) dX10_works_443
          · refine lv_iconst (v := 1) hx hb dX10_works_438 (by decide) ?_
            refine lv_goto (tgt := 443) hx hb dX10_works_439 (by decide) ?_
            have hsc : bq_sc sg.toInt = 38 := by unfold bq_sc; (repeat (first | rw [if_pos (by omega)] | rw [if_neg (by omega)]))
            have er : bl_ER = -9223372036854775808 := rfl
            have hbw : bl_w (bq_sc sg.toInt) (st (d.toInt.toNat - 2)) (st (d.toInt.toNat - 1)) = x_24.toInt := by rw [hsc, sy1, sy2]; unfold bl_w; (repeat (first | rw [if_pos (by omega)] | rw [if_neg (by omega)])); (try unfold bl_if); (repeat (first | rw [if_pos (by omega)] | rw [if_neg (by omega)])); first | omega | (rw [tx_24])
            have hzN : rz (pp_su st (d.toInt.toNat - 2) (bl_w (bq_sc sg.toInt) (st (d.toInt.toNat - 2)) (st (d.toInt.toNat - 1)))) (d.toInt - 1) M_103 := by
              have q := rz_up (t2 := d.toInt - 1) hz_22 hM_103 rfl (by omega) (z := bl_w (bq_sc sg.toInt) (st (d.toInt.toNat - 2)) (st (d.toInt.toNat - 1))) hbw.symm (by rw [hbw]; omega) (fun j hj => by omega)
              rw [show x_102.toInt.toNat = d.toInt.toNat - 2 by omega] at q; exact q
            exact hQ _ _ _ _ _ _ hw rfl (⟨(fI.trans (fI_Z hM_103) (fI_I hM_21)), (((tZ_nE hM_103 (nk (by decide))).trans (tZ_uIE hM_21))), Or.inr (Or.inl ⟨by decide, by omega, by rw [hbw]; omega, hzN⟩), iM_103, (qw.trans (qw_Z hM_103) (qw_I hM_21 (by decide))), ((ry_Z hM_103).trans (ry_I hM_21)), (by first | omega | decide), (by first | omega | decide), by rw [((tI_uZE hM_103).trans (tI_uE hM_21))]; omega⟩) dX10_works_443
      · have qs_23_43 : sg.toInt ≠ 43 := pt_ne s_23_43 (by decide)
        by_cases s_23_45 : sg = 45
        · have qs_23_45 : sg.toInt = 45 := by rw [s_23_45]; decide
          refine lv_lookup (tgt := 177) hx hb dX10_works_70 (by decide) (off := 107) (by rw [s_23_45]; decide) (by decide) ?_
          refine lv_lload hx hb dX10_works_177 (lv_at hl 0 rfl) ?_
          refine lv_lload_n hx hb dX10_works_179 rfl (lv_at hl 1 rfl) ?_
          refine lv_lsub hx hb dX10_works_180 ?_
          refine lv_topl (fun x_25 ex_25 => ?_)
          have tx_25 : x_25.toInt = x_18.toInt - x_3.toInt := l_sub ex_25 rfl rfl (by omega) (by omega)
          refine lv_lstore (lv' := [(6, .long x_25), (4, .long x_18), (2, .long x_3), (0, .ref (A 60 0)), (1, .int sg)]) hx hb dX10_works_181 hl (by decide) rfl (fun ls hl => ?_)
          refine lv_goto (tgt := 407) hx hb dX10_works_183 (by decide) ?_
          refine lv_aload_n hx hb dX10_works_407 rfl (lv_at hl 3 rfl) ?_
          refine ti_get (ci := 10) (k := 32) (N := 67) (T := TX10) (v := .ref (A 60 33)) C hw iw_10 rfl ob_60 (by decide) (by decide) fl_X10_66 rfl rfl dX10_works_408 ?_
          refine lv_aload_n hx hb dX10_works_411 rfl (lv_at hl 3 rfl) ?_
          refine ti_get (ci := 10) (k := 33) (N := 67) (T := TX10) C hw iw_10 rfl ob_60 (by decide) (by decide) fl_X10_320 rfl rfl dX10_works_412 ?_
          refine ti_top (y := x_20) (tI_uE hM_21) ?_
          have u_107 : (tI M_21 60 33).toInt = (x_20 : Int32).toInt := by rw [(tI_uE hM_21)]
          refine lv_iconst (v := 1) hx hb dX10_works_415 (by decide) ?_
          refine lv_isub hx hb dX10_works_416 ?_
          refine lv_topi (fun x_108 ex_108 => ?_)
          have tx_108 : x_108.toInt = x_20.toInt - 1 := i_sub ex_108 rfl (by decide : (1 : Int32).toInt = 1) (by omega) (by omega)
          refine lv_lload hx hb dX10_works_417 (lv_at hl 0 rfl) ?_
          refine ti_last (ci := 10) (k := 32) (n := 64) C hw ob_60 (by decide) (fun _ _ => rfl) (vp_in_iff.mpr (by omega)) dX10_works_419 (fun H locs hw => ?_)
          obtain ⟨M_109, hM_109⟩ : ∃ z : ti_M, z = uZ M_21 60 32 (vp_updL (tZ M_21 60 32) (x_108 : Int32).toNatClampNeg x_25) := ⟨_, rfl⟩
          have hw := hw.to hM_109.symm
          have iM_109 : mI Tm M_109 := mI_uZ iM_21 hM_109
          refine lv_lload hx hb dX10_works_420 (lv_at hl 0 rfl) ?_
          refine lv_ldc2 (v := 1000000000000) hx hb C.2.2.2.1 (C.2.2.1 _ cn_X10_333) dX10_works_422 ?_
          have z_110 : (1000000000000 : Int64).toInt = 1000000000000 := by decide
          refine W.lcmp hx hb dX10_works_425 ?_
          refine lv_topi (fun x_111 ex_111 => ?_)
          have cx_111 := lg_c ex_111
          refine sb_if_gt (tgt := 442) hx hb rfl dX10_works_426 (by decide) (fun c_426_111 => ?_) (fun c_426_111 => ?_)
          · refine lv_iconst (v := 0) hx hb dX10_works_442 (by decide) ?_
            have hsc : bq_sc sg.toInt = 39 := by unfold bq_sc; (repeat (first | rw [if_pos (by omega)] | rw [if_neg (by omega)]))
            have er : bl_ER = -9223372036854775808 := rfl
            have hbw : bl_w (bq_sc sg.toInt) (st (d.toInt.toNat - 2)) (st (d.toInt.toNat - 1)) = x_25.toInt := by rw [hsc, sy1, sy2]; unfold bl_w; (repeat (first | rw [if_pos (by omega)] | rw [if_neg (by omega)])); (try unfold bl_if); (repeat (first | rw [if_pos (by omega)] | rw [if_neg (by omega)])); first | omega | (rw [tx_25])
            exact hQ _ _ _ _ _ _ hw rfl (⟨(fI.trans (fI_Z hM_109) (fI_I hM_21)), (((tZ_nE hM_109 (nk (by decide))).trans (tZ_uIE hM_21))), Or.inr (Or.inr ⟨by decide, by omega, by rw [hbw]; omega⟩), iM_109, (qw.trans (qw_Z hM_109) (qw_I hM_21 (by decide))), ((ry_Z hM_109).trans (ry_I hM_21)), (by first | omega | decide), (by first | omega | decide), by rw [((tI_uZE hM_109).trans (tI_uE hM_21))]; omega⟩) dX10_works_443
          · refine lv_lload hx hb dX10_works_429 (lv_at hl 0 rfl) ?_
            refine lv_ldc2 (v := (-1000000000000)) hx hb C.2.2.2.1 (C.2.2.1 _ cn_X10_335) dX10_works_431 ?_
            have z_242 : ((-1000000000000) : Int64).toInt = -1000000000000 := by decide
            refine W.lcmp hx hb dX10_works_434 ?_
            refine lv_topi (fun x_243 ex_243 => ?_)
            have cx_243 := lg_c ex_243
            refine sb_if_lt (tgt := 442) hx hb rfl dX10_works_435 (by decide) (fun c_435_243 => ?_) (fun c_435_243 => ?_)
            · refine lv_iconst (v := 0) hx hb dX10_works_442 (by decide) ?_
              have hsc : bq_sc sg.toInt = 39 := by unfold bq_sc; (repeat (first | rw [if_pos (by omega)] | rw [if_neg (by omega)]))
              have er : bl_ER = -9223372036854775808 := rfl
              have hbw : bl_w (bq_sc sg.toInt) (st (d.toInt.toNat - 2)) (st (d.toInt.toNat - 1)) = x_25.toInt := by rw [hsc, sy1, sy2]; unfold bl_w; (repeat (first | rw [if_pos (by omega)] | rw [if_neg (by omega)])); (try unfold bl_if); (repeat (first | rw [if_pos (by omega)] | rw [if_neg (by omega)])); first | omega | (rw [tx_25])
              exact hQ _ _ _ _ _ _ hw rfl (⟨(fI.trans (fI_Z hM_109) (fI_I hM_21)), (((tZ_nE hM_109 (nk (by decide))).trans (tZ_uIE hM_21))), Or.inr (Or.inr ⟨by decide, by omega, by rw [hbw]; omega⟩), iM_109, (qw.trans (qw_Z hM_109) (qw_I hM_21 (by decide))), ((ry_Z hM_109).trans (ry_I hM_21)), (by first | omega | decide), (by first | omega | decide), by rw [((tI_uZE hM_109).trans (tI_uE hM_21))]; omega⟩) dX10_works_443
            · refine lv_iconst (v := 1) hx hb dX10_works_438 (by decide) ?_
              refine lv_goto (tgt := 443) hx hb dX10_works_439 (by decide) ?_
              have hsc : bq_sc sg.toInt = 39 := by unfold bq_sc; (repeat (first | rw [if_pos (by omega)] | rw [if_neg (by omega)]))
              have er : bl_ER = -9223372036854775808 := rfl
              have hbw : bl_w (bq_sc sg.toInt) (st (d.toInt.toNat - 2)) (st (d.toInt.toNat - 1)) = x_25.toInt := by rw [hsc, sy1, sy2]; unfold bl_w; (repeat (first | rw [if_pos (by omega)] | rw [if_neg (by omega)])); (try unfold bl_if); (repeat (first | rw [if_pos (by omega)] | rw [if_neg (by omega)])); first | omega | (rw [tx_25])
              have hzN : rz (pp_su st (d.toInt.toNat - 2) (bl_w (bq_sc sg.toInt) (st (d.toInt.toNat - 2)) (st (d.toInt.toNat - 1)))) (d.toInt - 1) M_109 := by
                have q := rz_up (t2 := d.toInt - 1) hz_22 hM_109 rfl (by omega) (z := bl_w (bq_sc sg.toInt) (st (d.toInt.toNat - 2)) (st (d.toInt.toNat - 1))) hbw.symm (by rw [hbw]; omega) (fun j hj => by omega)
                rw [show x_108.toInt.toNat = d.toInt.toNat - 2 by omega] at q; exact q
              exact hQ _ _ _ _ _ _ hw rfl (⟨(fI.trans (fI_Z hM_109) (fI_I hM_21)), (((tZ_nE hM_109 (nk (by decide))).trans (tZ_uIE hM_21))), Or.inr (Or.inl ⟨by decide, by omega, by rw [hbw]; omega, hzN⟩), iM_109, (qw.trans (qw_Z hM_109) (qw_I hM_21 (by decide))), ((ry_Z hM_109).trans (ry_I hM_21)), (by first | omega | decide), (by first | omega | decide), by rw [((tI_uZE hM_109).trans (tI_uE hM_21))]; omega⟩) dX10_works_443
        · have qs_23_45 : sg.toInt ≠ 45 := pt_ne s_23_45 (by decide)
          by_cases s_23_47 : sg = 47
          · have qs_23_47 : sg.toInt = 47 := by rw [s_23_47]; decide
            refine lv_lookup (tgt := 221) hx hb dX10_works_70 (by decide) (off := 151) (by rw [s_23_47]; decide) (by decide) ?_
            refine lv_lload_n hx hb dX10_works_221 rfl (lv_at hl 1 rfl) ?_
            refine lv_lconst (v := 0) hx hb dX10_works_222 (by decide) ?_
            have z_37 : (0 : Int64).toInt = 0 := by decide
            refine W.lcmp hx hb dX10_works_223 ?_
            refine lv_topi (fun x_38 ex_38 => ?_)
            have cx_38 := lg_c ex_38
            refine sb_if_ne (tgt := 229) hx hb rfl dX10_works_224 (by decide) (fun c_224_38 => ?_) (fun c_224_38 => ?_)
            · refine lv_lload hx hb dX10_works_229 (lv_at hl 0 rfl) ?_
              refine lv_lload_n hx hb dX10_works_231 rfl (lv_at hl 1 rfl) ?_
              refine lv_ldiv hx hb dX10_works_232 (lc0 ex_38 c_224_38) ?_
              refine lv_topl (fun x_40 ex_40 => ?_)
              have tx_40 : x_40.toInt = Int.tdiv x_18.toInt x_3.toInt := l_div ex_40 rfl rfl (by omega) (by omega)
              refine lv_lstore (lv' := [(6, .long x_40), (4, .long x_18), (2, .long x_3), (0, .ref (A 60 0)), (1, .int sg)]) hx hb dX10_works_233 hl (by decide) rfl (fun ls hl => ?_)
              refine lv_goto (tgt := 407) hx hb dX10_works_235 (by decide) ?_
              refine lv_aload_n hx hb dX10_works_407 rfl (lv_at hl 3 rfl) ?_
              refine ti_get (ci := 10) (k := 32) (N := 67) (T := TX10) (v := .ref (A 60 33)) C hw iw_10 rfl ob_60 (by decide) (by decide) fl_X10_66 rfl rfl dX10_works_408 ?_
              refine lv_aload_n hx hb dX10_works_411 rfl (lv_at hl 3 rfl) ?_
              refine ti_get (ci := 10) (k := 33) (N := 67) (T := TX10) C hw iw_10 rfl ob_60 (by decide) (by decide) fl_X10_320 rfl rfl dX10_works_412 ?_
              refine ti_top (y := x_20) (tI_uE hM_21) ?_
              have u_125 : (tI M_21 60 33).toInt = (x_20 : Int32).toInt := by rw [(tI_uE hM_21)]
              refine lv_iconst (v := 1) hx hb dX10_works_415 (by decide) ?_
              refine lv_isub hx hb dX10_works_416 ?_
              refine lv_topi (fun x_126 ex_126 => ?_)
              have tx_126 : x_126.toInt = x_20.toInt - 1 := i_sub ex_126 rfl (by decide : (1 : Int32).toInt = 1) (by omega) (by omega)
              refine lv_lload hx hb dX10_works_417 (lv_at hl 0 rfl) ?_
              refine ti_last (ci := 10) (k := 32) (n := 64) C hw ob_60 (by decide) (fun _ _ => rfl) (vp_in_iff.mpr (by omega)) dX10_works_419 (fun H locs hw => ?_)
              obtain ⟨M_127, hM_127⟩ : ∃ z : ti_M, z = uZ M_21 60 32 (vp_updL (tZ M_21 60 32) (x_126 : Int32).toNatClampNeg x_40) := ⟨_, rfl⟩
              have hw := hw.to hM_127.symm
              have iM_127 : mI Tm M_127 := mI_uZ iM_21 hM_127
              refine lv_lload hx hb dX10_works_420 (lv_at hl 0 rfl) ?_
              refine lv_ldc2 (v := 1000000000000) hx hb C.2.2.2.1 (C.2.2.1 _ cn_X10_333) dX10_works_422 ?_
              have z_128 : (1000000000000 : Int64).toInt = 1000000000000 := by decide
              refine W.lcmp hx hb dX10_works_425 ?_
              refine lv_topi (fun x_129 ex_129 => ?_)
              have cx_129 := lg_c ex_129
              refine sb_if_gt (tgt := 442) hx hb rfl dX10_works_426 (by decide) (fun c_426_129 => ?_) (fun c_426_129 => ?_)
              · refine lv_iconst (v := 0) hx hb dX10_works_442 (by decide) ?_
                have hsc : bq_sc sg.toInt = 41 := by unfold bq_sc; (repeat (first | rw [if_pos (by omega)] | rw [if_neg (by omega)]))
                have er : bl_ER = -9223372036854775808 := rfl
                have hbw : bl_w (bq_sc sg.toInt) (st (d.toInt.toNat - 2)) (st (d.toInt.toNat - 1)) = x_40.toInt := by rw [hsc, sy1, sy2]; unfold bl_w; (repeat (first | rw [if_pos (by omega)] | rw [if_neg (by omega)])); (try unfold bl_if); (repeat (first | rw [if_pos (by omega)] | rw [if_neg (by omega)])); first | omega | (rw [tx_40])
                exact hQ _ _ _ _ _ _ hw rfl (⟨(fI.trans (fI_Z hM_127) (fI_I hM_21)), (((tZ_nE hM_127 (nk (by decide))).trans (tZ_uIE hM_21))), Or.inr (Or.inr ⟨by decide, by omega, by rw [hbw]; omega⟩), iM_127, (qw.trans (qw_Z hM_127) (qw_I hM_21 (by decide))), ((ry_Z hM_127).trans (ry_I hM_21)), (by first | omega | decide), (by first | omega | decide), by rw [((tI_uZE hM_127).trans (tI_uE hM_21))]; omega⟩) dX10_works_443
              · refine lv_lload hx hb dX10_works_429 (lv_at hl 0 rfl) ?_
                refine lv_ldc2 (v := (-1000000000000)) hx hb C.2.2.2.1 (C.2.2.1 _ cn_X10_335) dX10_works_431 ?_
                have z_251 : ((-1000000000000) : Int64).toInt = -1000000000000 := by decide
                refine W.lcmp hx hb dX10_works_434 ?_
                refine lv_topi (fun x_252 ex_252 => ?_)
                have cx_252 := lg_c ex_252
                refine sb_if_lt (tgt := 442) hx hb rfl dX10_works_435 (by decide) (fun c_435_252 => ?_) (fun c_435_252 => ?_)
                · refine lv_iconst (v := 0) hx hb dX10_works_442 (by decide) ?_
                  have hsc : bq_sc sg.toInt = 41 := by unfold bq_sc; (repeat (first | rw [if_pos (by omega)] | rw [if_neg (by omega)]))
                  have er : bl_ER = -9223372036854775808 := rfl
                  have hbw : bl_w (bq_sc sg.toInt) (st (d.toInt.toNat - 2)) (st (d.toInt.toNat - 1)) = x_40.toInt := by rw [hsc, sy1, sy2]; unfold bl_w; (repeat (first | rw [if_pos (by omega)] | rw [if_neg (by omega)])); (try unfold bl_if); (repeat (first | rw [if_pos (by omega)] | rw [if_neg (by omega)])); first | omega | (rw [tx_40])
                  exact hQ _ _ _ _ _ _ hw rfl (⟨(fI.trans (fI_Z hM_127) (fI_I hM_21)), (((tZ_nE hM_127 (nk (by decide))).trans (tZ_uIE hM_21))), Or.inr (Or.inr ⟨by decide, by omega, by rw [hbw]; omega⟩), iM_127, (qw.trans (qw_Z hM_127) (qw_I hM_21 (by decide))), ((ry_Z hM_127).trans (ry_I hM_21)), (by first | omega | decide), (by first | omega | decide), by rw [((tI_uZE hM_127).trans (tI_uE hM_21))]; omega⟩) dX10_works_443
                · refine lv_iconst (v := 1) hx hb dX10_works_438 (by decide) ?_
                  refine lv_goto (tgt := 443) hx hb dX10_works_439 (by decide) ?_
                  have hsc : bq_sc sg.toInt = 41 := by unfold bq_sc; (repeat (first | rw [if_pos (by omega)] | rw [if_neg (by omega)]))
                  have er : bl_ER = -9223372036854775808 := rfl
                  have hbw : bl_w (bq_sc sg.toInt) (st (d.toInt.toNat - 2)) (st (d.toInt.toNat - 1)) = x_40.toInt := by rw [hsc, sy1, sy2]; unfold bl_w; (repeat (first | rw [if_pos (by omega)] | rw [if_neg (by omega)])); (try unfold bl_if); (repeat (first | rw [if_pos (by omega)] | rw [if_neg (by omega)])); first | omega | (rw [tx_40])
                  have hzN : rz (pp_su st (d.toInt.toNat - 2) (bl_w (bq_sc sg.toInt) (st (d.toInt.toNat - 2)) (st (d.toInt.toNat - 1)))) (d.toInt - 1) M_127 := by
                    have q := rz_up (t2 := d.toInt - 1) hz_22 hM_127 rfl (by omega) (z := bl_w (bq_sc sg.toInt) (st (d.toInt.toNat - 2)) (st (d.toInt.toNat - 1))) hbw.symm (by rw [hbw]; omega) (fun j hj => by omega)
                    rw [show x_126.toInt.toNat = d.toInt.toNat - 2 by omega] at q; exact q
                  exact hQ _ _ _ _ _ _ hw rfl (⟨(fI.trans (fI_Z hM_127) (fI_I hM_21)), (((tZ_nE hM_127 (nk (by decide))).trans (tZ_uIE hM_21))), Or.inr (Or.inl ⟨by decide, by omega, by rw [hbw]; omega, hzN⟩), iM_127, (qw.trans (qw_Z hM_127) (qw_I hM_21 (by decide))), ((ry_Z hM_127).trans (ry_I hM_21)), (by first | omega | decide), (by first | omega | decide), by rw [((tI_uZE hM_127).trans (tI_uE hM_21))]; omega⟩) dX10_works_443
            · refine lv_iconst (v := 0) hx hb dX10_works_227 (by decide) ?_
              have hsc : bq_sc sg.toInt = 41 := by unfold bq_sc; (repeat (first | rw [if_pos (by omega)] | rw [if_neg (by omega)]))
              have er : bl_ER = -9223372036854775808 := rfl
              have hbw : bl_w (bq_sc sg.toInt) (st (d.toInt.toNat - 2)) (st (d.toInt.toNat - 1)) = bl_ER := by rw [hsc, sy1, sy2]; unfold bl_w; (repeat (first | rw [if_pos (by omega)] | rw [if_neg (by omega)]))
              exact hQ _ _ _ _ _ _ hw rfl (⟨(fI_I hM_21), ((tZ_uIE hM_21)), Or.inr (Or.inr ⟨by decide, by omega, by rw [hbw]; decide⟩), iM_21, (qw_I hM_21 (by decide)), (ry_I hM_21), (by first | omega | decide), (by first | omega | decide), by rw [(tI_uE hM_21)]; omega⟩) dX10_works_228
          · have qs_23_47 : sg.toInt ≠ 47 := pt_ne s_23_47 (by decide)
            by_cases s_23_60 : sg = 60
            · have qs_23_60 : sg.toInt = 60 := by rw [s_23_60]; decide
              refine lv_lookup (tgt := 238) hx hb dX10_works_70 (by decide) (off := 168) (by rw [s_23_60]; decide) (by decide) ?_
              refine lv_lload hx hb dX10_works_238 (lv_at hl 0 rfl) ?_
              refine lv_lload_n hx hb dX10_works_240 rfl (lv_at hl 1 rfl) ?_
              refine W.lcmp hx hb dX10_works_241 ?_
              refine lv_topi (fun x_41 ex_41 => ?_)
              have cx_41 := lg_c ex_41
              refine sb_if_ge (tgt := 249) hx hb rfl dX10_works_242 (by decide) (fun c_242_41 => ?_) (fun c_242_41 => ?_)
              · refine lv_iconst (v := 0) hx hb dX10_works_249 (by decide) ?_
                refine ti_callSl (av := [.int 0]) C hw (z_X10_is l D A cy hJ M_21 iM_21 0) ⟨ml_X10_323, ys_X10_is, yi_X10_is, yc_X10_is⟩ yd_X10_is rfl hl.1 (Nat.le_of_ble_eq_true rfl) ⟨by decide, by decide⟩ ⟨Nat.zero_le _, Nat.zero_le _⟩ dX10_works_250 (fun r_45 M_46 H locs hp_46 hw => ?_)
                obtain ⟨hm, pr_45⟩ := hp_46
                have hw := hw.to hm
                simp only [show (0 : Int32).toInt = 0 by decide] at pr_45
                have tr_45 : r_45.toInt = 0 := by omega
                refine lv_lstore (lv' := [(6, .long r_45), (4, .long x_18), (2, .long x_3), (0, .ref (A 60 0)), (1, .int sg)]) hx hb dX10_works_253 hl (by decide) rfl (fun ls hl => ?_)
                refine lv_goto (tgt := 407) hx hb dX10_works_255 (by decide) ?_
                refine lv_aload_n hx hb dX10_works_407 rfl (lv_at hl 3 rfl) ?_
                refine ti_get (ci := 10) (k := 32) (N := 67) (T := TX10) (v := .ref (A 60 33)) C hw iw_10 rfl ob_60 (by decide) (by decide) fl_X10_66 rfl rfl dX10_works_408 ?_
                refine lv_aload_n hx hb dX10_works_411 rfl (lv_at hl 3 rfl) ?_
                refine ti_get (ci := 10) (k := 33) (N := 67) (T := TX10) C hw iw_10 rfl ob_60 (by decide) (by decide) fl_X10_320 rfl rfl dX10_works_412 ?_
                refine ti_top (y := x_20) (tI_uE hM_21) ?_
                have u_137 : (tI M_21 60 33).toInt = (x_20 : Int32).toInt := by rw [(tI_uE hM_21)]
                refine lv_iconst (v := 1) hx hb dX10_works_415 (by decide) ?_
                refine lv_isub hx hb dX10_works_416 ?_
                refine lv_topi (fun x_138 ex_138 => ?_)
                have tx_138 : x_138.toInt = x_20.toInt - 1 := i_sub ex_138 rfl (by decide : (1 : Int32).toInt = 1) (by omega) (by omega)
                refine lv_lload hx hb dX10_works_417 (lv_at hl 0 rfl) ?_
                refine ti_last (ci := 10) (k := 32) (n := 64) C hw ob_60 (by decide) (fun _ _ => rfl) (vp_in_iff.mpr (by omega)) dX10_works_419 (fun H locs hw => ?_)
                obtain ⟨M_139, hM_139⟩ : ∃ z : ti_M, z = uZ M_21 60 32 (vp_updL (tZ M_21 60 32) (x_138 : Int32).toNatClampNeg r_45) := ⟨_, rfl⟩
                have hw := hw.to hM_139.symm
                have iM_139 : mI Tm M_139 := mI_uZ iM_21 hM_139
                refine lv_lload hx hb dX10_works_420 (lv_at hl 0 rfl) ?_
                refine lv_ldc2 (v := 1000000000000) hx hb C.2.2.2.1 (C.2.2.1 _ cn_X10_333) dX10_works_422 ?_
                have z_140 : (1000000000000 : Int64).toInt = 1000000000000 := by decide
                refine W.lcmp hx hb dX10_works_425 ?_
                refine lv_topi (fun x_141 ex_141 => ?_)
                have cx_141 := lg_c ex_141
                refine sb_if_gt (tgt := 442) hx hb rfl dX10_works_426 (by decide) (fun c_426_141 => ?_) (fun c_426_141 => ?_)
                · refine lv_iconst (v := 0) hx hb dX10_works_442 (by decide) ?_
                  exact hQ _ _ _ _ _ _ hw rfl (by exfalso; omega) dX10_works_443
                · refine lv_lload hx hb dX10_works_429 (lv_at hl 0 rfl) ?_
                  refine lv_ldc2 (v := (-1000000000000)) hx hb C.2.2.2.1 (C.2.2.1 _ cn_X10_335) dX10_works_431 ?_
                  have z_257 : ((-1000000000000) : Int64).toInt = -1000000000000 := by decide
                  refine W.lcmp hx hb dX10_works_434 ?_
                  refine lv_topi (fun x_258 ex_258 => ?_)
                  have cx_258 := lg_c ex_258
                  refine sb_if_lt (tgt := 442) hx hb rfl dX10_works_435 (by decide) (fun c_435_258 => ?_) (fun c_435_258 => ?_)
                  · refine lv_iconst (v := 0) hx hb dX10_works_442 (by decide) ?_
                    exact hQ _ _ _ _ _ _ hw rfl (by exfalso; omega) dX10_works_443
                  · refine lv_iconst (v := 1) hx hb dX10_works_438 (by decide) ?_
                    refine lv_goto (tgt := 443) hx hb dX10_works_439 (by decide) ?_
                    have hsc : bq_sc sg.toInt = 32 := by unfold bq_sc; (repeat (first | rw [if_pos (by omega)] | rw [if_neg (by omega)]))
                    have er : bl_ER = -9223372036854775808 := rfl
                    have hbw : bl_w (bq_sc sg.toInt) (st (d.toInt.toNat - 2)) (st (d.toInt.toNat - 1)) = r_45.toInt := by rw [hsc, sy1, sy2]; unfold bl_w; (repeat (first | rw [if_pos (by omega)] | rw [if_neg (by omega)])); (try unfold bl_if); (repeat (first | rw [if_pos (by omega)] | rw [if_neg (by omega)])); first | omega | (rw [tr_45])
                    have hzN : rz (pp_su st (d.toInt.toNat - 2) (bl_w (bq_sc sg.toInt) (st (d.toInt.toNat - 2)) (st (d.toInt.toNat - 1)))) (d.toInt - 1) M_139 := by
                      have q := rz_up (t2 := d.toInt - 1) hz_22 hM_139 rfl (by omega) (z := bl_w (bq_sc sg.toInt) (st (d.toInt.toNat - 2)) (st (d.toInt.toNat - 1))) hbw.symm (by rw [hbw]; omega) (fun j hj => by omega)
                      rw [show x_138.toInt.toNat = d.toInt.toNat - 2 by omega] at q; exact q
                    exact hQ _ _ _ _ _ _ hw rfl (⟨(fI.trans (fI_Z hM_139) (fI_I hM_21)), (((tZ_nE hM_139 (nk (by decide))).trans (tZ_uIE hM_21))), Or.inr (Or.inl ⟨by decide, by omega, by rw [hbw]; omega, hzN⟩), iM_139, (qw.trans (qw_Z hM_139) (qw_I hM_21 (by decide))), ((ry_Z hM_139).trans (ry_I hM_21)), (by first | omega | decide), (by first | omega | decide), by rw [((tI_uZE hM_139).trans (tI_uE hM_21))]; omega⟩) dX10_works_443
              · refine lv_iconst (v := 1) hx hb dX10_works_245 (by decide) ?_
                refine lv_goto (tgt := 250) hx hb dX10_works_246 (by decide) ?_
                refine ti_callSl (av := [.int 1]) C hw (z_X10_is l D A cy hJ M_21 iM_21 1) ⟨ml_X10_323, ys_X10_is, yi_X10_is, yc_X10_is⟩ yd_X10_is rfl hl.1 (Nat.le_of_ble_eq_true rfl) ⟨by decide, by decide⟩ ⟨Nat.zero_le _, Nat.zero_le _⟩ dX10_works_250 (fun r_43 M_44 H locs hp_44 hw => ?_)
                obtain ⟨hm, pr_43⟩ := hp_44
                have hw := hw.to hm
                simp only [show (1 : Int32).toInt = 1 by decide] at pr_43
                have tr_43 : r_43.toInt = 1 := by omega
                refine lv_lstore (lv' := [(6, .long r_43), (4, .long x_18), (2, .long x_3), (0, .ref (A 60 0)), (1, .int sg)]) hx hb dX10_works_253 hl (by decide) rfl (fun ls hl => ?_)
                refine lv_goto (tgt := 407) hx hb dX10_works_255 (by decide) ?_
                refine lv_aload_n hx hb dX10_works_407 rfl (lv_at hl 3 rfl) ?_
                refine ti_get (ci := 10) (k := 32) (N := 67) (T := TX10) (v := .ref (A 60 33)) C hw iw_10 rfl ob_60 (by decide) (by decide) fl_X10_66 rfl rfl dX10_works_408 ?_
                refine lv_aload_n hx hb dX10_works_411 rfl (lv_at hl 3 rfl) ?_
                refine ti_get (ci := 10) (k := 33) (N := 67) (T := TX10) C hw iw_10 rfl ob_60 (by decide) (by decide) fl_X10_320 rfl rfl dX10_works_412 ?_
                refine ti_top (y := x_20) (tI_uE hM_21) ?_
                have u_131 : (tI M_21 60 33).toInt = (x_20 : Int32).toInt := by rw [(tI_uE hM_21)]
                refine lv_iconst (v := 1) hx hb dX10_works_415 (by decide) ?_
                refine lv_isub hx hb dX10_works_416 ?_
                refine lv_topi (fun x_132 ex_132 => ?_)
                have tx_132 : x_132.toInt = x_20.toInt - 1 := i_sub ex_132 rfl (by decide : (1 : Int32).toInt = 1) (by omega) (by omega)
                refine lv_lload hx hb dX10_works_417 (lv_at hl 0 rfl) ?_
                refine ti_last (ci := 10) (k := 32) (n := 64) C hw ob_60 (by decide) (fun _ _ => rfl) (vp_in_iff.mpr (by omega)) dX10_works_419 (fun H locs hw => ?_)
                obtain ⟨M_133, hM_133⟩ : ∃ z : ti_M, z = uZ M_21 60 32 (vp_updL (tZ M_21 60 32) (x_132 : Int32).toNatClampNeg r_43) := ⟨_, rfl⟩
                have hw := hw.to hM_133.symm
                have iM_133 : mI Tm M_133 := mI_uZ iM_21 hM_133
                refine lv_lload hx hb dX10_works_420 (lv_at hl 0 rfl) ?_
                refine lv_ldc2 (v := 1000000000000) hx hb C.2.2.2.1 (C.2.2.1 _ cn_X10_333) dX10_works_422 ?_
                have z_134 : (1000000000000 : Int64).toInt = 1000000000000 := by decide
                refine W.lcmp hx hb dX10_works_425 ?_
                refine lv_topi (fun x_135 ex_135 => ?_)
                have cx_135 := lg_c ex_135
                refine sb_if_gt (tgt := 442) hx hb rfl dX10_works_426 (by decide) (fun c_426_135 => ?_) (fun c_426_135 => ?_)
                · refine lv_iconst (v := 0) hx hb dX10_works_442 (by decide) ?_
                  exact hQ _ _ _ _ _ _ hw rfl (by exfalso; omega) dX10_works_443
                · refine lv_lload hx hb dX10_works_429 (lv_at hl 0 rfl) ?_
                  refine lv_ldc2 (v := (-1000000000000)) hx hb C.2.2.2.1 (C.2.2.1 _ cn_X10_335) dX10_works_431 ?_
                  have z_254 : ((-1000000000000) : Int64).toInt = -1000000000000 := by decide
                  refine W.lcmp hx hb dX10_works_434 ?_
                  refine lv_topi (fun x_255 ex_255 => ?_)
                  have cx_255 := lg_c ex_255
                  refine sb_if_lt (tgt := 442) hx hb rfl dX10_works_435 (by decide) (fun c_435_255 => ?_) (fun c_435_255 => ?_)
                  · refine lv_iconst (v := 0) hx hb dX10_works_442 (by decide) ?_
                    exact hQ _ _ _ _ _ _ hw rfl (by exfalso; omega) dX10_works_443
                  · refine lv_iconst (v := 1) hx hb dX10_works_438 (by decide) ?_
                    refine lv_goto (tgt := 443) hx hb dX10_works_439 (by decide) ?_
                    have hsc : bq_sc sg.toInt = 32 := by unfold bq_sc; (repeat (first | rw [if_pos (by omega)] | rw [if_neg (by omega)]))
                    have er : bl_ER = -9223372036854775808 := rfl
                    have hbw : bl_w (bq_sc sg.toInt) (st (d.toInt.toNat - 2)) (st (d.toInt.toNat - 1)) = r_43.toInt := by rw [hsc, sy1, sy2]; unfold bl_w; (repeat (first | rw [if_pos (by omega)] | rw [if_neg (by omega)])); (try unfold bl_if); (repeat (first | rw [if_pos (by omega)] | rw [if_neg (by omega)])); first | omega | (rw [tr_43])
                    have hzN : rz (pp_su st (d.toInt.toNat - 2) (bl_w (bq_sc sg.toInt) (st (d.toInt.toNat - 2)) (st (d.toInt.toNat - 1)))) (d.toInt - 1) M_133 := by
                      have q := rz_up (t2 := d.toInt - 1) hz_22 hM_133 rfl (by omega) (z := bl_w (bq_sc sg.toInt) (st (d.toInt.toNat - 2)) (st (d.toInt.toNat - 1))) hbw.symm (by rw [hbw]; omega) (fun j hj => by omega)
                      rw [show x_132.toInt.toNat = d.toInt.toNat - 2 by omega] at q; exact q
                    exact hQ _ _ _ _ _ _ hw rfl (⟨(fI.trans (fI_Z hM_133) (fI_I hM_21)), (((tZ_nE hM_133 (nk (by decide))).trans (tZ_uIE hM_21))), Or.inr (Or.inl ⟨by decide, by omega, by rw [hbw]; omega, hzN⟩), iM_133, (qw.trans (qw_Z hM_133) (qw_I hM_21 (by decide))), ((ry_Z hM_133).trans (ry_I hM_21)), (by first | omega | decide), (by first | omega | decide), by rw [((tI_uZE hM_133).trans (tI_uE hM_21))]; omega⟩) dX10_works_443
            · have qs_23_60 : sg.toInt ≠ 60 := pt_ne s_23_60 (by decide)
              by_cases s_23_61 : sg = 61
              · have qs_23_61 : sg.toInt = 61 := by rw [s_23_61]; decide
                refine lv_lookup (tgt := 278) hx hb dX10_works_70 (by decide) (off := 208) (by rw [s_23_61]; decide) (by decide) ?_
                refine lv_lload hx hb dX10_works_278 (lv_at hl 0 rfl) ?_
                refine lv_lload_n hx hb dX10_works_280 rfl (lv_at hl 1 rfl) ?_
                refine W.lcmp hx hb dX10_works_281 ?_
                refine lv_topi (fun x_53 ex_53 => ?_)
                have cx_53 := lg_c ex_53
                refine sb_if_ne (tgt := 289) hx hb rfl dX10_works_282 (by decide) (fun c_282_53 => ?_) (fun c_282_53 => ?_)
                · refine lv_iconst (v := 0) hx hb dX10_works_289 (by decide) ?_
                  refine ti_callSl (av := [.int 0]) C hw (z_X10_is l D A cy hJ M_21 iM_21 0) ⟨ml_X10_323, ys_X10_is, yi_X10_is, yc_X10_is⟩ yd_X10_is rfl hl.1 (Nat.le_of_ble_eq_true rfl) ⟨by decide, by decide⟩ ⟨Nat.zero_le _, Nat.zero_le _⟩ dX10_works_290 (fun r_57 M_58 H locs hp_58 hw => ?_)
                  obtain ⟨hm, pr_57⟩ := hp_58
                  have hw := hw.to hm
                  simp only [show (0 : Int32).toInt = 0 by decide] at pr_57
                  have tr_57 : r_57.toInt = 0 := by omega
                  refine lv_lstore (lv' := [(6, .long r_57), (4, .long x_18), (2, .long x_3), (0, .ref (A 60 0)), (1, .int sg)]) hx hb dX10_works_293 hl (by decide) rfl (fun ls hl => ?_)
                  refine lv_goto (tgt := 407) hx hb dX10_works_295 (by decide) ?_
                  refine lv_aload_n hx hb dX10_works_407 rfl (lv_at hl 3 rfl) ?_
                  refine ti_get (ci := 10) (k := 32) (N := 67) (T := TX10) (v := .ref (A 60 33)) C hw iw_10 rfl ob_60 (by decide) (by decide) fl_X10_66 rfl rfl dX10_works_408 ?_
                  refine lv_aload_n hx hb dX10_works_411 rfl (lv_at hl 3 rfl) ?_
                  refine ti_get (ci := 10) (k := 33) (N := 67) (T := TX10) C hw iw_10 rfl ob_60 (by decide) (by decide) fl_X10_320 rfl rfl dX10_works_412 ?_
                  refine ti_top (y := x_20) (tI_uE hM_21) ?_
                  have u_161 : (tI M_21 60 33).toInt = (x_20 : Int32).toInt := by rw [(tI_uE hM_21)]
                  refine lv_iconst (v := 1) hx hb dX10_works_415 (by decide) ?_
                  refine lv_isub hx hb dX10_works_416 ?_
                  refine lv_topi (fun x_162 ex_162 => ?_)
                  have tx_162 : x_162.toInt = x_20.toInt - 1 := i_sub ex_162 rfl (by decide : (1 : Int32).toInt = 1) (by omega) (by omega)
                  refine lv_lload hx hb dX10_works_417 (lv_at hl 0 rfl) ?_
                  refine ti_last (ci := 10) (k := 32) (n := 64) C hw ob_60 (by decide) (fun _ _ => rfl) (vp_in_iff.mpr (by omega)) dX10_works_419 (fun H locs hw => ?_)
                  obtain ⟨M_163, hM_163⟩ : ∃ z : ti_M, z = uZ M_21 60 32 (vp_updL (tZ M_21 60 32) (x_162 : Int32).toNatClampNeg r_57) := ⟨_, rfl⟩
                  have hw := hw.to hM_163.symm
                  have iM_163 : mI Tm M_163 := mI_uZ iM_21 hM_163
                  refine lv_lload hx hb dX10_works_420 (lv_at hl 0 rfl) ?_
                  refine lv_ldc2 (v := 1000000000000) hx hb C.2.2.2.1 (C.2.2.1 _ cn_X10_333) dX10_works_422 ?_
                  have z_164 : (1000000000000 : Int64).toInt = 1000000000000 := by decide
                  refine W.lcmp hx hb dX10_works_425 ?_
                  refine lv_topi (fun x_165 ex_165 => ?_)
                  have cx_165 := lg_c ex_165
                  refine sb_if_gt (tgt := 442) hx hb rfl dX10_works_426 (by decide) (fun c_426_165 => ?_) (fun c_426_165 => ?_)
                  · refine lv_iconst (v := 0) hx hb dX10_works_442 (by decide) ?_
                    exact hQ _ _ _ _ _ _ hw rfl (by exfalso; omega) dX10_works_443
                  · refine lv_lload hx hb dX10_works_429 (lv_at hl 0 rfl) ?_
                    refine lv_ldc2 (v := (-1000000000000)) hx hb C.2.2.2.1 (C.2.2.1 _ cn_X10_335) dX10_works_431 ?_
                    have z_269 : ((-1000000000000) : Int64).toInt = -1000000000000 := by decide
                    refine W.lcmp hx hb dX10_works_434 ?_
                    refine lv_topi (fun x_270 ex_270 => ?_)
                    have cx_270 := lg_c ex_270
                    refine sb_if_lt (tgt := 442) hx hb rfl dX10_works_435 (by decide) (fun c_435_270 => ?_) (fun c_435_270 => ?_)
                    · refine lv_iconst (v := 0) hx hb dX10_works_442 (by decide) ?_
                      exact hQ _ _ _ _ _ _ hw rfl (by exfalso; omega) dX10_works_443
                    · refine lv_iconst (v := 1) hx hb dX10_works_438 (by decide) ?_
                      refine lv_goto (tgt := 443) hx hb dX10_works_439 (by decide) ?_
                      have hsc : bq_sc sg.toInt = 34 := by unfold bq_sc; (repeat (first | rw [if_pos (by omega)] | rw [if_neg (by omega)]))
                      have er : bl_ER = -9223372036854775808 := rfl
                      have hbw : bl_w (bq_sc sg.toInt) (st (d.toInt.toNat - 2)) (st (d.toInt.toNat - 1)) = r_57.toInt := by rw [hsc, sy1, sy2]; unfold bl_w; (repeat (first | rw [if_pos (by omega)] | rw [if_neg (by omega)])); (try unfold bl_if); (repeat (first | rw [if_pos (by omega)] | rw [if_neg (by omega)])); first | omega | (rw [tr_57])
                      have hzN : rz (pp_su st (d.toInt.toNat - 2) (bl_w (bq_sc sg.toInt) (st (d.toInt.toNat - 2)) (st (d.toInt.toNat - 1)))) (d.toInt - 1) M_163 := by
                        have q := rz_up (t2 := d.toInt - 1) hz_22 hM_163 rfl (by omega) (z := bl_w (bq_sc sg.toInt) (st (d.toInt.toNat - 2)) (st (d.toInt.toNat - 1))) hbw.symm (by rw [hbw]; omega) (fun j hj => by omega)
                        rw [show x_162.toInt.toNat = d.toInt.toNat - 2 by omega] at q; exact q
                      exact hQ _ _ _ _ _ _ hw rfl (⟨(fI.trans (fI_Z hM_163) (fI_I hM_21)), (((tZ_nE hM_163 (nk (by decide))).trans (tZ_uIE hM_21))), Or.inr (Or.inl ⟨by decide, by omega, by rw [hbw]; omega, hzN⟩), iM_163, (qw.trans (qw_Z hM_163) (qw_I hM_21 (by decide))), ((ry_Z hM_163).trans (ry_I hM_21)), (by first | omega | decide), (by first | omega | decide), by rw [((tI_uZE hM_163).trans (tI_uE hM_21))]; omega⟩) dX10_works_443
                · refine lv_iconst (v := 1) hx hb dX10_works_285 (by decide) ?_
                  refine lv_goto (tgt := 290) hx hb dX10_works_286 (by decide) ?_
                  refine ti_callSl (av := [.int 1]) C hw (z_X10_is l D A cy hJ M_21 iM_21 1) ⟨ml_X10_323, ys_X10_is, yi_X10_is, yc_X10_is⟩ yd_X10_is rfl hl.1 (Nat.le_of_ble_eq_true rfl) ⟨by decide, by decide⟩ ⟨Nat.zero_le _, Nat.zero_le _⟩ dX10_works_290 (fun r_55 M_56 H locs hp_56 hw => ?_)
                  obtain ⟨hm, pr_55⟩ := hp_56
                  have hw := hw.to hm
                  simp only [show (1 : Int32).toInt = 1 by decide] at pr_55
                  have tr_55 : r_55.toInt = 1 := by omega
                  refine lv_lstore (lv' := [(6, .long r_55), (4, .long x_18), (2, .long x_3), (0, .ref (A 60 0)), (1, .int sg)]) hx hb dX10_works_293 hl (by decide) rfl (fun ls hl => ?_)
                  refine lv_goto (tgt := 407) hx hb dX10_works_295 (by decide) ?_
                  refine lv_aload_n hx hb dX10_works_407 rfl (lv_at hl 3 rfl) ?_
                  refine ti_get (ci := 10) (k := 32) (N := 67) (T := TX10) (v := .ref (A 60 33)) C hw iw_10 rfl ob_60 (by decide) (by decide) fl_X10_66 rfl rfl dX10_works_408 ?_
                  refine lv_aload_n hx hb dX10_works_411 rfl (lv_at hl 3 rfl) ?_
                  refine ti_get (ci := 10) (k := 33) (N := 67) (T := TX10) C hw iw_10 rfl ob_60 (by decide) (by decide) fl_X10_320 rfl rfl dX10_works_412 ?_
                  refine ti_top (y := x_20) (tI_uE hM_21) ?_
                  have u_155 : (tI M_21 60 33).toInt = (x_20 : Int32).toInt := by rw [(tI_uE hM_21)]
                  refine lv_iconst (v := 1) hx hb dX10_works_415 (by decide) ?_
                  refine lv_isub hx hb dX10_works_416 ?_
                  refine lv_topi (fun x_156 ex_156 => ?_)
                  have tx_156 : x_156.toInt = x_20.toInt - 1 := i_sub ex_156 rfl (by decide : (1 : Int32).toInt = 1) (by omega) (by omega)
                  refine lv_lload hx hb dX10_works_417 (lv_at hl 0 rfl) ?_
                  refine ti_last (ci := 10) (k := 32) (n := 64) C hw ob_60 (by decide) (fun _ _ => rfl) (vp_in_iff.mpr (by omega)) dX10_works_419 (fun H locs hw => ?_)
                  obtain ⟨M_157, hM_157⟩ : ∃ z : ti_M, z = uZ M_21 60 32 (vp_updL (tZ M_21 60 32) (x_156 : Int32).toNatClampNeg r_55) := ⟨_, rfl⟩
                  have hw := hw.to hM_157.symm
                  have iM_157 : mI Tm M_157 := mI_uZ iM_21 hM_157
                  refine lv_lload hx hb dX10_works_420 (lv_at hl 0 rfl) ?_
                  refine lv_ldc2 (v := 1000000000000) hx hb C.2.2.2.1 (C.2.2.1 _ cn_X10_333) dX10_works_422 ?_
                  have z_158 : (1000000000000 : Int64).toInt = 1000000000000 := by decide
                  refine W.lcmp hx hb dX10_works_425 ?_
                  refine lv_topi (fun x_159 ex_159 => ?_)
                  have cx_159 := lg_c ex_159
                  refine sb_if_gt (tgt := 442) hx hb rfl dX10_works_426 (by decide) (fun c_426_159 => ?_) (fun c_426_159 => ?_)
                  · refine lv_iconst (v := 0) hx hb dX10_works_442 (by decide) ?_
                    exact hQ _ _ _ _ _ _ hw rfl (by exfalso; omega) dX10_works_443
                  · refine lv_lload hx hb dX10_works_429 (lv_at hl 0 rfl) ?_
                    refine lv_ldc2 (v := (-1000000000000)) hx hb C.2.2.2.1 (C.2.2.1 _ cn_X10_335) dX10_works_431 ?_
                    have z_266 : ((-1000000000000) : Int64).toInt = -1000000000000 := by decide
                    refine W.lcmp hx hb dX10_works_434 ?_
                    refine lv_topi (fun x_267 ex_267 => ?_)
                    have cx_267 := lg_c ex_267
                    refine sb_if_lt (tgt := 442) hx hb rfl dX10_works_435 (by decide) (fun c_435_267 => ?_) (fun c_435_267 => ?_)
                    · refine lv_iconst (v := 0) hx hb dX10_works_442 (by decide) ?_
                      exact hQ _ _ _ _ _ _ hw rfl (by exfalso; omega) dX10_works_443
                    · refine lv_iconst (v := 1) hx hb dX10_works_438 (by decide) ?_
                      refine lv_goto (tgt := 443) hx hb dX10_works_439 (by decide) ?_
                      have hsc : bq_sc sg.toInt = 34 := by unfold bq_sc; (repeat (first | rw [if_pos (by omega)] | rw [if_neg (by omega)]))
                      have er : bl_ER = -9223372036854775808 := rfl
                      have hbw : bl_w (bq_sc sg.toInt) (st (d.toInt.toNat - 2)) (st (d.toInt.toNat - 1)) = r_55.toInt := by rw [hsc, sy1, sy2]; unfold bl_w; (repeat (first | rw [if_pos (by omega)] | rw [if_neg (by omega)])); (try unfold bl_if); (repeat (first | rw [if_pos (by omega)] | rw [if_neg (by omega)])); first | omega | (rw [tr_55])
                      have hzN : rz (pp_su st (d.toInt.toNat - 2) (bl_w (bq_sc sg.toInt) (st (d.toInt.toNat - 2)) (st (d.toInt.toNat - 1)))) (d.toInt - 1) M_157 := by
                        have q := rz_up (t2 := d.toInt - 1) hz_22 hM_157 rfl (by omega) (z := bl_w (bq_sc sg.toInt) (st (d.toInt.toNat - 2)) (st (d.toInt.toNat - 1))) hbw.symm (by rw [hbw]; omega) (fun j hj => by omega)
                        rw [show x_156.toInt.toNat = d.toInt.toNat - 2 by omega] at q; exact q
                      exact hQ _ _ _ _ _ _ hw rfl (⟨(fI.trans (fI_Z hM_157) (fI_I hM_21)), (((tZ_nE hM_157 (nk (by decide))).trans (tZ_uIE hM_21))), Or.inr (Or.inl ⟨by decide, by omega, by rw [hbw]; omega, hzN⟩), iM_157, (qw.trans (qw_Z hM_157) (qw_I hM_21 (by decide))), ((ry_Z hM_157).trans (ry_I hM_21)), (by first | omega | decide), (by first | omega | decide), by rw [((tI_uZE hM_157).trans (tI_uE hM_21))]; omega⟩) dX10_works_443
              · have qs_23_61 : sg.toInt ≠ 61 := pt_ne s_23_61 (by decide)
                by_cases s_23_62 : sg = 62
                · have qs_23_62 : sg.toInt = 62 := by rw [s_23_62]; decide
                  refine lv_lookup (tgt := 258) hx hb dX10_works_70 (by decide) (off := 188) (by rw [s_23_62]; decide) (by decide) ?_
                  refine lv_lload hx hb dX10_works_258 (lv_at hl 0 rfl) ?_
                  refine lv_lload_n hx hb dX10_works_260 rfl (lv_at hl 1 rfl) ?_
                  refine W.lcmp hx hb dX10_works_261 ?_
                  refine lv_topi (fun x_47 ex_47 => ?_)
                  have cx_47 := lg_c ex_47
                  refine sb_if_le (tgt := 269) hx hb rfl dX10_works_262 (by decide) (fun c_262_47 => ?_) (fun c_262_47 => ?_)
                  · refine lv_iconst (v := 0) hx hb dX10_works_269 (by decide) ?_
                    refine ti_callSl (av := [.int 0]) C hw (z_X10_is l D A cy hJ M_21 iM_21 0) ⟨ml_X10_323, ys_X10_is, yi_X10_is, yc_X10_is⟩ yd_X10_is rfl hl.1 (Nat.le_of_ble_eq_true rfl) ⟨by decide, by decide⟩ ⟨Nat.zero_le _, Nat.zero_le _⟩ dX10_works_270 (fun r_51 M_52 H locs hp_52 hw => ?_)
                    obtain ⟨hm, pr_51⟩ := hp_52
                    have hw := hw.to hm
                    simp only [show (0 : Int32).toInt = 0 by decide] at pr_51
                    have tr_51 : r_51.toInt = 0 := by omega
                    refine lv_lstore (lv' := [(6, .long r_51), (4, .long x_18), (2, .long x_3), (0, .ref (A 60 0)), (1, .int sg)]) hx hb dX10_works_273 hl (by decide) rfl (fun ls hl => ?_)
                    refine lv_goto (tgt := 407) hx hb dX10_works_275 (by decide) ?_
                    refine lv_aload_n hx hb dX10_works_407 rfl (lv_at hl 3 rfl) ?_
                    refine ti_get (ci := 10) (k := 32) (N := 67) (T := TX10) (v := .ref (A 60 33)) C hw iw_10 rfl ob_60 (by decide) (by decide) fl_X10_66 rfl rfl dX10_works_408 ?_
                    refine lv_aload_n hx hb dX10_works_411 rfl (lv_at hl 3 rfl) ?_
                    refine ti_get (ci := 10) (k := 33) (N := 67) (T := TX10) C hw iw_10 rfl ob_60 (by decide) (by decide) fl_X10_320 rfl rfl dX10_works_412 ?_
                    refine ti_top (y := x_20) (tI_uE hM_21) ?_
                    have u_149 : (tI M_21 60 33).toInt = (x_20 : Int32).toInt := by rw [(tI_uE hM_21)]
                    refine lv_iconst (v := 1) hx hb dX10_works_415 (by decide) ?_
                    refine lv_isub hx hb dX10_works_416 ?_
                    refine lv_topi (fun x_150 ex_150 => ?_)
                    have tx_150 : x_150.toInt = x_20.toInt - 1 := i_sub ex_150 rfl (by decide : (1 : Int32).toInt = 1) (by omega) (by omega)
                    refine lv_lload hx hb dX10_works_417 (lv_at hl 0 rfl) ?_
                    refine ti_last (ci := 10) (k := 32) (n := 64) C hw ob_60 (by decide) (fun _ _ => rfl) (vp_in_iff.mpr (by omega)) dX10_works_419 (fun H locs hw => ?_)
                    obtain ⟨M_151, hM_151⟩ : ∃ z : ti_M, z = uZ M_21 60 32 (vp_updL (tZ M_21 60 32) (x_150 : Int32).toNatClampNeg r_51) := ⟨_, rfl⟩
                    have hw := hw.to hM_151.symm
                    have iM_151 : mI Tm M_151 := mI_uZ iM_21 hM_151
                    refine lv_lload hx hb dX10_works_420 (lv_at hl 0 rfl) ?_
                    refine lv_ldc2 (v := 1000000000000) hx hb C.2.2.2.1 (C.2.2.1 _ cn_X10_333) dX10_works_422 ?_
                    have z_152 : (1000000000000 : Int64).toInt = 1000000000000 := by decide
                    refine W.lcmp hx hb dX10_works_425 ?_
                    refine lv_topi (fun x_153 ex_153 => ?_)
                    have cx_153 := lg_c ex_153
                    refine sb_if_gt (tgt := 442) hx hb rfl dX10_works_426 (by decide) (fun c_426_153 => ?_) (fun c_426_153 => ?_)
                    · refine lv_iconst (v := 0) hx hb dX10_works_442 (by decide) ?_
                      exact hQ _ _ _ _ _ _ hw rfl (by exfalso; omega) dX10_works_443
                    · refine lv_lload hx hb dX10_works_429 (lv_at hl 0 rfl) ?_
                      refine lv_ldc2 (v := (-1000000000000)) hx hb C.2.2.2.1 (C.2.2.1 _ cn_X10_335) dX10_works_431 ?_
                      have z_263 : ((-1000000000000) : Int64).toInt = -1000000000000 := by decide
                      refine W.lcmp hx hb dX10_works_434 ?_
                      refine lv_topi (fun x_264 ex_264 => ?_)
                      have cx_264 := lg_c ex_264
                      refine sb_if_lt (tgt := 442) hx hb rfl dX10_works_435 (by decide) (fun c_435_264 => ?_) (fun c_435_264 => ?_)
                      · refine lv_iconst (v := 0) hx hb dX10_works_442 (by decide) ?_
                        exact hQ _ _ _ _ _ _ hw rfl (by exfalso; omega) dX10_works_443
                      · refine lv_iconst (v := 1) hx hb dX10_works_438 (by decide) ?_
                        refine lv_goto (tgt := 443) hx hb dX10_works_439 (by decide) ?_
                        have hsc : bq_sc sg.toInt = 37 := by unfold bq_sc; (repeat (first | rw [if_pos (by omega)] | rw [if_neg (by omega)]))
                        have er : bl_ER = -9223372036854775808 := rfl
                        have hbw : bl_w (bq_sc sg.toInt) (st (d.toInt.toNat - 2)) (st (d.toInt.toNat - 1)) = r_51.toInt := by rw [hsc, sy1, sy2]; unfold bl_w; (repeat (first | rw [if_pos (by omega)] | rw [if_neg (by omega)])); (try unfold bl_if); (repeat (first | rw [if_pos (by omega)] | rw [if_neg (by omega)])); first | omega | (rw [tr_51])
                        have hzN : rz (pp_su st (d.toInt.toNat - 2) (bl_w (bq_sc sg.toInt) (st (d.toInt.toNat - 2)) (st (d.toInt.toNat - 1)))) (d.toInt - 1) M_151 := by
                          have q := rz_up (t2 := d.toInt - 1) hz_22 hM_151 rfl (by omega) (z := bl_w (bq_sc sg.toInt) (st (d.toInt.toNat - 2)) (st (d.toInt.toNat - 1))) hbw.symm (by rw [hbw]; omega) (fun j hj => by omega)
                          rw [show x_150.toInt.toNat = d.toInt.toNat - 2 by omega] at q; exact q
                        exact hQ _ _ _ _ _ _ hw rfl (⟨(fI.trans (fI_Z hM_151) (fI_I hM_21)), (((tZ_nE hM_151 (nk (by decide))).trans (tZ_uIE hM_21))), Or.inr (Or.inl ⟨by decide, by omega, by rw [hbw]; omega, hzN⟩), iM_151, (qw.trans (qw_Z hM_151) (qw_I hM_21 (by decide))), ((ry_Z hM_151).trans (ry_I hM_21)), (by first | omega | decide), (by first | omega | decide), by rw [((tI_uZE hM_151).trans (tI_uE hM_21))]; omega⟩) dX10_works_443
                  · refine lv_iconst (v := 1) hx hb dX10_works_265 (by decide) ?_
                    refine lv_goto (tgt := 270) hx hb dX10_works_266 (by decide) ?_
                    refine ti_callSl (av := [.int 1]) C hw (z_X10_is l D A cy hJ M_21 iM_21 1) ⟨ml_X10_323, ys_X10_is, yi_X10_is, yc_X10_is⟩ yd_X10_is rfl hl.1 (Nat.le_of_ble_eq_true rfl) ⟨by decide, by decide⟩ ⟨Nat.zero_le _, Nat.zero_le _⟩ dX10_works_270 (fun r_49 M_50 H locs hp_50 hw => ?_)
                    obtain ⟨hm, pr_49⟩ := hp_50
                    have hw := hw.to hm
                    simp only [show (1 : Int32).toInt = 1 by decide] at pr_49
                    have tr_49 : r_49.toInt = 1 := by omega
                    refine lv_lstore (lv' := [(6, .long r_49), (4, .long x_18), (2, .long x_3), (0, .ref (A 60 0)), (1, .int sg)]) hx hb dX10_works_273 hl (by decide) rfl (fun ls hl => ?_)
                    refine lv_goto (tgt := 407) hx hb dX10_works_275 (by decide) ?_
                    refine lv_aload_n hx hb dX10_works_407 rfl (lv_at hl 3 rfl) ?_
                    refine ti_get (ci := 10) (k := 32) (N := 67) (T := TX10) (v := .ref (A 60 33)) C hw iw_10 rfl ob_60 (by decide) (by decide) fl_X10_66 rfl rfl dX10_works_408 ?_
                    refine lv_aload_n hx hb dX10_works_411 rfl (lv_at hl 3 rfl) ?_
                    refine ti_get (ci := 10) (k := 33) (N := 67) (T := TX10) C hw iw_10 rfl ob_60 (by decide) (by decide) fl_X10_320 rfl rfl dX10_works_412 ?_
                    refine ti_top (y := x_20) (tI_uE hM_21) ?_
                    have u_143 : (tI M_21 60 33).toInt = (x_20 : Int32).toInt := by rw [(tI_uE hM_21)]
                    refine lv_iconst (v := 1) hx hb dX10_works_415 (by decide) ?_
                    refine lv_isub hx hb dX10_works_416 ?_
                    refine lv_topi (fun x_144 ex_144 => ?_)
                    have tx_144 : x_144.toInt = x_20.toInt - 1 := i_sub ex_144 rfl (by decide : (1 : Int32).toInt = 1) (by omega) (by omega)
                    refine lv_lload hx hb dX10_works_417 (lv_at hl 0 rfl) ?_
                    refine ti_last (ci := 10) (k := 32) (n := 64) C hw ob_60 (by decide) (fun _ _ => rfl) (vp_in_iff.mpr (by omega)) dX10_works_419 (fun H locs hw => ?_)
                    obtain ⟨M_145, hM_145⟩ : ∃ z : ti_M, z = uZ M_21 60 32 (vp_updL (tZ M_21 60 32) (x_144 : Int32).toNatClampNeg r_49) := ⟨_, rfl⟩
                    have hw := hw.to hM_145.symm
                    have iM_145 : mI Tm M_145 := mI_uZ iM_21 hM_145
                    refine lv_lload hx hb dX10_works_420 (lv_at hl 0 rfl) ?_
                    refine lv_ldc2 (v := 1000000000000) hx hb C.2.2.2.1 (C.2.2.1 _ cn_X10_333) dX10_works_422 ?_
                    have z_146 : (1000000000000 : Int64).toInt = 1000000000000 := by decide
                    refine W.lcmp hx hb dX10_works_425 ?_
                    refine lv_topi (fun x_147 ex_147 => ?_)
                    have cx_147 := lg_c ex_147
                    refine sb_if_gt (tgt := 442) hx hb rfl dX10_works_426 (by decide) (fun c_426_147 => ?_) (fun c_426_147 => ?_)
                    · refine lv_iconst (v := 0) hx hb dX10_works_442 (by decide) ?_
                      exact hQ _ _ _ _ _ _ hw rfl (by exfalso; omega) dX10_works_443
                    · refine lv_lload hx hb dX10_works_429 (lv_at hl 0 rfl) ?_
                      refine lv_ldc2 (v := (-1000000000000)) hx hb C.2.2.2.1 (C.2.2.1 _ cn_X10_335) dX10_works_431 ?_
                      have z_260 : ((-1000000000000) : Int64).toInt = -1000000000000 := by decide
                      refine W.lcmp hx hb dX10_works_434 ?_
                      refine lv_topi (fun x_261 ex_261 => ?_)
                      have cx_261 := lg_c ex_261
                      refine sb_if_lt (tgt := 442) hx hb rfl dX10_works_435 (by decide) (fun c_435_261 => ?_) (fun c_435_261 => ?_)
                      · refine lv_iconst (v := 0) hx hb dX10_works_442 (by decide) ?_
                        exact hQ _ _ _ _ _ _ hw rfl (by exfalso; omega) dX10_works_443
                      · refine lv_iconst (v := 1) hx hb dX10_works_438 (by decide) ?_
                        refine lv_goto (tgt := 443) hx hb dX10_works_439 (by decide) ?_
                        have hsc : bq_sc sg.toInt = 37 := by unfold bq_sc; (repeat (first | rw [if_pos (by omega)] | rw [if_neg (by omega)]))
                        have er : bl_ER = -9223372036854775808 := rfl
                        have hbw : bl_w (bq_sc sg.toInt) (st (d.toInt.toNat - 2)) (st (d.toInt.toNat - 1)) = r_49.toInt := by rw [hsc, sy1, sy2]; unfold bl_w; (repeat (first | rw [if_pos (by omega)] | rw [if_neg (by omega)])); (try unfold bl_if); (repeat (first | rw [if_pos (by omega)] | rw [if_neg (by omega)])); first | omega | (rw [tr_49])
                        have hzN : rz (pp_su st (d.toInt.toNat - 2) (bl_w (bq_sc sg.toInt) (st (d.toInt.toNat - 2)) (st (d.toInt.toNat - 1)))) (d.toInt - 1) M_145 := by
                          have q := rz_up (t2 := d.toInt - 1) hz_22 hM_145 rfl (by omega) (z := bl_w (bq_sc sg.toInt) (st (d.toInt.toNat - 2)) (st (d.toInt.toNat - 1))) hbw.symm (by rw [hbw]; omega) (fun j hj => by omega)
                          rw [show x_144.toInt.toNat = d.toInt.toNat - 2 by omega] at q; exact q
                        exact hQ _ _ _ _ _ _ hw rfl (⟨(fI.trans (fI_Z hM_145) (fI_I hM_21)), (((tZ_nE hM_145 (nk (by decide))).trans (tZ_uIE hM_21))), Or.inr (Or.inl ⟨by decide, by omega, by rw [hbw]; omega, hzN⟩), iM_145, (qw.trans (qw_Z hM_145) (qw_I hM_21 (by decide))), ((ry_Z hM_145).trans (ry_I hM_21)), (by first | omega | decide), (by first | omega | decide), by rw [((tI_uZE hM_145).trans (tI_uE hM_21))]; omega⟩) dX10_works_443
                · have qs_23_62 : sg.toInt ≠ 62 := pt_ne s_23_62 (by decide)
                  by_cases s_23_256 : sg = 256
                  · have qs_23_256 : sg.toInt = 256 := by rw [s_23_256]; decide
                    refine lv_lookup (tgt := 298) hx hb dX10_works_70 (by decide) (off := 228) (by rw [s_23_256]; decide) (by decide) ?_
                    refine lv_lload hx hb dX10_works_298 (lv_at hl 0 rfl) ?_
                    refine lv_lload_n hx hb dX10_works_300 rfl (lv_at hl 1 rfl) ?_
                    refine W.lcmp hx hb dX10_works_301 ?_
                    refine lv_topi (fun x_59 ex_59 => ?_)
                    have cx_59 := lg_c ex_59
                    refine sb_if_gt (tgt := 309) hx hb rfl dX10_works_302 (by decide) (fun c_302_59 => ?_) (fun c_302_59 => ?_)
                    · refine lv_iconst (v := 0) hx hb dX10_works_309 (by decide) ?_
                      refine ti_callSl (av := [.int 0]) C hw (z_X10_is l D A cy hJ M_21 iM_21 0) ⟨ml_X10_323, ys_X10_is, yi_X10_is, yc_X10_is⟩ yd_X10_is rfl hl.1 (Nat.le_of_ble_eq_true rfl) ⟨by decide, by decide⟩ ⟨Nat.zero_le _, Nat.zero_le _⟩ dX10_works_310 (fun r_63 M_64 H locs hp_64 hw => ?_)
                      obtain ⟨hm, pr_63⟩ := hp_64
                      have hw := hw.to hm
                      simp only [show (0 : Int32).toInt = 0 by decide] at pr_63
                      have tr_63 : r_63.toInt = 0 := by omega
                      refine lv_lstore (lv' := [(6, .long r_63), (4, .long x_18), (2, .long x_3), (0, .ref (A 60 0)), (1, .int sg)]) hx hb dX10_works_313 hl (by decide) rfl (fun ls hl => ?_)
                      refine lv_goto (tgt := 407) hx hb dX10_works_315 (by decide) ?_
                      refine lv_aload_n hx hb dX10_works_407 rfl (lv_at hl 3 rfl) ?_
                      refine ti_get (ci := 10) (k := 32) (N := 67) (T := TX10) (v := .ref (A 60 33)) C hw iw_10 rfl ob_60 (by decide) (by decide) fl_X10_66 rfl rfl dX10_works_408 ?_
                      refine lv_aload_n hx hb dX10_works_411 rfl (lv_at hl 3 rfl) ?_
                      refine ti_get (ci := 10) (k := 33) (N := 67) (T := TX10) C hw iw_10 rfl ob_60 (by decide) (by decide) fl_X10_320 rfl rfl dX10_works_412 ?_
                      refine ti_top (y := x_20) (tI_uE hM_21) ?_
                      have u_173 : (tI M_21 60 33).toInt = (x_20 : Int32).toInt := by rw [(tI_uE hM_21)]
                      refine lv_iconst (v := 1) hx hb dX10_works_415 (by decide) ?_
                      refine lv_isub hx hb dX10_works_416 ?_
                      refine lv_topi (fun x_174 ex_174 => ?_)
                      have tx_174 : x_174.toInt = x_20.toInt - 1 := i_sub ex_174 rfl (by decide : (1 : Int32).toInt = 1) (by omega) (by omega)
                      refine lv_lload hx hb dX10_works_417 (lv_at hl 0 rfl) ?_
                      refine ti_last (ci := 10) (k := 32) (n := 64) C hw ob_60 (by decide) (fun _ _ => rfl) (vp_in_iff.mpr (by omega)) dX10_works_419 (fun H locs hw => ?_)
                      obtain ⟨M_175, hM_175⟩ : ∃ z : ti_M, z = uZ M_21 60 32 (vp_updL (tZ M_21 60 32) (x_174 : Int32).toNatClampNeg r_63) := ⟨_, rfl⟩
                      have hw := hw.to hM_175.symm
                      have iM_175 : mI Tm M_175 := mI_uZ iM_21 hM_175
                      refine lv_lload hx hb dX10_works_420 (lv_at hl 0 rfl) ?_
                      refine lv_ldc2 (v := 1000000000000) hx hb C.2.2.2.1 (C.2.2.1 _ cn_X10_333) dX10_works_422 ?_
                      have z_176 : (1000000000000 : Int64).toInt = 1000000000000 := by decide
                      refine W.lcmp hx hb dX10_works_425 ?_
                      refine lv_topi (fun x_177 ex_177 => ?_)
                      have cx_177 := lg_c ex_177
                      refine sb_if_gt (tgt := 442) hx hb rfl dX10_works_426 (by decide) (fun c_426_177 => ?_) (fun c_426_177 => ?_)
                      · refine lv_iconst (v := 0) hx hb dX10_works_442 (by decide) ?_
                        exact hQ _ _ _ _ _ _ hw rfl (by exfalso; omega) dX10_works_443
                      · refine lv_lload hx hb dX10_works_429 (lv_at hl 0 rfl) ?_
                        refine lv_ldc2 (v := (-1000000000000)) hx hb C.2.2.2.1 (C.2.2.1 _ cn_X10_335) dX10_works_431 ?_
                        have z_275 : ((-1000000000000) : Int64).toInt = -1000000000000 := by decide
                        refine W.lcmp hx hb dX10_works_434 ?_
                        refine lv_topi (fun x_276 ex_276 => ?_)
                        have cx_276 := lg_c ex_276
                        refine sb_if_lt (tgt := 442) hx hb rfl dX10_works_435 (by decide) (fun c_435_276 => ?_) (fun c_435_276 => ?_)
                        · refine lv_iconst (v := 0) hx hb dX10_works_442 (by decide) ?_
                          exact hQ _ _ _ _ _ _ hw rfl (by exfalso; omega) dX10_works_443
                        · refine lv_iconst (v := 1) hx hb dX10_works_438 (by decide) ?_
                          refine lv_goto (tgt := 443) hx hb dX10_works_439 (by decide) ?_
                          have hsc : bq_sc sg.toInt = 33 := by unfold bq_sc; (repeat (first | rw [if_pos (by omega)] | rw [if_neg (by omega)]))
                          have er : bl_ER = -9223372036854775808 := rfl
                          have hbw : bl_w (bq_sc sg.toInt) (st (d.toInt.toNat - 2)) (st (d.toInt.toNat - 1)) = r_63.toInt := by rw [hsc, sy1, sy2]; unfold bl_w; (repeat (first | rw [if_pos (by omega)] | rw [if_neg (by omega)])); (try unfold bl_if); (repeat (first | rw [if_pos (by omega)] | rw [if_neg (by omega)])); first | omega | (rw [tr_63])
                          have hzN : rz (pp_su st (d.toInt.toNat - 2) (bl_w (bq_sc sg.toInt) (st (d.toInt.toNat - 2)) (st (d.toInt.toNat - 1)))) (d.toInt - 1) M_175 := by
                            have q := rz_up (t2 := d.toInt - 1) hz_22 hM_175 rfl (by omega) (z := bl_w (bq_sc sg.toInt) (st (d.toInt.toNat - 2)) (st (d.toInt.toNat - 1))) hbw.symm (by rw [hbw]; omega) (fun j hj => by omega)
                            rw [show x_174.toInt.toNat = d.toInt.toNat - 2 by omega] at q; exact q
                          exact hQ _ _ _ _ _ _ hw rfl (⟨(fI.trans (fI_Z hM_175) (fI_I hM_21)), (((tZ_nE hM_175 (nk (by decide))).trans (tZ_uIE hM_21))), Or.inr (Or.inl ⟨by decide, by omega, by rw [hbw]; omega, hzN⟩), iM_175, (qw.trans (qw_Z hM_175) (qw_I hM_21 (by decide))), ((ry_Z hM_175).trans (ry_I hM_21)), (by first | omega | decide), (by first | omega | decide), by rw [((tI_uZE hM_175).trans (tI_uE hM_21))]; omega⟩) dX10_works_443
                    · refine lv_iconst (v := 1) hx hb dX10_works_305 (by decide) ?_
                      refine lv_goto (tgt := 310) hx hb dX10_works_306 (by decide) ?_
                      refine ti_callSl (av := [.int 1]) C hw (z_X10_is l D A cy hJ M_21 iM_21 1) ⟨ml_X10_323, ys_X10_is, yi_X10_is, yc_X10_is⟩ yd_X10_is rfl hl.1 (Nat.le_of_ble_eq_true rfl) ⟨by decide, by decide⟩ ⟨Nat.zero_le _, Nat.zero_le _⟩ dX10_works_310 (fun r_61 M_62 H locs hp_62 hw => ?_)
                      obtain ⟨hm, pr_61⟩ := hp_62
                      have hw := hw.to hm
                      simp only [show (1 : Int32).toInt = 1 by decide] at pr_61
                      have tr_61 : r_61.toInt = 1 := by omega
                      refine lv_lstore (lv' := [(6, .long r_61), (4, .long x_18), (2, .long x_3), (0, .ref (A 60 0)), (1, .int sg)]) hx hb dX10_works_313 hl (by decide) rfl (fun ls hl => ?_)
                      refine lv_goto (tgt := 407) hx hb dX10_works_315 (by decide) ?_
                      refine lv_aload_n hx hb dX10_works_407 rfl (lv_at hl 3 rfl) ?_
                      refine ti_get (ci := 10) (k := 32) (N := 67) (T := TX10) (v := .ref (A 60 33)) C hw iw_10 rfl ob_60 (by decide) (by decide) fl_X10_66 rfl rfl dX10_works_408 ?_
                      refine lv_aload_n hx hb dX10_works_411 rfl (lv_at hl 3 rfl) ?_
                      refine ti_get (ci := 10) (k := 33) (N := 67) (T := TX10) C hw iw_10 rfl ob_60 (by decide) (by decide) fl_X10_320 rfl rfl dX10_works_412 ?_
                      refine ti_top (y := x_20) (tI_uE hM_21) ?_
                      have u_167 : (tI M_21 60 33).toInt = (x_20 : Int32).toInt := by rw [(tI_uE hM_21)]
                      refine lv_iconst (v := 1) hx hb dX10_works_415 (by decide) ?_
                      refine lv_isub hx hb dX10_works_416 ?_
                      refine lv_topi (fun x_168 ex_168 => ?_)
                      have tx_168 : x_168.toInt = x_20.toInt - 1 := i_sub ex_168 rfl (by decide : (1 : Int32).toInt = 1) (by omega) (by omega)
                      refine lv_lload hx hb dX10_works_417 (lv_at hl 0 rfl) ?_
                      refine ti_last (ci := 10) (k := 32) (n := 64) C hw ob_60 (by decide) (fun _ _ => rfl) (vp_in_iff.mpr (by omega)) dX10_works_419 (fun H locs hw => ?_)
                      obtain ⟨M_169, hM_169⟩ : ∃ z : ti_M, z = uZ M_21 60 32 (vp_updL (tZ M_21 60 32) (x_168 : Int32).toNatClampNeg r_61) := ⟨_, rfl⟩
                      have hw := hw.to hM_169.symm
                      have iM_169 : mI Tm M_169 := mI_uZ iM_21 hM_169
                      refine lv_lload hx hb dX10_works_420 (lv_at hl 0 rfl) ?_
                      refine lv_ldc2 (v := 1000000000000) hx hb C.2.2.2.1 (C.2.2.1 _ cn_X10_333) dX10_works_422 ?_
                      have z_170 : (1000000000000 : Int64).toInt = 1000000000000 := by decide
                      refine W.lcmp hx hb dX10_works_425 ?_
                      refine lv_topi (fun x_171 ex_171 => ?_)
                      have cx_171 := lg_c ex_171
                      refine sb_if_gt (tgt := 442) hx hb rfl dX10_works_426 (by decide) (fun c_426_171 => ?_) (fun c_426_171 => ?_)
                      · refine lv_iconst (v := 0) hx hb dX10_works_442 (by decide) ?_
                        exact hQ _ _ _ _ _ _ hw rfl (by exfalso; omega) dX10_works_443
                      · refine lv_lload hx hb dX10_works_429 (lv_at hl 0 rfl) ?_
                        refine lv_ldc2 (v := (-1000000000000)) hx hb C.2.2.2.1 (C.2.2.1 _ cn_X10_335) dX10_works_431 ?_
                        have z_272 : ((-1000000000000) : Int64).toInt = -1000000000000 := by decide
                        refine W.lcmp hx hb dX10_works_434 ?_
                        refine lv_topi (fun x_273 ex_273 => ?_)
                        have cx_273 := lg_c ex_273
                        refine sb_if_lt (tgt := 442) hx hb rfl dX10_works_435 (by decide) (fun c_435_273 => ?_) (fun c_435_273 => ?_)
                        · refine lv_iconst (v := 0) hx hb dX10_works_442 (by decide) ?_
                          exact hQ _ _ _ _ _ _ hw rfl (by exfalso; omega) dX10_works_443
                        · refine lv_iconst (v := 1) hx hb dX10_works_438 (by decide) ?_
                          refine lv_goto (tgt := 443) hx hb dX10_works_439 (by decide) ?_
                          have hsc : bq_sc sg.toInt = 33 := by unfold bq_sc; (repeat (first | rw [if_pos (by omega)] | rw [if_neg (by omega)]))
                          have er : bl_ER = -9223372036854775808 := rfl
                          have hbw : bl_w (bq_sc sg.toInt) (st (d.toInt.toNat - 2)) (st (d.toInt.toNat - 1)) = r_61.toInt := by rw [hsc, sy1, sy2]; unfold bl_w; (repeat (first | rw [if_pos (by omega)] | rw [if_neg (by omega)])); (try unfold bl_if); (repeat (first | rw [if_pos (by omega)] | rw [if_neg (by omega)])); first | omega | (rw [tr_61])
                          have hzN : rz (pp_su st (d.toInt.toNat - 2) (bl_w (bq_sc sg.toInt) (st (d.toInt.toNat - 2)) (st (d.toInt.toNat - 1)))) (d.toInt - 1) M_169 := by
                            have q := rz_up (t2 := d.toInt - 1) hz_22 hM_169 rfl (by omega) (z := bl_w (bq_sc sg.toInt) (st (d.toInt.toNat - 2)) (st (d.toInt.toNat - 1))) hbw.symm (by rw [hbw]; omega) (fun j hj => by omega)
                            rw [show x_168.toInt.toNat = d.toInt.toNat - 2 by omega] at q; exact q
                          exact hQ _ _ _ _ _ _ hw rfl (⟨(fI.trans (fI_Z hM_169) (fI_I hM_21)), (((tZ_nE hM_169 (nk (by decide))).trans (tZ_uIE hM_21))), Or.inr (Or.inl ⟨by decide, by omega, by rw [hbw]; omega, hzN⟩), iM_169, (qw.trans (qw_Z hM_169) (qw_I hM_21 (by decide))), ((ry_Z hM_169).trans (ry_I hM_21)), (by first | omega | decide), (by first | omega | decide), by rw [((tI_uZE hM_169).trans (tI_uE hM_21))]; omega⟩) dX10_works_443
                  · have qs_23_256 : sg.toInt ≠ 256 := pt_ne s_23_256 (by decide)
                    by_cases s_23_257 : sg = 257
                    · have qs_23_257 : sg.toInt = 257 := by rw [s_23_257]; decide
                      refine lv_lookup (tgt := 338) hx hb dX10_works_70 (by decide) (off := 268) (by rw [s_23_257]; decide) (by decide) ?_
                      refine lv_lload hx hb dX10_works_338 (lv_at hl 0 rfl) ?_
                      refine lv_lload_n hx hb dX10_works_340 rfl (lv_at hl 1 rfl) ?_
                      refine W.lcmp hx hb dX10_works_341 ?_
                      refine lv_topi (fun x_71 ex_71 => ?_)
                      have cx_71 := lg_c ex_71
                      refine sb_if_eq (tgt := 349) hx hb rfl dX10_works_342 (by decide) (fun c_342_71 => ?_) (fun c_342_71 => ?_)
                      · refine lv_iconst (v := 0) hx hb dX10_works_349 (by decide) ?_
                        refine ti_callSl (av := [.int 0]) C hw (z_X10_is l D A cy hJ M_21 iM_21 0) ⟨ml_X10_323, ys_X10_is, yi_X10_is, yc_X10_is⟩ yd_X10_is rfl hl.1 (Nat.le_of_ble_eq_true rfl) ⟨by decide, by decide⟩ ⟨Nat.zero_le _, Nat.zero_le _⟩ dX10_works_350 (fun r_75 M_76 H locs hp_76 hw => ?_)
                        obtain ⟨hm, pr_75⟩ := hp_76
                        have hw := hw.to hm
                        simp only [show (0 : Int32).toInt = 0 by decide] at pr_75
                        have tr_75 : r_75.toInt = 0 := by omega
                        refine lv_lstore (lv' := [(6, .long r_75), (4, .long x_18), (2, .long x_3), (0, .ref (A 60 0)), (1, .int sg)]) hx hb dX10_works_353 hl (by decide) rfl (fun ls hl => ?_)
                        refine lv_goto (tgt := 407) hx hb dX10_works_355 (by decide) ?_
                        refine lv_aload_n hx hb dX10_works_407 rfl (lv_at hl 3 rfl) ?_
                        refine ti_get (ci := 10) (k := 32) (N := 67) (T := TX10) (v := .ref (A 60 33)) C hw iw_10 rfl ob_60 (by decide) (by decide) fl_X10_66 rfl rfl dX10_works_408 ?_
                        refine lv_aload_n hx hb dX10_works_411 rfl (lv_at hl 3 rfl) ?_
                        refine ti_get (ci := 10) (k := 33) (N := 67) (T := TX10) C hw iw_10 rfl ob_60 (by decide) (by decide) fl_X10_320 rfl rfl dX10_works_412 ?_
                        refine ti_top (y := x_20) (tI_uE hM_21) ?_
                        have u_197 : (tI M_21 60 33).toInt = (x_20 : Int32).toInt := by rw [(tI_uE hM_21)]
                        refine lv_iconst (v := 1) hx hb dX10_works_415 (by decide) ?_
                        refine lv_isub hx hb dX10_works_416 ?_
                        refine lv_topi (fun x_198 ex_198 => ?_)
                        have tx_198 : x_198.toInt = x_20.toInt - 1 := i_sub ex_198 rfl (by decide : (1 : Int32).toInt = 1) (by omega) (by omega)
                        refine lv_lload hx hb dX10_works_417 (lv_at hl 0 rfl) ?_
                        refine ti_last (ci := 10) (k := 32) (n := 64) C hw ob_60 (by decide) (fun _ _ => rfl) (vp_in_iff.mpr (by omega)) dX10_works_419 (fun H locs hw => ?_)
                        obtain ⟨M_199, hM_199⟩ : ∃ z : ti_M, z = uZ M_21 60 32 (vp_updL (tZ M_21 60 32) (x_198 : Int32).toNatClampNeg r_75) := ⟨_, rfl⟩
                        have hw := hw.to hM_199.symm
                        have iM_199 : mI Tm M_199 := mI_uZ iM_21 hM_199
                        refine lv_lload hx hb dX10_works_420 (lv_at hl 0 rfl) ?_
                        refine lv_ldc2 (v := 1000000000000) hx hb C.2.2.2.1 (C.2.2.1 _ cn_X10_333) dX10_works_422 ?_
                        have z_200 : (1000000000000 : Int64).toInt = 1000000000000 := by decide
                        refine W.lcmp hx hb dX10_works_425 ?_
                        refine lv_topi (fun x_201 ex_201 => ?_)
                        have cx_201 := lg_c ex_201
                        refine sb_if_gt (tgt := 442) hx hb rfl dX10_works_426 (by decide) (fun c_426_201 => ?_) (fun c_426_201 => ?_)
                        · refine lv_iconst (v := 0) hx hb dX10_works_442 (by decide) ?_
                          exact hQ _ _ _ _ _ _ hw rfl (by exfalso; omega) dX10_works_443
                        · refine lv_lload hx hb dX10_works_429 (lv_at hl 0 rfl) ?_
                          refine lv_ldc2 (v := (-1000000000000)) hx hb C.2.2.2.1 (C.2.2.1 _ cn_X10_335) dX10_works_431 ?_
                          have z_287 : ((-1000000000000) : Int64).toInt = -1000000000000 := by decide
                          refine W.lcmp hx hb dX10_works_434 ?_
                          refine lv_topi (fun x_288 ex_288 => ?_)
                          have cx_288 := lg_c ex_288
                          refine sb_if_lt (tgt := 442) hx hb rfl dX10_works_435 (by decide) (fun c_435_288 => ?_) (fun c_435_288 => ?_)
                          · refine lv_iconst (v := 0) hx hb dX10_works_442 (by decide) ?_
                            exact hQ _ _ _ _ _ _ hw rfl (by exfalso; omega) dX10_works_443
                          · refine lv_iconst (v := 1) hx hb dX10_works_438 (by decide) ?_
                            refine lv_goto (tgt := 443) hx hb dX10_works_439 (by decide) ?_
                            have hsc : bq_sc sg.toInt = 35 := by unfold bq_sc; (repeat (first | rw [if_pos (by omega)] | rw [if_neg (by omega)]))
                            have er : bl_ER = -9223372036854775808 := rfl
                            have hbw : bl_w (bq_sc sg.toInt) (st (d.toInt.toNat - 2)) (st (d.toInt.toNat - 1)) = r_75.toInt := by rw [hsc, sy1, sy2]; unfold bl_w; (repeat (first | rw [if_pos (by omega)] | rw [if_neg (by omega)])); (try unfold bl_if); (repeat (first | rw [if_pos (by omega)] | rw [if_neg (by omega)])); first | omega | (rw [tr_75])
                            have hzN : rz (pp_su st (d.toInt.toNat - 2) (bl_w (bq_sc sg.toInt) (st (d.toInt.toNat - 2)) (st (d.toInt.toNat - 1)))) (d.toInt - 1) M_199 := by
                              have q := rz_up (t2 := d.toInt - 1) hz_22 hM_199 rfl (by omega) (z := bl_w (bq_sc sg.toInt) (st (d.toInt.toNat - 2)) (st (d.toInt.toNat - 1))) hbw.symm (by rw [hbw]; omega) (fun j hj => by omega)
                              rw [show x_198.toInt.toNat = d.toInt.toNat - 2 by omega] at q; exact q
                            exact hQ _ _ _ _ _ _ hw rfl (⟨(fI.trans (fI_Z hM_199) (fI_I hM_21)), (((tZ_nE hM_199 (nk (by decide))).trans (tZ_uIE hM_21))), Or.inr (Or.inl ⟨by decide, by omega, by rw [hbw]; omega, hzN⟩), iM_199, (qw.trans (qw_Z hM_199) (qw_I hM_21 (by decide))), ((ry_Z hM_199).trans (ry_I hM_21)), (by first | omega | decide), (by first | omega | decide), by rw [((tI_uZE hM_199).trans (tI_uE hM_21))]; omega⟩) dX10_works_443
                      · refine lv_iconst (v := 1) hx hb dX10_works_345 (by decide) ?_
                        refine lv_goto (tgt := 350) hx hb dX10_works_346 (by decide) ?_
                        refine ti_callSl (av := [.int 1]) C hw (z_X10_is l D A cy hJ M_21 iM_21 1) ⟨ml_X10_323, ys_X10_is, yi_X10_is, yc_X10_is⟩ yd_X10_is rfl hl.1 (Nat.le_of_ble_eq_true rfl) ⟨by decide, by decide⟩ ⟨Nat.zero_le _, Nat.zero_le _⟩ dX10_works_350 (fun r_73 M_74 H locs hp_74 hw => ?_)
                        obtain ⟨hm, pr_73⟩ := hp_74
                        have hw := hw.to hm
                        simp only [show (1 : Int32).toInt = 1 by decide] at pr_73
                        have tr_73 : r_73.toInt = 1 := by omega
                        refine lv_lstore (lv' := [(6, .long r_73), (4, .long x_18), (2, .long x_3), (0, .ref (A 60 0)), (1, .int sg)]) hx hb dX10_works_353 hl (by decide) rfl (fun ls hl => ?_)
                        refine lv_goto (tgt := 407) hx hb dX10_works_355 (by decide) ?_
                        refine lv_aload_n hx hb dX10_works_407 rfl (lv_at hl 3 rfl) ?_
                        refine ti_get (ci := 10) (k := 32) (N := 67) (T := TX10) (v := .ref (A 60 33)) C hw iw_10 rfl ob_60 (by decide) (by decide) fl_X10_66 rfl rfl dX10_works_408 ?_
                        refine lv_aload_n hx hb dX10_works_411 rfl (lv_at hl 3 rfl) ?_
                        refine ti_get (ci := 10) (k := 33) (N := 67) (T := TX10) C hw iw_10 rfl ob_60 (by decide) (by decide) fl_X10_320 rfl rfl dX10_works_412 ?_
                        refine ti_top (y := x_20) (tI_uE hM_21) ?_
                        have u_191 : (tI M_21 60 33).toInt = (x_20 : Int32).toInt := by rw [(tI_uE hM_21)]
                        refine lv_iconst (v := 1) hx hb dX10_works_415 (by decide) ?_
                        refine lv_isub hx hb dX10_works_416 ?_
                        refine lv_topi (fun x_192 ex_192 => ?_)
                        have tx_192 : x_192.toInt = x_20.toInt - 1 := i_sub ex_192 rfl (by decide : (1 : Int32).toInt = 1) (by omega) (by omega)
                        refine lv_lload hx hb dX10_works_417 (lv_at hl 0 rfl) ?_
                        refine ti_last (ci := 10) (k := 32) (n := 64) C hw ob_60 (by decide) (fun _ _ => rfl) (vp_in_iff.mpr (by omega)) dX10_works_419 (fun H locs hw => ?_)
                        obtain ⟨M_193, hM_193⟩ : ∃ z : ti_M, z = uZ M_21 60 32 (vp_updL (tZ M_21 60 32) (x_192 : Int32).toNatClampNeg r_73) := ⟨_, rfl⟩
                        have hw := hw.to hM_193.symm
                        have iM_193 : mI Tm M_193 := mI_uZ iM_21 hM_193
                        refine lv_lload hx hb dX10_works_420 (lv_at hl 0 rfl) ?_
                        refine lv_ldc2 (v := 1000000000000) hx hb C.2.2.2.1 (C.2.2.1 _ cn_X10_333) dX10_works_422 ?_
                        have z_194 : (1000000000000 : Int64).toInt = 1000000000000 := by decide
                        refine W.lcmp hx hb dX10_works_425 ?_
                        refine lv_topi (fun x_195 ex_195 => ?_)
                        have cx_195 := lg_c ex_195
                        refine sb_if_gt (tgt := 442) hx hb rfl dX10_works_426 (by decide) (fun c_426_195 => ?_) (fun c_426_195 => ?_)
                        · refine lv_iconst (v := 0) hx hb dX10_works_442 (by decide) ?_
                          exact hQ _ _ _ _ _ _ hw rfl (by exfalso; omega) dX10_works_443
                        · refine lv_lload hx hb dX10_works_429 (lv_at hl 0 rfl) ?_
                          refine lv_ldc2 (v := (-1000000000000)) hx hb C.2.2.2.1 (C.2.2.1 _ cn_X10_335) dX10_works_431 ?_
                          have z_284 : ((-1000000000000) : Int64).toInt = -1000000000000 := by decide
                          refine W.lcmp hx hb dX10_works_434 ?_
                          refine lv_topi (fun x_285 ex_285 => ?_)
                          have cx_285 := lg_c ex_285
                          refine sb_if_lt (tgt := 442) hx hb rfl dX10_works_435 (by decide) (fun c_435_285 => ?_) (fun c_435_285 => ?_)
                          · refine lv_iconst (v := 0) hx hb dX10_works_442 (by decide) ?_
                            exact hQ _ _ _ _ _ _ hw rfl (by exfalso; omega) dX10_works_443
                          · refine lv_iconst (v := 1) hx hb dX10_works_438 (by decide) ?_
                            refine lv_goto (tgt := 443) hx hb dX10_works_439 (by decide) ?_
                            have hsc : bq_sc sg.toInt = 35 := by unfold bq_sc; (repeat (first | rw [if_pos (by omega)] | rw [if_neg (by omega)]))
                            have er : bl_ER = -9223372036854775808 := rfl
                            have hbw : bl_w (bq_sc sg.toInt) (st (d.toInt.toNat - 2)) (st (d.toInt.toNat - 1)) = r_73.toInt := by rw [hsc, sy1, sy2]; unfold bl_w; (repeat (first | rw [if_pos (by omega)] | rw [if_neg (by omega)])); (try unfold bl_if); (repeat (first | rw [if_pos (by omega)] | rw [if_neg (by omega)])); first | omega | (rw [tr_73])
                            have hzN : rz (pp_su st (d.toInt.toNat - 2) (bl_w (bq_sc sg.toInt) (st (d.toInt.toNat - 2)) (st (d.toInt.toNat - 1)))) (d.toInt - 1) M_193 := by
                              have q := rz_up (t2 := d.toInt - 1) hz_22 hM_193 rfl (by omega) (z := bl_w (bq_sc sg.toInt) (st (d.toInt.toNat - 2)) (st (d.toInt.toNat - 1))) hbw.symm (by rw [hbw]; omega) (fun j hj => by omega)
                              rw [show x_192.toInt.toNat = d.toInt.toNat - 2 by omega] at q; exact q
                            exact hQ _ _ _ _ _ _ hw rfl (⟨(fI.trans (fI_Z hM_193) (fI_I hM_21)), (((tZ_nE hM_193 (nk (by decide))).trans (tZ_uIE hM_21))), Or.inr (Or.inl ⟨by decide, by omega, by rw [hbw]; omega, hzN⟩), iM_193, (qw.trans (qw_Z hM_193) (qw_I hM_21 (by decide))), ((ry_Z hM_193).trans (ry_I hM_21)), (by first | omega | decide), (by first | omega | decide), by rw [((tI_uZE hM_193).trans (tI_uE hM_21))]; omega⟩) dX10_works_443
                    · have qs_23_257 : sg.toInt ≠ 257 := pt_ne s_23_257 (by decide)
                      by_cases s_23_258 : sg = 258
                      · have qs_23_258 : sg.toInt = 258 := by rw [s_23_258]; decide
                        refine lv_lookup (tgt := 318) hx hb dX10_works_70 (by decide) (off := 248) (by rw [s_23_258]; decide) (by decide) ?_
                        refine lv_lload hx hb dX10_works_318 (lv_at hl 0 rfl) ?_
                        refine lv_lload_n hx hb dX10_works_320 rfl (lv_at hl 1 rfl) ?_
                        refine W.lcmp hx hb dX10_works_321 ?_
                        refine lv_topi (fun x_65 ex_65 => ?_)
                        have cx_65 := lg_c ex_65
                        refine sb_if_lt (tgt := 329) hx hb rfl dX10_works_322 (by decide) (fun c_322_65 => ?_) (fun c_322_65 => ?_)
                        · refine lv_iconst (v := 0) hx hb dX10_works_329 (by decide) ?_
                          refine ti_callSl (av := [.int 0]) C hw (z_X10_is l D A cy hJ M_21 iM_21 0) ⟨ml_X10_323, ys_X10_is, yi_X10_is, yc_X10_is⟩ yd_X10_is rfl hl.1 (Nat.le_of_ble_eq_true rfl) ⟨by decide, by decide⟩ ⟨Nat.zero_le _, Nat.zero_le _⟩ dX10_works_330 (fun r_69 M_70 H locs hp_70 hw => ?_)
                          obtain ⟨hm, pr_69⟩ := hp_70
                          have hw := hw.to hm
                          simp only [show (0 : Int32).toInt = 0 by decide] at pr_69
                          have tr_69 : r_69.toInt = 0 := by omega
                          refine lv_lstore (lv' := [(6, .long r_69), (4, .long x_18), (2, .long x_3), (0, .ref (A 60 0)), (1, .int sg)]) hx hb dX10_works_333 hl (by decide) rfl (fun ls hl => ?_)
                          refine lv_goto (tgt := 407) hx hb dX10_works_335 (by decide) ?_
                          refine lv_aload_n hx hb dX10_works_407 rfl (lv_at hl 3 rfl) ?_
                          refine ti_get (ci := 10) (k := 32) (N := 67) (T := TX10) (v := .ref (A 60 33)) C hw iw_10 rfl ob_60 (by decide) (by decide) fl_X10_66 rfl rfl dX10_works_408 ?_
                          refine lv_aload_n hx hb dX10_works_411 rfl (lv_at hl 3 rfl) ?_
                          refine ti_get (ci := 10) (k := 33) (N := 67) (T := TX10) C hw iw_10 rfl ob_60 (by decide) (by decide) fl_X10_320 rfl rfl dX10_works_412 ?_
                          refine ti_top (y := x_20) (tI_uE hM_21) ?_
                          have u_185 : (tI M_21 60 33).toInt = (x_20 : Int32).toInt := by rw [(tI_uE hM_21)]
                          refine lv_iconst (v := 1) hx hb dX10_works_415 (by decide) ?_
                          refine lv_isub hx hb dX10_works_416 ?_
                          refine lv_topi (fun x_186 ex_186 => ?_)
                          have tx_186 : x_186.toInt = x_20.toInt - 1 := i_sub ex_186 rfl (by decide : (1 : Int32).toInt = 1) (by omega) (by omega)
                          refine lv_lload hx hb dX10_works_417 (lv_at hl 0 rfl) ?_
                          refine ti_last (ci := 10) (k := 32) (n := 64) C hw ob_60 (by decide) (fun _ _ => rfl) (vp_in_iff.mpr (by omega)) dX10_works_419 (fun H locs hw => ?_)
                          obtain ⟨M_187, hM_187⟩ : ∃ z : ti_M, z = uZ M_21 60 32 (vp_updL (tZ M_21 60 32) (x_186 : Int32).toNatClampNeg r_69) := ⟨_, rfl⟩
                          have hw := hw.to hM_187.symm
                          have iM_187 : mI Tm M_187 := mI_uZ iM_21 hM_187
                          refine lv_lload hx hb dX10_works_420 (lv_at hl 0 rfl) ?_
                          refine lv_ldc2 (v := 1000000000000) hx hb C.2.2.2.1 (C.2.2.1 _ cn_X10_333) dX10_works_422 ?_
                          have z_188 : (1000000000000 : Int64).toInt = 1000000000000 := by decide
                          refine W.lcmp hx hb dX10_works_425 ?_
                          refine lv_topi (fun x_189 ex_189 => ?_)
                          have cx_189 := lg_c ex_189
                          refine sb_if_gt (tgt := 442) hx hb rfl dX10_works_426 (by decide) (fun c_426_189 => ?_) (fun c_426_189 => ?_)
                          · refine lv_iconst (v := 0) hx hb dX10_works_442 (by decide) ?_
                            exact hQ _ _ _ _ _ _ hw rfl (by exfalso; omega) dX10_works_443
                          · refine lv_lload hx hb dX10_works_429 (lv_at hl 0 rfl) ?_
                            refine lv_ldc2 (v := (-1000000000000)) hx hb C.2.2.2.1 (C.2.2.1 _ cn_X10_335) dX10_works_431 ?_
                            have z_281 : ((-1000000000000) : Int64).toInt = -1000000000000 := by decide
                            refine W.lcmp hx hb dX10_works_434 ?_
                            refine lv_topi (fun x_282 ex_282 => ?_)
                            have cx_282 := lg_c ex_282
                            refine sb_if_lt (tgt := 442) hx hb rfl dX10_works_435 (by decide) (fun c_435_282 => ?_) (fun c_435_282 => ?_)
                            · refine lv_iconst (v := 0) hx hb dX10_works_442 (by decide) ?_
                              exact hQ _ _ _ _ _ _ hw rfl (by exfalso; omega) dX10_works_443
                            · refine lv_iconst (v := 1) hx hb dX10_works_438 (by decide) ?_
                              refine lv_goto (tgt := 443) hx hb dX10_works_439 (by decide) ?_
                              have hsc : bq_sc sg.toInt = 36 := by unfold bq_sc; (repeat (first | rw [if_pos (by omega)] | rw [if_neg (by omega)]))
                              have er : bl_ER = -9223372036854775808 := rfl
                              have hbw : bl_w (bq_sc sg.toInt) (st (d.toInt.toNat - 2)) (st (d.toInt.toNat - 1)) = r_69.toInt := by rw [hsc, sy1, sy2]; unfold bl_w; (repeat (first | rw [if_pos (by omega)] | rw [if_neg (by omega)])); (try unfold bl_if); (repeat (first | rw [if_pos (by omega)] | rw [if_neg (by omega)])); first | omega | (rw [tr_69])
                              have hzN : rz (pp_su st (d.toInt.toNat - 2) (bl_w (bq_sc sg.toInt) (st (d.toInt.toNat - 2)) (st (d.toInt.toNat - 1)))) (d.toInt - 1) M_187 := by
                                have q := rz_up (t2 := d.toInt - 1) hz_22 hM_187 rfl (by omega) (z := bl_w (bq_sc sg.toInt) (st (d.toInt.toNat - 2)) (st (d.toInt.toNat - 1))) hbw.symm (by rw [hbw]; omega) (fun j hj => by omega)
                                rw [show x_186.toInt.toNat = d.toInt.toNat - 2 by omega] at q; exact q
                              exact hQ _ _ _ _ _ _ hw rfl (⟨(fI.trans (fI_Z hM_187) (fI_I hM_21)), (((tZ_nE hM_187 (nk (by decide))).trans (tZ_uIE hM_21))), Or.inr (Or.inl ⟨by decide, by omega, by rw [hbw]; omega, hzN⟩), iM_187, (qw.trans (qw_Z hM_187) (qw_I hM_21 (by decide))), ((ry_Z hM_187).trans (ry_I hM_21)), (by first | omega | decide), (by first | omega | decide), by rw [((tI_uZE hM_187).trans (tI_uE hM_21))]; omega⟩) dX10_works_443
                        · refine lv_iconst (v := 1) hx hb dX10_works_325 (by decide) ?_
                          refine lv_goto (tgt := 330) hx hb dX10_works_326 (by decide) ?_
                          refine ti_callSl (av := [.int 1]) C hw (z_X10_is l D A cy hJ M_21 iM_21 1) ⟨ml_X10_323, ys_X10_is, yi_X10_is, yc_X10_is⟩ yd_X10_is rfl hl.1 (Nat.le_of_ble_eq_true rfl) ⟨by decide, by decide⟩ ⟨Nat.zero_le _, Nat.zero_le _⟩ dX10_works_330 (fun r_67 M_68 H locs hp_68 hw => ?_)
                          obtain ⟨hm, pr_67⟩ := hp_68
                          have hw := hw.to hm
                          simp only [show (1 : Int32).toInt = 1 by decide] at pr_67
                          have tr_67 : r_67.toInt = 1 := by omega
                          refine lv_lstore (lv' := [(6, .long r_67), (4, .long x_18), (2, .long x_3), (0, .ref (A 60 0)), (1, .int sg)]) hx hb dX10_works_333 hl (by decide) rfl (fun ls hl => ?_)
                          refine lv_goto (tgt := 407) hx hb dX10_works_335 (by decide) ?_
                          refine lv_aload_n hx hb dX10_works_407 rfl (lv_at hl 3 rfl) ?_
                          refine ti_get (ci := 10) (k := 32) (N := 67) (T := TX10) (v := .ref (A 60 33)) C hw iw_10 rfl ob_60 (by decide) (by decide) fl_X10_66 rfl rfl dX10_works_408 ?_
                          refine lv_aload_n hx hb dX10_works_411 rfl (lv_at hl 3 rfl) ?_
                          refine ti_get (ci := 10) (k := 33) (N := 67) (T := TX10) C hw iw_10 rfl ob_60 (by decide) (by decide) fl_X10_320 rfl rfl dX10_works_412 ?_
                          refine ti_top (y := x_20) (tI_uE hM_21) ?_
                          have u_179 : (tI M_21 60 33).toInt = (x_20 : Int32).toInt := by rw [(tI_uE hM_21)]
                          refine lv_iconst (v := 1) hx hb dX10_works_415 (by decide) ?_
                          refine lv_isub hx hb dX10_works_416 ?_
                          refine lv_topi (fun x_180 ex_180 => ?_)
                          have tx_180 : x_180.toInt = x_20.toInt - 1 := i_sub ex_180 rfl (by decide : (1 : Int32).toInt = 1) (by omega) (by omega)
                          refine lv_lload hx hb dX10_works_417 (lv_at hl 0 rfl) ?_
                          refine ti_last (ci := 10) (k := 32) (n := 64) C hw ob_60 (by decide) (fun _ _ => rfl) (vp_in_iff.mpr (by omega)) dX10_works_419 (fun H locs hw => ?_)
                          obtain ⟨M_181, hM_181⟩ : ∃ z : ti_M, z = uZ M_21 60 32 (vp_updL (tZ M_21 60 32) (x_180 : Int32).toNatClampNeg r_67) := ⟨_, rfl⟩
                          have hw := hw.to hM_181.symm
                          have iM_181 : mI Tm M_181 := mI_uZ iM_21 hM_181
                          refine lv_lload hx hb dX10_works_420 (lv_at hl 0 rfl) ?_
                          refine lv_ldc2 (v := 1000000000000) hx hb C.2.2.2.1 (C.2.2.1 _ cn_X10_333) dX10_works_422 ?_
                          have z_182 : (1000000000000 : Int64).toInt = 1000000000000 := by decide
                          refine W.lcmp hx hb dX10_works_425 ?_
                          refine lv_topi (fun x_183 ex_183 => ?_)
                          have cx_183 := lg_c ex_183
                          refine sb_if_gt (tgt := 442) hx hb rfl dX10_works_426 (by decide) (fun c_426_183 => ?_) (fun c_426_183 => ?_)
                          · refine lv_iconst (v := 0) hx hb dX10_works_442 (by decide) ?_
                            exact hQ _ _ _ _ _ _ hw rfl (by exfalso; omega) dX10_works_443
                          · refine lv_lload hx hb dX10_works_429 (lv_at hl 0 rfl) ?_
                            refine lv_ldc2 (v := (-1000000000000)) hx hb C.2.2.2.1 (C.2.2.1 _ cn_X10_335) dX10_works_431 ?_
                            have z_278 : ((-1000000000000) : Int64).toInt = -1000000000000 := by decide
                            refine W.lcmp hx hb dX10_works_434 ?_
                            refine lv_topi (fun x_279 ex_279 => ?_)
                            have cx_279 := lg_c ex_279
                            refine sb_if_lt (tgt := 442) hx hb rfl dX10_works_435 (by decide) (fun c_435_279 => ?_) (fun c_435_279 => ?_)
                            · refine lv_iconst (v := 0) hx hb dX10_works_442 (by decide) ?_
                              exact hQ _ _ _ _ _ _ hw rfl (by exfalso; omega) dX10_works_443
                            · refine lv_iconst (v := 1) hx hb dX10_works_438 (by decide) ?_
                              refine lv_goto (tgt := 443) hx hb dX10_works_439 (by decide) ?_
                              have hsc : bq_sc sg.toInt = 36 := by unfold bq_sc; (repeat (first | rw [if_pos (by omega)] | rw [if_neg (by omega)]))
                              have er : bl_ER = -9223372036854775808 := rfl
                              have hbw : bl_w (bq_sc sg.toInt) (st (d.toInt.toNat - 2)) (st (d.toInt.toNat - 1)) = r_67.toInt := by rw [hsc, sy1, sy2]; unfold bl_w; (repeat (first | rw [if_pos (by omega)] | rw [if_neg (by omega)])); (try unfold bl_if); (repeat (first | rw [if_pos (by omega)] | rw [if_neg (by omega)])); first | omega | (rw [tr_67])
                              have hzN : rz (pp_su st (d.toInt.toNat - 2) (bl_w (bq_sc sg.toInt) (st (d.toInt.toNat - 2)) (st (d.toInt.toNat - 1)))) (d.toInt - 1) M_181 := by
                                have q := rz_up (t2 := d.toInt - 1) hz_22 hM_181 rfl (by omega) (z := bl_w (bq_sc sg.toInt) (st (d.toInt.toNat - 2)) (st (d.toInt.toNat - 1))) hbw.symm (by rw [hbw]; omega) (fun j hj => by omega)
                                rw [show x_180.toInt.toNat = d.toInt.toNat - 2 by omega] at q; exact q
                              exact hQ _ _ _ _ _ _ hw rfl (⟨(fI.trans (fI_Z hM_181) (fI_I hM_21)), (((tZ_nE hM_181 (nk (by decide))).trans (tZ_uIE hM_21))), Or.inr (Or.inl ⟨by decide, by omega, by rw [hbw]; omega, hzN⟩), iM_181, (qw.trans (qw_Z hM_181) (qw_I hM_21 (by decide))), ((ry_Z hM_181).trans (ry_I hM_21)), (by first | omega | decide), (by first | omega | decide), by rw [((tI_uZE hM_181).trans (tI_uE hM_21))]; omega⟩) dX10_works_443
                      · have qs_23_258 : sg.toInt ≠ 258 := pt_ne s_23_258 (by decide)
                        by_cases s_23_261 : sg = 261
                        · have qs_23_261 : sg.toInt = 261 := by rw [s_23_261]; decide
                          refine lv_lookup (tgt := 358) hx hb dX10_works_70 (by decide) (off := 288) (by rw [s_23_261]; decide) (by decide) ?_
                          refine lv_lload hx hb dX10_works_358 (lv_at hl 0 rfl) ?_
                          refine lv_lconst (v := 0) hx hb dX10_works_360 (by decide) ?_
                          have z_77 : (0 : Int64).toInt = 0 := by decide
                          refine W.lcmp hx hb dX10_works_361 ?_
                          refine lv_topi (fun x_78 ex_78 => ?_)
                          have cx_78 := lg_c ex_78
                          refine sb_if_eq (tgt := 375) hx hb rfl dX10_works_362 (by decide) (fun c_362_78 => ?_) (fun c_362_78 => ?_)
                          · refine lv_iconst (v := 0) hx hb dX10_works_375 (by decide) ?_
                            refine ti_callSl (av := [.int 0]) C hw (z_X10_is l D A cy hJ M_21 iM_21 0) ⟨ml_X10_323, ys_X10_is, yi_X10_is, yc_X10_is⟩ yd_X10_is rfl hl.1 (Nat.le_of_ble_eq_true rfl) ⟨by decide, by decide⟩ ⟨Nat.zero_le _, Nat.zero_le _⟩ dX10_works_376 (fun r_85 M_86 H locs hp_86 hw => ?_)
                            obtain ⟨hm, pr_85⟩ := hp_86
                            have hw := hw.to hm
                            simp only [show (0 : Int32).toInt = 0 by decide] at pr_85
                            have tr_85 : r_85.toInt = 0 := by omega
                            refine lv_lstore (lv' := [(6, .long r_85), (4, .long x_18), (2, .long x_3), (0, .ref (A 60 0)), (1, .int sg)]) hx hb dX10_works_379 hl (by decide) rfl (fun ls hl => ?_)
                            refine lv_goto (tgt := 407) hx hb dX10_works_381 (by decide) ?_
                            refine lv_aload_n hx hb dX10_works_407 rfl (lv_at hl 3 rfl) ?_
                            refine ti_get (ci := 10) (k := 32) (N := 67) (T := TX10) (v := .ref (A 60 33)) C hw iw_10 rfl ob_60 (by decide) (by decide) fl_X10_66 rfl rfl dX10_works_408 ?_
                            refine lv_aload_n hx hb dX10_works_411 rfl (lv_at hl 3 rfl) ?_
                            refine ti_get (ci := 10) (k := 33) (N := 67) (T := TX10) C hw iw_10 rfl ob_60 (by decide) (by decide) fl_X10_320 rfl rfl dX10_works_412 ?_
                            refine ti_top (y := x_20) (tI_uE hM_21) ?_
                            have u_209 : (tI M_21 60 33).toInt = (x_20 : Int32).toInt := by rw [(tI_uE hM_21)]
                            refine lv_iconst (v := 1) hx hb dX10_works_415 (by decide) ?_
                            refine lv_isub hx hb dX10_works_416 ?_
                            refine lv_topi (fun x_210 ex_210 => ?_)
                            have tx_210 : x_210.toInt = x_20.toInt - 1 := i_sub ex_210 rfl (by decide : (1 : Int32).toInt = 1) (by omega) (by omega)
                            refine lv_lload hx hb dX10_works_417 (lv_at hl 0 rfl) ?_
                            refine ti_last (ci := 10) (k := 32) (n := 64) C hw ob_60 (by decide) (fun _ _ => rfl) (vp_in_iff.mpr (by omega)) dX10_works_419 (fun H locs hw => ?_)
                            obtain ⟨M_211, hM_211⟩ : ∃ z : ti_M, z = uZ M_21 60 32 (vp_updL (tZ M_21 60 32) (x_210 : Int32).toNatClampNeg r_85) := ⟨_, rfl⟩
                            have hw := hw.to hM_211.symm
                            have iM_211 : mI Tm M_211 := mI_uZ iM_21 hM_211
                            refine lv_lload hx hb dX10_works_420 (lv_at hl 0 rfl) ?_
                            refine lv_ldc2 (v := 1000000000000) hx hb C.2.2.2.1 (C.2.2.1 _ cn_X10_333) dX10_works_422 ?_
                            have z_212 : (1000000000000 : Int64).toInt = 1000000000000 := by decide
                            refine W.lcmp hx hb dX10_works_425 ?_
                            refine lv_topi (fun x_213 ex_213 => ?_)
                            have cx_213 := lg_c ex_213
                            refine sb_if_gt (tgt := 442) hx hb rfl dX10_works_426 (by decide) (fun c_426_213 => ?_) (fun c_426_213 => ?_)
                            · refine lv_iconst (v := 0) hx hb dX10_works_442 (by decide) ?_
                              exact hQ _ _ _ _ _ _ hw rfl (by exfalso; omega) dX10_works_443
                            · refine lv_lload hx hb dX10_works_429 (lv_at hl 0 rfl) ?_
                              refine lv_ldc2 (v := (-1000000000000)) hx hb C.2.2.2.1 (C.2.2.1 _ cn_X10_335) dX10_works_431 ?_
                              have z_293 : ((-1000000000000) : Int64).toInt = -1000000000000 := by decide
                              refine W.lcmp hx hb dX10_works_434 ?_
                              refine lv_topi (fun x_294 ex_294 => ?_)
                              have cx_294 := lg_c ex_294
                              refine sb_if_lt (tgt := 442) hx hb rfl dX10_works_435 (by decide) (fun c_435_294 => ?_) (fun c_435_294 => ?_)
                              · refine lv_iconst (v := 0) hx hb dX10_works_442 (by decide) ?_
                                exact hQ _ _ _ _ _ _ hw rfl (by exfalso; omega) dX10_works_443
                              · refine lv_iconst (v := 1) hx hb dX10_works_438 (by decide) ?_
                                refine lv_goto (tgt := 443) hx hb dX10_works_439 (by decide) ?_
                                have hsc : bq_sc sg.toInt = 22 := by unfold bq_sc; (repeat (first | rw [if_pos (by omega)] | rw [if_neg (by omega)]))
                                have er : bl_ER = -9223372036854775808 := rfl
                                have hbw : bl_w (bq_sc sg.toInt) (st (d.toInt.toNat - 2)) (st (d.toInt.toNat - 1)) = r_85.toInt := by rw [hsc, sy1, sy2]; unfold bl_w; (repeat (first | rw [if_pos (by omega)] | rw [if_neg (by omega)])); (try unfold bl_if); (repeat (first | rw [if_pos (by omega)] | rw [if_neg (by omega)])); first | omega | (rw [tr_85])
                                have hzN : rz (pp_su st (d.toInt.toNat - 2) (bl_w (bq_sc sg.toInt) (st (d.toInt.toNat - 2)) (st (d.toInt.toNat - 1)))) (d.toInt - 1) M_211 := by
                                  have q := rz_up (t2 := d.toInt - 1) hz_22 hM_211 rfl (by omega) (z := bl_w (bq_sc sg.toInt) (st (d.toInt.toNat - 2)) (st (d.toInt.toNat - 1))) hbw.symm (by rw [hbw]; omega) (fun j hj => by omega)
                                  rw [show x_210.toInt.toNat = d.toInt.toNat - 2 by omega] at q; exact q
                                exact hQ _ _ _ _ _ _ hw rfl (⟨(fI.trans (fI_Z hM_211) (fI_I hM_21)), (((tZ_nE hM_211 (nk (by decide))).trans (tZ_uIE hM_21))), Or.inr (Or.inl ⟨by decide, by omega, by rw [hbw]; omega, hzN⟩), iM_211, (qw.trans (qw_Z hM_211) (qw_I hM_21 (by decide))), ((ry_Z hM_211).trans (ry_I hM_21)), (by first | omega | decide), (by first | omega | decide), by rw [((tI_uZE hM_211).trans (tI_uE hM_21))]; omega⟩) dX10_works_443
                          · refine lv_lload_n hx hb dX10_works_365 rfl (lv_at hl 1 rfl) ?_
                            refine lv_lconst (v := 0) hx hb dX10_works_366 (by decide) ?_
                            have z_80 : (0 : Int64).toInt = 0 := by decide
                            refine W.lcmp hx hb dX10_works_367 ?_
                            refine lv_topi (fun x_81 ex_81 => ?_)
                            have cx_81 := lg_c ex_81
                            refine sb_if_eq (tgt := 375) hx hb rfl dX10_works_368 (by decide) (fun c_368_81 => ?_) (fun c_368_81 => ?_)
                            · refine lv_iconst (v := 0) hx hb dX10_works_375 (by decide) ?_
                              refine ti_callSl (av := [.int 0]) C hw (z_X10_is l D A cy hJ M_21 iM_21 0) ⟨ml_X10_323, ys_X10_is, yi_X10_is, yc_X10_is⟩ yd_X10_is rfl hl.1 (Nat.le_of_ble_eq_true rfl) ⟨by decide, by decide⟩ ⟨Nat.zero_le _, Nat.zero_le _⟩ dX10_works_376 (fun r_87 M_88 H locs hp_88 hw => ?_)
                              obtain ⟨hm, pr_87⟩ := hp_88
                              have hw := hw.to hm
                              simp only [show (0 : Int32).toInt = 0 by decide] at pr_87
                              have tr_87 : r_87.toInt = 0 := by omega
                              refine lv_lstore (lv' := [(6, .long r_87), (4, .long x_18), (2, .long x_3), (0, .ref (A 60 0)), (1, .int sg)]) hx hb dX10_works_379 hl (by decide) rfl (fun ls hl => ?_)
                              refine lv_goto (tgt := 407) hx hb dX10_works_381 (by decide) ?_
                              refine lv_aload_n hx hb dX10_works_407 rfl (lv_at hl 3 rfl) ?_
                              refine ti_get (ci := 10) (k := 32) (N := 67) (T := TX10) (v := .ref (A 60 33)) C hw iw_10 rfl ob_60 (by decide) (by decide) fl_X10_66 rfl rfl dX10_works_408 ?_
                              refine lv_aload_n hx hb dX10_works_411 rfl (lv_at hl 3 rfl) ?_
                              refine ti_get (ci := 10) (k := 33) (N := 67) (T := TX10) C hw iw_10 rfl ob_60 (by decide) (by decide) fl_X10_320 rfl rfl dX10_works_412 ?_
                              refine ti_top (y := x_20) (tI_uE hM_21) ?_
                              have u_215 : (tI M_21 60 33).toInt = (x_20 : Int32).toInt := by rw [(tI_uE hM_21)]
                              refine lv_iconst (v := 1) hx hb dX10_works_415 (by decide) ?_
                              refine lv_isub hx hb dX10_works_416 ?_
                              refine lv_topi (fun x_216 ex_216 => ?_)
                              have tx_216 : x_216.toInt = x_20.toInt - 1 := i_sub ex_216 rfl (by decide : (1 : Int32).toInt = 1) (by omega) (by omega)
                              refine lv_lload hx hb dX10_works_417 (lv_at hl 0 rfl) ?_
                              refine ti_last (ci := 10) (k := 32) (n := 64) C hw ob_60 (by decide) (fun _ _ => rfl) (vp_in_iff.mpr (by omega)) dX10_works_419 (fun H locs hw => ?_)
                              obtain ⟨M_217, hM_217⟩ : ∃ z : ti_M, z = uZ M_21 60 32 (vp_updL (tZ M_21 60 32) (x_216 : Int32).toNatClampNeg r_87) := ⟨_, rfl⟩
                              have hw := hw.to hM_217.symm
                              have iM_217 : mI Tm M_217 := mI_uZ iM_21 hM_217
                              refine lv_lload hx hb dX10_works_420 (lv_at hl 0 rfl) ?_
                              refine lv_ldc2 (v := 1000000000000) hx hb C.2.2.2.1 (C.2.2.1 _ cn_X10_333) dX10_works_422 ?_
                              have z_218 : (1000000000000 : Int64).toInt = 1000000000000 := by decide
                              refine W.lcmp hx hb dX10_works_425 ?_
                              refine lv_topi (fun x_219 ex_219 => ?_)
                              have cx_219 := lg_c ex_219
                              refine sb_if_gt (tgt := 442) hx hb rfl dX10_works_426 (by decide) (fun c_426_219 => ?_) (fun c_426_219 => ?_)
                              · refine lv_iconst (v := 0) hx hb dX10_works_442 (by decide) ?_
                                exact hQ _ _ _ _ _ _ hw rfl (by exfalso; omega) dX10_works_443
                              · refine lv_lload hx hb dX10_works_429 (lv_at hl 0 rfl) ?_
                                refine lv_ldc2 (v := (-1000000000000)) hx hb C.2.2.2.1 (C.2.2.1 _ cn_X10_335) dX10_works_431 ?_
                                have z_296 : ((-1000000000000) : Int64).toInt = -1000000000000 := by decide
                                refine W.lcmp hx hb dX10_works_434 ?_
                                refine lv_topi (fun x_297 ex_297 => ?_)
                                have cx_297 := lg_c ex_297
                                refine sb_if_lt (tgt := 442) hx hb rfl dX10_works_435 (by decide) (fun c_435_297 => ?_) (fun c_435_297 => ?_)
                                · refine lv_iconst (v := 0) hx hb dX10_works_442 (by decide) ?_
                                  exact hQ _ _ _ _ _ _ hw rfl (by exfalso; omega) dX10_works_443
                                · refine lv_iconst (v := 1) hx hb dX10_works_438 (by decide) ?_
                                  refine lv_goto (tgt := 443) hx hb dX10_works_439 (by decide) ?_
                                  have hsc : bq_sc sg.toInt = 22 := by unfold bq_sc; (repeat (first | rw [if_pos (by omega)] | rw [if_neg (by omega)]))
                                  have er : bl_ER = -9223372036854775808 := rfl
                                  have hbw : bl_w (bq_sc sg.toInt) (st (d.toInt.toNat - 2)) (st (d.toInt.toNat - 1)) = r_87.toInt := by rw [hsc, sy1, sy2]; unfold bl_w; (repeat (first | rw [if_pos (by omega)] | rw [if_neg (by omega)])); (try unfold bl_if); (repeat (first | rw [if_pos (by omega)] | rw [if_neg (by omega)])); first | omega | (rw [tr_87])
                                  have hzN : rz (pp_su st (d.toInt.toNat - 2) (bl_w (bq_sc sg.toInt) (st (d.toInt.toNat - 2)) (st (d.toInt.toNat - 1)))) (d.toInt - 1) M_217 := by
                                    have q := rz_up (t2 := d.toInt - 1) hz_22 hM_217 rfl (by omega) (z := bl_w (bq_sc sg.toInt) (st (d.toInt.toNat - 2)) (st (d.toInt.toNat - 1))) hbw.symm (by rw [hbw]; omega) (fun j hj => by omega)
                                    rw [show x_216.toInt.toNat = d.toInt.toNat - 2 by omega] at q; exact q
                                  exact hQ _ _ _ _ _ _ hw rfl (⟨(fI.trans (fI_Z hM_217) (fI_I hM_21)), (((tZ_nE hM_217 (nk (by decide))).trans (tZ_uIE hM_21))), Or.inr (Or.inl ⟨by decide, by omega, by rw [hbw]; omega, hzN⟩), iM_217, (qw.trans (qw_Z hM_217) (qw_I hM_21 (by decide))), ((ry_Z hM_217).trans (ry_I hM_21)), (by first | omega | decide), (by first | omega | decide), by rw [((tI_uZE hM_217).trans (tI_uE hM_21))]; omega⟩) dX10_works_443
                            · refine lv_iconst (v := 1) hx hb dX10_works_371 (by decide) ?_
                              refine lv_goto (tgt := 376) hx hb dX10_works_372 (by decide) ?_
                              refine ti_callSl (av := [.int 1]) C hw (z_X10_is l D A cy hJ M_21 iM_21 1) ⟨ml_X10_323, ys_X10_is, yi_X10_is, yc_X10_is⟩ yd_X10_is rfl hl.1 (Nat.le_of_ble_eq_true rfl) ⟨by decide, by decide⟩ ⟨Nat.zero_le _, Nat.zero_le _⟩ dX10_works_376 (fun r_83 M_84 H locs hp_84 hw => ?_)
                              obtain ⟨hm, pr_83⟩ := hp_84
                              have hw := hw.to hm
                              simp only [show (1 : Int32).toInt = 1 by decide] at pr_83
                              have tr_83 : r_83.toInt = 1 := by omega
                              refine lv_lstore (lv' := [(6, .long r_83), (4, .long x_18), (2, .long x_3), (0, .ref (A 60 0)), (1, .int sg)]) hx hb dX10_works_379 hl (by decide) rfl (fun ls hl => ?_)
                              refine lv_goto (tgt := 407) hx hb dX10_works_381 (by decide) ?_
                              refine lv_aload_n hx hb dX10_works_407 rfl (lv_at hl 3 rfl) ?_
                              refine ti_get (ci := 10) (k := 32) (N := 67) (T := TX10) (v := .ref (A 60 33)) C hw iw_10 rfl ob_60 (by decide) (by decide) fl_X10_66 rfl rfl dX10_works_408 ?_
                              refine lv_aload_n hx hb dX10_works_411 rfl (lv_at hl 3 rfl) ?_
                              refine ti_get (ci := 10) (k := 33) (N := 67) (T := TX10) C hw iw_10 rfl ob_60 (by decide) (by decide) fl_X10_320 rfl rfl dX10_works_412 ?_
                              refine ti_top (y := x_20) (tI_uE hM_21) ?_
                              have u_203 : (tI M_21 60 33).toInt = (x_20 : Int32).toInt := by rw [(tI_uE hM_21)]
                              refine lv_iconst (v := 1) hx hb dX10_works_415 (by decide) ?_
                              refine lv_isub hx hb dX10_works_416 ?_
                              refine lv_topi (fun x_204 ex_204 => ?_)
                              have tx_204 : x_204.toInt = x_20.toInt - 1 := i_sub ex_204 rfl (by decide : (1 : Int32).toInt = 1) (by omega) (by omega)
                              refine lv_lload hx hb dX10_works_417 (lv_at hl 0 rfl) ?_
                              refine ti_last (ci := 10) (k := 32) (n := 64) C hw ob_60 (by decide) (fun _ _ => rfl) (vp_in_iff.mpr (by omega)) dX10_works_419 (fun H locs hw => ?_)
                              obtain ⟨M_205, hM_205⟩ : ∃ z : ti_M, z = uZ M_21 60 32 (vp_updL (tZ M_21 60 32) (x_204 : Int32).toNatClampNeg r_83) := ⟨_, rfl⟩
                              have hw := hw.to hM_205.symm
                              have iM_205 : mI Tm M_205 := mI_uZ iM_21 hM_205
                              refine lv_lload hx hb dX10_works_420 (lv_at hl 0 rfl) ?_
                              refine lv_ldc2 (v := 1000000000000) hx hb C.2.2.2.1 (C.2.2.1 _ cn_X10_333) dX10_works_422 ?_
                              have z_206 : (1000000000000 : Int64).toInt = 1000000000000 := by decide
                              refine W.lcmp hx hb dX10_works_425 ?_
                              refine lv_topi (fun x_207 ex_207 => ?_)
                              have cx_207 := lg_c ex_207
                              refine sb_if_gt (tgt := 442) hx hb rfl dX10_works_426 (by decide) (fun c_426_207 => ?_) (fun c_426_207 => ?_)
                              · refine lv_iconst (v := 0) hx hb dX10_works_442 (by decide) ?_
                                exact hQ _ _ _ _ _ _ hw rfl (by exfalso; omega) dX10_works_443
                              · refine lv_lload hx hb dX10_works_429 (lv_at hl 0 rfl) ?_
                                refine lv_ldc2 (v := (-1000000000000)) hx hb C.2.2.2.1 (C.2.2.1 _ cn_X10_335) dX10_works_431 ?_
                                have z_290 : ((-1000000000000) : Int64).toInt = -1000000000000 := by decide
                                refine W.lcmp hx hb dX10_works_434 ?_
                                refine lv_topi (fun x_291 ex_291 => ?_)
                                have cx_291 := lg_c ex_291
                                refine sb_if_lt (tgt := 442) hx hb rfl dX10_works_435 (by decide) (fun c_435_291 => ?_) (fun c_435_291 => ?_)
                                · refine lv_iconst (v := 0) hx hb dX10_works_442 (by decide) ?_
                                  exact hQ _ _ _ _ _ _ hw rfl (by exfalso; omega) dX10_works_443
                                · refine lv_iconst (v := 1) hx hb dX10_works_438 (by decide) ?_
                                  refine lv_goto (tgt := 443) hx hb dX10_works_439 (by decide) ?_
                                  have hsc : bq_sc sg.toInt = 22 := by unfold bq_sc; (repeat (first | rw [if_pos (by omega)] | rw [if_neg (by omega)]))
                                  have er : bl_ER = -9223372036854775808 := rfl
                                  have hbw : bl_w (bq_sc sg.toInt) (st (d.toInt.toNat - 2)) (st (d.toInt.toNat - 1)) = r_83.toInt := by rw [hsc, sy1, sy2]; unfold bl_w; (repeat (first | rw [if_pos (by omega)] | rw [if_neg (by omega)])); (try unfold bl_if); (repeat (first | rw [if_pos (by omega)] | rw [if_neg (by omega)])); first | omega | (rw [tr_83])
                                  have hzN : rz (pp_su st (d.toInt.toNat - 2) (bl_w (bq_sc sg.toInt) (st (d.toInt.toNat - 2)) (st (d.toInt.toNat - 1)))) (d.toInt - 1) M_205 := by
                                    have q := rz_up (t2 := d.toInt - 1) hz_22 hM_205 rfl (by omega) (z := bl_w (bq_sc sg.toInt) (st (d.toInt.toNat - 2)) (st (d.toInt.toNat - 1))) hbw.symm (by rw [hbw]; omega) (fun j hj => by omega)
                                    rw [show x_204.toInt.toNat = d.toInt.toNat - 2 by omega] at q; exact q
                                  exact hQ _ _ _ _ _ _ hw rfl (⟨(fI.trans (fI_Z hM_205) (fI_I hM_21)), (((tZ_nE hM_205 (nk (by decide))).trans (tZ_uIE hM_21))), Or.inr (Or.inl ⟨by decide, by omega, by rw [hbw]; omega, hzN⟩), iM_205, (qw.trans (qw_Z hM_205) (qw_I hM_21 (by decide))), ((ry_Z hM_205).trans (ry_I hM_21)), (by first | omega | decide), (by first | omega | decide), by rw [((tI_uZE hM_205).trans (tI_uE hM_21))]; omega⟩) dX10_works_443
                        · have qs_23_261 : sg.toInt ≠ 261 := pt_ne s_23_261 (by decide)
                          refine lv_lookup (tgt := 384) hx hb dX10_works_70 (by decide) (off := 314) (ti_lk _ sg.toInt _ (by intro q hq; simp only [List.mem_cons, List.not_mem_nil, or_false] at hq; rcases hq with rfl | rfl | rfl | rfl | rfl | rfl | rfl | rfl | rfl | rfl | rfl <;> first | exact ti_nev 42 s_23_42 (by decide) | exact ti_nev 43 s_23_43 (by decide) | exact ti_nev 45 s_23_45 (by decide) | exact ti_nev 47 s_23_47 (by decide) | exact ti_nev 60 s_23_60 (by decide) | exact ti_nev 61 s_23_61 (by decide) | exact ti_nev 62 s_23_62 (by decide) | exact ti_nev 256 s_23_256 (by decide) | exact ti_nev 257 s_23_257 (by decide) | exact ti_nev 258 s_23_258 (by decide) | exact ti_nev 261 s_23_261 (by decide))) (by decide) ?_
                          refine lv_lload hx hb dX10_works_384 (lv_at hl 0 rfl) ?_
                          refine lv_lconst (v := 0) hx hb dX10_works_386 (by decide) ?_
                          have z_89 : (0 : Int64).toInt = 0 := by decide
                          refine W.lcmp hx hb dX10_works_387 ?_
                          refine lv_topi (fun x_90 ex_90 => ?_)
                          have cx_90 := lg_c ex_90
                          refine sb_if_ne (tgt := 397) hx hb rfl dX10_works_388 (by decide) (fun c_388_90 => ?_) (fun c_388_90 => ?_)
                          · refine lv_iconst (v := 1) hx hb dX10_works_397 (by decide) ?_
                            refine lv_goto (tgt := 402) hx hb dX10_works_398 (by decide) ?_
                            refine ti_callSl (av := [.int 1]) C hw (z_X10_is l D A cy hJ M_21 iM_21 1) ⟨ml_X10_323, ys_X10_is, yi_X10_is, yc_X10_is⟩ yd_X10_is rfl hl.1 (Nat.le_of_ble_eq_true rfl) ⟨by decide, by decide⟩ ⟨Nat.zero_le _, Nat.zero_le _⟩ dX10_works_402 (fun r_95 M_96 H locs hp_96 hw => ?_)
                            obtain ⟨hm, pr_95⟩ := hp_96
                            have hw := hw.to hm
                            simp only [show (1 : Int32).toInt = 1 by decide] at pr_95
                            have tr_95 : r_95.toInt = 1 := by omega
                            refine lv_lstore (lv' := [(6, .long r_95), (4, .long x_18), (2, .long x_3), (0, .ref (A 60 0)), (1, .int sg)]) hx hb dX10_works_405 hl (by decide) rfl (fun ls hl => ?_)
                            refine lv_aload_n hx hb dX10_works_407 rfl (lv_at hl 3 rfl) ?_
                            refine ti_get (ci := 10) (k := 32) (N := 67) (T := TX10) (v := .ref (A 60 33)) C hw iw_10 rfl ob_60 (by decide) (by decide) fl_X10_66 rfl rfl dX10_works_408 ?_
                            refine lv_aload_n hx hb dX10_works_411 rfl (lv_at hl 3 rfl) ?_
                            refine ti_get (ci := 10) (k := 33) (N := 67) (T := TX10) C hw iw_10 rfl ob_60 (by decide) (by decide) fl_X10_320 rfl rfl dX10_works_412 ?_
                            refine ti_top (y := x_20) (tI_uE hM_21) ?_
                            have u_221 : (tI M_21 60 33).toInt = (x_20 : Int32).toInt := by rw [(tI_uE hM_21)]
                            refine lv_iconst (v := 1) hx hb dX10_works_415 (by decide) ?_
                            refine lv_isub hx hb dX10_works_416 ?_
                            refine lv_topi (fun x_222 ex_222 => ?_)
                            have tx_222 : x_222.toInt = x_20.toInt - 1 := i_sub ex_222 rfl (by decide : (1 : Int32).toInt = 1) (by omega) (by omega)
                            refine lv_lload hx hb dX10_works_417 (lv_at hl 0 rfl) ?_
                            refine ti_last (ci := 10) (k := 32) (n := 64) C hw ob_60 (by decide) (fun _ _ => rfl) (vp_in_iff.mpr (by omega)) dX10_works_419 (fun H locs hw => ?_)
                            obtain ⟨M_223, hM_223⟩ : ∃ z : ti_M, z = uZ M_21 60 32 (vp_updL (tZ M_21 60 32) (x_222 : Int32).toNatClampNeg r_95) := ⟨_, rfl⟩
                            have hw := hw.to hM_223.symm
                            have iM_223 : mI Tm M_223 := mI_uZ iM_21 hM_223
                            refine lv_lload hx hb dX10_works_420 (lv_at hl 0 rfl) ?_
                            refine lv_ldc2 (v := 1000000000000) hx hb C.2.2.2.1 (C.2.2.1 _ cn_X10_333) dX10_works_422 ?_
                            have z_224 : (1000000000000 : Int64).toInt = 1000000000000 := by decide
                            refine W.lcmp hx hb dX10_works_425 ?_
                            refine lv_topi (fun x_225 ex_225 => ?_)
                            have cx_225 := lg_c ex_225
                            refine sb_if_gt (tgt := 442) hx hb rfl dX10_works_426 (by decide) (fun c_426_225 => ?_) (fun c_426_225 => ?_)
                            · refine lv_iconst (v := 0) hx hb dX10_works_442 (by decide) ?_
                              exact hQ _ _ _ _ _ _ hw rfl (by exfalso; omega) dX10_works_443
                            · refine lv_lload hx hb dX10_works_429 (lv_at hl 0 rfl) ?_
                              refine lv_ldc2 (v := (-1000000000000)) hx hb C.2.2.2.1 (C.2.2.1 _ cn_X10_335) dX10_works_431 ?_
                              have z_299 : ((-1000000000000) : Int64).toInt = -1000000000000 := by decide
                              refine W.lcmp hx hb dX10_works_434 ?_
                              refine lv_topi (fun x_300 ex_300 => ?_)
                              have cx_300 := lg_c ex_300
                              refine sb_if_lt (tgt := 442) hx hb rfl dX10_works_435 (by decide) (fun c_435_300 => ?_) (fun c_435_300 => ?_)
                              · refine lv_iconst (v := 0) hx hb dX10_works_442 (by decide) ?_
                                exact hQ _ _ _ _ _ _ hw rfl (by exfalso; omega) dX10_works_443
                              · refine lv_iconst (v := 1) hx hb dX10_works_438 (by decide) ?_
                                refine lv_goto (tgt := 443) hx hb dX10_works_439 (by decide) ?_
                                have hsc : bq_sc sg.toInt = 23 := by unfold bq_sc; (repeat (first | rw [if_pos (by omega)] | rw [if_neg (by omega)]))
                                have er : bl_ER = -9223372036854775808 := rfl
                                have hbw : bl_w (bq_sc sg.toInt) (st (d.toInt.toNat - 2)) (st (d.toInt.toNat - 1)) = r_95.toInt := by rw [hsc, sy1, sy2]; unfold bl_w; (repeat (first | rw [if_pos (by omega)] | rw [if_neg (by omega)])); (try unfold bl_if); (repeat (first | rw [if_pos (by omega)] | rw [if_neg (by omega)])); first | omega | (rw [tr_95])
                                have hzN : rz (pp_su st (d.toInt.toNat - 2) (bl_w (bq_sc sg.toInt) (st (d.toInt.toNat - 2)) (st (d.toInt.toNat - 1)))) (d.toInt - 1) M_223 := by
                                  have q := rz_up (t2 := d.toInt - 1) hz_22 hM_223 rfl (by omega) (z := bl_w (bq_sc sg.toInt) (st (d.toInt.toNat - 2)) (st (d.toInt.toNat - 1))) hbw.symm (by rw [hbw]; omega) (fun j hj => by omega)
                                  rw [show x_222.toInt.toNat = d.toInt.toNat - 2 by omega] at q; exact q
                                exact hQ _ _ _ _ _ _ hw rfl (⟨(fI.trans (fI_Z hM_223) (fI_I hM_21)), (((tZ_nE hM_223 (nk (by decide))).trans (tZ_uIE hM_21))), Or.inr (Or.inl ⟨by decide, by omega, by rw [hbw]; omega, hzN⟩), iM_223, (qw.trans (qw_Z hM_223) (qw_I hM_21 (by decide))), ((ry_Z hM_223).trans (ry_I hM_21)), (by first | omega | decide), (by first | omega | decide), by rw [((tI_uZE hM_223).trans (tI_uE hM_21))]; omega⟩) dX10_works_443
                          · refine lv_lload_n hx hb dX10_works_391 rfl (lv_at hl 1 rfl) ?_
                            refine lv_lconst (v := 0) hx hb dX10_works_392 (by decide) ?_
                            have z_92 : (0 : Int64).toInt = 0 := by decide
                            refine W.lcmp hx hb dX10_works_393 ?_
                            refine lv_topi (fun x_93 ex_93 => ?_)
                            have cx_93 := lg_c ex_93
                            refine sb_if_eq (tgt := 401) hx hb rfl dX10_works_394 (by decide) (fun c_394_93 => ?_) (fun c_394_93 => ?_)
                            · refine lv_iconst (v := 0) hx hb dX10_works_401 (by decide) ?_
                              refine ti_callSl (av := [.int 0]) C hw (z_X10_is l D A cy hJ M_21 iM_21 0) ⟨ml_X10_323, ys_X10_is, yi_X10_is, yc_X10_is⟩ yd_X10_is rfl hl.1 (Nat.le_of_ble_eq_true rfl) ⟨by decide, by decide⟩ ⟨Nat.zero_le _, Nat.zero_le _⟩ dX10_works_402 (fun r_99 M_100 H locs hp_100 hw => ?_)
                              obtain ⟨hm, pr_99⟩ := hp_100
                              have hw := hw.to hm
                              simp only [show (0 : Int32).toInt = 0 by decide] at pr_99
                              have tr_99 : r_99.toInt = 0 := by omega
                              refine lv_lstore (lv' := [(6, .long r_99), (4, .long x_18), (2, .long x_3), (0, .ref (A 60 0)), (1, .int sg)]) hx hb dX10_works_405 hl (by decide) rfl (fun ls hl => ?_)
                              refine lv_aload_n hx hb dX10_works_407 rfl (lv_at hl 3 rfl) ?_
                              refine ti_get (ci := 10) (k := 32) (N := 67) (T := TX10) (v := .ref (A 60 33)) C hw iw_10 rfl ob_60 (by decide) (by decide) fl_X10_66 rfl rfl dX10_works_408 ?_
                              refine lv_aload_n hx hb dX10_works_411 rfl (lv_at hl 3 rfl) ?_
                              refine ti_get (ci := 10) (k := 33) (N := 67) (T := TX10) C hw iw_10 rfl ob_60 (by decide) (by decide) fl_X10_320 rfl rfl dX10_works_412 ?_
                              refine ti_top (y := x_20) (tI_uE hM_21) ?_
                              have u_233 : (tI M_21 60 33).toInt = (x_20 : Int32).toInt := by rw [(tI_uE hM_21)]
                              refine lv_iconst (v := 1) hx hb dX10_works_415 (by decide) ?_
                              refine lv_isub hx hb dX10_works_416 ?_
                              refine lv_topi (fun x_234 ex_234 => ?_)
                              have tx_234 : x_234.toInt = x_20.toInt - 1 := i_sub ex_234 rfl (by decide : (1 : Int32).toInt = 1) (by omega) (by omega)
                              refine lv_lload hx hb dX10_works_417 (lv_at hl 0 rfl) ?_
                              refine ti_last (ci := 10) (k := 32) (n := 64) C hw ob_60 (by decide) (fun _ _ => rfl) (vp_in_iff.mpr (by omega)) dX10_works_419 (fun H locs hw => ?_)
                              obtain ⟨M_235, hM_235⟩ : ∃ z : ti_M, z = uZ M_21 60 32 (vp_updL (tZ M_21 60 32) (x_234 : Int32).toNatClampNeg r_99) := ⟨_, rfl⟩
                              have hw := hw.to hM_235.symm
                              have iM_235 : mI Tm M_235 := mI_uZ iM_21 hM_235
                              refine lv_lload hx hb dX10_works_420 (lv_at hl 0 rfl) ?_
                              refine lv_ldc2 (v := 1000000000000) hx hb C.2.2.2.1 (C.2.2.1 _ cn_X10_333) dX10_works_422 ?_
                              have z_236 : (1000000000000 : Int64).toInt = 1000000000000 := by decide
                              refine W.lcmp hx hb dX10_works_425 ?_
                              refine lv_topi (fun x_237 ex_237 => ?_)
                              have cx_237 := lg_c ex_237
                              refine sb_if_gt (tgt := 442) hx hb rfl dX10_works_426 (by decide) (fun c_426_237 => ?_) (fun c_426_237 => ?_)
                              · refine lv_iconst (v := 0) hx hb dX10_works_442 (by decide) ?_
                                exact hQ _ _ _ _ _ _ hw rfl (by exfalso; omega) dX10_works_443
                              · refine lv_lload hx hb dX10_works_429 (lv_at hl 0 rfl) ?_
                                refine lv_ldc2 (v := (-1000000000000)) hx hb C.2.2.2.1 (C.2.2.1 _ cn_X10_335) dX10_works_431 ?_
                                have z_305 : ((-1000000000000) : Int64).toInt = -1000000000000 := by decide
                                refine W.lcmp hx hb dX10_works_434 ?_
                                refine lv_topi (fun x_306 ex_306 => ?_)
                                have cx_306 := lg_c ex_306
                                refine sb_if_lt (tgt := 442) hx hb rfl dX10_works_435 (by decide) (fun c_435_306 => ?_) (fun c_435_306 => ?_)
                                · refine lv_iconst (v := 0) hx hb dX10_works_442 (by decide) ?_
                                  exact hQ _ _ _ _ _ _ hw rfl (by exfalso; omega) dX10_works_443
                                · refine lv_iconst (v := 1) hx hb dX10_works_438 (by decide) ?_
                                  refine lv_goto (tgt := 443) hx hb dX10_works_439 (by decide) ?_
                                  have hsc : bq_sc sg.toInt = 23 := by unfold bq_sc; (repeat (first | rw [if_pos (by omega)] | rw [if_neg (by omega)]))
                                  have er : bl_ER = -9223372036854775808 := rfl
                                  have hbw : bl_w (bq_sc sg.toInt) (st (d.toInt.toNat - 2)) (st (d.toInt.toNat - 1)) = r_99.toInt := by rw [hsc, sy1, sy2]; unfold bl_w; (repeat (first | rw [if_pos (by omega)] | rw [if_neg (by omega)])); (try unfold bl_if); (repeat (first | rw [if_pos (by omega)] | rw [if_neg (by omega)])); first | omega | (rw [tr_99])
                                  have hzN : rz (pp_su st (d.toInt.toNat - 2) (bl_w (bq_sc sg.toInt) (st (d.toInt.toNat - 2)) (st (d.toInt.toNat - 1)))) (d.toInt - 1) M_235 := by
                                    have q := rz_up (t2 := d.toInt - 1) hz_22 hM_235 rfl (by omega) (z := bl_w (bq_sc sg.toInt) (st (d.toInt.toNat - 2)) (st (d.toInt.toNat - 1))) hbw.symm (by rw [hbw]; omega) (fun j hj => by omega)
                                    rw [show x_234.toInt.toNat = d.toInt.toNat - 2 by omega] at q; exact q
                                  exact hQ _ _ _ _ _ _ hw rfl (⟨(fI.trans (fI_Z hM_235) (fI_I hM_21)), (((tZ_nE hM_235 (nk (by decide))).trans (tZ_uIE hM_21))), Or.inr (Or.inl ⟨by decide, by omega, by rw [hbw]; omega, hzN⟩), iM_235, (qw.trans (qw_Z hM_235) (qw_I hM_21 (by decide))), ((ry_Z hM_235).trans (ry_I hM_21)), (by first | omega | decide), (by first | omega | decide), by rw [((tI_uZE hM_235).trans (tI_uE hM_21))]; omega⟩) dX10_works_443
                            · refine lv_iconst (v := 1) hx hb dX10_works_397 (by decide) ?_
                              refine lv_goto (tgt := 402) hx hb dX10_works_398 (by decide) ?_
                              refine ti_callSl (av := [.int 1]) C hw (z_X10_is l D A cy hJ M_21 iM_21 1) ⟨ml_X10_323, ys_X10_is, yi_X10_is, yc_X10_is⟩ yd_X10_is rfl hl.1 (Nat.le_of_ble_eq_true rfl) ⟨by decide, by decide⟩ ⟨Nat.zero_le _, Nat.zero_le _⟩ dX10_works_402 (fun r_97 M_98 H locs hp_98 hw => ?_)
                              obtain ⟨hm, pr_97⟩ := hp_98
                              have hw := hw.to hm
                              simp only [show (1 : Int32).toInt = 1 by decide] at pr_97
                              have tr_97 : r_97.toInt = 1 := by omega
                              refine lv_lstore (lv' := [(6, .long r_97), (4, .long x_18), (2, .long x_3), (0, .ref (A 60 0)), (1, .int sg)]) hx hb dX10_works_405 hl (by decide) rfl (fun ls hl => ?_)
                              refine lv_aload_n hx hb dX10_works_407 rfl (lv_at hl 3 rfl) ?_
                              refine ti_get (ci := 10) (k := 32) (N := 67) (T := TX10) (v := .ref (A 60 33)) C hw iw_10 rfl ob_60 (by decide) (by decide) fl_X10_66 rfl rfl dX10_works_408 ?_
                              refine lv_aload_n hx hb dX10_works_411 rfl (lv_at hl 3 rfl) ?_
                              refine ti_get (ci := 10) (k := 33) (N := 67) (T := TX10) C hw iw_10 rfl ob_60 (by decide) (by decide) fl_X10_320 rfl rfl dX10_works_412 ?_
                              refine ti_top (y := x_20) (tI_uE hM_21) ?_
                              have u_227 : (tI M_21 60 33).toInt = (x_20 : Int32).toInt := by rw [(tI_uE hM_21)]
                              refine lv_iconst (v := 1) hx hb dX10_works_415 (by decide) ?_
                              refine lv_isub hx hb dX10_works_416 ?_
                              refine lv_topi (fun x_228 ex_228 => ?_)
                              have tx_228 : x_228.toInt = x_20.toInt - 1 := i_sub ex_228 rfl (by decide : (1 : Int32).toInt = 1) (by omega) (by omega)
                              refine lv_lload hx hb dX10_works_417 (lv_at hl 0 rfl) ?_
                              refine ti_last (ci := 10) (k := 32) (n := 64) C hw ob_60 (by decide) (fun _ _ => rfl) (vp_in_iff.mpr (by omega)) dX10_works_419 (fun H locs hw => ?_)
                              obtain ⟨M_229, hM_229⟩ : ∃ z : ti_M, z = uZ M_21 60 32 (vp_updL (tZ M_21 60 32) (x_228 : Int32).toNatClampNeg r_97) := ⟨_, rfl⟩
                              have hw := hw.to hM_229.symm
                              have iM_229 : mI Tm M_229 := mI_uZ iM_21 hM_229
                              refine lv_lload hx hb dX10_works_420 (lv_at hl 0 rfl) ?_
                              refine lv_ldc2 (v := 1000000000000) hx hb C.2.2.2.1 (C.2.2.1 _ cn_X10_333) dX10_works_422 ?_
                              have z_230 : (1000000000000 : Int64).toInt = 1000000000000 := by decide
                              refine W.lcmp hx hb dX10_works_425 ?_
                              refine lv_topi (fun x_231 ex_231 => ?_)
                              have cx_231 := lg_c ex_231
                              refine sb_if_gt (tgt := 442) hx hb rfl dX10_works_426 (by decide) (fun c_426_231 => ?_) (fun c_426_231 => ?_)
                              · refine lv_iconst (v := 0) hx hb dX10_works_442 (by decide) ?_
                                exact hQ _ _ _ _ _ _ hw rfl (by exfalso; omega) dX10_works_443
                              · refine lv_lload hx hb dX10_works_429 (lv_at hl 0 rfl) ?_
                                refine lv_ldc2 (v := (-1000000000000)) hx hb C.2.2.2.1 (C.2.2.1 _ cn_X10_335) dX10_works_431 ?_
                                have z_302 : ((-1000000000000) : Int64).toInt = -1000000000000 := by decide
                                refine W.lcmp hx hb dX10_works_434 ?_
                                refine lv_topi (fun x_303 ex_303 => ?_)
                                have cx_303 := lg_c ex_303
                                refine sb_if_lt (tgt := 442) hx hb rfl dX10_works_435 (by decide) (fun c_435_303 => ?_) (fun c_435_303 => ?_)
                                · refine lv_iconst (v := 0) hx hb dX10_works_442 (by decide) ?_
                                  exact hQ _ _ _ _ _ _ hw rfl (by exfalso; omega) dX10_works_443
                                · refine lv_iconst (v := 1) hx hb dX10_works_438 (by decide) ?_
                                  refine lv_goto (tgt := 443) hx hb dX10_works_439 (by decide) ?_
                                  have hsc : bq_sc sg.toInt = 23 := by unfold bq_sc; (repeat (first | rw [if_pos (by omega)] | rw [if_neg (by omega)]))
                                  have er : bl_ER = -9223372036854775808 := rfl
                                  have hbw : bl_w (bq_sc sg.toInt) (st (d.toInt.toNat - 2)) (st (d.toInt.toNat - 1)) = r_97.toInt := by rw [hsc, sy1, sy2]; unfold bl_w; (repeat (first | rw [if_pos (by omega)] | rw [if_neg (by omega)])); (try unfold bl_if); (repeat (first | rw [if_pos (by omega)] | rw [if_neg (by omega)])); first | omega | (rw [tr_97])
                                  have hzN : rz (pp_su st (d.toInt.toNat - 2) (bl_w (bq_sc sg.toInt) (st (d.toInt.toNat - 2)) (st (d.toInt.toNat - 1)))) (d.toInt - 1) M_229 := by
                                    have q := rz_up (t2 := d.toInt - 1) hz_22 hM_229 rfl (by omega) (z := bl_w (bq_sc sg.toInt) (st (d.toInt.toNat - 2)) (st (d.toInt.toNat - 1))) hbw.symm (by rw [hbw]; omega) (fun j hj => by omega)
                                    rw [show x_228.toInt.toNat = d.toInt.toNat - 2 by omega] at q; exact q
                                  exact hQ _ _ _ _ _ _ hw rfl (⟨(fI.trans (fI_Z hM_229) (fI_I hM_21)), (((tZ_nE hM_229 (nk (by decide))).trans (tZ_uIE hM_21))), Or.inr (Or.inl ⟨by decide, by omega, by rw [hbw]; omega, hzN⟩), iM_229, (qw.trans (qw_Z hM_229) (qw_I hM_21 (by decide))), ((ry_Z hM_229).trans (ry_I hM_21)), (by first | omega | decide), (by first | omega | decide), by rw [((tI_uZE hM_229).trans (tI_uE hM_21))]; omega⟩) dX10_works_443
  · refine lv_aload_n hx hb dX10_works_19 rfl (lv_at hl 1 rfl) ?_
    refine ti_get (ci := 10) (k := 32) (N := 67) (T := TX10) (v := .ref (A 60 33)) C hw iw_10 rfl ob_60 (by decide) (by decide) fl_X10_66 rfl rfl dX10_works_20 ?_
    refine lv_aload_n hx hb dX10_works_23 rfl (lv_at hl 1 rfl) ?_
    refine ti_get (ci := 10) (k := 33) (N := 67) (T := TX10) C hw iw_10 rfl ob_60 (by decide) (by decide) fl_X10_320 rfl rfl dX10_works_24 ?_
    refine ti_top (y := d) (hd) ?_
    have u_5 : (tI M 60 33).toInt = (d : Int32).toInt := by rw [(hd)]
    refine lv_iconst (v := 1) hx hb dX10_works_27 (by decide) ?_
    refine lv_isub hx hb dX10_works_28 ?_
    refine lv_topi (fun x_6 ex_6 => ?_)
    have tx_6 : x_6.toInt = d.toInt - 1 := i_sub ex_6 rfl (by decide : (1 : Int32).toInt = 1) (by omega) (by omega)
    refine lv_lload_n hx hb dX10_works_29 rfl (lv_at hl 0 rfl) ?_
    refine lv_lconst (v := 0) hx hb dX10_works_30 (by decide) ?_
    have z_7 : (0 : Int64).toInt = 0 := by decide
    refine W.lcmp hx hb dX10_works_31 ?_
    refine lv_topi (fun x_8 ex_8 => ?_)
    have cx_8 := lg_c ex_8
    refine sb_if_ne (tgt := 39) hx hb rfl dX10_works_32 (by decide) (fun c_32_8 => ?_) (fun c_32_8 => ?_)
    · refine lv_iconst (v := 0) hx hb dX10_works_39 (by decide) ?_
      refine ti_callSl (av := [.int 0]) C hw (z_X10_is l D A cy hJ M hI 0) ⟨ml_X10_323, ys_X10_is, yi_X10_is, yc_X10_is⟩ yd_X10_is rfl hl.1 (Nat.le_of_ble_eq_true rfl) ⟨by decide, by decide⟩ ⟨Nat.zero_le _, Nat.zero_le _⟩ dX10_works_40 (fun r_13 M_14 H locs hp_14 hw => ?_)
      obtain ⟨hm, pr_13⟩ := hp_14
      have hw := hw.to hm
      simp only [show (0 : Int32).toInt = 0 by decide] at pr_13
      have tr_13 : r_13.toInt = 0 := by omega
      refine ti_last (ci := 10) (k := 32) (n := 64) C hw ob_60 (by decide) (fun _ _ => rfl) (vp_in_iff.mpr (by omega)) dX10_works_43 (fun H locs hw => ?_)
      obtain ⟨M_15, hM_15⟩ : ∃ z : ti_M, z = uZ M 60 32 (vp_updL (tZ M 60 32) (x_6 : Int32).toNatClampNeg r_13) := ⟨_, rfl⟩
      have hw := hw.to hM_15.symm
      have iM_15 : mI Tm M_15 := mI_uZ hI hM_15
      refine lv_iconst (v := 1) hx hb dX10_works_44 (by decide) ?_
      have hzN : rz (pp_su st (d.toInt.toNat - 1) (if st (d.toInt.toNat - 1) = 0 then 1 else 0)) d.toInt M_15 := by
        have q := rz_up (t2 := d.toInt) hz hM_15 rfl (by omega) (z := if st (d.toInt.toNat - 1) = 0 then 1 else 0) (by rw [sy1]; (repeat (first | rw [if_pos (by omega)] | rw [if_neg (by omega)])); omega) (by rw [sy1]; split <;> omega) (fun j hj => by omega)
        rw [show x_6.toInt.toNat = d.toInt.toNat - 1 by omega] at q; exact q
      exact hQ _ _ _ _ _ _ hw rfl (⟨(fI_Z hM_15), ((tZ_nE hM_15 (nk (by decide)))), Or.inl ⟨by decide, by omega, hzN⟩, iM_15, (qw_Z hM_15), (ry_Z hM_15), (by first | omega | decide), (by first | omega | decide), by rw [((tI_uZE hM_15).trans hd)]; omega⟩) dX10_works_45
    · refine lv_iconst (v := 1) hx hb dX10_works_35 (by decide) ?_
      refine lv_goto (tgt := 40) hx hb dX10_works_36 (by decide) ?_
      refine ti_callSl (av := [.int 1]) C hw (z_X10_is l D A cy hJ M hI 1) ⟨ml_X10_323, ys_X10_is, yi_X10_is, yc_X10_is⟩ yd_X10_is rfl hl.1 (Nat.le_of_ble_eq_true rfl) ⟨by decide, by decide⟩ ⟨Nat.zero_le _, Nat.zero_le _⟩ dX10_works_40 (fun r_10 M_11 H locs hp_11 hw => ?_)
      obtain ⟨hm, pr_10⟩ := hp_11
      have hw := hw.to hm
      simp only [show (1 : Int32).toInt = 1 by decide] at pr_10
      have tr_10 : r_10.toInt = 1 := by omega
      refine ti_last (ci := 10) (k := 32) (n := 64) C hw ob_60 (by decide) (fun _ _ => rfl) (vp_in_iff.mpr (by omega)) dX10_works_43 (fun H locs hw => ?_)
      obtain ⟨M_12, hM_12⟩ : ∃ z : ti_M, z = uZ M 60 32 (vp_updL (tZ M 60 32) (x_6 : Int32).toNatClampNeg r_10) := ⟨_, rfl⟩
      have hw := hw.to hM_12.symm
      have iM_12 : mI Tm M_12 := mI_uZ hI hM_12
      refine lv_iconst (v := 1) hx hb dX10_works_44 (by decide) ?_
      have hzN : rz (pp_su st (d.toInt.toNat - 1) (if st (d.toInt.toNat - 1) = 0 then 1 else 0)) d.toInt M_12 := by
        have q := rz_up (t2 := d.toInt) hz hM_12 rfl (by omega) (z := if st (d.toInt.toNat - 1) = 0 then 1 else 0) (by rw [sy1]; (repeat (first | rw [if_pos (by omega)] | rw [if_neg (by omega)])); omega) (by rw [sy1]; split <;> omega) (fun j hj => by omega)
        rw [show x_6.toInt.toNat = d.toInt.toNat - 1 by omega] at q; exact q
      exact hQ _ _ _ _ _ _ hw rfl (⟨(fI_Z hM_12), ((tZ_nE hM_12 (nk (by decide)))), Or.inl ⟨by decide, by omega, hzN⟩, iM_12, (qw_Z hM_12), (ry_Z hM_12), (by first | omega | decide), (by first | omega | decide), by rw [((tI_uZE hM_12).trans hd)]; omega⟩) dX10_works_45
set_option maxHeartbeats 4000000 in
set_option maxRecDepth 100000 in
theorem z_X10_goes (l : Launch) (D : va_G) (A : Nat → Nat → Nat) (cy : Nat → ClassId) (hJ : ti_inj ti_LM A) (M : ti_M) (hI : mI Tm M) (hL : mL M) (a : Int32) (h1 : 0 ≤ a.toInt) (h2 : a.toInt ≤ 2) (fa co : Nat → Int) (a0 : Nat) (len : Int) (hfa : rn6 fa 6 M) (ha0 : (tY M 60 14 a.toNatClampNeg).toInt = a0) (hto : (tY M 60 15 a.toNatClampNeg).toInt = a0 + len) (hlen : 0 < len) (hD : dp (tY M 60 16) (tY M 60 17) a0 len.toNat = some 1) (hco : ∀ n : Nat, (n : Int) < len → co n = bq_kc (tY M 60 16 (a0 + n)).toInt (tY M 60 17 (a0 + n)).toInt ∧ ((tY M 60 16 (a0 + n)).toInt = 0 → 0 ≤ (tY M 60 17 (a0 + n)).toInt)) : ti_Ki l yX10_goes cX10_goes 3 (some .boolean) 2 ti_LM D A cy M [.ref (A 60 0), .int a] (fun r M2 => fI M2 M ∧ ((r.toInt = 1 ∧ (tZ M2 60 32 0).toInt = bl_rn co fa len.toNat 0 0 (fun _ => 0) ∧ -1000000000000 ≤ bl_rn co fa len.toNat 0 0 (fun _ => 0) ∧ bl_rn co fa len.toNat 0 0 (fun _ => 0) ≤ 1000000000000) ∨ (r.toInt = 0 ∧ bl_rn co fa len.toNat 0 0 (fun _ => 0) = bl_ER)) ∧ mI Tm M2 ∧ qw M2 M ∧ M2.2.1 = M.2.1 ∧ 0 ≤ r.toInt ∧ r.toInt ≤ 1) := by
  refine ti_eI yp_X10_goes hJ ti_LM_nd (Nat.le_of_ble_eq_true rfl) ?_
  intro p e s m args below meth c Q H0 C hQ hw ls hl
  have hx := C.1
  have hb := C.2.1
  have hl : lv_has ls 3 [(0, .ref (A 60 0)), (1, .int a)] := hl
  refine lv_aload_n hx hb dX10_goes_0 rfl (lv_at hl 0 rfl) ?_
  refine lv_iconst (v := 0) hx hb dX10_goes_1 (by decide) ?_
  refine ti_putI (ci := 10) (k := 33) (N := 67) (T := TX10) C hw iw_10 tyX10 tyX10_ok nmX10 rfl ob_60 (by decide) (by decide) fl_X10_320 rfl rfl rfl rfl (fn_10 A _) fs_10_33 dX10_goes_2 (fun H locs hw => ?_)
  obtain ⟨M_1, hM_1⟩ : ∃ z : ti_M, z = uI M 60 33 0 := ⟨_, rfl⟩
  have hw := hw.to hM_1.symm
  have iM_1 : mI Tm M_1 := mI_uI hI hM_1 (by decide) (by decide) (ib_mk (lo := 0) (hi := 64) (by decide) (by decide))
  have vM_1 : (tI M_1 60 33).toInt = 0 := by rw [tI_uE hM_1]; decide
  have n6_2 : rn6 fa 6 M_1 := rn6_I hfa hM_1
  refine lv_aload_n hx hb dX10_goes_5 rfl (lv_at hl 0 rfl) ?_
  refine ti_get (ci := 10) (k := 14) (N := 67) (T := TX10) (v := .ref (A 60 15)) C hw iw_10 rfl ob_60 (by decide) (by decide) fl_X10_46 rfl rfl dX10_goes_6 ?_
  refine lv_iload_n hx hb dX10_goes_9 rfl (lv_at hl 1 rfl) ?_
  refine ti_iald (ci := 10) (k := 14) (n := 6) C hw ob_60 (by decide) (fun _ _ => rfl) (vp_in_iff.mpr (by omega)) dX10_goes_10 ?_
  refine lv_topi (fun x_3 ex_3 => ?_)
  have yx_3 : tY M_1 60 14 a.toNatClampNeg = x_3 := (ex_3.symm)
  have bx_3 : 0 ≤ x_3.toInt ∧ x_3.toInt ≤ 64 := mI_ry (k := 14) (i := a.toNatClampNeg) iM_1 yx_3.symm
  have wx_3 : tY M 60 14 a.toNatClampNeg = x_3 := ((cg (tY_uIE hM_1) a.toNatClampNeg)).symm.trans yx_3
  refine lv_istore_n (lv' := [(2, .int x_3), (0, .ref (A 60 0)), (1, .int a)]) hx hb dX10_goes_11 rfl hl (by decide) rfl (fun ls hl => ?_)
  have u_20 : (tI M_1 60 33).toInt = (0 : Int32).toInt := by rw [(tI_uE hM_1)]
  have hl_12_18 : ∀ (n_19 : Nat) (x_4 : Int32) (M_7 : ti_M) (st_11 : Nat → Int) (H : Heap) (locs : List Loc) (ls : Array Slot), (64 - x_4.toInt : Int).toNat < n_19 → (0 ≤ x_4.toInt) → (x_4.toInt ≤ 64) → (mI Tm M_7) → (qw M_7 M) → (M_7.2.1 = M.2.1) → (fI M_7 M) → (0 ≤ (tI M_7 60 33).toInt) → ((tY M 60 14 a.toNatClampNeg).toInt ≤ x_4.toInt) → (gd M a x_4.toInt (tI M_7 60 33).toInt.toNat) → (rz st_11 (tI M_7 60 33).toInt M_7) → (x_4.toInt ≤ (a0 : Int) + len) → (rn6 fa 6 M_7) → (bl_rn co fa ((a0 : Int) + len - x_4.toInt).toNat (x_4.toInt - (a0 : Int)).toNat (tI M_7 60 33).toInt.toNat st_11 = bl_rn co fa len.toNat 0 0 (fun _ => 0)) → ti_H ti_LM D A cy H0 M_7 H locs → lv_has ls 3 [(2, .int x_4), (0, .ref (A 60 0)), (1, .int a)] → W p l e (ti_rm 2) s m args below meth c H locs 0 0 Q (F0 m 12 ls []) := by
    intro n_19
    induction n_19 with
    | zero => intro x_4 M_7 st_11 H locs ls hf_19; exact absurd hf_19 (Nat.not_lt_zero _)
    | succ n_19 ih_19 =>
      intro x_4 M_7 st_11 H locs ls hf_19 b_5 b_6 iM_7 f_8 f_9 f_10 j_12 j_13 j_14 j_15 j_16 j_17 j_18 hw hl
      refine lv_iload_n hx hb dX10_goes_12 rfl (lv_at hl 0 rfl) ?_
      refine lv_aload_n hx hb dX10_goes_13 rfl (lv_at hl 1 rfl) ?_
      refine ti_get (ci := 10) (k := 15) (N := 67) (T := TX10) (v := .ref (A 60 16)) C hw iw_10 rfl ob_60 (by decide) (by decide) fl_X10_49 rfl rfl dX10_goes_14 ?_
      refine lv_iload_n hx hb dX10_goes_17 rfl (lv_at hl 2 rfl) ?_
      refine ti_iald (ci := 10) (k := 15) (n := 6) C hw ob_60 (by decide) (fun _ _ => rfl) (vp_in_iff.mpr (by omega)) dX10_goes_18 ?_
      refine lv_topi (fun x_21 ex_21 => ?_)
      have yx_21 : tY M_7 60 15 a.toNatClampNeg = x_21 := (ex_21.symm)
      have bx_21 : 0 ≤ x_21.toInt ∧ x_21.toInt ≤ 64 := mI_ry (k := 15) (i := a.toNatClampNeg) iM_7 yx_21.symm
      have wx_21 : tY M 60 15 a.toNatClampNeg = x_21 := ((cg (tY_fr f_9) a.toNatClampNeg)).symm.trans yx_21
      refine sb_icmp_ge (tgt := 102) hx hb rfl rfl dX10_goes_19 (by decide) (fun c_19_21 => ?_) (fun c_19_21 => ?_)
      · refine lv_iconst (v := 1) hx hb dX10_goes_102 (by decide) ?_
        have b15 := cg (tY_fr f_9 (o := 60) (k := 15)) a.toNatClampNeg
        have e15 : x_21.toInt = a0 + len := by rw [← hto, ← b15, ((cg (tY_fr f_9) a.toNatClampNeg).trans wx_21)]
        have dd : (tI M_7 60 33).toInt.toNat = 1 := by have q := j_14; unfold gd at q; rw [ha0, show ((a0 : Int)).toNat = a0 by omega, show x_4.toInt.toNat - a0 = len.toNat by omega, hD] at q; exact (Option.some.inj q).symm
        have vv : bl_rn co fa len.toNat 0 0 (fun _ => 0) = st_11 0 := by rw [← j_18, dd, rn_0 (by omega), if_pos rfl]
        have rr := j_15 0 (by omega)
        exact hQ _ _ _ _ _ _ hw rfl (⟨f_10, Or.inl ⟨by decide, by rw [vv]; exact rr.1, by rw [vv]; exact rr.2.1, by rw [vv]; exact rr.2.2⟩, iM_7, f_8, (f_9), by first | omega | decide, by first | omega | decide⟩) dX10_goes_103
      · obtain ⟨s9, es9⟩ : ∃ z, z = tY M 60 16 x_4.toNatClampNeg := ⟨_, rfl⟩
        obtain ⟨v9, ev9⟩ : ∃ z, z = tY M 60 17 x_4.toNatClampNeg := ⟨_, rfl⟩
        have b15 := cg (tY_fr f_9 (o := 60) (k := 15)) a.toNatClampNeg
        have hk2 : x_4.toInt < (tY M 60 15 a.toNatClampNeg).toInt := by rw [← b15, ((cg (tY_fr f_9) a.toNatClampNeg).trans wx_21)]; omega
        obtain ⟨d9, g9, hc9⟩ := mL_go hI hL h1 h2 (by omega) hk2 j_14
        rw [← es9, ← ev9] at hc9
        have l9 := gd_le j_14
        obtain ⟨w9, ew9⟩ : ∃ z, z = tI M_7 60 33 := ⟨_, rfl⟩
        have bw9 : 0 ≤ w9.toInt ∧ w9.toInt ≤ 64 := mI_rd iM_7 ew9
        have uw9 : (tI M_7 60 33).toInt = w9.toInt := by rw [ew9]
        have ek9 : x_4.toNatClampNeg = a0 + (x_4.toInt - (a0 : Int)).toNat := i_cl (by omega)
        have kc9 : co (x_4.toInt - (a0 : Int)).toNat = bq_kc s9.toInt v9.toInt ∧ (s9.toInt = 0 → 0 ≤ v9.toInt) := by have q := hco (x_4.toInt - (a0 : Int)).toNat (by omega); rw [← ek9, ← es9, ← ev9] at q; exact q
        refine lv_aload_n hx hb dX10_goes_22 rfl (lv_at hl 1 rfl) ?_
        refine ti_get (ci := 10) (k := 16) (N := 67) (T := TX10) (v := .ref (A 60 17)) C hw iw_10 rfl ob_60 (by decide) (by decide) fl_X10_52 rfl rfl dX10_goes_23 ?_
        refine lv_iload_n hx hb dX10_goes_26 rfl (lv_at hl 0 rfl) ?_
        refine ti_iald (ci := 10) (k := 16) (n := 128) C hw ob_60 (by decide) (fun _ _ => rfl) (vp_in_iff.mpr (by omega)) dX10_goes_27 ?_
        refine ti_top (y := s9) (((cg (tY_fr f_9) x_4.toNatClampNeg).trans es9.symm)) ?_
        refine lv_iconst (v := 2) hx hb dX10_goes_28 (by decide) ?_
        refine sb_icmp_ne (tgt := 47) hx hb rfl (by decide : (2 : Int32).toInt = 2) dX10_goes_29 (by decide) (fun c_29_23 => ?_) (fun c_29_23 => ?_)
        · refine lv_aload_n hx hb dX10_goes_47 rfl (lv_at hl 1 rfl) ?_
          refine ti_get (ci := 10) (k := 32) (N := 67) (T := TX10) (v := .ref (A 60 33)) C hw iw_10 rfl ob_60 (by decide) (by decide) fl_X10_66 rfl rfl dX10_goes_48 ?_
          refine lv_aload_n hx hb dX10_goes_51 rfl (lv_at hl 1 rfl) ?_
          refine ti_get (ci := 10) (k := 33) (N := 67) (T := TX10) C hw iw_10 rfl ob_60 (by decide) (by decide) fl_X10_320 rfl rfl dX10_goes_52 ?_
          refine ti_top (y := w9) (ew9.symm) ?_
          have u_33 : (tI M_7 60 33).toInt = (w9 : Int32).toInt := by rw [(ew9.symm)]
          refine lv_aload_n hx hb dX10_goes_55 rfl (lv_at hl 1 rfl) ?_
          refine ti_get (ci := 10) (k := 16) (N := 67) (T := TX10) (v := .ref (A 60 17)) C hw iw_10 rfl ob_60 (by decide) (by decide) fl_X10_52 rfl rfl dX10_goes_56 ?_
          refine lv_iload_n hx hb dX10_goes_59 rfl (lv_at hl 0 rfl) ?_
          refine ti_iald (ci := 10) (k := 16) (n := 128) C hw ob_60 (by decide) (fun _ _ => rfl) (vp_in_iff.mpr (by omega)) dX10_goes_60 ?_
          refine ti_top (y := s9) (((cg (tY_fr f_9) x_4.toNatClampNeg).trans es9.symm)) ?_
          refine sb_if_ne (tgt := 74) hx hb rfl dX10_goes_61 (by decide) (fun c_61_33 => ?_) (fun c_61_33 => ?_)
          · refine lv_aload_n hx hb dX10_goes_74 rfl (lv_at hl 1 rfl) ?_
            refine ti_get (ci := 10) (k := 31) (N := 67) (T := TX10) (v := .ref (A 60 32)) C hw iw_10 rfl ob_60 (by decide) (by decide) fl_X10_62 rfl rfl dX10_goes_75 ?_
            refine lv_aload_n hx hb dX10_goes_78 rfl (lv_at hl 1 rfl) ?_
            refine ti_get (ci := 10) (k := 17) (N := 67) (T := TX10) (v := .ref (A 60 18)) C hw iw_10 rfl ob_60 (by decide) (by decide) fl_X10_55 rfl rfl dX10_goes_79 ?_
            refine lv_iload_n hx hb dX10_goes_82 rfl (lv_at hl 0 rfl) ?_
            refine ti_iald (ci := 10) (k := 17) (n := 128) C hw ob_60 (by decide) (fun _ _ => rfl) (vp_in_iff.mpr (by omega)) dX10_goes_83 ?_
            refine ti_top (y := v9) (((cg (tY_fr f_9) x_4.toNatClampNeg).trans ev9.symm)) ?_
            refine ti_lald (ci := 10) (k := 31) (n := 6) C hw ob_60 (by decide) (fun _ _ => rfl) (vp_in_iff.mpr (by omega)) dX10_goes_84 ?_
            refine lv_topl (fun x_36 ex_36 => ?_)
            have lzx_36 := rn6_1 j_17 ex_36 (by omega) (by omega)
            have lax_36 := lzx_36.1
            have lbx_36 := lzx_36.2.1
            have lcx_36 := lzx_36.2.2
            refine ti_last (ci := 10) (k := 32) (n := 64) C hw ob_60 (by decide) (fun _ _ => rfl) (vp_in_iff.mpr (by omega)) dX10_goes_85 (fun H locs hw => ?_)
            obtain ⟨M_45, hM_45⟩ : ∃ z : ti_M, z = uZ M_7 60 32 (vp_updL (tZ M_7 60 32) (w9 : Int32).toNatClampNeg x_36) := ⟨_, rfl⟩
            have hw := hw.to hM_45.symm
            have iM_45 : mI Tm M_45 := mI_uZ iM_7 hM_45
            have n6_46 : rn6 fa 6 M_45 := rn6_32 j_17 hM_45
            have hz_47 : rz (pp_su st_11 w9.toInt.toNat x_36.toInt) (w9.toInt + 1) M_45 := rz_up (by have q := j_15; rw [uw9] at q; exact q) hM_45 rfl (by omega) rfl ⟨by omega, by omega⟩ (fun j hj => by omega)
            refine lv_aload_n hx hb dX10_goes_86 rfl (lv_at hl 1 rfl) ?_
            refine lv_dup hx hb dX10_goes_87 rfl ?_
            refine ti_get (ci := 10) (k := 33) (N := 67) (T := TX10) C hw iw_10 rfl ob_60 (by decide) (by decide) fl_X10_320 rfl rfl dX10_goes_88 ?_
            refine ti_top (y := w9) ((tI_uZE hM_45).trans ew9.symm) ?_
            have u_48 : (tI M_45 60 33).toInt = (w9 : Int32).toInt := by rw [((tI_uZE hM_45).trans ew9.symm)]
            refine lv_iconst (v := 1) hx hb dX10_goes_91 (by decide) ?_
            refine lv_iadd hx hb dX10_goes_92 ?_
            refine lv_topi (fun x_49 ex_49 => ?_)
            have tx_49 : x_49.toInt = w9.toInt + 1 := i_add ex_49 rfl (by decide : (1 : Int32).toInt = 1) (by omega) (by omega)
            refine ti_putI (ci := 10) (k := 33) (N := 67) (T := TX10) C hw iw_10 tyX10 tyX10_ok nmX10 rfl ob_60 (by decide) (by decide) fl_X10_320 rfl rfl rfl rfl (fn_10 A _) fs_10_33 dX10_goes_93 (fun H locs hw => ?_)
            obtain ⟨M_50, hM_50⟩ : ∃ z : ti_M, z = uI M_45 60 33 x_49 := ⟨_, rfl⟩
            have hw := hw.to hM_50.symm
            have iM_50 : mI Tm M_50 := mI_uI iM_45 hM_50 (by decide) (by decide) (ib_mk (lo := 0) (hi := 64) (by omega) (by omega))
            have vM_50 : (tI M_50 60 33).toInt = (x_49 : Int32).toInt := by rw [tI_uE hM_50]
            have n6_51 : rn6 fa 6 M_50 := rn6_I n6_46 hM_50
            have hz_52 := rz_I hz_47 hM_50
            obtain ⟨x_59, ex_59⟩ : ∃ z : Int32, z = x_4 + 1 := ⟨_, rfl⟩
            have tx_59 : x_59.toInt = x_4.toInt + 1 := i_add ex_59 rfl (by decide) (by omega) (by omega)
            refine lv_iinc (v := x_59) (lv' := [(2, .int x_59), (0, .ref (A 60 0)), (1, .int a)]) hx hb dX10_goes_96 hl (k := 0) rfl (by rw [ex_59]; rfl) (by decide) rfl (fun ls hl => ?_)
            refine lv_goto (tgt := 12) hx hb dX10_goes_99 (by decide) ?_
            have u_60 : (tI M_50 60 33).toInt = (x_49 : Int32).toInt := by rw [(tI_uE hM_50)]
            exact ih_19 x_59 M_50 (pp_su st_11 w9.toInt.toNat x_36.toInt) _ _ _ (by omega) (by first | omega | decide) (by first | omega | decide) iM_50 (qw.trans (qw_I hM_50 (by decide)) (qw.trans (qw_Z hM_45) f_8)) ((ry_I hM_50).trans ((ry_Z hM_45).trans f_9)) (fI.trans (fI_I hM_50) (fI.trans (fI_Z hM_45) f_10)) (by first | omega | decide) (by omega) (by rw [show (tI M_50 60 33).toInt.toNat = d9 by omega, show x_59.toInt = x_4.toInt + 1 by omega]; exact g9) (by rw [show (tI M_50 60 33).toInt = (w9.toInt + 1) by omega]; exact hz_52) (by omega) n6_51 (by have q := j_18; rw [uw9] at q; rw [← q]; have k1 := kc9.1; have k2 := kc9.2; have sb := sc_b (v := v9.toInt); have k3 : co (x_4.toInt - (a0 : Int)).toNat = -(16 + v9.toInt) := (by rw [k1]; unfold bq_kc; rw [if_neg (by omega), if_neg (by omega)]); rw [rn_p (co := co) (fa := fa) (f := ((a0 : Int) + len - x_4.toInt).toNat) (f' := ((a0 : Int) + len - x_59.toInt).toNat) (i := (x_4.toInt - (a0 : Int)).toNat) (t := w9.toInt.toNat) (st := st_11) (by omega) (by omega), show (if 0 ≤ co (x_4.toInt - (a0 : Int)).toNat then co (x_4.toInt - (a0 : Int)).toNat else fa (-(co (x_4.toInt - (a0 : Int)).toNat) - 16).toNat) = x_36.toInt from (by rw [if_neg (by omega), show (-(co (x_4.toInt - (a0 : Int)).toNat) - 16).toNat = v9.toInt.toNat by omega]; exact lax_36.symm), show (x_59.toInt - (a0 : Int)).toNat = (x_4.toInt - (a0 : Int)).toNat + 1 by omega, show (tI M_50 60 33).toInt.toNat = w9.toInt.toNat + 1 by omega]) hw (lv_sub hl [0, 1, 2] rfl)
          · refine lv_aload_n hx hb dX10_goes_64 rfl (lv_at hl 1 rfl) ?_
            refine ti_get (ci := 10) (k := 17) (N := 67) (T := TX10) (v := .ref (A 60 18)) C hw iw_10 rfl ob_60 (by decide) (by decide) fl_X10_55 rfl rfl dX10_goes_65 ?_
            refine lv_iload_n hx hb dX10_goes_68 rfl (lv_at hl 0 rfl) ?_
            refine ti_iald (ci := 10) (k := 17) (n := 128) C hw ob_60 (by decide) (fun _ _ => rfl) (vp_in_iff.mpr (by omega)) dX10_goes_69 ?_
            refine ti_top (y := v9) (((cg (tY_fr f_9) x_4.toNatClampNeg).trans ev9.symm)) ?_
            obtain ⟨x_35, ex_35⟩ : ∃ z : Int64, z = v9.toInt64 := ⟨_, rfl⟩
            refine lv_i2l (v := x_35) hx hb dX10_goes_70 ex_35.symm ?_
            have tx_35 : x_35.toInt = v9.toInt := by rw [ex_35, Int32.toInt_toInt64]
            have lox_35 := (v9 : Int32).le_toInt
            have hix_35 := (v9 : Int32).toInt_lt
            refine lv_goto (tgt := 85) hx hb dX10_goes_71 (by decide) ?_
            refine ti_last (ci := 10) (k := 32) (n := 64) C hw ob_60 (by decide) (fun _ _ => rfl) (vp_in_iff.mpr (by omega)) dX10_goes_85 (fun H locs hw => ?_)
            obtain ⟨M_37, hM_37⟩ : ∃ z : ti_M, z = uZ M_7 60 32 (vp_updL (tZ M_7 60 32) (w9 : Int32).toNatClampNeg x_35) := ⟨_, rfl⟩
            have hw := hw.to hM_37.symm
            have iM_37 : mI Tm M_37 := mI_uZ iM_7 hM_37
            have n6_38 : rn6 fa 6 M_37 := rn6_32 j_17 hM_37
            have hz_39 : rz (pp_su st_11 w9.toInt.toNat x_35.toInt) (w9.toInt + 1) M_37 := rz_up (by have q := j_15; rw [uw9] at q; exact q) hM_37 rfl (by omega) rfl ⟨by omega, by omega⟩ (fun j hj => by omega)
            refine lv_aload_n hx hb dX10_goes_86 rfl (lv_at hl 1 rfl) ?_
            refine lv_dup hx hb dX10_goes_87 rfl ?_
            refine ti_get (ci := 10) (k := 33) (N := 67) (T := TX10) C hw iw_10 rfl ob_60 (by decide) (by decide) fl_X10_320 rfl rfl dX10_goes_88 ?_
            refine ti_top (y := w9) ((tI_uZE hM_37).trans ew9.symm) ?_
            have u_40 : (tI M_37 60 33).toInt = (w9 : Int32).toInt := by rw [((tI_uZE hM_37).trans ew9.symm)]
            refine lv_iconst (v := 1) hx hb dX10_goes_91 (by decide) ?_
            refine lv_iadd hx hb dX10_goes_92 ?_
            refine lv_topi (fun x_41 ex_41 => ?_)
            have tx_41 : x_41.toInt = w9.toInt + 1 := i_add ex_41 rfl (by decide : (1 : Int32).toInt = 1) (by omega) (by omega)
            refine ti_putI (ci := 10) (k := 33) (N := 67) (T := TX10) C hw iw_10 tyX10 tyX10_ok nmX10 rfl ob_60 (by decide) (by decide) fl_X10_320 rfl rfl rfl rfl (fn_10 A _) fs_10_33 dX10_goes_93 (fun H locs hw => ?_)
            obtain ⟨M_42, hM_42⟩ : ∃ z : ti_M, z = uI M_37 60 33 x_41 := ⟨_, rfl⟩
            have hw := hw.to hM_42.symm
            have iM_42 : mI Tm M_42 := mI_uI iM_37 hM_42 (by decide) (by decide) (ib_mk (lo := 0) (hi := 64) (by omega) (by omega))
            have vM_42 : (tI M_42 60 33).toInt = (x_41 : Int32).toInt := by rw [tI_uE hM_42]
            have n6_43 : rn6 fa 6 M_42 := rn6_I n6_38 hM_42
            have hz_44 := rz_I hz_39 hM_42
            obtain ⟨x_57, ex_57⟩ : ∃ z : Int32, z = x_4 + 1 := ⟨_, rfl⟩
            have tx_57 : x_57.toInt = x_4.toInt + 1 := i_add ex_57 rfl (by decide) (by omega) (by omega)
            refine lv_iinc (v := x_57) (lv' := [(2, .int x_57), (0, .ref (A 60 0)), (1, .int a)]) hx hb dX10_goes_96 hl (k := 0) rfl (by rw [ex_57]; rfl) (by decide) rfl (fun ls hl => ?_)
            refine lv_goto (tgt := 12) hx hb dX10_goes_99 (by decide) ?_
            have u_58 : (tI M_42 60 33).toInt = (x_41 : Int32).toInt := by rw [(tI_uE hM_42)]
            exact ih_19 x_57 M_42 (pp_su st_11 w9.toInt.toNat x_35.toInt) _ _ _ (by omega) (by first | omega | decide) (by first | omega | decide) iM_42 (qw.trans (qw_I hM_42 (by decide)) (qw.trans (qw_Z hM_37) f_8)) ((ry_I hM_42).trans ((ry_Z hM_37).trans f_9)) (fI.trans (fI_I hM_42) (fI.trans (fI_Z hM_37) f_10)) (by first | omega | decide) (by omega) (by rw [show (tI M_42 60 33).toInt.toNat = d9 by omega, show x_57.toInt = x_4.toInt + 1 by omega]; exact g9) (by rw [show (tI M_42 60 33).toInt = (w9.toInt + 1) by omega]; exact hz_44) (by omega) n6_43 (by have q := j_18; rw [uw9] at q; rw [← q]; have k1 := kc9.1; have k2 := kc9.2; have sb := sc_b (v := v9.toInt); have k3 : co (x_4.toInt - (a0 : Int)).toNat = v9.toInt := (by rw [k1]; unfold bq_kc; rw [if_neg (by omega), if_pos (by omega)]); rw [rn_p (co := co) (fa := fa) (f := ((a0 : Int) + len - x_4.toInt).toNat) (f' := ((a0 : Int) + len - x_57.toInt).toNat) (i := (x_4.toInt - (a0 : Int)).toNat) (t := w9.toInt.toNat) (st := st_11) (by omega) (by omega), show (if 0 ≤ co (x_4.toInt - (a0 : Int)).toNat then co (x_4.toInt - (a0 : Int)).toNat else fa (-(co (x_4.toInt - (a0 : Int)).toNat) - 16).toNat) = x_35.toInt from (by rw [if_pos (by omega)]; omega), show (x_57.toInt - (a0 : Int)).toNat = (x_4.toInt - (a0 : Int)).toNat + 1 by omega, show (tI M_42 60 33).toInt.toNat = w9.toInt.toNat + 1 by omega]) hw (lv_sub hl [0, 1, 2] rfl)
        · refine lv_aload_n hx hb dX10_goes_32 rfl (lv_at hl 1 rfl) ?_
          refine lv_aload_n hx hb dX10_goes_33 rfl (lv_at hl 1 rfl) ?_
          refine ti_get (ci := 10) (k := 17) (N := 67) (T := TX10) (v := .ref (A 60 18)) C hw iw_10 rfl ob_60 (by decide) (by decide) fl_X10_55 rfl rfl dX10_goes_34 ?_
          refine lv_iload_n hx hb dX10_goes_37 rfl (lv_at hl 0 rfl) ?_
          refine ti_iald (ci := 10) (k := 17) (n := 128) C hw ob_60 (by decide) (fun _ _ => rfl) (vp_in_iff.mpr (by omega)) dX10_goes_38 ?_
          refine ti_top (y := v9) (((cg (tY_fr f_9) x_4.toNatClampNeg).trans ev9.symm)) ?_
          refine ti_callVi (ci := 10) (av := [.int v9]) C hw (z_X10_works l D A cy hJ M_7 iM_7 v9 w9 (ew9.symm) (by omega) (by omega) (by omega) st_11 (by have q := j_15; rw [uw9] at q; exact q)) ⟨ml_X10_337, ym_X10_works, yv_X10_works, yi_X10_works, yc_X10_works⟩ yd_X10_works ob_60 (by decide) rfl rfl hl.1 (Nat.le_of_ble_eq_true rfl) ⟨by decide, by decide⟩ ⟨Nat.zero_le _, Nat.zero_le _⟩ dX10_goes_39 (fun r_25 M_26 H locs hp_26 hw => ?_)
          obtain ⟨fiM_26, z31M_26, hdM_26, hqM_26⟩ := hp_26
          obtain ⟨iM_26, q_27, q_28, b0r_25, b1r_25, p0r_25⟩ := hqM_26
          have n6_29 : rn6 fa 6 M_26 := fun j hj => by rw [z31M_26]; exact j_17 j hj
          rcases hdM_26 with ⟨u1, u2, u3⟩ | ⟨u1, u2, u3, u4⟩ | ⟨u1, u2, u3⟩
          · refine sb_if_ne (tgt := 96) hx hb rfl dX10_goes_42 (by decide) (fun c_42_29 => ?_) (fun h => by omega)
            obtain ⟨x_53, ex_53⟩ : ∃ z : Int32, z = x_4 + 1 := ⟨_, rfl⟩
            have tx_53 : x_53.toInt = x_4.toInt + 1 := i_add ex_53 rfl (by decide) (by omega) (by omega)
            refine lv_iinc (v := x_53) (lv' := [(2, .int x_53), (0, .ref (A 60 0)), (1, .int a)]) hx hb dX10_goes_96 hl (k := 0) rfl (by rw [ex_53]; rfl) (by decide) rfl (fun ls hl => ?_)
            refine lv_goto (tgt := 12) hx hb dX10_goes_99 (by decide) ?_
            have u_54 : 0 ≤ (tI M_26 60 33).toInt ∧ (tI M_26 60 33).toInt ≤ 64 := mI_rd (x := tI M_26 60 33) (k := 33) iM_26 rfl
            exact ih_19 x_53 M_26 (pp_su st_11 (w9.toInt.toNat - 1) (if st_11 (w9.toInt.toNat - 1) = 0 then 1 else 0)) _ _ _ (by omega) (by first | omega | decide) (by first | omega | decide) iM_26 (qw.trans q_27 f_8) ((q_28).trans f_9) (fI.trans fiM_26 f_10) (by first | omega | decide) (by omega) (by rw [show (tI M_26 60 33).toInt.toNat = d9 by omega, show x_53.toInt = x_4.toInt + 1 by omega]; exact g9) (by rw [show (tI M_26 60 33).toInt = w9.toInt by omega]; exact u3) (by omega) n6_29 (by have q := j_18; rw [uw9] at q; rw [← q]; have k1 := kc9.1; have k2 := kc9.2; have sb := sc_b (v := v9.toInt); have k3 : co (x_4.toInt - (a0 : Int)).toNat = -24 := (by rw [k1]; unfold bq_kc; rw [if_pos (by omega)]; omega); rw [rn_n (co := co) (fa := fa) (f := ((a0 : Int) + len - x_4.toInt).toNat) (f' := ((a0 : Int) + len - x_53.toInt).toNat) (i := (x_4.toInt - (a0 : Int)).toNat) (t := w9.toInt.toNat) (st := st_11) (by omega) ⟨k3, by omega⟩, show (x_53.toInt - (a0 : Int)).toNat = (x_4.toInt - (a0 : Int)).toNat + 1 by omega, show (tI M_26 60 33).toInt.toNat = w9.toInt.toNat by omega]) hw (lv_sub hl [0, 1, 2] rfl)
          · refine sb_if_ne (tgt := 96) hx hb rfl dX10_goes_42 (by decide) (fun c_42_30 => ?_) (fun h => by omega)
            obtain ⟨x_55, ex_55⟩ : ∃ z : Int32, z = x_4 + 1 := ⟨_, rfl⟩
            have tx_55 : x_55.toInt = x_4.toInt + 1 := i_add ex_55 rfl (by decide) (by omega) (by omega)
            refine lv_iinc (v := x_55) (lv' := [(2, .int x_55), (0, .ref (A 60 0)), (1, .int a)]) hx hb dX10_goes_96 hl (k := 0) rfl (by rw [ex_55]; rfl) (by decide) rfl (fun ls hl => ?_)
            refine lv_goto (tgt := 12) hx hb dX10_goes_99 (by decide) ?_
            have u_56 : 0 ≤ (tI M_26 60 33).toInt ∧ (tI M_26 60 33).toInt ≤ 64 := mI_rd (x := tI M_26 60 33) (k := 33) iM_26 rfl
            exact ih_19 x_55 M_26 (pp_su st_11 (w9.toInt.toNat - 2) (bl_w (bq_sc v9.toInt) (st_11 (w9.toInt.toNat - 2)) (st_11 (w9.toInt.toNat - 1)))) _ _ _ (by omega) (by first | omega | decide) (by first | omega | decide) iM_26 (qw.trans q_27 f_8) ((q_28).trans f_9) (fI.trans fiM_26 f_10) (by first | omega | decide) (by omega) (by rw [show (tI M_26 60 33).toInt.toNat = d9 by omega, show x_55.toInt = x_4.toInt + 1 by omega]; exact g9) (by rw [show (tI M_26 60 33).toInt = (w9.toInt - 1) by omega]; exact u4) (by omega) n6_29 (by have q := j_18; rw [uw9] at q; rw [← q]; have k1 := kc9.1; have k2 := kc9.2; have sb := sc_b (v := v9.toInt); have k3 : co (x_4.toInt - (a0 : Int)).toNat = -(bq_sc v9.toInt) := (by rw [k1]; unfold bq_kc; rw [if_pos (by omega)]); have k4 : -(co (x_4.toInt - (a0 : Int)).toNat) = bq_sc v9.toInt := (by omega); rw [rn_b (co := co) (fa := fa) (f := ((a0 : Int) + len - x_4.toInt).toNat) (f' := ((a0 : Int) + len - x_55.toInt).toNat) (i := (x_4.toInt - (a0 : Int)).toNat) (t := w9.toInt.toNat) (st := st_11) (by omega) ⟨by omega, by omega, by omega⟩ (by rw [k4]; omega), k4, show (x_55.toInt - (a0 : Int)).toNat = (x_4.toInt - (a0 : Int)).toNat + 1 by omega, show (tI M_26 60 33).toInt.toNat = w9.toInt.toNat - 1 by omega]) hw (lv_sub hl [0, 1, 2] rfl)
          · refine sb_if_ne (tgt := 96) hx hb rfl dX10_goes_42 (by decide) (fun h => by omega) (fun c_42_31 => ?_)
            refine lv_iconst (v := 0) hx hb dX10_goes_45 (by decide) ?_
            exact hQ _ _ _ _ _ _ hw rfl (⟨(fI.trans fiM_26 f_10), Or.inr ⟨by decide, (by have q := j_18; rw [uw9] at q; rw [← q]; have k1 := kc9.1; have sb := sc_b (v := v9.toInt); have k3 : co (x_4.toInt - (a0 : Int)).toNat = -(bq_sc v9.toInt) := (by rw [k1]; unfold bq_kc; rw [if_pos (by omega)]); have k4 : -(co (x_4.toInt - (a0 : Int)).toNat) = bq_sc v9.toInt := (by omega); rw [rn_x (co := co) (fa := fa) (f := ((a0 : Int) + len - x_4.toInt).toNat) (f' := ((a0 : Int) + len - x_4.toInt - 1).toNat) (i := (x_4.toInt - (a0 : Int)).toNat) (t := w9.toInt.toNat) (st := st_11) (by omega) ⟨by omega, by omega, by omega⟩ (by rw [k4]; omega)])⟩, iM_26, (qw.trans q_27 f_8), ((q_28).trans f_9), by first | omega | decide, by first | omega | decide⟩) dX10_goes_46
  exact hl_12_18 ((64 - x_3.toInt : Int).toNat + 1) x_3 M_1 (fun _ => 0) _ _ _ (Nat.lt_succ_self _) (by first | omega | decide) (by first | omega | decide) iM_1 (qw_I hM_1 (by decide)) (ry_I hM_1) (fI_I hM_1) (by first | omega | decide) (by rw [((cg (tY_uIE hM_1) a.toNatClampNeg).symm.trans ((cg (tY_uIE hM_1) a.toNatClampNeg).trans wx_3))]; exact Int.le_refl _) (by rw [tI_uE hM_1]; exact gd_0 ((cg (tY_uIE hM_1) a.toNatClampNeg).symm.trans ((cg (tY_uIE hM_1) a.toNatClampNeg).trans wx_3))) (fun j hj => absurd hj (by rw [tI_uE hM_1]; have := (by decide : (0 : Int32).toInt = 0); omega)) (by have h0 : x_3.toInt = (a0 : Int) := (by rw [← ((cg (tY_uIE hM_1) a.toNatClampNeg).symm.trans ((cg (tY_uIE hM_1) a.toNatClampNeg).trans wx_3))]; exact ha0); omega) n6_2 (by have h0 := (show x_3.toInt = (a0 : Int) from by rw [← ((cg (tY_uIE hM_1) a.toNatClampNeg).symm.trans ((cg (tY_uIE hM_1) a.toNatClampNeg).trans wx_3))]; exact ha0); rw [tI_uE hM_1, show ((a0 : Int) + len - x_3.toInt) = len by omega, show (x_3.toInt - (a0 : Int)).toNat = 0 by omega]; rfl) hw (lv_sub hl [0, 1, 2] rfl)
end
section
variable {Tc : gC} {Tm : gM}
variable {Tc : gC} {Tm : gM}
theorem rd_k {M : ti_M} {k n : Nat} {z v : Int32} (hz : z.toInt = (n : Int)) (pf : tY M 60 k z.toNatClampNeg = v) : (tY M 60 k n).toInt = v.toInt := by rw [i_cl hz] at pf; rw [pf]
theorem eR_lw {q : Nat} {N M : ti_M} (h : eR q N M) : lw N M := fun k h1 h2 => funext fun i => h.2 k i (fun b => by have := b.1; omega)
theorem qR_41 {n q m : Nat} {s : Nat → Int} {M N : ti_M} {z v : Int32} {x : Int} (h : qR n q s M) (hz : z.toInt = ((8 * q + m : Nat) : Int)) (hv : v.toInt = x) (e : N = uY M 60 41 (upd (tY M 60 41) z.toNatClampNeg v)) (hm : m < 8) (hn : n ≤ 8) : qR n q (pp_su s (160 + m) x) N := by
  rw [i_cl hz] at e
  obtain ⟨a, b, c, d, f, g⟩ := h
  have o : ∀ k2 : Nat, k2 ≠ 41 → tY N 60 k2 = tY M 60 k2 := fun k2 h2 => tY_nE e (nk h2)
  have gk : ∀ j : Nat, j ≠ 160 + m → pp_su s (160 + m) x j = s j := fun j hj => su_n hj
  have gs : pp_su s (160 + m) x (160 + m) = x := su_s
  refine ⟨by rw [gk 2 (by omega), gk 3 (by omega), gk 4 (by omega), gk 5 (by omega), o 34 (by decide), o 38 (by decide), o 35 (by decide), o 36 (by decide)]; exact a, fun p h1 h2 => ?_, fun j hj => by rw [gk (112 + j) (by omega), o 49 (by decide)]; exact c j hj, fun m2 h2 => ?_, fun m2 h2 => ?_, ?_⟩
  · rw [gk 3 (by omega)] at h2
    rw [gk (96 + p) (by omega), o 39 (by decide)]; exact b p h1 h2
  · refine ⟨by rw [gk _ (by omega), o 40 (by decide)]; exact (d m2 h2).1, by rw [gk _ (by omega), o 44 (by decide)]; exact (d m2 h2).2.1, by
      by_cases w : m2 = m
      · subst w; rw [gs, tY_uE e, pk_us, hv]
      · rw [gk _ (by omega), tY_uE e, pk_un (by omega)]; exact (d m2 h2).2.2.1, by rw [gk _ (by omega), o 42 (by decide)]; exact (d m2 h2).2.2.2.1, by rw [gk _ (by omega), o 43 (by decide)]; exact (d m2 h2).2.2.2.2.1, by rw [gk _ (by omega), o 47 (by decide)]; exact (d m2 h2).2.2.2.2.2⟩
  · rw [gk (128 + m2) (by omega), gk (208 + m2) (by omega), gk (224 + m2) (by omega), o 45 (by decide), o 46 (by decide)]; exact f m2 h2
  · rw [gk 1 (by omega), o 37 (by decide)]
    split at g
    · rename_i w
      rw [if_pos w]
      intro m2 h2
      rw [gk (256 + m2) (by omega)]; exact g m2 h2
    · rename_i w
      rw [if_neg w]; exact g
theorem qR_42 {n q m : Nat} {s : Nat → Int} {M N : ti_M} {z v : Int32} {x : Int} (h : qR n q s M) (hz : z.toInt = ((8 * q + m : Nat) : Int)) (hv : v.toInt = x) (e : N = uY M 60 42 (upd (tY M 60 42) z.toNatClampNeg v)) (hm : m < 8) (hn : n ≤ 8) : qR n q (pp_su s (176 + m) x) N := by
  rw [i_cl hz] at e
  obtain ⟨a, b, c, d, f, g⟩ := h
  have o : ∀ k2 : Nat, k2 ≠ 42 → tY N 60 k2 = tY M 60 k2 := fun k2 h2 => tY_nE e (nk h2)
  have gk : ∀ j : Nat, j ≠ 176 + m → pp_su s (176 + m) x j = s j := fun j hj => su_n hj
  have gs : pp_su s (176 + m) x (176 + m) = x := su_s
  refine ⟨by rw [gk 2 (by omega), gk 3 (by omega), gk 4 (by omega), gk 5 (by omega), o 34 (by decide), o 38 (by decide), o 35 (by decide), o 36 (by decide)]; exact a, fun p h1 h2 => ?_, fun j hj => by rw [gk (112 + j) (by omega), o 49 (by decide)]; exact c j hj, fun m2 h2 => ?_, fun m2 h2 => ?_, ?_⟩
  · rw [gk 3 (by omega)] at h2
    rw [gk (96 + p) (by omega), o 39 (by decide)]; exact b p h1 h2
  · refine ⟨by rw [gk _ (by omega), o 40 (by decide)]; exact (d m2 h2).1, by rw [gk _ (by omega), o 44 (by decide)]; exact (d m2 h2).2.1, by rw [gk _ (by omega), o 41 (by decide)]; exact (d m2 h2).2.2.1, by
      by_cases w : m2 = m
      · subst w; rw [gs, tY_uE e, pk_us, hv]
      · rw [gk _ (by omega), tY_uE e, pk_un (by omega)]; exact (d m2 h2).2.2.2.1, by rw [gk _ (by omega), o 43 (by decide)]; exact (d m2 h2).2.2.2.2.1, by rw [gk _ (by omega), o 47 (by decide)]; exact (d m2 h2).2.2.2.2.2⟩
  · rw [gk (128 + m2) (by omega), gk (208 + m2) (by omega), gk (224 + m2) (by omega), o 45 (by decide), o 46 (by decide)]; exact f m2 h2
  · rw [gk 1 (by omega), o 37 (by decide)]
    split at g
    · rename_i w
      rw [if_pos w]
      intro m2 h2
      rw [gk (256 + m2) (by omega)]; exact g m2 h2
    · rename_i w
      rw [if_neg w]; exact g
theorem qR_43 {n q m : Nat} {s : Nat → Int} {M N : ti_M} {z v : Int32} {x : Int} (h : qR n q s M) (hz : z.toInt = ((8 * q + m : Nat) : Int)) (hv : v.toInt = x) (e : N = uY M 60 43 (upd (tY M 60 43) z.toNatClampNeg v)) (hm : m < 8) (hn : n ≤ 8) : qR n q (pp_su s (192 + m) x) N := by
  rw [i_cl hz] at e
  obtain ⟨a, b, c, d, f, g⟩ := h
  have o : ∀ k2 : Nat, k2 ≠ 43 → tY N 60 k2 = tY M 60 k2 := fun k2 h2 => tY_nE e (nk h2)
  have gk : ∀ j : Nat, j ≠ 192 + m → pp_su s (192 + m) x j = s j := fun j hj => su_n hj
  have gs : pp_su s (192 + m) x (192 + m) = x := su_s
  refine ⟨by rw [gk 2 (by omega), gk 3 (by omega), gk 4 (by omega), gk 5 (by omega), o 34 (by decide), o 38 (by decide), o 35 (by decide), o 36 (by decide)]; exact a, fun p h1 h2 => ?_, fun j hj => by rw [gk (112 + j) (by omega), o 49 (by decide)]; exact c j hj, fun m2 h2 => ?_, fun m2 h2 => ?_, ?_⟩
  · rw [gk 3 (by omega)] at h2
    rw [gk (96 + p) (by omega), o 39 (by decide)]; exact b p h1 h2
  · refine ⟨by rw [gk _ (by omega), o 40 (by decide)]; exact (d m2 h2).1, by rw [gk _ (by omega), o 44 (by decide)]; exact (d m2 h2).2.1, by rw [gk _ (by omega), o 41 (by decide)]; exact (d m2 h2).2.2.1, by rw [gk _ (by omega), o 42 (by decide)]; exact (d m2 h2).2.2.2.1, by
      by_cases w : m2 = m
      · subst w; rw [gs, tY_uE e, pk_us, hv]
      · rw [gk _ (by omega), tY_uE e, pk_un (by omega)]; exact (d m2 h2).2.2.2.2.1, by rw [gk _ (by omega), o 47 (by decide)]; exact (d m2 h2).2.2.2.2.2⟩
  · rw [gk (128 + m2) (by omega), gk (208 + m2) (by omega), gk (224 + m2) (by omega), o 45 (by decide), o 46 (by decide)]; exact f m2 h2
  · rw [gk 1 (by omega), o 37 (by decide)]
    split at g
    · rename_i w
      rw [if_pos w]
      intro m2 h2
      rw [gk (256 + m2) (by omega)]; exact g m2 h2
    · rename_i w
      rw [if_neg w]; exact g
theorem qR_47 {n q m : Nat} {s : Nat → Int} {M N : ti_M} {z v : Int32} {x : Int} (h : qR n q s M) (hz : z.toInt = ((8 * q + m : Nat) : Int)) (hv : v.toInt = x) (e : N = uY M 60 47 (upd (tY M 60 47) z.toNatClampNeg v)) (hm : m < 8) (hn : n ≤ 8) : qR n q (pp_su s (240 + m) x) N := by
  rw [i_cl hz] at e
  obtain ⟨a, b, c, d, f, g⟩ := h
  have o : ∀ k2 : Nat, k2 ≠ 47 → tY N 60 k2 = tY M 60 k2 := fun k2 h2 => tY_nE e (nk h2)
  have gk : ∀ j : Nat, j ≠ 240 + m → pp_su s (240 + m) x j = s j := fun j hj => su_n hj
  have gs : pp_su s (240 + m) x (240 + m) = x := su_s
  refine ⟨by rw [gk 2 (by omega), gk 3 (by omega), gk 4 (by omega), gk 5 (by omega), o 34 (by decide), o 38 (by decide), o 35 (by decide), o 36 (by decide)]; exact a, fun p h1 h2 => ?_, fun j hj => by rw [gk (112 + j) (by omega), o 49 (by decide)]; exact c j hj, fun m2 h2 => ?_, fun m2 h2 => ?_, ?_⟩
  · rw [gk 3 (by omega)] at h2
    rw [gk (96 + p) (by omega), o 39 (by decide)]; exact b p h1 h2
  · refine ⟨by rw [gk _ (by omega), o 40 (by decide)]; exact (d m2 h2).1, by rw [gk _ (by omega), o 44 (by decide)]; exact (d m2 h2).2.1, by rw [gk _ (by omega), o 41 (by decide)]; exact (d m2 h2).2.2.1, by rw [gk _ (by omega), o 42 (by decide)]; exact (d m2 h2).2.2.2.1, by rw [gk _ (by omega), o 43 (by decide)]; exact (d m2 h2).2.2.2.2.1, by
      by_cases w : m2 = m
      · subst w; rw [gs, tY_uE e, pk_us, hv]
      · rw [gk _ (by omega), tY_uE e, pk_un (by omega)]; exact (d m2 h2).2.2.2.2.2⟩
  · rw [gk (128 + m2) (by omega), gk (208 + m2) (by omega), gk (224 + m2) (by omega), o 45 (by decide), o 46 (by decide)]; exact f m2 h2
  · rw [gk 1 (by omega), o 37 (by decide)]
    split at g
    · rename_i w
      rw [if_pos w]
      intro m2 h2
      rw [gk (256 + m2) (by omega)]; exact g m2 h2
    · rename_i w
      rw [if_neg w]; exact g
theorem qR_35 {n q : Nat} {s : Nat → Int} {M N : ti_M} {z v : Int32} {x : Int} (h : qR n q s M) (hz : z.toInt = (q : Int)) (hv : v.toInt = x) (e : N = uY M 60 35 (upd (tY M 60 35) z.toNatClampNeg v)) : qR n q (pp_su s 4 x) N := by
  rw [i_cl hz] at e
  obtain ⟨a, b, c, d, f, g⟩ := h
  have o : ∀ k2 : Nat, k2 ≠ 35 → tY N 60 k2 = tY M 60 k2 := fun k2 h2 => tY_nE e (nk h2)
  have gk : ∀ j : Nat, j ≠ 4 → pp_su s 4 x j = s j := fun j hj => su_n hj
  have gs : pp_su s 4 x 4 = (tY N 60 35 q).toInt := by rw [su_s, tY_uE e, pk_us, hv]
  refine ⟨by rw [gs, gk 2 (by decide), gk 3 (by decide), gk 5 (by decide), o 34 (by decide), o 38 (by decide), o 36 (by decide)]; exact ⟨a.1, a.2.1, rfl, a.2.2.2⟩, fun p h1 h2 => ?_, fun j hj => by rw [gk (112 + j) (by omega), o 49 (by decide)]; exact c j hj, fun m2 h2 => ?_, fun m2 h2 => ?_, ?_⟩
  · rw [gk 3 (by decide)] at h2
    rw [gk (96 + p) (by omega), o 39 (by decide)]; exact b p h1 h2
  · rw [gk (128 + m2) (by omega), gk (144 + m2) (by omega), gk (160 + m2) (by omega), gk (176 + m2) (by omega), gk (192 + m2) (by omega), gk (240 + m2) (by omega), o 40 (by decide), o 44 (by decide), o 41 (by decide), o 42 (by decide), o 43 (by decide), o 47 (by decide)]; exact d m2 h2
  · rw [gk (128 + m2) (by omega), gk (208 + m2) (by omega), gk (224 + m2) (by omega), o 45 (by decide), o 46 (by decide)]; exact f m2 h2
  · rw [gk 1 (by decide), o 37 (by decide)]
    split at g
    · rename_i w
      rw [if_pos w]
      intro m2 h2
      rw [gk (256 + m2) (by omega)]; exact g m2 h2
    · rename_i w
      rw [if_neg w]; exact g
theorem qR_36 {n q : Nat} {s : Nat → Int} {M N : ti_M} {z v : Int32} {x : Int} (h : qR n q s M) (hz : z.toInt = (q : Int)) (hv : v.toInt = x) (e : N = uY M 60 36 (upd (tY M 60 36) z.toNatClampNeg v)) : qR n q (pp_su s 5 x) N := by
  rw [i_cl hz] at e
  obtain ⟨a, b, c, d, f, g⟩ := h
  have o : ∀ k2 : Nat, k2 ≠ 36 → tY N 60 k2 = tY M 60 k2 := fun k2 h2 => tY_nE e (nk h2)
  have gk : ∀ j : Nat, j ≠ 5 → pp_su s 5 x j = s j := fun j hj => su_n hj
  have gs : pp_su s 5 x 5 = (tY N 60 36 q).toInt := by rw [su_s, tY_uE e, pk_us, hv]
  refine ⟨by rw [gs, gk 2 (by decide), gk 3 (by decide), gk 4 (by decide), o 34 (by decide), o 38 (by decide), o 35 (by decide)]; exact ⟨a.1, a.2.1, a.2.2.1, rfl⟩, fun p h1 h2 => ?_, fun j hj => by rw [gk (112 + j) (by omega), o 49 (by decide)]; exact c j hj, fun m2 h2 => ?_, fun m2 h2 => ?_, ?_⟩
  · rw [gk 3 (by decide)] at h2
    rw [gk (96 + p) (by omega), o 39 (by decide)]; exact b p h1 h2
  · rw [gk (128 + m2) (by omega), gk (144 + m2) (by omega), gk (160 + m2) (by omega), gk (176 + m2) (by omega), gk (192 + m2) (by omega), gk (240 + m2) (by omega), o 40 (by decide), o 44 (by decide), o 41 (by decide), o 42 (by decide), o 43 (by decide), o 47 (by decide)]; exact d m2 h2
  · rw [gk (128 + m2) (by omega), gk (208 + m2) (by omega), gk (224 + m2) (by omega), o 45 (by decide), o 46 (by decide)]; exact f m2 h2
  · rw [gk 1 (by decide), o 37 (by decide)]
    split at g
    · rename_i w
      rw [if_pos w]
      intro m2 h2
      rw [gk (256 + m2) (by omega)]; exact g m2 h2
    · rename_i w
      rw [if_neg w]; exact g
theorem qR_34 {n q : Nat} {s : Nat → Int} {M N : ti_M} {z v : Int32} {x : Int} (h : qR n q s M) (hz : z.toInt = (q : Int)) (hv : v.toInt = x) (e : N = uY M 60 34 (upd (tY M 60 34) z.toNatClampNeg v)) : qR n q (pp_su s 2 x) N := by
  rw [i_cl hz] at e
  obtain ⟨a, b, c, d, f, g⟩ := h
  have o : ∀ k2 : Nat, k2 ≠ 34 → tY N 60 k2 = tY M 60 k2 := fun k2 h2 => tY_nE e (nk h2)
  have gk : ∀ j : Nat, j ≠ 2 → pp_su s 2 x j = s j := fun j hj => su_n hj
  have gs : pp_su s 2 x 2 = (tY N 60 34 q).toInt := by rw [su_s, tY_uE e, pk_us, hv]
  refine ⟨by rw [gs, gk 3 (by decide), gk 4 (by decide), gk 5 (by decide), o 38 (by decide), o 35 (by decide), o 36 (by decide)]; exact ⟨rfl, a.2⟩, fun p h1 h2 => ?_, fun j hj => by rw [gk (112 + j) (by omega), o 49 (by decide)]; exact c j hj, fun m2 h2 => ?_, fun m2 h2 => ?_, ?_⟩
  · rw [gk 3 (by decide)] at h2
    rw [gk (96 + p) (by omega), o 39 (by decide)]; exact b p h1 h2
  · rw [gk (128 + m2) (by omega), gk (144 + m2) (by omega), gk (160 + m2) (by omega), gk (176 + m2) (by omega), gk (192 + m2) (by omega), gk (240 + m2) (by omega), o 40 (by decide), o 44 (by decide), o 41 (by decide), o 42 (by decide), o 43 (by decide), o 47 (by decide)]; exact d m2 h2
  · rw [gk (128 + m2) (by omega), gk (208 + m2) (by omega), gk (224 + m2) (by omega), o 45 (by decide), o 46 (by decide)]; exact f m2 h2
  · rw [gk 1 (by decide), o 37 (by decide)]
    split at g
    · rename_i w
      rw [if_pos w]
      intro m2 h2
      rw [gk (256 + m2) (by omega)]; exact g m2 h2
    · rename_i w
      rw [if_neg w]; exact g
theorem qR_rows {n q : Nat} {s : Nat → Int} {M N : ti_M} (h : qR n q s M) (o : ∀ k i : Nat, bk q k i → tY N 60 k i = tY M 60 k i) (hn : n ≤ 8) : qR n q s N := by
  obtain ⟨a, b, c, d, f, g⟩ := h
  have q1 : ∀ k : Nat, 34 ≤ k → k ≤ 38 → tY N 60 k q = tY M 60 k q := fun k h1 h2 => o k q ⟨h1, by omega, by rw [if_pos h2]⟩
  have q8 : ∀ k i : Nat, 39 ≤ k → k ≤ 48 → i < 8 → tY N 60 k (8 * q + i) = tY M 60 k (8 * q + i) := fun k i h1 h2 h3 => o k _ ⟨by omega, by omega, by rw [if_neg (by omega), if_pos h2]; omega⟩
  refine ⟨by rw [q1 34 (by decide) (by decide), q1 38 (by decide) (by decide), q1 35 (by decide) (by decide), q1 36 (by decide) (by decide)]; exact a, fun p h1 h2 => by rw [q8 39 p (by decide) (by decide) h1]; exact b p h1 h2, fun j hj => by rw [o 49 (3 * q + j) ⟨by decide, by decide, by rw [if_neg (by decide), if_neg (by decide)]; omega⟩]; exact c j hj, fun m h2 => ?_, fun m h2 => ?_, ?_⟩
  · rw [q8 40 m (by decide) (by decide) (by omega), q8 44 m (by decide) (by decide) (by omega), q8 41 m (by decide) (by decide) (by omega), q8 42 m (by decide) (by decide) (by omega), q8 43 m (by decide) (by decide) (by omega), q8 47 m (by decide) (by decide) (by omega)]; exact d m h2
  · rw [q8 45 m (by decide) (by decide) (by omega), q8 46 m (by decide) (by decide) (by omega)]; exact f m h2
  · rw [q1 37 (by decide) (by decide)]; exact g
theorem qV_rows {n q : Nat} {s : Nat → Int} {M N : ti_M} (h : qV n q s M) (o : ∀ k i : Nat, bk q k i → tY N 60 k i = tY M 60 k i) (hn : n ≤ 8) : qV n q s N := fun m hm => by
  rw [o 48 (8 * q + m) ⟨by decide, by decide, by rw [if_neg (by decide), if_pos (by decide)]; omega⟩]; exact h m hm
theorem qR_of {n q : Nat} {s : Nat → Int} {M N : ti_M} (h : qR n q s M) (e : N.2.1 = M.2.1) : qR n q s N := by
  unfold qR
  rw [tY_fr e, tY_fr e, tY_fr e, tY_fr e, tY_fr e]
  have e2 : ∀ k : Nat, tY N 60 k = tY M 60 k := fun k => tY_fr e
  simp only [e2]
  exact h
theorem qR_I {n q k : Nat} {s : Nat → Int} {M N : ti_M} {v : Int32} (h : qR n q s M) (e : N = uI M 60 k v) : qR n q s N := by subst e; exact h
theorem qR_Z {n q k : Nat} {s : Nat → Int} {M N : ti_M} {f : Nat → Int64} (h : qR n q s M) (e : N = uZ M 60 k f) : qR n q s N := by subst e; exact h
end
section
variable {Tc : gC} {Tm : gM}
set_option maxHeartbeats 4000000 in
set_option maxRecDepth 100000 in
theorem z_X10_calls_0 (l : Launch) (D : va_G) (A : Nat → Nat → Nat) (cy : Nat → ClassId) (hJ : ti_inj ti_LM A) (M : ti_M) (hI : mI Tm M) (a b t : Int32) (h1 : 0 ≤ a.toInt) (h2 : a.toInt ≤ 7) (tx rg : Nat → Int) (htr : tR tx M) (ht4 : 0 ≤ tx 4 ∧ tx 4 ≤ 8) (hr : qR (tx 4).toNat 0 rg M) (ha : a.toInt < tx 4) (hst : rg (128 + a.toInt.toNat) = 1) (htm : t.toInt = rg 2) : ti_Kv l yX10_calls cX10_calls 6 0 ti_LM D A cy M [.ref (A 60 0), .int 0, .int a, .int b, .int t] (fun M2 => rn6 (bq_fa tx rg a.toInt b.toInt) 6 M2 ∧ fI M2 M ∧ mI Tm M2 ∧ qw M2 M ∧ M2.2.1 = M.2.1) := by
  refine ti_eV yp_X10_calls hJ ti_LM_nd (Nat.le_of_ble_eq_true rfl) ?_
  intro p e s m args below meth c Q H0 C hQ hw ls hl
  have hx := C.1
  have hb := C.2.1
  have hl : lv_has ls 6 [(0, .ref (A 60 0)), (1, .int 0), (2, .int a), (3, .int b), (4, .int t)] := hl
  refine lv_bipush (v := 8) hx hb dX10_calls_0 (by decide) ?_
  refine lv_iload_n hx hb dX10_calls_2 rfl (lv_at hl 1 rfl) ?_
  refine lv_imul hx hb dX10_calls_3 ?_
  refine ti_top (y := 0) (by decide) ?_
  refine lv_iload_n hx hb dX10_calls_4 rfl (lv_at hl 2 rfl) ?_
  refine lv_iadd hx hb dX10_calls_5 ?_
  refine lv_topi (fun x_1 ex_1 => ?_)
  have tx_1 : x_1.toInt = 0 + a.toInt := i_add ex_1 (by decide : (0 : Int32).toInt = 0) rfl (by omega) (by omega)
  refine lv_istore (lv' := [(5, .int x_1), (0, .ref (A 60 0)), (1, .int 0), (2, .int a), (3, .int b), (4, .int t)]) hx hb dX10_calls_6 hl (by decide) rfl (fun ls hl => ?_)
  refine lv_aload_n hx hb dX10_calls_8 rfl (lv_at hl 1 rfl) ?_
  refine ti_get (ci := 10) (k := 31) (N := 67) (T := TX10) (v := .ref (A 60 32)) C hw iw_10 rfl ob_60 (by decide) (by decide) fl_X10_62 rfl rfl dX10_calls_9 ?_
  refine lv_iconst (v := 0) hx hb dX10_calls_12 (by decide) ?_
  refine lv_aload_n hx hb dX10_calls_13 rfl (lv_at hl 1 rfl) ?_
  refine ti_get (ci := 10) (k := 5) (N := 67) (T := TX10) (v := .ref (A 60 6)) C hw iw_10 rfl ob_60 (by decide) (by decide) fl_X10_19 rfl rfl dX10_calls_14 ?_
  refine lv_iload_n hx hb dX10_calls_17 rfl (lv_at hl 3 rfl) ?_
  refine ti_iald (ci := 10) (k := 5) (n := 16) C hw ob_60 (by decide) (fun _ _ => rfl) (vp_in_iff.mpr (by omega)) dX10_calls_18 ?_
  refine lv_topi (fun x_2 ex_2 => ?_)
  have yx_2 : tY M 60 5 a.toNatClampNeg = x_2 := (ex_2.symm)
  have L_3 : tx (100 + 16 * a.toInt.toNat + 1) = x_2.toInt := (htr.2.2.1 (a.toInt.toNat) (by omega) (by omega)).1.trans ((congrArg Int32.toInt (cg rfl (a.toInt.toNat))).symm.trans (rd_k (n := a.toInt.toNat) (by omega) (yx_2)))
  obtain ⟨x_4, ex_4⟩ : ∃ z : Int64, z = x_2.toInt64 := ⟨_, rfl⟩
  refine lv_i2l (v := x_4) hx hb dX10_calls_19 ex_4.symm ?_
  have tx_4 : x_4.toInt = x_2.toInt := by rw [ex_4, Int32.toInt_toInt64]
  have lox_4 := (x_2 : Int32).le_toInt
  have hix_4 := (x_2 : Int32).toInt_lt
  refine ti_last (ci := 10) (k := 31) (n := 6) C hw ob_60 (by decide) (fun _ _ => rfl) (by unfold vp_in; decide) dX10_calls_20 (fun H locs hw => ?_)
  obtain ⟨M_5, hM_5⟩ : ∃ z : ti_M, z = uZ M 60 31 (vp_updL (tZ M 60 31) (0 : Int32).toNatClampNeg x_4) := ⟨_, rfl⟩
  have hw := hw.to hM_5.symm
  have iM_5 : mI Tm M_5 := mI_uZ hI hM_5
  have hs_6 : qR (tx 4).toNat 0 rg M_5 := qR_Z hr hM_5
  have hF_7 : rn6 (bq_fa tx rg a.toInt b.toInt) (0 + 1) M_5 := rn6_s rn6_0 hM_5 (by decide) (by show _ = bq_fa _ _ _ _ 0; unfold bq_fa; (repeat (first | rw [if_pos (by omega)] | rw [if_neg (by omega)])); omega) ⟨by omega, by omega⟩
  refine lv_aload_n hx hb dX10_calls_21 rfl (lv_at hl 1 rfl) ?_
  refine ti_get (ci := 10) (k := 31) (N := 67) (T := TX10) (v := .ref (A 60 32)) C hw iw_10 rfl ob_60 (by decide) (by decide) fl_X10_62 rfl rfl dX10_calls_22 ?_
  refine lv_iconst (v := 1) hx hb dX10_calls_25 (by decide) ?_
  refine lv_aload_n hx hb dX10_calls_26 rfl (lv_at hl 1 rfl) ?_
  refine ti_get (ci := 10) (k := 6) (N := 67) (T := TX10) (v := .ref (A 60 7)) C hw iw_10 rfl ob_60 (by decide) (by decide) fl_X10_22 rfl rfl dX10_calls_27 ?_
  refine lv_iload_n hx hb dX10_calls_30 rfl (lv_at hl 3 rfl) ?_
  refine ti_iald (ci := 10) (k := 6) (n := 16) C hw ob_60 (by decide) (fun _ _ => rfl) (vp_in_iff.mpr (by omega)) dX10_calls_31 ?_
  refine lv_topi (fun x_8 ex_8 => ?_)
  have yx_8 : tY M_5 60 6 a.toNatClampNeg = x_8 := (ex_8.symm)
  have wx_8 : tY M 60 6 a.toNatClampNeg = x_8 := ((cg (tY_uZE hM_5) a.toNatClampNeg)).symm.trans yx_8
  have L_9 : tx (100 + 16 * a.toInt.toNat + 2) = x_8.toInt := (htr.2.2.1 (a.toInt.toNat) (by omega) (by omega)).2.1.trans ((congrArg Int32.toInt (cg ((tY_uZE hM_5)) (a.toInt.toNat))).symm.trans (rd_k (n := a.toInt.toNat) (by omega) ((cg (tY_uZE hM_5) a.toNatClampNeg).trans wx_8)))
  obtain ⟨x_10, ex_10⟩ : ∃ z : Int64, z = x_8.toInt64 := ⟨_, rfl⟩
  refine lv_i2l (v := x_10) hx hb dX10_calls_32 ex_10.symm ?_
  have tx_10 : x_10.toInt = x_8.toInt := by rw [ex_10, Int32.toInt_toInt64]
  have lox_10 := (x_8 : Int32).le_toInt
  have hix_10 := (x_8 : Int32).toInt_lt
  refine ti_last (ci := 10) (k := 31) (n := 6) C hw ob_60 (by decide) (fun _ _ => rfl) (by unfold vp_in; decide) dX10_calls_33 (fun H locs hw => ?_)
  obtain ⟨M_11, hM_11⟩ : ∃ z : ti_M, z = uZ M_5 60 31 (vp_updL (tZ M_5 60 31) (1 : Int32).toNatClampNeg x_10) := ⟨_, rfl⟩
  have hw := hw.to hM_11.symm
  have iM_11 : mI Tm M_11 := mI_uZ iM_5 hM_11
  have hs_12 : qR (tx 4).toNat 0 rg M_11 := qR_Z hs_6 hM_11
  have hF_13 : rn6 (bq_fa tx rg a.toInt b.toInt) (1 + 1) M_11 := rn6_s hF_7 hM_11 (by decide) (by show _ = bq_fa _ _ _ _ 1; unfold bq_fa; (repeat (first | rw [if_pos (by omega)] | rw [if_neg (by omega)])); omega) ⟨by omega, by omega⟩
  refine lv_aload_n hx hb dX10_calls_34 rfl (lv_at hl 1 rfl) ?_
  refine ti_get (ci := 10) (k := 31) (N := 67) (T := TX10) (v := .ref (A 60 32)) C hw iw_10 rfl ob_60 (by decide) (by decide) fl_X10_62 rfl rfl dX10_calls_35 ?_
  refine lv_iconst (v := 2) hx hb dX10_calls_38 (by decide) ?_
  refine lv_aload_n hx hb dX10_calls_39 rfl (lv_at hl 1 rfl) ?_
  refine ti_get (ci := 10) (k := 8) (N := 67) (T := TX10) (v := .ref (A 60 9)) C hw iw_10 rfl ob_60 (by decide) (by decide) fl_X10_28 rfl rfl dX10_calls_40 ?_
  refine lv_iload_n hx hb dX10_calls_43 rfl (lv_at hl 3 rfl) ?_
  refine ti_iald (ci := 10) (k := 8) (n := 16) C hw ob_60 (by decide) (fun _ _ => rfl) (vp_in_iff.mpr (by omega)) dX10_calls_44 ?_
  refine lv_topi (fun x_14 ex_14 => ?_)
  have yx_14 : tY M_11 60 8 a.toNatClampNeg = x_14 := (ex_14.symm)
  have wx_14 : tY M 60 8 a.toNatClampNeg = x_14 := (((cg (tY_uZE hM_11) a.toNatClampNeg).trans (cg (tY_uZE hM_5) a.toNatClampNeg))).symm.trans yx_14
  have L_15 : tx (100 + 16 * a.toInt.toNat + 4) = x_14.toInt := (htr.2.2.1 (a.toInt.toNat) (by omega) (by omega)).2.2.2.1.trans ((congrArg Int32.toInt (cg (((tY_uZE hM_11).trans (tY_uZE hM_5))) (a.toInt.toNat))).symm.trans (rd_k (n := a.toInt.toNat) (by omega) ((cg (tY_uZE hM_11) a.toNatClampNeg).trans ((cg (tY_uZE hM_5) a.toNatClampNeg).trans wx_14))))
  obtain ⟨x_16, ex_16⟩ : ∃ z : Int64, z = x_14.toInt64 := ⟨_, rfl⟩
  refine lv_i2l (v := x_16) hx hb dX10_calls_45 ex_16.symm ?_
  have tx_16 : x_16.toInt = x_14.toInt := by rw [ex_16, Int32.toInt_toInt64]
  have lox_16 := (x_14 : Int32).le_toInt
  have hix_16 := (x_14 : Int32).toInt_lt
  refine ti_last (ci := 10) (k := 31) (n := 6) C hw ob_60 (by decide) (fun _ _ => rfl) (by unfold vp_in; decide) dX10_calls_46 (fun H locs hw => ?_)
  obtain ⟨M_17, hM_17⟩ : ∃ z : ti_M, z = uZ M_11 60 31 (vp_updL (tZ M_11 60 31) (2 : Int32).toNatClampNeg x_16) := ⟨_, rfl⟩
  have hw := hw.to hM_17.symm
  have iM_17 : mI Tm M_17 := mI_uZ iM_11 hM_17
  have hs_18 : qR (tx 4).toNat 0 rg M_17 := qR_Z hs_12 hM_17
  have hF_19 : rn6 (bq_fa tx rg a.toInt b.toInt) (2 + 1) M_17 := rn6_s hF_13 hM_17 (by decide) (by show _ = bq_fa _ _ _ _ 2; unfold bq_fa; (repeat (first | rw [if_pos (by omega)] | rw [if_neg (by omega)])); omega) ⟨by omega, by omega⟩
  refine lv_aload_n hx hb dX10_calls_47 rfl (lv_at hl 1 rfl) ?_
  refine ti_get (ci := 10) (k := 31) (N := 67) (T := TX10) (v := .ref (A 60 32)) C hw iw_10 rfl ob_60 (by decide) (by decide) fl_X10_62 rfl rfl dX10_calls_48 ?_
  refine lv_iconst (v := 3) hx hb dX10_calls_51 (by decide) ?_
  refine lv_aload_n hx hb dX10_calls_52 rfl (lv_at hl 1 rfl) ?_
  refine ti_get (ci := 10) (k := 43) (N := 67) (T := TX10) (v := .ref (A 60 44)) C hw iw_10 rfl ob_60 (by decide) (by decide) fl_X10_96 rfl rfl dX10_calls_53 ?_
  refine lv_iload hx hb dX10_calls_56 (lv_at hl 0 rfl) ?_
  refine ti_iald (ci := 10) (k := 43) (n := 184) C hw ob_60 (by decide) (fun _ _ => rfl) (vp_in_iff.mpr (by omega)) dX10_calls_58 ?_
  refine lv_topi (fun x_20 ex_20 => ?_)
  have yx_20 : tY M_17 60 43 x_1.toNatClampNeg = x_20 := (ex_20.symm)
  have wx_20 : tY M 60 43 x_1.toNatClampNeg = x_20 := (((cg (tY_uZE hM_17) x_1.toNatClampNeg).trans ((cg (tY_uZE hM_11) x_1.toNatClampNeg).trans (cg (tY_uZE hM_5) x_1.toNatClampNeg)))).symm.trans yx_20
  have L_21 : rg (192 + a.toInt.toNat) = x_20.toInt := ((hs_18.2.2.2.1 (a.toInt.toNat) (by omega)).2.2.2.2.1).trans (rd_k (n := 8 * 0 + a.toInt.toNat) (by omega) ((cg (tY_uZE hM_17) x_1.toNatClampNeg).trans ((cg (tY_uZE hM_11) x_1.toNatClampNeg).trans ((cg (tY_uZE hM_5) x_1.toNatClampNeg).trans wx_20))))
  obtain ⟨x_22, ex_22⟩ : ∃ z : Int64, z = x_20.toInt64 := ⟨_, rfl⟩
  refine lv_i2l (v := x_22) hx hb dX10_calls_59 ex_22.symm ?_
  have tx_22 : x_22.toInt = x_20.toInt := by rw [ex_22, Int32.toInt_toInt64]
  have lox_22 := (x_20 : Int32).le_toInt
  have hix_22 := (x_20 : Int32).toInt_lt
  refine ti_last (ci := 10) (k := 31) (n := 6) C hw ob_60 (by decide) (fun _ _ => rfl) (by unfold vp_in; decide) dX10_calls_60 (fun H locs hw => ?_)
  obtain ⟨M_23, hM_23⟩ : ∃ z : ti_M, z = uZ M_17 60 31 (vp_updL (tZ M_17 60 31) (3 : Int32).toNatClampNeg x_22) := ⟨_, rfl⟩
  have hw := hw.to hM_23.symm
  have iM_23 : mI Tm M_23 := mI_uZ iM_17 hM_23
  have hs_24 : qR (tx 4).toNat 0 rg M_23 := qR_Z hs_18 hM_23
  have hF_25 : rn6 (bq_fa tx rg a.toInt b.toInt) (3 + 1) M_23 := rn6_s hF_19 hM_23 (by decide) (by show _ = bq_fa _ _ _ _ 3; unfold bq_fa; (repeat (first | rw [if_pos (by omega)] | rw [if_neg (by omega)])); omega) ⟨by omega, by omega⟩
  refine lv_aload_n hx hb dX10_calls_61 rfl (lv_at hl 1 rfl) ?_
  refine ti_get (ci := 10) (k := 31) (N := 67) (T := TX10) (v := .ref (A 60 32)) C hw iw_10 rfl ob_60 (by decide) (by decide) fl_X10_62 rfl rfl dX10_calls_62 ?_
  refine lv_iconst (v := 4) hx hb dX10_calls_65 (by decide) ?_
  refine lv_iload_n hx hb dX10_calls_66 rfl (lv_at hl 4 rfl) ?_
  obtain ⟨x_26, ex_26⟩ : ∃ z : Int64, z = b.toInt64 := ⟨_, rfl⟩
  refine lv_i2l (v := x_26) hx hb dX10_calls_67 ex_26.symm ?_
  have tx_26 : x_26.toInt = b.toInt := by rw [ex_26, Int32.toInt_toInt64]
  have lox_26 := (b : Int32).le_toInt
  have hix_26 := (b : Int32).toInt_lt
  refine ti_last (ci := 10) (k := 31) (n := 6) C hw ob_60 (by decide) (fun _ _ => rfl) (by unfold vp_in; decide) dX10_calls_68 (fun H locs hw => ?_)
  obtain ⟨M_27, hM_27⟩ : ∃ z : ti_M, z = uZ M_23 60 31 (vp_updL (tZ M_23 60 31) (4 : Int32).toNatClampNeg x_26) := ⟨_, rfl⟩
  have hw := hw.to hM_27.symm
  have iM_27 : mI Tm M_27 := mI_uZ iM_23 hM_27
  have hs_28 : qR (tx 4).toNat 0 rg M_27 := qR_Z hs_24 hM_27
  have hF_29 : rn6 (bq_fa tx rg a.toInt b.toInt) (4 + 1) M_27 := rn6_s hF_25 hM_27 (by decide) (by show _ = bq_fa _ _ _ _ 4; unfold bq_fa; (repeat (first | rw [if_pos (by omega)] | rw [if_neg (by omega)])); omega) ⟨by omega, by omega⟩
  refine lv_aload_n hx hb dX10_calls_69 rfl (lv_at hl 1 rfl) ?_
  refine ti_get (ci := 10) (k := 31) (N := 67) (T := TX10) (v := .ref (A 60 32)) C hw iw_10 rfl ob_60 (by decide) (by decide) fl_X10_62 rfl rfl dX10_calls_70 ?_
  refine lv_iconst (v := 5) hx hb dX10_calls_73 (by decide) ?_
  refine lv_iload hx hb dX10_calls_74 (lv_at hl 5 rfl) ?_
  refine lv_aload_n hx hb dX10_calls_76 rfl (lv_at hl 1 rfl) ?_
  refine ti_get (ci := 10) (k := 45) (N := 67) (T := TX10) (v := .ref (A 60 46)) C hw iw_10 rfl ob_60 (by decide) (by decide) fl_X10_102 rfl rfl dX10_calls_77 ?_
  refine lv_iload hx hb dX10_calls_80 (lv_at hl 0 rfl) ?_
  refine ti_iald (ci := 10) (k := 45) (n := 184) C hw ob_60 (by decide) (fun _ _ => rfl) (vp_in_iff.mpr (by omega)) dX10_calls_82 ?_
  refine lv_topi (fun x_30 ex_30 => ?_)
  have yx_30 : tY M_27 60 45 x_1.toNatClampNeg = x_30 := (ex_30.symm)
  have wx_30 : tY M 60 45 x_1.toNatClampNeg = x_30 := (((cg (tY_uZE hM_27) x_1.toNatClampNeg).trans ((cg (tY_uZE hM_23) x_1.toNatClampNeg).trans ((cg (tY_uZE hM_17) x_1.toNatClampNeg).trans ((cg (tY_uZE hM_11) x_1.toNatClampNeg).trans (cg (tY_uZE hM_5) x_1.toNatClampNeg)))))).symm.trans yx_30
  have L_31 : rg (208 + a.toInt.toNat) = x_30.toInt := ((hs_28.2.2.2.2.1 (a.toInt.toNat) (by omega)).1 (by omega)).trans (rd_k (n := 8 * 0 + a.toInt.toNat) (by omega) ((cg (tY_uZE hM_27) x_1.toNatClampNeg).trans ((cg (tY_uZE hM_23) x_1.toNatClampNeg).trans ((cg (tY_uZE hM_17) x_1.toNatClampNeg).trans ((cg (tY_uZE hM_11) x_1.toNatClampNeg).trans ((cg (tY_uZE hM_5) x_1.toNatClampNeg).trans wx_30))))))
  refine lv_isub hx hb dX10_calls_83 ?_
  refine lv_topi (fun x_32 ex_32 => ?_)
  have tx_32 : x_32.toInt = bw (t.toInt - x_30.toInt) := bw_sub ex_32 rfl rfl
  obtain ⟨x_33, ex_33⟩ : ∃ z : Int64, z = x_32.toInt64 := ⟨_, rfl⟩
  refine lv_i2l (v := x_33) hx hb dX10_calls_84 ex_33.symm ?_
  have tx_33 : x_33.toInt = x_32.toInt := by rw [ex_33, Int32.toInt_toInt64]
  have lox_33 := (x_32 : Int32).le_toInt
  have hix_33 := (x_32 : Int32).toInt_lt
  refine ti_last (ci := 10) (k := 31) (n := 6) C hw ob_60 (by decide) (fun _ _ => rfl) (by unfold vp_in; decide) dX10_calls_85 (fun H locs hw => ?_)
  obtain ⟨M_34, hM_34⟩ : ∃ z : ti_M, z = uZ M_27 60 31 (vp_updL (tZ M_27 60 31) (5 : Int32).toNatClampNeg x_33) := ⟨_, rfl⟩
  have hw := hw.to hM_34.symm
  have iM_34 : mI Tm M_34 := mI_uZ iM_27 hM_34
  have hs_35 : qR (tx 4).toNat 0 rg M_34 := qR_Z hs_28 hM_34
  have hF_36 : rn6 (bq_fa tx rg a.toInt b.toInt) (5 + 1) M_34 := rn6_s hF_29 hM_34 (by decide) (by show _ = bq_fa _ _ _ _ 5; unfold bq_fa; (repeat (first | rw [if_pos (by omega)] | rw [if_neg (by omega)])); unfold bq_wt; (repeat (first | rw [if_pos (by omega)] | rw [if_neg (by omega)])); rw [show rg 2 = t.toInt by omega, L_31, ← tx_32]; omega) ⟨by omega, by omega⟩
  exact hQ _ _ _ _ _ hw (⟨hF_36, (fI.trans (fI_Z hM_34) (fI.trans (fI_Z hM_27) (fI.trans (fI_Z hM_23) (fI.trans (fI_Z hM_17) (fI.trans (fI_Z hM_11) (fI_Z hM_5)))))), iM_34, (qw.trans (qw_Z hM_34) (qw.trans (qw_Z hM_27) (qw.trans (qw_Z hM_23) (qw.trans (qw_Z hM_17) (qw.trans (qw_Z hM_11) (qw_Z hM_5)))))), ((ry_Z hM_34).trans ((ry_Z hM_27).trans ((ry_Z hM_23).trans ((ry_Z hM_17).trans ((ry_Z hM_11).trans (ry_Z hM_5))))))⟩) dX10_calls_86
set_option maxHeartbeats 4000000 in
set_option maxRecDepth 100000 in
theorem z_X10_hasLaw (l : Launch) (D : va_G) (A : Nat → Nat → Nat) (cy : Nat → ClassId) (hJ : ti_inj ti_LM A) (M : ti_M) (hI : mI Tm M) (a : Int32) (h1 : 0 ≤ a.toInt) (h2 : a.toInt ≤ 2) (tx : Nat → Int) (htr : tR tx M) : ti_Ki l yX10_hasLaw cX10_hasLaw 2 (some .boolean) 0 ti_LM D A cy M [.ref (A 60 0), .int a] (fun r M2 => M2 = M ∧ ((r = 1 ∧ 0 < tx (300 + a.toInt.toNat)) ∨ (r = 0 ∧ tx (300 + a.toInt.toNat) = 0))) := by
  refine ti_eI yp_X10_hasLaw hJ ti_LM_nd (Nat.le_of_ble_eq_true rfl) ?_
  intro p e s m args below meth c Q H0 C hQ hw ls hl
  have hx := C.1
  have hb := C.2.1
  have hl : lv_has ls 2 [(0, .ref (A 60 0)), (1, .int a)] := hl
  obtain ⟨a0, ha0, hto, hl0, hD, hco⟩ := htr.2.2.2 a.toInt.toNat (by omega)
  have ha0 : (tY M 60 14 a.toNatClampNeg).toInt = a0 := ha0
  have hto : (tY M 60 15 a.toNatClampNeg).toInt = a0 + tx (300 + a.toInt.toNat) := hto
  refine lv_aload_n hx hb dX10_hasLaw_0 rfl (lv_at hl 0 rfl) ?_
  refine ti_get (ci := 10) (k := 15) (N := 67) (T := TX10) (v := .ref (A 60 16)) C hw iw_10 rfl ob_60 (by decide) (by decide) fl_X10_49 rfl rfl dX10_hasLaw_1 ?_
  refine lv_iload_n hx hb dX10_hasLaw_4 rfl (lv_at hl 1 rfl) ?_
  refine ti_iald (ci := 10) (k := 15) (n := 6) C hw ob_60 (by decide) (fun _ _ => rfl) (vp_in_iff.mpr (by omega)) dX10_hasLaw_5 ?_
  refine lv_topi (fun x_1 ex_1 => ?_)
  have yx_1 : tY M 60 15 a.toNatClampNeg = x_1 := (ex_1.symm)
  have bx_1 : 0 ≤ x_1.toInt ∧ x_1.toInt ≤ 64 := mI_ry (k := 15) (i := a.toNatClampNeg) hI yx_1.symm
  have zx_1 : (tY M 60 15 a.toNatClampNeg).toInt = x_1.toInt := by rw [yx_1]
  refine lv_aload_n hx hb dX10_hasLaw_6 rfl (lv_at hl 0 rfl) ?_
  refine ti_get (ci := 10) (k := 14) (N := 67) (T := TX10) (v := .ref (A 60 15)) C hw iw_10 rfl ob_60 (by decide) (by decide) fl_X10_46 rfl rfl dX10_hasLaw_7 ?_
  refine lv_iload_n hx hb dX10_hasLaw_10 rfl (lv_at hl 1 rfl) ?_
  refine ti_iald (ci := 10) (k := 14) (n := 6) C hw ob_60 (by decide) (fun _ _ => rfl) (vp_in_iff.mpr (by omega)) dX10_hasLaw_11 ?_
  refine lv_topi (fun x_2 ex_2 => ?_)
  have yx_2 : tY M 60 14 a.toNatClampNeg = x_2 := (ex_2.symm)
  have bx_2 : 0 ≤ x_2.toInt ∧ x_2.toInt ≤ 64 := mI_ry (k := 14) (i := a.toNatClampNeg) hI yx_2.symm
  have zx_2 : (tY M 60 14 a.toNatClampNeg).toInt = x_2.toInt := by rw [yx_2]
  refine sb_icmp_le (tgt := 19) hx hb rfl rfl dX10_hasLaw_12 (by decide) (fun c_12_2 => ?_) (fun c_12_2 => ?_)
  · refine lv_iconst (v := 0) hx hb dX10_hasLaw_19 (by decide) ?_
    exact hQ _ _ _ _ _ _ hw rfl (⟨rfl, Or.inr ⟨rfl, by omega⟩⟩) dX10_hasLaw_20
  · refine lv_iconst (v := 1) hx hb dX10_hasLaw_15 (by decide) ?_
    refine lv_goto (tgt := 20) hx hb dX10_hasLaw_16 (by decide) ?_
    exact hQ _ _ _ _ _ _ hw rfl (⟨rfl, Or.inl ⟨rfl, by omega⟩⟩) dX10_hasLaw_20
set_option maxHeartbeats 4000000 in
set_option maxRecDepth 100000 in
theorem z_X10_within (l : Launch) (D : va_G) (A : Nat → Nat → Nat) (cy : Nat → ClassId) (hJ : ti_inj ti_LM A) (M : ti_M) (hI : mI Tm M) (hL : mL M) (a : Int32) (h1 : 0 ≤ a.toInt) (h2 : a.toInt ≤ 2) (lo : Int32) (mo : Int32) (wo : Int32) (fa tx : Nat → Int) (htr : tR tx M) (hfa : rn6 fa 6 M) (hb : lo.toInt ≤ mo.toInt) : ti_Ki l yX10_within cX10_within 5 (some .int) 3 ti_LM D A cy M [.ref (A 60 0), .int a, .int lo, .int mo, .int wo] (fun r M2 => fI M2 M ∧ r.toInt = bq_pt (if tx (300 + a.toInt.toNat) = 0 then bl_ER else bl_rn (fun n => tx (400 + 64 * a.toInt.toNat + n)) fa (tx (300 + a.toInt.toNat)).toNat 0 0 (fun _ => 0)) lo.toInt mo.toInt wo.toInt ∧ mI Tm M2 ∧ qw M2 M ∧ M2.2.1 = M.2.1) := by
  refine ti_eI yp_X10_within hJ ti_LM_nd (Nat.le_of_ble_eq_true rfl) ?_
  intro p e s m args below meth c Q H0 C hQ hw ls hl
  have hx := C.1
  have hb := C.2.1
  have hl : lv_has ls 5 [(0, .ref (A 60 0)), (1, .int a), (2, .int lo), (3, .int mo), (4, .int wo)] := hl
  obtain ⟨a0, ha0, hto, hl0, hD, hco⟩ := htr.2.2.2 a.toInt.toNat (by omega)
  have ha0 : (tY M 60 14 a.toNatClampNeg).toInt = a0 := ha0
  have hto : (tY M 60 15 a.toNatClampNeg).toInt = a0 + tx (300 + a.toInt.toNat) := hto
  refine lv_aload_n hx hb dX10_within_0 rfl (lv_at hl 0 rfl) ?_
  refine lv_iload_n hx hb dX10_within_1 rfl (lv_at hl 1 rfl) ?_
  refine ti_callVi (ci := 10) (av := [.int a]) C hw (z_X10_hasLaw l D A cy hJ M hI a (by first | omega | decide) (by first | omega | decide) tx htr) ⟨ml_X10_340, ym_X10_hasLaw, yv_X10_hasLaw, yi_X10_hasLaw, yc_X10_hasLaw⟩ yd_X10_hasLaw ob_60 (by decide) rfl rfl hl.1 (Nat.le_of_ble_eq_true rfl) ⟨by decide, by decide⟩ ⟨Nat.zero_le _, Nat.zero_le _⟩ dX10_within_2 (fun r_1 M_2 H locs hp_2 hw => ?_)
  obtain ⟨hm9, hz9⟩ := hp_2
  have hw := hw.to hm9
  rcases hz9 with ⟨rfl, dg_3⟩ | ⟨rfl, dg_3⟩
  · refine sb_if_eq (tgt := 16) hx hb (by decide : (1 : Int32).toInt = 1) dX10_within_5 (by decide) (fun h => absurd h (by decide)) (fun c_5_3 => ?_)
    refine lv_aload_n hx hb dX10_within_8 rfl (lv_at hl 0 rfl) ?_
    refine lv_iload_n hx hb dX10_within_9 rfl (lv_at hl 1 rfl) ?_
    refine ti_callVi (ci := 10) (av := [.int a]) C hw (z_X10_goes l D A cy hJ M hI hL a (by first | omega | decide) (by first | omega | decide) fa (fun n => tx (400 + 64 * a.toInt.toNat + n)) a0 (tx (300 + a.toInt.toNat)) hfa ha0 hto dg_3 (hD dg_3) hco) ⟨ml_X10_343, ym_X10_goes, yv_X10_goes, yi_X10_goes, yc_X10_goes⟩ yd_X10_goes ob_60 (by decide) rfl rfl hl.1 (Nat.le_of_ble_eq_true rfl) ⟨by decide, by decide⟩ ⟨Nat.zero_le _, Nat.zero_le _⟩ dX10_within_10 (fun r_6 M_7 H locs hp_7 hw => ?_)
    obtain ⟨fiM_7, hdM_7, hqM_7⟩ := hp_7
    obtain ⟨iM_7, q_8, q_9, b0r_6, b1r_6⟩ := hqM_7
    rcases hdM_7 with ⟨u1, u2, u3, u4⟩ | ⟨u1, u2⟩
    · refine sb_if_ne (tgt := 19) hx hb rfl dX10_within_13 (by decide) (fun c_13_9 => ?_) (fun h => by omega)
      refine lv_iload_n hx hb dX10_within_19 rfl (lv_at hl 2 rfl) ?_
      obtain ⟨x_12, ex_12⟩ : ∃ z : Int64, z = lo.toInt64 := ⟨_, rfl⟩
      refine lv_i2l (v := x_12) hx hb dX10_within_20 ex_12.symm ?_
      have tx_12 : x_12.toInt = lo.toInt := by rw [ex_12, Int32.toInt_toInt64]
      have lox_12 := (lo : Int32).le_toInt
      have hix_12 := (lo : Int32).toInt_lt
      refine lv_iload_n hx hb dX10_within_21 rfl (lv_at hl 3 rfl) ?_
      obtain ⟨x_13, ex_13⟩ : ∃ z : Int64, z = mo.toInt64 := ⟨_, rfl⟩
      refine lv_i2l (v := x_13) hx hb dX10_within_22 ex_13.symm ?_
      have tx_13 : x_13.toInt = mo.toInt := by rw [ex_13, Int32.toInt_toInt64]
      have lox_13 := (mo : Int32).le_toInt
      have hix_13 := (mo : Int32).toInt_lt
      refine lv_aload_n hx hb dX10_within_23 rfl (lv_at hl 0 rfl) ?_
      refine ti_get (ci := 10) (k := 32) (N := 67) (T := TX10) (v := .ref (A 60 33)) C hw iw_10 rfl ob_60 (by decide) (by decide) fl_X10_66 rfl rfl dX10_within_24 ?_
      refine lv_iconst (v := 0) hx hb dX10_within_27 (by decide) ?_
      refine ti_lald (ci := 10) (k := 32) (n := 64) C hw ob_60 (by decide) (fun _ _ => rfl) (by unfold vp_in; decide) dX10_within_28 ?_
      refine lv_topl (fun x_14 ex_14 => ?_)
      have v9 : x_14.toInt = bl_rn (fun n => tx (400 + 64 * a.toInt.toNat + n)) fa (tx (300 + a.toInt.toNat)).toNat 0 0 (fun _ => 0) := by rw [ex_14, show (0 : Int32).toNatClampNeg = 0 by decide]; exact u2
      refine ti_minl C ml_X10_346 hl.1 (by decide) (Nat.le_of_ble_eq_true rfl) ⟨Nat.zero_le _, Nat.zero_le _⟩ dX10_within_29 ?_
      refine lv_topl (fun x_15 ex_15 => ?_)
      have mx_15 := l_min ex_15
      refine ti_maxl C ml_X10_350 hl.1 (by decide) (Nat.le_of_ble_eq_true rfl) ⟨Nat.zero_le _, Nat.zero_le _⟩ dX10_within_32 ?_
      refine lv_topl (fun x_16 ex_16 => ?_)
      have mx_16 := l_max ex_16
      obtain ⟨x_17, ex_17⟩ : ∃ z : Int32, z = (x_16 : Int64).toInt32 := ⟨_, rfl⟩
      refine lv_l2i (v := x_17) hx hb dX10_within_35 ex_17.symm ?_
      exact hQ _ _ _ _ _ _ hw rfl (⟨fiM_7, (by have er : bl_ER = -9223372036854775808 := rfl; have q := l_2i ex_17 (by omega) (by omega); rw [if_neg (by omega), ← v9, q]; unfold bq_pt; rw [if_neg (by omega)]; (repeat' split) <;> omega), iM_7, q_8, (q_9)⟩) dX10_within_36
    · refine sb_if_ne (tgt := 19) hx hb rfl dX10_within_13 (by decide) (fun h => by omega) (fun c_13_10 => ?_)
      refine lv_iload hx hb dX10_within_16 (lv_at hl 4 rfl) ?_
      exact hQ _ _ _ _ _ _ hw rfl (⟨fiM_7, (by rw [if_neg (by omega), u2]; unfold bq_pt; rw [if_pos rfl]), iM_7, q_8, (q_9)⟩) dX10_within_18
  · refine sb_if_eq (tgt := 16) hx hb (by decide : (0 : Int32).toInt = 0) dX10_within_5 (by decide) (fun c_5_4 => ?_) (fun h => absurd h (by decide))
    refine lv_iload hx hb dX10_within_16 (lv_at hl 4 rfl) ?_
    exact hQ _ _ _ _ _ _ hw rfl (⟨fI.refl, (by rw [if_pos dg_3]; unfold bq_pt; rw [if_pos rfl]), hI, qw.refl, rfl⟩) dX10_within_18
end
section
variable {Tc : gC} {Tm : gM}
variable {Tc : gC} {Tm : gM}
theorem lv_wv {tx rg : Nat → Int} {k : Nat} {pl ps x : Int} (hx : bq_ma rg pl = x) (h0 : 0 ≤ x) : bq_lv tx rg k pl ps = if tx (300 + k) = 0 then bl_ER else bl_rn (fun n => tx (400 + 64 * k + n)) (bq_fa tx rg x ps) (tx (300 + k)).toNat 0 0 (fun _ => 0) := by
  unfold bq_lv
  rw [hx]
  by_cases c : tx (300 + k) = 0
  · rw [if_pos (Or.inr c), if_pos c]
  · rw [if_neg (by omega), if_neg c]
theorem qV_same {n q : Nat} {s g : Nat → Int} {M N : ti_M} (h : qV n q s M) (e : tY N 60 48 = tY M 60 48) (hn : n ≤ 8) (h1 : ∀ m : Nat, m < 8 → g (128 + m) = s (128 + m)) (h2 : ∀ m : Nat, m < 8 → g (224 + m) = s (224 + m)) : qV n q g N := fun m hm => by
  rw [e, h1 m (by omega), h2 m (by omega)]; exact h m hm
set_option maxHeartbeats 4000000 in
set_option maxRecDepth 100000 in
theorem z_X10_needOf_0 (l : Launch) (D : va_G) (A : Nat → Nat → Nat) (cy : Nat → ClassId) (hJ : ti_inj ti_LM A) (M : ti_M) (hI : mI Tm M) (hL : mL M) (t : Int32) (tx rg : Nat → Int) (htr : tR tx M) (ht4 : 0 ≤ tx 4 ∧ tx 4 ≤ 8) (hr : qR (tx 4).toNat 0 rg M) (hwf : wF tx rg) (h0 : 0 < rg 3) (htm : t.toInt = rg 2) : ti_Ki l yX10_needOf cX10_needOf 3 (some .int) 4 ti_LM D A cy M [.ref (A 60 0), .int 0, .int t] (fun r M2 => fI M2 M ∧ r.toInt = bq_nd tx rg ∧ mI Tm M2 ∧ qw M2 M ∧ M2.2.1 = M.2.1) := by
  refine ti_eI yp_X10_needOf hJ ti_LM_nd (Nat.le_of_ble_eq_true rfl) ?_
  intro p e s m args below meth c Q H0 C hQ hw ls hl
  have hx := C.1
  have hb := C.2.1
  have hl : lv_has ls 3 [(0, .ref (A 60 0)), (1, .int 0), (2, .int t)] := hl
  refine lv_aload_n hx hb dX10_needOf_0 rfl (lv_at hl 0 rfl) ?_
  refine lv_iload_n hx hb dX10_needOf_1 rfl (lv_at hl 1 rfl) ?_
  refine lv_aload_n hx hb dX10_needOf_2 rfl (lv_at hl 0 rfl) ?_
  refine ti_get (ci := 10) (k := 39) (N := 67) (T := TX10) (v := .ref (A 60 40)) C hw iw_10 rfl ob_60 (by decide) (by decide) fl_X10_84 rfl rfl dX10_needOf_3 ?_
  refine lv_bipush (v := 8) hx hb dX10_needOf_6 (by decide) ?_
  refine lv_iload_n hx hb dX10_needOf_8 rfl (lv_at hl 1 rfl) ?_
  refine lv_imul hx hb dX10_needOf_9 ?_
  refine ti_top (y := 0) (by decide) ?_
  refine ti_iald (ci := 10) (k := 39) (n := 184) C hw ob_60 (by decide) (fun _ _ => rfl) (by unfold vp_in; decide) dX10_needOf_10 ?_
  refine lv_topi (fun x_1 ex_1 => ?_)
  have yx_1 : tY M 60 39 0 = x_1 := ((congrArg _ (by decide)).symm.trans ex_1.symm)
  have bx_1 : 0 ≤ x_1.toInt ∧ x_1.toInt ≤ 7 := mI_ry (k := 39) (i := 0) hI yx_1.symm
  have L_2 : rg 96 = x_1.toInt := (hr.2.1 (0) (by omega) (by omega)).trans (congrArg Int32.toInt (yx_1))
  have A0 : 0 ≤ rg 96 ∧ rg 96 < tx 4 ∧ rg (128 + (rg 96).toNat) = 1 := hwf.2.2.1 0 (by omega)
  rw [L_2] at A0
  refine lv_aload_n hx hb dX10_needOf_11 rfl (lv_at hl 0 rfl) ?_
  refine ti_get (ci := 10) (k := 38) (N := 67) (T := TX10) (v := .ref (A 60 39)) C hw iw_10 rfl ob_60 (by decide) (by decide) fl_X10_81 rfl rfl dX10_needOf_12 ?_
  refine lv_iload_n hx hb dX10_needOf_15 rfl (lv_at hl 1 rfl) ?_
  refine ti_iald (ci := 10) (k := 38) (n := 23) C hw ob_60 (by decide) (fun _ _ => rfl) (by unfold vp_in; decide) dX10_needOf_16 ?_
  refine lv_topi (fun x_3 ex_3 => ?_)
  have yx_3 : tY M 60 38 0 = x_3 := ((congrArg _ (by decide)).symm.trans ex_3.symm)
  have bx_3 : 0 ≤ x_3.toInt ∧ x_3.toInt ≤ 8 := mI_ry (k := 38) (i := 0) hI yx_3.symm
  have zx_3 : (tY M 60 38 0).toInt = x_3.toInt := by rw [yx_3]
  have L_4 : rg 3 = x_3.toInt := (hr.1.2.1).trans (congrArg Int32.toInt (yx_3))
  refine lv_iload_n hx hb dX10_needOf_17 rfl (lv_at hl 2 rfl) ?_
  refine ti_callVv (ci := 10) (av := [.int 0, .int x_1, .int x_3, .int t]) C hw (z_X10_calls_0 l D A cy hJ M hI x_1 x_3 t (by first | omega | decide) (by first | omega | decide) tx rg htr ht4 hr (by omega) A0.2.2 (by omega)) ⟨ml_X10_363, ym_X10_calls, yv_X10_calls, yi_X10_calls, yc_X10_calls⟩ yd_X10_calls ob_60 (by decide) rfl rfl hl.1 (Nat.le_of_ble_eq_true rfl) ⟨by decide, by decide⟩ ⟨Nat.zero_le _, Nat.zero_le _⟩ dX10_needOf_18 (fun M_6 H locs hp_6 hw => ?_)
  obtain ⟨n6_9, fi_10, iM_6, q_7, q_8⟩ := hp_6
  have hs_11 : qR (tx 4).toNat 0 rg M_6 := qR_of hr q_8
  refine lv_aload_n hx hb dX10_needOf_21 rfl (lv_at hl 0 rfl) ?_
  refine lv_iconst (v := 2) hx hb dX10_needOf_22 (by decide) ?_
  refine lv_iconst (v := 1) hx hb dX10_needOf_23 (by decide) ?_
  refine lv_bipush (v := 9) hx hb dX10_needOf_24 (by decide) ?_
  refine lv_aload_n hx hb dX10_needOf_26 rfl (lv_at hl 0 rfl) ?_
  refine ti_get (ci := 10) (k := 38) (N := 67) (T := TX10) (v := .ref (A 60 39)) C hw iw_10 rfl ob_60 (by decide) (by decide) fl_X10_81 rfl rfl dX10_needOf_27 ?_
  refine lv_iload_n hx hb dX10_needOf_30 rfl (lv_at hl 1 rfl) ?_
  refine ti_iald (ci := 10) (k := 38) (n := 23) C hw ob_60 (by decide) (fun _ _ => rfl) (by unfold vp_in; decide) dX10_needOf_31 ?_
  refine ti_top (y := x_3) ((congrArg _ (by decide)).trans ((cg (tY_fr q_8) 0).trans yx_3)) ?_
  have L_12 : rg 3 = x_3.toInt := (hs_11.1.2.1).trans (congrArg Int32.toInt ((cg (tY_fr q_8) 0).trans yx_3))
  refine lv_iconst (v := 1) hx hb dX10_needOf_32 (by decide) ?_
  refine lv_iadd hx hb dX10_needOf_33 ?_
  refine lv_topi (fun x_13 ex_13 => ?_)
  have tx_13 : x_13.toInt = x_3.toInt + 1 := i_add ex_13 rfl (by decide : (1 : Int32).toInt = 1) (by omega) (by omega)
  refine lv_iconst (v := 2) hx hb dX10_needOf_34 (by decide) ?_
  refine lv_idiv hx hb dX10_needOf_35 (by decide) ?_
  refine lv_topi (fun x_14 ex_14 => ?_)
  have dx_14 : x_14.toInt = x_13.toInt / 2 := i_div2 ex_14 rfl (by omega)
  refine ti_callVi (ci := 10) (av := [.int 2, .int 1, .int 9, .int x_14]) C hw (z_X10_within l D A cy hJ M_6 iM_6 (mL_lw (lk_of q_7.1 q_7.2.1).1 hL) 2 (by first | omega | decide) (by first | omega | decide) 1 9 x_14 (bq_fa tx rg x_1.toInt x_3.toInt) tx (tR_lw htr (eR_lw (q := 0) (eR_fI fi_10 q_8))) n6_9 (by first | decide | omega)) ⟨ml_X10_367, ym_X10_within, yv_X10_within, yi_X10_within, yc_X10_within⟩ yd_X10_within ob_60 (by decide) rfl rfl hl.1 (Nat.le_of_ble_eq_true rfl) ⟨by decide, by decide⟩ ⟨Nat.zero_le _, Nat.zero_le _⟩ dX10_needOf_36 (fun r_15 M_16 H locs hp_16 hw => ?_)
  obtain ⟨fi_20, pr_15, iM_16, q_18, q_19⟩ := hp_16
  have hs_21 : qR (tx 4).toNat 0 rg M_16 := qR_of hs_11 q_19
  try simp only [show (2 : Int32).toInt.toNat = 2 by decide] at pr_15
  try simp only [show (2 : Int32).toInt = 2 by decide] at pr_15
  try simp only [show (1 : Int32).toInt.toNat = 1 by decide] at pr_15
  try simp only [show (1 : Int32).toInt = 1 by decide] at pr_15
  try simp only [show (9 : Int32).toInt.toNat = 9 by decide] at pr_15
  try simp only [show (9 : Int32).toInt = 9 by decide] at pr_15
  exact hQ _ _ _ _ _ _ hw rfl (⟨(fI.trans fi_20 fi_10), (by rw [pr_15]; unfold bq_nd; rw [lv_wv (x := x_1.toInt) (by unfold bq_ma; rw [if_pos (by omega)]; exact L_2) (by omega), show rg 3 = x_3.toInt by omega, show (x_3.toInt + 1) / 2 = x_14.toInt by omega]), iM_16, (qw.trans q_18 q_7), ((q_19).trans q_8)⟩) dX10_needOf_39
set_option maxHeartbeats 4000000 in
set_option maxRecDepth 100000 in
theorem z_X10_isGuarded_0 (l : Launch) (D : va_G) (A : Nat → Nat → Nat) (cy : Nat → ClassId) (hJ : ti_inj ti_LM A) (M : ti_M) (hI : mI Tm M)  (tx rg : Nat → Int) (htr : tR tx M) (ht4 : 0 ≤ tx 4 ∧ tx 4 ≤ 8) (hr : qR (tx 4).toNat 0 rg M) (hwf : wF tx rg) (htW : tW tx) : ti_Ki l yX10_isGuarded cX10_isGuarded 2 (some .boolean) 0 ti_LM D A cy M [.ref (A 60 0), .int 0] (fun r M2 => M2 = M ∧ ((r = 1 ∧ (1 < rg 3 ∧ tx (100 + 16 * (rg 97).toNat + 9) = rg 96)) ∨ (r = 0 ∧ ¬ (1 < rg 3 ∧ tx (100 + 16 * (rg 97).toNat + 9) = rg 96)))) := by
  refine ti_eI yp_X10_isGuarded hJ ti_LM_nd (Nat.le_of_ble_eq_true rfl) ?_
  intro p e s m args below meth c Q H0 C hQ hw ls hl
  have hx := C.1
  have hb := C.2.1
  have hl : lv_has ls 2 [(0, .ref (A 60 0)), (1, .int 0)] := hl
  refine lv_aload_n hx hb dX10_isGuarded_0 rfl (lv_at hl 0 rfl) ?_
  refine ti_get (ci := 10) (k := 38) (N := 67) (T := TX10) (v := .ref (A 60 39)) C hw iw_10 rfl ob_60 (by decide) (by decide) fl_X10_81 rfl rfl dX10_isGuarded_1 ?_
  refine lv_iload_n hx hb dX10_isGuarded_4 rfl (lv_at hl 1 rfl) ?_
  refine ti_iald (ci := 10) (k := 38) (n := 23) C hw ob_60 (by decide) (fun _ _ => rfl) (by unfold vp_in; decide) dX10_isGuarded_5 ?_
  refine lv_topi (fun x_1 ex_1 => ?_)
  have yx_1 : tY M 60 38 0 = x_1 := ((congrArg _ (by decide)).symm.trans ex_1.symm)
  have bx_1 : 0 ≤ x_1.toInt ∧ x_1.toInt ≤ 8 := mI_ry (k := 38) (i := 0) hI yx_1.symm
  have zx_1 : (tY M 60 38 0).toInt = x_1.toInt := by rw [yx_1]
  have L_2 : rg 3 = x_1.toInt := (hr.1.2.1).trans (congrArg Int32.toInt (yx_1))
  refine lv_iconst (v := 1) hx hb dX10_isGuarded_6 (by decide) ?_
  refine sb_icmp_le (tgt := 44) hx hb rfl (by decide : (1 : Int32).toInt = 1) dX10_isGuarded_7 (by decide) (fun c_7_2 => ?_) (fun c_7_2 => ?_)
  · refine lv_iconst (v := 0) hx hb dX10_isGuarded_44 (by decide) ?_
    exact hQ _ _ _ _ _ _ hw rfl (⟨rfl, Or.inr ⟨rfl, (by omega)⟩⟩) dX10_isGuarded_45
  · refine lv_aload_n hx hb dX10_isGuarded_10 rfl (lv_at hl 0 rfl) ?_
    refine ti_get (ci := 10) (k := 13) (N := 67) (T := TX10) (v := .ref (A 60 14)) C hw iw_10 rfl ob_60 (by decide) (by decide) fl_X10_43 rfl rfl dX10_isGuarded_11 ?_
    refine lv_aload_n hx hb dX10_isGuarded_14 rfl (lv_at hl 0 rfl) ?_
    refine ti_get (ci := 10) (k := 39) (N := 67) (T := TX10) (v := .ref (A 60 40)) C hw iw_10 rfl ob_60 (by decide) (by decide) fl_X10_84 rfl rfl dX10_isGuarded_15 ?_
    refine lv_bipush (v := 8) hx hb dX10_isGuarded_18 (by decide) ?_
    refine lv_iload_n hx hb dX10_isGuarded_20 rfl (lv_at hl 1 rfl) ?_
    refine lv_imul hx hb dX10_isGuarded_21 ?_
    refine ti_top (y := 0) (by decide) ?_
    refine lv_iconst (v := 1) hx hb dX10_isGuarded_22 (by decide) ?_
    refine lv_iadd hx hb dX10_isGuarded_23 ?_
    refine ti_top (y := 1) (by decide) ?_
    refine ti_iald (ci := 10) (k := 39) (n := 184) C hw ob_60 (by decide) (fun _ _ => rfl) (by unfold vp_in; decide) dX10_isGuarded_24 ?_
    refine lv_topi (fun x_4 ex_4 => ?_)
    have yx_4 : tY M 60 39 1 = x_4 := ((congrArg _ (by decide)).symm.trans ex_4.symm)
    have bx_4 : 0 ≤ x_4.toInt ∧ x_4.toInt ≤ 7 := mI_ry (k := 39) (i := 1) hI yx_4.symm
    have L_5 : rg 97 = x_4.toInt := (hr.2.1 (1) (by omega) (by omega)).trans (congrArg Int32.toInt (yx_4))
    have A1 : 0 ≤ rg 97 ∧ rg 97 < tx 4 ∧ rg (128 + (rg 97).toNat) = 1 := hwf.2.2.1 1 (by omega)
    rw [L_5] at A1
    refine ti_iald (ci := 10) (k := 13) (n := 16) C hw ob_60 (by decide) (fun _ _ => rfl) (vp_in_iff.mpr (by omega)) dX10_isGuarded_25 ?_
    refine lv_topi (fun x_6 ex_6 => ?_)
    have yx_6 : tY M 60 13 x_4.toNatClampNeg = x_6 := (ex_6.symm)
    have L_7 : tx (100 + 16 * x_4.toInt.toNat + 9) = x_6.toInt - 1 := (htr.2.2.1 (x_4.toInt.toNat) (by omega) (by omega)).2.2.2.2.2.2.2.2.trans (congrArg (fun z => z - 1) ((congrArg Int32.toInt (cg rfl (x_4.toInt.toNat))).symm.trans (rd_k (n := x_4.toInt.toNat) (by omega) (yx_6))))
    have G1 := htW.2.2.2.2.2.2.2.2.2 x_4.toInt.toNat (by omega) (by omega)
    refine lv_iconst (v := 1) hx hb dX10_isGuarded_26 (by decide) ?_
    refine lv_isub hx hb dX10_isGuarded_27 ?_
    refine lv_topi (fun x_8 ex_8 => ?_)
    have lox_8x_6 := x_6.le_toInt
    have hix_8x_6 := x_6.toInt_lt
    have tx_8 : x_8.toInt = x_6.toInt - 1 := i_sub ex_8 rfl (by decide : (1 : Int32).toInt = 1) (by omega) (by omega)
    have tx_8 : x_8.toInt = bw (x_6.toInt - 1) := bw_sub ex_8 rfl (by decide : (1 : Int32).toInt = 1)
    refine lv_aload_n hx hb dX10_isGuarded_28 rfl (lv_at hl 0 rfl) ?_
    refine ti_get (ci := 10) (k := 39) (N := 67) (T := TX10) (v := .ref (A 60 40)) C hw iw_10 rfl ob_60 (by decide) (by decide) fl_X10_84 rfl rfl dX10_isGuarded_29 ?_
    refine lv_bipush (v := 8) hx hb dX10_isGuarded_32 (by decide) ?_
    refine lv_iload_n hx hb dX10_isGuarded_34 rfl (lv_at hl 1 rfl) ?_
    refine lv_imul hx hb dX10_isGuarded_35 ?_
    refine ti_top (y := 0) (by decide) ?_
    refine ti_iald (ci := 10) (k := 39) (n := 184) C hw ob_60 (by decide) (fun _ _ => rfl) (by unfold vp_in; decide) dX10_isGuarded_36 ?_
    refine lv_topi (fun x_9 ex_9 => ?_)
    have yx_9 : tY M 60 39 0 = x_9 := ((congrArg _ (by decide)).symm.trans ex_9.symm)
    have bx_9 : 0 ≤ x_9.toInt ∧ x_9.toInt ≤ 7 := mI_ry (k := 39) (i := 0) hI yx_9.symm
    have L_10 : rg 96 = x_9.toInt := (hr.2.1 (0) (by omega) (by omega)).trans (congrArg Int32.toInt (yx_9))
    refine sb_icmp_ne (tgt := 44) hx hb rfl rfl dX10_isGuarded_37 (by decide) (fun c_37_10 => ?_) (fun c_37_10 => ?_)
    · refine lv_iconst (v := 0) hx hb dX10_isGuarded_44 (by decide) ?_
      exact hQ _ _ _ _ _ _ hw rfl (⟨rfl, Or.inr ⟨rfl, (by rw [show rg 97 = x_4.toInt by omega]; omega)⟩⟩) dX10_isGuarded_45
    · refine lv_iconst (v := 1) hx hb dX10_isGuarded_40 (by decide) ?_
      refine lv_goto (tgt := 45) hx hb dX10_isGuarded_41 (by decide) ?_
      exact hQ _ _ _ _ _ _ hw rfl (⟨rfl, Or.inl ⟨rfl, (by rw [show rg 97 = x_4.toInt by omega]; omega)⟩⟩) dX10_isGuarded_45
set_option maxHeartbeats 4000000 in
set_option maxRecDepth 100000 in
theorem z_X10_standsAt_0 (l : Launch) (D : va_G) (A : Nat → Nat → Nat) (cy : Nat → ClassId) (hJ : ti_inj ti_LM A) (M : ti_M) (hI : mI Tm M) (a : Int32) (h1 : 0 ≤ a.toInt) (h2 : a.toInt ≤ 7) (tx rg : Nat → Int) (htr : tR tx M) (ht4 : 0 ≤ tx 4 ∧ tx 4 ≤ 8) (hr : qR (tx 4).toNat 0 rg M) : ti_Ki l yX10_standsAt cX10_standsAt 3 (some .int) 0 ti_LM D A cy M [.ref (A 60 0), .int 0, .int a] (fun r M2 => M2 = M ∧ -2 ≤ r.toInt ∧ r.toInt ≤ 7 ∧ r.toInt = bq_ma rg a.toInt) := by
  refine ti_eI yp_X10_standsAt hJ ti_LM_nd (Nat.le_of_ble_eq_true rfl) ?_
  intro p e s m args below meth c Q H0 C hQ hw ls hl
  have hx := C.1
  have hb := C.2.1
  have hl : lv_has ls 3 [(0, .ref (A 60 0)), (1, .int 0), (2, .int a)] := hl
  refine lv_iload_n hx hb dX10_standsAt_0 rfl (lv_at hl 2 rfl) ?_
  refine lv_aload_n hx hb dX10_standsAt_1 rfl (lv_at hl 0 rfl) ?_
  refine ti_get (ci := 10) (k := 38) (N := 67) (T := TX10) (v := .ref (A 60 39)) C hw iw_10 rfl ob_60 (by decide) (by decide) fl_X10_81 rfl rfl dX10_standsAt_2 ?_
  refine lv_iload_n hx hb dX10_standsAt_5 rfl (lv_at hl 1 rfl) ?_
  refine ti_iald (ci := 10) (k := 38) (n := 23) C hw ob_60 (by decide) (fun _ _ => rfl) (by unfold vp_in; decide) dX10_standsAt_6 ?_
  refine lv_topi (fun x_1 ex_1 => ?_)
  have yx_1 : tY M 60 38 0 = x_1 := ((congrArg _ (by decide)).symm.trans ex_1.symm)
  have bx_1 : 0 ≤ x_1.toInt ∧ x_1.toInt ≤ 8 := mI_ry (k := 38) (i := 0) hI yx_1.symm
  have zx_1 : (tY M 60 38 0).toInt = x_1.toInt := by rw [yx_1]
  have L_2 : rg 3 = x_1.toInt := (hr.1.2.1).trans (congrArg Int32.toInt (yx_1))
  refine sb_icmp_ge (tgt := 24) hx hb rfl rfl dX10_standsAt_7 (by decide) (fun c_7_2 => ?_) (fun c_7_2 => ?_)
  · refine lv_bipush (v := (-2)) hx hb dX10_standsAt_24 (by decide) ?_
    exact hQ _ _ _ _ _ _ hw rfl (⟨rfl, by first | omega | decide, by first | omega | decide, (by have lv : ((-2) : Int32).toInt = (-2) := (by decide); unfold bq_ma; (repeat (first | rw [if_pos (by omega)] | rw [if_neg (by omega)])); first | omega)⟩) dX10_standsAt_26
  · refine lv_aload_n hx hb dX10_standsAt_10 rfl (lv_at hl 0 rfl) ?_
    refine ti_get (ci := 10) (k := 39) (N := 67) (T := TX10) (v := .ref (A 60 40)) C hw iw_10 rfl ob_60 (by decide) (by decide) fl_X10_84 rfl rfl dX10_standsAt_11 ?_
    refine lv_bipush (v := 8) hx hb dX10_standsAt_14 (by decide) ?_
    refine lv_iload_n hx hb dX10_standsAt_16 rfl (lv_at hl 1 rfl) ?_
    refine lv_imul hx hb dX10_standsAt_17 ?_
    refine ti_top (y := 0) (by decide) ?_
    refine lv_iload_n hx hb dX10_standsAt_18 rfl (lv_at hl 2 rfl) ?_
    refine lv_iadd hx hb dX10_standsAt_19 ?_
    refine lv_topi (fun x_4 ex_4 => ?_)
    have tx_4 : x_4.toInt = 0 + a.toInt := i_add ex_4 (by decide : (0 : Int32).toInt = 0) rfl (by omega) (by omega)
    refine ti_iald (ci := 10) (k := 39) (n := 184) C hw ob_60 (by decide) (fun _ _ => rfl) (vp_in_iff.mpr (by omega)) dX10_standsAt_20 ?_
    refine lv_topi (fun x_5 ex_5 => ?_)
    have yx_5 : tY M 60 39 x_4.toNatClampNeg = x_5 := (ex_5.symm)
    have bx_5 : 0 ≤ x_5.toInt ∧ x_5.toInt ≤ 7 := mI_ry (k := 39) (i := x_4.toNatClampNeg) hI yx_5.symm
    have L_6 : rg (96 + a.toInt.toNat) = x_5.toInt := (hr.2.1 (a.toInt.toNat) (by omega) (by omega)).trans (rd_k (n := 8 * 0 + a.toInt.toNat) (by omega) (yx_5))
    refine lv_goto (tgt := 26) hx hb dX10_standsAt_21 (by decide) ?_
    exact hQ _ _ _ _ _ _ hw rfl (⟨rfl, by first | omega | decide, by first | omega | decide, (by unfold bq_ma; (repeat (first | rw [if_pos (by omega)] | rw [if_neg (by omega)])); first | omega)⟩) dX10_standsAt_26
set_option maxHeartbeats 4000000 in
set_option maxRecDepth 100000 in
theorem z_X10_pour_0 (l : Launch) (D : va_G) (A : Nat → Nat → Nat) (cy : Nat → ClassId) (hJ : ti_inj ti_LM A) (M : ti_M) (hI : mI Tm M)  (tx rg : Nat → Int) (htr : tR tx M) (ht4 : 0 ≤ tx 4 ∧ tx 4 ≤ 8) (hr : qR (tx 4).toNat 0 rg M) (hwf : wF tx rg) (htw : tI M 60 53 = -1) : ti_Kv l yX10_pour cX10_pour 4 1 ti_LM D A cy M [.ref (A 60 0), .int 0] (fun M2 => eR 0 M2 M ∧ tY M2 60 48 = tY M 60 48 ∧ qR (tx 4).toNat 0 (bq_pr tx rg) M2 ∧ mI Tm M2 ∧ qw M2 M ∧ tY M2 60 34 = tY M 60 34) := by
  refine ti_eV yp_X10_pour hJ ti_LM_nd (Nat.le_of_ble_eq_true rfl) ?_
  intro p e s m args below meth c Q H0 C hQ hw ls hl
  have hx := C.1
  have hb := C.2.1
  have hl : lv_has ls 4 [(0, .ref (A 60 0)), (1, .int 0)] := hl
  refine lv_aload_n hx hb dX10_pour_0 rfl (lv_at hl 0 rfl) ?_
  refine ti_get (ci := 10) (k := 38) (N := 67) (T := TX10) (v := .ref (A 60 39)) C hw iw_10 rfl ob_60 (by decide) (by decide) fl_X10_81 rfl rfl dX10_pour_1 ?_
  refine lv_iload_n hx hb dX10_pour_4 rfl (lv_at hl 1 rfl) ?_
  refine ti_iald (ci := 10) (k := 38) (n := 23) C hw ob_60 (by decide) (fun _ _ => rfl) (by unfold vp_in; decide) dX10_pour_5 ?_
  refine lv_topi (fun x_1 ex_1 => ?_)
  have yx_1 : tY M 60 38 0 = x_1 := ((congrArg _ (by decide)).symm.trans ex_1.symm)
  have bx_1 : 0 ≤ x_1.toInt ∧ x_1.toInt ≤ 8 := mI_ry (k := 38) (i := 0) hI yx_1.symm
  have zx_1 : (tY M 60 38 0).toInt = x_1.toInt := by rw [yx_1]
  have L_2 : rg 3 = x_1.toInt := (hr.1.2.1).trans (congrArg Int32.toInt (yx_1))
  refine sb_if_ne (tgt := 10) hx hb rfl dX10_pour_6 (by decide) (fun c_6_2 => ?_) (fun c_6_2 => ?_)
  · refine lv_aload_n hx hb dX10_pour_10 rfl (lv_at hl 0 rfl) ?_
    refine ti_get (ci := 10) (k := 39) (N := 67) (T := TX10) (v := .ref (A 60 40)) C hw iw_10 rfl ob_60 (by decide) (by decide) fl_X10_84 rfl rfl dX10_pour_11 ?_
    refine lv_bipush (v := 8) hx hb dX10_pour_14 (by decide) ?_
    refine lv_iload_n hx hb dX10_pour_16 rfl (lv_at hl 1 rfl) ?_
    refine lv_imul hx hb dX10_pour_17 ?_
    refine ti_top (y := 0) (by decide) ?_
    refine ti_iald (ci := 10) (k := 39) (n := 184) C hw ob_60 (by decide) (fun _ _ => rfl) (by unfold vp_in; decide) dX10_pour_18 ?_
    refine lv_topi (fun x_5 ex_5 => ?_)
    have yx_5 : tY M 60 39 0 = x_5 := ((congrArg _ (by decide)).symm.trans ex_5.symm)
    have bx_5 : 0 ≤ x_5.toInt ∧ x_5.toInt ≤ 7 := mI_ry (k := 39) (i := 0) hI yx_5.symm
    have L_6 : rg 96 = x_5.toInt := (hr.2.1 (0) (by omega) (by omega)).trans (congrArg Int32.toInt (yx_5))
    have A0 : 0 ≤ rg 96 ∧ rg 96 < tx 4 ∧ rg (128 + (rg 96).toNat) = 1 := hwf.2.2.1 0 (by omega)
    rw [L_6] at A0
    refine lv_istore_n (lv' := [(2, .int x_5), (0, .ref (A 60 0)), (1, .int 0)]) hx hb dX10_pour_19 rfl hl (by decide) rfl (fun ls hl => ?_)
    refine lv_aload_n hx hb dX10_pour_20 rfl (lv_at hl 1 rfl) ?_
    refine ti_get (ci := 10) (k := 3) (N := 67) (T := TX10) (v := .ref (A 60 4)) C hw iw_10 rfl ob_60 (by decide) (by decide) fl_X10_13 rfl rfl dX10_pour_21 ?_
    refine lv_iconst (v := 2) hx hb dX10_pour_24 (by decide) ?_
    refine ti_iald (ci := 10) (k := 3) (n := 22) C hw ob_60 (by decide) (fun _ _ => rfl) (by unfold vp_in; decide) dX10_pour_25 ?_
    refine lv_topi (fun x_7 ex_7 => ?_)
    have yx_7 : tY M 60 3 2 = x_7 := ((congrArg _ (by decide)).symm.trans ex_7.symm)
    have zx_7 : (tY M 60 3 2).toInt = x_7.toInt := by rw [yx_7]
    have L_8 : tx 7 = x_7.toInt := (htr.1.2.2.1).trans ((congrArg Int32.toInt (cg rfl 2)).symm.trans (congrArg Int32.toInt (yx_7)))
    refine lv_aload_n hx hb dX10_pour_26 rfl (lv_at hl 1 rfl) ?_
    refine ti_get (ci := 10) (k := 53) (N := 67) (T := TX10) C hw iw_10 rfl ob_60 (by decide) (by decide) fl_X10_120 rfl rfl dX10_pour_27 ?_
    refine ti_top (y := (-1)) (htw) ?_
    refine lv_iconst (v := 3) hx hb dX10_pour_30 (by decide) ?_
    refine sb_icmp_ne (tgt := 38) hx hb (by decide : ((-1) : Int32).toInt = (-1)) (by decide : (3 : Int32).toInt = 3) dX10_pour_31 (by decide) (fun c_31_8 => ?_) (fun h => absurd h (by decide))
    refine lv_iconst (v := 0) hx hb dX10_pour_38 (by decide) ?_
    refine lv_iadd hx hb dX10_pour_39 ?_
    refine lv_topi (fun x_10 ex_10 => ?_)
    have tx_10 : x_10.toInt = x_7.toInt := by rw [bw_add ex_10 rfl (by decide : (0 : Int32).toInt = 0), Int.add_zero, bw_id (by have := (x_7 : Int32).le_toInt; omega) (by have := (x_7 : Int32).toInt_lt; omega)]
    refine lv_aload_n hx hb dX10_pour_40 rfl (lv_at hl 1 rfl) ?_
    refine ti_get (ci := 10) (k := 8) (N := 67) (T := TX10) (v := .ref (A 60 9)) C hw iw_10 rfl ob_60 (by decide) (by decide) fl_X10_28 rfl rfl dX10_pour_41 ?_
    refine lv_iload_n hx hb dX10_pour_44 rfl (lv_at hl 0 rfl) ?_
    refine ti_iald (ci := 10) (k := 8) (n := 16) C hw ob_60 (by decide) (fun _ _ => rfl) (vp_in_iff.mpr (by omega)) dX10_pour_45 ?_
    refine lv_topi (fun x_11 ex_11 => ?_)
    have yx_11 : tY M 60 8 x_5.toNatClampNeg = x_11 := (ex_11.symm)
    have L_12 : tx (100 + 16 * x_5.toInt.toNat + 4) = x_11.toInt := (htr.2.2.1 (x_5.toInt.toNat) (by omega) (by omega)).2.2.2.1.trans ((congrArg Int32.toInt (cg rfl (x_5.toInt.toNat))).symm.trans (rd_k (n := x_5.toInt.toNat) (by omega) (yx_11)))
    refine lv_aload_n hx hb dX10_pour_46 rfl (lv_at hl 1 rfl) ?_
    refine ti_get (ci := 10) (k := 42) (N := 67) (T := TX10) (v := .ref (A 60 43)) C hw iw_10 rfl ob_60 (by decide) (by decide) fl_X10_93 rfl rfl dX10_pour_47 ?_
    refine lv_bipush (v := 8) hx hb dX10_pour_50 (by decide) ?_
    refine lv_iload_n hx hb dX10_pour_52 rfl (lv_at hl 2 rfl) ?_
    refine lv_imul hx hb dX10_pour_53 ?_
    refine ti_top (y := 0) (by decide) ?_
    refine lv_iload_n hx hb dX10_pour_54 rfl (lv_at hl 0 rfl) ?_
    refine lv_iadd hx hb dX10_pour_55 ?_
    refine lv_topi (fun x_13 ex_13 => ?_)
    have tx_13 : x_13.toInt = 0 + x_5.toInt := i_add ex_13 (by decide : (0 : Int32).toInt = 0) rfl (by omega) (by omega)
    refine ti_iald (ci := 10) (k := 42) (n := 184) C hw ob_60 (by decide) (fun _ _ => rfl) (vp_in_iff.mpr (by omega)) dX10_pour_56 ?_
    refine lv_topi (fun x_14 ex_14 => ?_)
    have yx_14 : tY M 60 42 x_13.toNatClampNeg = x_14 := (ex_14.symm)
    have L_15 : rg (176 + x_5.toInt.toNat) = x_14.toInt := ((hr.2.2.2.1 (x_5.toInt.toNat) (by omega)).2.2.2.1).trans (rd_k (n := 8 * 0 + x_5.toInt.toNat) (by omega) (yx_14))
    refine lv_isub hx hb dX10_pour_57 ?_
    refine lv_topi (fun x_16 ex_16 => ?_)
    have tx_16 : x_16.toInt = bw (x_11.toInt - x_14.toInt) := bw_sub ex_16 rfl rfl
    refine ti_min C ml_X10_380 hl.1 (by decide) (Nat.le_of_ble_eq_true rfl) ⟨Nat.zero_le _, Nat.zero_le _⟩ dX10_pour_58 ?_
    refine lv_topi (fun x_17 ex_17 => ?_)
    have bx_17 := i_min ex_17 rfl rfl
    refine lv_istore_n (lv' := [(3, .int x_17), (2, .int x_5), (0, .ref (A 60 0)), (1, .int 0)]) hx hb dX10_pour_61 rfl hl (by decide) rfl (fun ls hl => ?_)
    refine lv_aload_n hx hb dX10_pour_62 rfl (lv_at hl 2 rfl) ?_
    refine ti_get (ci := 10) (k := 53) (N := 67) (T := TX10) C hw iw_10 rfl ob_60 (by decide) (by decide) fl_X10_120 rfl rfl dX10_pour_63 ?_
    refine ti_top (y := (-1)) (htw) ?_
    refine lv_iconst (v := 4) hx hb dX10_pour_66 (by decide) ?_
    refine sb_icmp_eq (tgt := 91) hx hb (by decide : ((-1) : Int32).toInt = (-1)) (by decide : (4 : Int32).toInt = 4) dX10_pour_67 (by decide) (fun h => absurd h (by decide)) (fun c_67_17 => ?_)
    refine lv_iload_n hx hb dX10_pour_70 rfl (lv_at hl 0 rfl) ?_
    refine lv_aload_n hx hb dX10_pour_71 rfl (lv_at hl 2 rfl) ?_
    refine ti_get (ci := 10) (k := 35) (N := 67) (T := TX10) (v := .ref (A 60 36)) C hw iw_10 rfl ob_60 (by decide) (by decide) fl_X10_72 rfl rfl dX10_pour_72 ?_
    refine lv_iload_n hx hb dX10_pour_75 rfl (lv_at hl 3 rfl) ?_
    refine ti_iald (ci := 10) (k := 35) (n := 23) C hw ob_60 (by decide) (fun _ _ => rfl) (by unfold vp_in; decide) dX10_pour_76 ?_
    refine lv_topi (fun x_19 ex_19 => ?_)
    have yx_19 : tY M 60 35 0 = x_19 := ((congrArg _ (by decide)).symm.trans ex_19.symm)
    have L_20 : rg 4 = x_19.toInt := (hr.1.2.2.1).trans (congrArg Int32.toInt (yx_19))
    refine ti_min C ml_X10_380 hl.1 (by decide) (Nat.le_of_ble_eq_true rfl) ⟨Nat.zero_le _, Nat.zero_le _⟩ dX10_pour_77 ?_
    refine lv_topi (fun x_21 ex_21 => ?_)
    have bx_21 := i_min ex_21 rfl rfl
    refine lv_istore_n (lv' := [(3, .int x_21), (2, .int x_5), (0, .ref (A 60 0)), (1, .int 0)]) hx hb dX10_pour_80 rfl hl (by decide) rfl (fun ls hl => ?_)
    have EN : bq_pn tx rg = x_21.toInt := by unfold bq_pn; rw [L_6, L_12, L_15, ← tx_16]; unfold bq_mn; (repeat' split) <;> omega
    refine lv_aload_n hx hb dX10_pour_81 rfl (lv_at hl 2 rfl) ?_
    refine ti_get (ci := 10) (k := 35) (N := 67) (T := TX10) (v := .ref (A 60 36)) C hw iw_10 rfl ob_60 (by decide) (by decide) fl_X10_72 rfl rfl dX10_pour_82 ?_
    refine lv_iload_n hx hb dX10_pour_85 rfl (lv_at hl 3 rfl) ?_
    refine lv_dup2_11 hx hb dX10_pour_86 rfl rfl ?_
    refine ti_iald (ci := 10) (k := 35) (n := 23) C hw ob_60 (by decide) (fun _ _ => rfl) (by unfold vp_in; decide) dX10_pour_87 ?_
    refine ti_top (y := x_19) ((congrArg _ (by decide)).trans (yx_19)) ?_
    have L_22 : rg 4 = x_19.toInt := (hr.1.2.2.1).trans (congrArg Int32.toInt (yx_19))
    refine lv_iload_n hx hb dX10_pour_88 rfl (lv_at hl 0 rfl) ?_
    refine lv_isub hx hb dX10_pour_89 ?_
    refine lv_topi (fun x_23 ex_23 => ?_)
    have tx_23 : x_23.toInt = bw (x_19.toInt - x_21.toInt) := bw_sub ex_23 rfl rfl
    refine ti_iast (ci := 10) (k := 35) (n := 23) C hw ob_60 (by decide) (fun _ _ => rfl) (by unfold vp_in; decide) dX10_pour_90 (fun H locs hw => ?_)
    obtain ⟨M_24, hM_24⟩ : ∃ z : ti_M, z = uY M 60 35 (upd (tY M 60 35) (0 : Int32).toNatClampNeg x_23) := ⟨_, rfl⟩
    have hw := hw.to hM_24.symm
    have iM_24 : mI Tm M_24 := mI_up (i := 0) hI hM_24 trivial
    have hs_25 : qR (tx 4).toNat 0 (pp_su rg 4 x_23.toInt) M_24 := qR_35 (z := 0) hr (by decide) rfl hM_24
    obtain ⟨g_26, eg_26⟩ : ∃ z : Nat → Int, z = pp_su rg 4 x_23.toInt := ⟨_, rfl⟩
    rw [← eg_26] at hs_25
    have sg_26 : g_26 4 = x_23.toInt := by rw [eg_26, su_s]
    refine lv_aload_n hx hb dX10_pour_91 rfl (lv_at hl 2 rfl) ?_
    refine ti_get (ci := 10) (k := 42) (N := 67) (T := TX10) (v := .ref (A 60 43)) C hw iw_10 rfl ob_60 (by decide) (by decide) fl_X10_93 rfl rfl dX10_pour_92 ?_
    refine lv_bipush (v := 8) hx hb dX10_pour_95 (by decide) ?_
    refine lv_iload_n hx hb dX10_pour_97 rfl (lv_at hl 3 rfl) ?_
    refine lv_imul hx hb dX10_pour_98 ?_
    refine ti_top (y := 0) (by decide) ?_
    refine lv_iload_n hx hb dX10_pour_99 rfl (lv_at hl 1 rfl) ?_
    refine lv_iadd hx hb dX10_pour_100 ?_
    refine lv_topi (fun x_27 ex_27 => ?_)
    have tx_27 : x_27.toInt = 0 + x_5.toInt := i_add ex_27 (by decide : (0 : Int32).toInt = 0) rfl (by omega) (by omega)
    refine lv_dup2_11 hx hb dX10_pour_101 rfl rfl ?_
    refine ti_iald (ci := 10) (k := 42) (n := 184) C hw ob_60 (by decide) (fun _ _ => rfl) (vp_in_iff.mpr (by omega)) dX10_pour_102 ?_
    refine lv_topi (fun x_28 ex_28 => ?_)
    have yx_28 : tY M_24 60 42 x_27.toNatClampNeg = x_28 := (ex_28.symm)
    have wx_28 : tY M 60 42 x_27.toNatClampNeg = x_28 := ((cg (tY_nE hM_24 (nk (by decide))) x_27.toNatClampNeg)).symm.trans yx_28
    have L_29 : g_26 (176 + x_5.toInt.toNat) = x_28.toInt := ((hs_25.2.2.2.1 (x_5.toInt.toNat) (by omega)).2.2.2.1).trans (rd_k (n := 8 * 0 + x_5.toInt.toNat) (by omega) ((cg (tY_nE hM_24 (nk (by decide))) x_27.toNatClampNeg).trans wx_28))
    have L_30 : rg (176 + x_5.toInt.toNat) = x_28.toInt := (show g_26 (176 + x_5.toInt.toNat) = rg (176 + x_5.toInt.toNat) by rw [eg_26, su_n (by omega)]).symm.trans L_29
    refine lv_iload_n hx hb dX10_pour_103 rfl (lv_at hl 0 rfl) ?_
    refine lv_iadd hx hb dX10_pour_104 ?_
    refine lv_topi (fun x_31 ex_31 => ?_)
    have tx_31 : x_31.toInt = bw (x_28.toInt + x_21.toInt) := bw_add ex_31 rfl rfl
    refine ti_iast (ci := 10) (k := 42) (n := 184) C hw ob_60 (by decide) (fun _ _ => rfl) (vp_in_iff.mpr (by omega)) dX10_pour_105 (fun H locs hw => ?_)
    obtain ⟨M_32, hM_32⟩ : ∃ z : ti_M, z = uY M_24 60 42 (upd (tY M_24 60 42) (x_27 : Int32).toNatClampNeg x_31) := ⟨_, rfl⟩
    have hw := hw.to hM_32.symm
    have iM_32 : mI Tm M_32 := mI_up (i := x_27.toNatClampNeg) iM_24 hM_32 trivial
    have hs_33 : qR (tx 4).toNat 0 (pp_su g_26 (176 + x_5.toInt.toNat) x_31.toInt) M_32 := qR_42 (m := x_5.toInt.toNat) (z := x_27) hs_25 (by omega) rfl hM_32 (by omega) (by omega)
    obtain ⟨g_34, eg_34⟩ : ∃ z : Nat → Int, z = pp_su g_26 (176 + x_5.toInt.toNat) x_31.toInt := ⟨_, rfl⟩
    rw [← eg_34] at hs_33
    have E_35 : bq_pr tx rg = g_34 := by unfold bq_pr; rw [if_neg (by omega), EN, L_6, show rg 4 = x_19.toInt by omega, show rg (176 + x_5.toInt.toNat) = x_28.toInt by omega, ← tx_23, ← tx_31, ← eg_26, ← eg_34]
    exact hQ _ _ _ _ _ hw (⟨(eR.trans (eR_Y hM_32 (bk_m (z := x_27) (by omega) (by decide))) (eR_Y hM_24 (bk_q (z := 0) (by decide) (by decide)))), (((tY_nE hM_32 (nk (by decide))).trans (tY_nE hM_24 (nk (by decide))))), (by rw [E_35]; exact hs_33), iM_32, (qw.trans (qw_Y hM_32 (by decide)) (qw_Y hM_24 (by decide))), (((tY_nE hM_32 (nk (by decide))).trans (tY_nE hM_24 (nk (by decide)))))⟩) dX10_pour_106
  · exact hQ _ _ _ _ _ hw (⟨eR.refl, rfl, (by unfold bq_pr; rw [if_pos (by omega)]; exact hr), hI, qw.refl, rfl⟩) dX10_pour_9
end

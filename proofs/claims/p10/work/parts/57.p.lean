variable {Tc : gC} {Tm : gM}
theorem pp_law {o : Nat} (h : ti_cls o = 1) : 21 ≤ o := by
  unfold ti_cls at h
  repeat' split at h
  all_goals omega
theorem lwb_b {t j : Nat} (hj : j < 3) : 21 ≤ ti_laws t j ∧ ti_laws t j ≤ 26 := by unfold ti_laws; split <;> omega
theorem lwb_j {t i j : Nat} (h : i ≠ j) : ti_laws t i ≠ ti_laws t j := by unfold ti_laws; split <;> omega
theorem ry_T {M N : ti_M} {o k : Nat} {v : Option Nat} (e : N = uT M o k v) : N.2.1 = M.2.1 := by subst e; rfl
/-- all that the other text tells stays, as do the face, queues, steps, stones, image -/
def ot (t : Nat) (N M : ti_M) : Prop := (∀ k : Nat, tI N (7 - t) k = tI M (7 - t) k) ∧ (∀ i k : Nat, i < 8 → tI N (ti_men (7 - t) i) k = tI M (ti_men (7 - t) i) k) ∧ (∀ k : Nat, tY N (7 - t) k = tY M (7 - t) k) ∧ (∀ j k : Nat, j < 3 → tI N (ti_laws (7 - t) j) k = tI M (ti_laws (7 - t) j) k ∧ tY N (ti_laws (7 - t) j) k = tY M (ti_laws (7 - t) j) k) ∧ ∀ o k : Nat, (o = 0 ∨ 26 < o) → tI N o k = tI M o k ∧ tY N o k = tY M o k
theorem ot.refl {t : Nat} {M : ti_M} : ot t M M := ⟨fun _ => rfl, fun _ _ _ => rfl, fun _ => rfl, fun _ _ _ => ⟨rfl, rfl⟩, fun _ _ _ => ⟨rfl, rfl⟩⟩
theorem ot.trans {t : Nat} {K N M : ti_M} (x : ot t K N) (y : ot t N M) : ot t K M := ⟨fun k => (x.1 k).trans (y.1 k), fun i k h => (x.2.1 i k h).trans (y.2.1 i k h), fun k => (x.2.2.1 k).trans (y.2.2.1 k), fun j k h => ⟨(x.2.2.2.1 j k h).1.trans (y.2.2.2.1 j k h).1, (x.2.2.2.1 j k h).2.trans (y.2.2.2.1 j k h).2⟩, fun o k h => ⟨(x.2.2.2.2 o k h).1.trans (y.2.2.2.2 o k h).1, (x.2.2.2.2 o k h).2.trans (y.2.2.2.2 o k h).2⟩⟩
theorem ot_of {t : Nat} {N M : ti_M} (e : N.1 = M.1) (e2 : N.2.1 = M.2.1) : ot t N M := ⟨fun _ => tI_fr e, fun _ _ _ => tI_fr e, fun _ => tY_fr e2, fun _ _ _ => ⟨tI_fr e, tY_fr e2⟩, fun _ _ _ => ⟨tI_fr e, tY_fr e2⟩⟩
theorem ot_12 {t : Nat} {N M : ti_M} (ht : t = 3 ∨ t = 4) (h : o12 N M) (e2 : N.2.1 = M.2.1) : ot t N M := ⟨fun k => h _ k (by omega) (by omega), fun i k _ => h _ k (by have := pp_men (t := 7 - t) (i := i); omega) (by have := pp_men (t := 7 - t) (i := i); omega), fun _ => tY_fr e2, fun j k hj => ⟨h _ k (by have := lwb_b (t := 7 - t) hj; omega) (by have := lwb_b (t := 7 - t) hj; omega), tY_fr e2⟩, fun o k q => ⟨h o k (by omega) (by omega), tY_fr e2⟩⟩
theorem ot_I {t o k : Nat} {N M : ti_M} {v : Int32} (ht : t = 3 ∨ t = 4) (e : N = uI M o k v) (h : (1 ≤ o ∧ o ≤ 2) ∨ o = t) : ot t N M := ⟨fun k2 => tI_nE e (no (by omega)), fun i k2 hi => tI_nE e (no (by have := pp_men (t := 7 - t) (i := i); have := pp_men20 (t := 7 - t) hi; omega)), fun _ => tY_uIE e, fun j k2 hj => ⟨tI_nE e (no (by have := lwb_b (t := 7 - t) hj; omega)), tY_uIE e⟩, fun o2 k2 q => ⟨tI_nE e (no (by omega)), tY_uIE e⟩⟩
theorem ot_m {t j k : Nat} {N M : ti_M} {v : Int32} (ht : t = 3 ∨ t = 4) (hj : j < 8) (e : N = uI M (ti_men t j) k v) : ot t N M := by
  have q : ∀ i : Nat, i < 8 → ti_men (7 - t) i ≠ ti_men t j := by
    intro i hi
    unfold ti_men
    rcases ht with rfl | rfl
    · rw [if_neg (by decide), if_pos rfl]; omega
    · rw [if_pos (by decide), if_neg (by decide)]; omega
  have w := pp_men (t := t) (i := j)
  have w2 := pp_men20 (t := t) hj
  exact ⟨fun k2 => tI_nE e (no (by omega)), fun i k2 hi => tI_nE e (no (q i hi)), fun _ => tY_uIE e, fun i k2 hi => ⟨tI_nE e (no (by have := lwb_b (t := 7 - t) hi; omega)), tY_uIE e⟩, fun o2 k2 q => ⟨tI_nE e (no (by omega)), tY_uIE e⟩⟩
theorem lw_ne {t i j : Nat} (ht : t = 3 ∨ t = 4) (hi : i < 3) (hj : j < 3) : ti_laws (7 - t) i ≠ ti_laws t j := by
  unfold ti_laws
  rcases ht with rfl | rfl
  · rw [if_neg (by decide), if_pos rfl]; omega
  · rw [if_pos (by decide), if_neg (by decide)]; omega
theorem ot_l {t j k : Nat} {N M : ti_M} {v : Int32} (ht : t = 3 ∨ t = 4) (hj : j < 3) (e : N = uI M (ti_laws t j) k v) : ot t N M := by
  have w := lwb_b (t := t) hj
  exact ⟨fun k2 => tI_nE e (no (by omega)), fun i k2 hi => tI_nE e (no (by have := pp_men20 (t := 7 - t) hi; omega)), fun _ => tY_uIE e, fun i k2 hi => ⟨tI_nE e (no (lw_ne ht hi hj)), tY_uIE e⟩, fun o2 k2 q => ⟨tI_nE e (no (by omega)), tY_uIE e⟩⟩
theorem ot_Yt {t k : Nat} {N M : ti_M} {f : Nat → Int32} (ht : t = 3 ∨ t = 4) (e : N = uY M t k f) : ot t N M := ⟨fun _ => tI_uYE e, fun _ _ _ => tI_uYE e, fun _ => tY_nE e (no (by omega)), fun i k2 hi => ⟨tI_uYE e, tY_nE e (no (by have := lwb_b (t := 7 - t) hi; omega))⟩, fun o2 k2 q => ⟨tI_uYE e, tY_nE e (no (by omega))⟩⟩
theorem ot_Yl {t j k : Nat} {N M : ti_M} {f : Nat → Int32} (ht : t = 3 ∨ t = 4) (hj : j < 3) (e : N = uY M (ti_laws t j) k f) : ot t N M := by
  have w := lwb_b (t := t) hj
  exact ⟨fun _ => tI_uYE e, fun _ _ _ => tI_uYE e, fun _ => tY_nE e (no (by omega)), fun i k2 hi => ⟨tI_uYE e, tY_nE e (no (lw_ne ht hi hj))⟩, fun o2 k2 q => ⟨tI_uYE e, tY_nE e (no (by omega))⟩⟩
/-! what is told, beside the registers -/
def tq (t : Nat) (td : Nat → Int) (M : ti_M) : Prop := (∀ k : Nat, 6 ≤ k → k ≤ 11 → td k = (tI M t k).toInt) ∧ (∀ i : Nat, i < 3 → td (32 + i) = (tY M t 1 i).toInt) ∧ (∀ i k : Nat, i < 8 → 1 ≤ k → k ≤ 8 → td (100 + 16 * i + k) = (tI M (ti_men t i) k).toInt) ∧ ∀ j : Nat, j < 3 → td (300 + j) = (tI M (ti_laws t j) 3).toInt ∧ ∀ n : Nat, n < 64 → td (400 + 64 * j + n) = (tY M (ti_laws t j) 0 n).toInt
section
variable {t j k : Nat} {td : Nat → Int} {M N : ti_M} {v z : Int32} {x : Int}
theorem tq_of (h : tq t td M) (a : ∀ k : Nat, 6 ≤ k → k ≤ 11 → tI N t k = tI M t k) (b : tY N t 1 = tY M t 1) (c : ∀ i k : Nat, i < 8 → 1 ≤ k → k ≤ 8 → tI N (ti_men t i) k = tI M (ti_men t i) k) (d : ∀ j : Nat, j < 3 → tI N (ti_laws t j) 3 = tI M (ti_laws t j) 3 ∧ tY N (ti_laws t j) 0 = tY M (ti_laws t j) 0) : tq t td N :=
  ⟨fun k h1 h2 => by rw [a k h1 h2]; exact h.1 k h1 h2, fun i hi => by rw [b]; exact h.2.1 i hi, fun i k hi h1 h2 => by rw [c i k hi h1 h2]; exact h.2.2.1 i k hi h1 h2, fun j hj => ⟨by rw [(d j hj).1]; exact (h.2.2.2 j hj).1, fun n hn => by rw [(d j hj).2]; exact (h.2.2.2 j hj).2 n hn⟩⟩
theorem tq_fr (ht : t = 3 ∨ t = 4) (h : tq t td M) (o : o12 N M) (e : N.2.1 = M.2.1) : tq t td N := tq_of h (fun k _ _ => o t k (by omega) (by omega)) (tY_fr e) (fun i k _ _ _ => o _ k (by have := pp_men (t := t) (i := i); omega) (by have := pp_men (t := t) (i := i); omega)) (fun j hj => ⟨o _ 3 (by have := lwb_b (t := t) hj; omega) (by have := lwb_b (t := t) hj; omega), tY_fr e⟩)
theorem tq_T {o : Nat} {f : Option Nat} (h : tq t td M) (e : N = uT M o k f) : tq t td N := by subst e; exact h
/-- ints that tell nothing here: the reader's, names, guards, lines, men, knots -/
theorem tq_I0 {o : Nat} (ht : t = 3 ∨ t = 4) (h : tq t td M) (e : N = uI M o k v) (ho : o ≤ 2) : tq t td N := tq_of h (fun k _ _ => tI_nE e (no (by omega))) (tY_uIE e) (fun i k _ _ _ => tI_nE e (no (by have := pp_men (t := t) (i := i); omega))) (fun j hj => ⟨tI_nE e (no (by have := lwb_b (t := t) hj; omega)), tY_uIE e⟩)
theorem tq_t0 (ht : t = 3 ∨ t = 4) (h : tq t td M) (e : N = uI M t k v) (hk : k < 6) : tq t td N := tq_of h (fun k2 _ _ => tI_nE e (nk (by omega))) (tY_uIE e) (fun i k _ _ _ => tI_nE e (no (by have := pp_men (t := t) (i := i); omega))) (fun j hj => ⟨tI_nE e (no (by have := lwb_b (t := t) hj; omega)), tY_uIE e⟩)
theorem tq_m0 (ht : t = 3 ∨ t = 4) (hj : j < 8) (h : tq t td M) (e : N = uI M (ti_men t j) k v) (hk : k = 0 ∨ 8 < k) : tq t td N := tq_of h (fun k _ _ => tI_nE e (no (by have := pp_men (t := t) (i := j); omega))) (tY_uIE e) (fun i k2 _ h1 h2 => tI_nE e (nk (by omega))) (fun i hi => ⟨tI_nE e (no (by have := lwb_b (t := t) hi; have := pp_men20 (t := t) hj; omega)), tY_uIE e⟩)
theorem tq_t (ht : t = 3 ∨ t = 4) (h : tq t td M) (hv : v.toInt = x) (e : N = uI M t k v) (hk : 6 ≤ k ∧ k ≤ 11) : tq t (pp_su td k x) N := by
  refine ⟨fun k2 h1 h2 => ?_, fun i hi => ?_, fun i k2 hi h1 h2 => ?_, fun i hi => ⟨?_, fun n hn => ?_⟩⟩
  · by_cases q : k2 = k
    · subst q; rw [su_s, tI_uE e, hv]
    · rw [su_n q, tI_nE e (nk q)]; exact h.1 k2 h1 h2
  · rw [su_n (by omega), tY_uIE e]; exact h.2.1 i hi
  · rw [su_n (by omega), tI_nE e (no (by have := pp_men (t := t) (i := i); omega))]; exact h.2.2.1 i k2 hi h1 h2
  · rw [su_n (by omega), tI_nE e (no (by have := lwb_b (t := t) hi; omega))]; exact (h.2.2.2 i hi).1
  · rw [su_n (by omega), tY_uIE e]; exact (h.2.2.2 i hi).2 n hn
theorem tq_m (ht : t = 3 ∨ t = 4) (hj : j < 8) (h : tq t td M) (hv : v.toInt = x) (e : N = uI M (ti_men t j) k v) (hk : 1 ≤ k ∧ k ≤ 8) : tq t (pp_su td (100 + 16 * j + k) x) N := by
  refine ⟨fun k2 h1 h2 => ?_, fun i hi => ?_, fun i k2 hi h1 h2 => ?_, fun i hi => ⟨?_, fun n hn => ?_⟩⟩
  · rw [su_n (by omega), tI_nE e (no (by have := pp_men (t := t) (i := j); omega))]; exact h.1 k2 h1 h2
  · rw [su_n (by omega), tY_uIE e]; exact h.2.1 i hi
  · by_cases q : i = j
    · subst q
      by_cases r : k2 = k
      · subst r; rw [su_s, tI_uE e, hv]
      · rw [su_n (by omega), tI_nE e (nk r)]; exact h.2.2.1 i k2 hi h1 h2
    · rw [su_n (by omega), tI_nE e (no (pp_menj q))]; exact h.2.2.1 i k2 hi h1 h2
  · rw [su_n (by omega), tI_nE e (no (by have := lwb_b (t := t) hi; have := pp_men20 (t := t) hj; omega))]; exact (h.2.2.2 i hi).1
  · rw [su_n (by omega), tY_uIE e]; exact (h.2.2.2 i hi).2 n hn
theorem tq_l (ht : t = 3 ∨ t = 4) (hj : j < 3) (h : tq t td M) (hv : v.toInt = x) (e : N = uI M (ti_laws t j) 3 v) : tq t (pp_su td (300 + j) x) N := by
  have w := lwb_b (t := t) hj
  refine ⟨fun k2 h1 h2 => ?_, fun i hi => ?_, fun i k2 hi h1 h2 => ?_, fun i hi => ⟨?_, fun n hn => ?_⟩⟩
  · rw [su_n (by omega), tI_nE e (no (by omega))]; exact h.1 k2 h1 h2
  · rw [su_n (by omega), tY_uIE e]; exact h.2.1 i hi
  · rw [su_n (by omega), tI_nE e (no (by have := pp_men20 (t := t) hi; omega))]; exact h.2.2.1 i k2 hi h1 h2
  · by_cases q : i = j
    · subst q; rw [su_s, tI_uE e, hv]
    · rw [su_n (by omega), tI_nE e (no (lwb_j q))]; exact (h.2.2.2 i hi).1
  · rw [su_n (by omega), tY_uIE e]; exact (h.2.2.2 i hi).2 n hn
theorem tq_Y1 (ht : t = 3 ∨ t = 4) (h : tq t td M) (hz : z.toInt = (j : Int)) (hj : j < 3) (hv : v.toInt = x) (e : N = uY M t 1 (upd (tY M t 1) z.toNatClampNeg v)) : tq t (pp_su td (32 + j) x) N := by
  rw [i_cl hz] at e
  refine ⟨fun k2 h1 h2 => ?_, fun i hi => ?_, fun i k2 hi h1 h2 => ?_, fun i hi => ⟨?_, fun n hn => ?_⟩⟩
  · rw [su_n (by omega), tI_uYE e]; exact h.1 k2 h1 h2
  · rw [tY_uE e]
    by_cases q : i = j
    · subst q; rw [su_s, pk_us, hv]
    · rw [su_n (by omega), pk_un q]; exact h.2.1 i hi
  · rw [su_n (by omega), tI_uYE e]; exact h.2.2.1 i k2 hi h1 h2
  · rw [su_n (by omega), tI_uYE e]; exact (h.2.2.2 i hi).1
  · rw [su_n (by omega), tY_nE e (no (by have := lwb_b (t := t) hi; omega))]; exact (h.2.2.2 i hi).2 n hn
theorem tq_Yc {n : Nat} (ht : t = 3 ∨ t = 4) (hj : j < 3) (h : tq t td M) (hz : z.toInt = (n : Int)) (hn : n < 64) (hv : v.toInt = x) (e : N = uY M (ti_laws t j) 0 (upd (tY M (ti_laws t j) 0) z.toNatClampNeg v)) : tq t (pp_su td (400 + 64 * j + n) x) N := by
  rw [i_cl hz] at e
  have w := lwb_b (t := t) hj
  refine ⟨fun k2 h1 h2 => ?_, fun i hi => ?_, fun i k2 hi h1 h2 => ?_, fun i hi => ⟨?_, fun n2 hn2 => ?_⟩⟩
  · rw [su_n (by omega), tI_uYE e]; exact h.1 k2 h1 h2
  · rw [su_n (by omega), tY_nE e (no (by omega))]; exact h.2.1 i hi
  · rw [su_n (by omega), tI_uYE e]; exact h.2.2.1 i k2 hi h1 h2
  · rw [su_n (by omega), tI_uYE e]; exact (h.2.2.2 i hi).1
  · by_cases q : i = j
    · subst q
      rw [tY_uE e]
      by_cases r : n2 = n
      · subst r; rw [su_s, pk_us, hv]
      · rw [su_n (by omega), pk_un r]; exact (h.2.2.2 i hi).2 n2 hn2
    · rw [su_n (by omega), tY_nE e (no (lwb_j q))]; exact (h.2.2.2 i hi).2 n2 hn2
end
set_option maxHeartbeats 4000000 in
set_option maxRecDepth 100000 in
theorem x_X8_find (l : Launch) (D : va_G) (A : Nat → Nat → Nat) (cy : Nat → ClassId) (hJ : ti_inj ti_LT A) (M : ti_M) (hI : cI Tc M) (t : Nat) (ht : t = 3 ∨ t = 4) (nm : Int32) (B : Nat → Int) (n : Nat) (rg : Nat → Int) (hr : rC B n t rg M) : ti_Ki l yX8_find cX8_find 3 (some .int) 0 ti_LT D A cy M [.ref (A t 0), .int nm] (fun r M2 => M2 = M ∧ (-1) ≤ r.toInt ∧ r.toInt ≤ 7 ∧ r.toInt = pp_fd rg nm.toInt 0) := by
  refine ti_eI yp_X8_find hJ ti_LT_nd (Nat.le_of_ble_eq_true rfl) ?_
  intro p e s m args below meth c Q H0 C hQ hw ls hl
  have hx := C.1
  have hb := C.2.1
  have hl : lv_has ls 3 [(0, .ref (A t 0)), (1, .int nm)] := hl
  have l0 : rg 0 = (tI M 2 4).toInt := hr.2.1.1
  have l1 : rg 1 = (tI M 2 6).toInt := hr.2.1.2.1
  have l2 : rg 2 = (tI M 2 5).toInt := hr.2.1.2.2.1
  have l3 : rg 3 = (tI M 2 3).toInt := hr.2.1.2.2.2
  have l4 : rg 4 = (tI M 1 4).toInt := hr.2.2.1.1
  have l5 : rg 5 = (tI M 1 5).toInt := hr.2.2.1.2.1
  have l7 : rg 7 = (tI M t 4).toInt := hr.2.2.2.1.1
  have l8 : rg 8 = (tI M t 5).toInt := hr.2.2.2.1.2.1
  have l9 : rg 9 = (tI M t 3).toInt := hr.2.2.2.1.2.2
  refine lv_iconst (v := 0) hx hb dX8_find_0 (by decide) ?_
  refine lv_istore_n (lv' := [(2, .int 0), (0, .ref (A t 0)), (1, .int nm)]) hx hb dX8_find_1 rfl hl (by decide) rfl (fun ls hl => ?_)
  have hl_2_4 : ∀ (n_5 : Nat) (x_1 : Int32) (H : Heap) (locs : List Loc) (ls : Array Slot), (8 - x_1.toInt : Int).toNat < n_5 → (0 ≤ x_1.toInt) → (x_1.toInt ≤ 8) → (pp_fd rg nm.toInt 0 = pp_fd rg nm.toInt (x_1.toInt).toNat) → ti_H ti_LT D A cy H0 M H locs → lv_has ls 3 [(2, .int x_1), (0, .ref (A t 0)), (1, .int nm)] → W p l e (ti_rm 0) s m args below meth c H locs 0 0 Q (F0 m 2 ls []) := by
    intro n_5
    induction n_5 with
    | zero => intro x_1 H locs ls hf_5; exact absurd hf_5 (Nat.not_lt_zero _)
    | succ n_5 ih_5 =>
      intro x_1 H locs ls hf_5 b_2 b_3 j_4 hw hl
      refine lv_iload_n hx hb dX8_find_2 rfl (lv_at hl 0 rfl) ?_
      refine lv_aload_n hx hb dX8_find_3 rfl (lv_at hl 1 rfl) ?_
      refine ti_get (ci := 8) (k := 4) (N := 12) (T := TX8) C hw iw_8 rfl (ob_t ht) (by decide) (by decide) fl_X8_36 rfl rfl dX8_find_4 ?_
      refine lv_topi (fun x_6 ex_6 => ?_)
      have bx_6 : 0 ≤ x_6.toInt ∧ x_6.toInt ≤ 8 := cI_rd hI (ob_t ht).1 ex_6
      have ux_6 : (tI M t 4).toInt = x_6.toInt := by rw [ex_6]
      refine sb_icmp_ge (tgt := 31) hx hb rfl rfl dX8_find_7 (by decide) (fun c_7_6 => ?_) (fun c_7_6 => ?_)
      · refine lv_iconst (v := (-1)) hx hb dX8_find_31 (by decide) ?_
        exact hQ _ _ _ _ _ _ hw rfl (⟨rfl, by decide, by decide, (by rw [j_4, fd_end (s := rg) (v := nm.toInt) (i := x_1.toInt.toNat) (by omega)]; decide)⟩) dX8_find_32
      · refine lv_aload_n hx hb dX8_find_10 rfl (lv_at hl 1 rfl) ?_
        refine ti_get (ci := 8) (k := 0) (N := 12) (T := TX8) (v := .ref (A t 1)) C hw iw_8 rfl (ob_t ht) (by decide) (by decide) fl_X8_11 rfl rfl dX8_find_11 ?_
        refine lv_iload_n hx hb dX8_find_14 rfl (lv_at hl 0 rfl) ?_
        refine ti_aald (ci := 8) (k := 0) (n := 8) (t0 := 5) (Cn := RX2) (gg := (ti_men t)) (j := x_1.toNatClampNeg) C hw (ob_t ht) (by decide) (fun _ _ => rfl) rfl (vp_in_iff.mpr (by omega)) rfl dX8_find_15 ?_
        have ob_8 : ti_ob ti_LT (ti_men t x_1.toNatClampNeg) 2 := ob_m ht (i_nt rfl (by omega) (by omega))
        refine ti_get (ci := 2) (k := 0) (N := 10) (T := TX2) C hw iw_2 rfl ob_8 (by decide) (by decide) fl_X8_63 rfl rfl dX8_find_16 ?_
        refine lv_topi (fun x_9 ex_9 => ?_)
        have u_10 : (tI M (ti_men t x_1.toNatClampNeg) 0).toInt = x_9.toInt := by rw [ex_9]
        have mnx_1 : rg (100 + x_1.toInt.toNat) = x_9.toInt := by rw [ex_9]; exact (hr.2.2.2.2 x_1.toInt.toNat (by omega)).1
        refine lv_iload_n hx hb dX8_find_19 rfl (lv_at hl 2 rfl) ?_
        refine sb_icmp_ne (tgt := 25) hx hb rfl rfl dX8_find_20 (by decide) (fun c_20_10 => ?_) (fun c_20_10 => ?_)
        · obtain ⟨x_12, ex_12⟩ : ∃ z : Int32, z = x_1 + 1 := ⟨_, rfl⟩
          have tx_12 : x_12.toInt = x_1.toInt + 1 := i_add ex_12 rfl (by decide) (by omega) (by omega)
          refine lv_iinc (v := x_12) (lv' := [(2, .int x_12), (0, .ref (A t 0)), (1, .int nm)]) hx hb dX8_find_25 hl (k := 0) rfl (by rw [ex_12]; rfl) (by decide) rfl (fun ls hl => ?_)
          refine lv_goto (tgt := 2) hx hb dX8_find_28 (by decide) ?_
          exact ih_5 x_12 _ _ _ (by omega) (by first | omega | decide) (by first | omega | decide) (by rw [show x_12.toInt.toNat = x_1.toInt.toNat + 1 by omega, ← fd_go (s := rg) (v := nm.toInt) (i := x_1.toInt.toNat) (by omega) (by rw [mnx_1]; omega)]; exact j_4) hw (lv_sub hl [0, 1, 2] rfl)
        · refine lv_iload_n hx hb dX8_find_23 rfl (lv_at hl 0 rfl) ?_
          exact hQ _ _ _ _ _ _ hw rfl (⟨rfl, by omega, by omega, (by rw [j_4, fd_at (s := rg) (v := nm.toInt) (i := x_1.toInt.toNat) (by omega) (by rw [mnx_1]; omega)]; omega)⟩) dX8_find_24
  exact hl_2_4 ((8 - 0 : Int).toNat + 1) 0 _ _ _ (Nat.lt_succ_self _) (by have lt0 : (0 : Int32).toInt = 0 := (by decide); first | omega | decide) (by have lt0 : (0 : Int32).toInt = 0 := (by decide); first | omega | decide) rfl hw (lv_sub hl [0, 1, 2] rfl)
set_option maxHeartbeats 4000000 in
set_option maxRecDepth 100000 in
theorem x_X4_refuse (l : Launch) (D : va_G) (A : Nat → Nat → Nat) (cy : Nat → ClassId) (hJ : ti_inj ti_LT A) (M : ti_M) (hI : cI Tc M) (t : Nat) (ht : t = 3 ∨ t = 4) (kd : Int32) (B : Nat → Int) (n : Nat) (rg : Nat → Int) (hr : rC B n t rg M) : ti_Kv l yX4_refuse cX4_refuse 2 0 ti_LT D A cy M [.ref (A 1 0), .int kd] (fun M2 => cI Tc M2 ∧ M2.2.2.2 = M.2.2.2 ∧ o12 M2 M ∧ tI M2 2 1 = tI M 2 1 ∧ M2.2.1 = M.2.1 ∧ rC B n t (pp_rf kd.toInt rg) M2) := by
  refine ti_eV yp_X4_refuse hJ ti_LT_nd (Nat.le_of_ble_eq_true rfl) ?_
  intro p e s m args below meth c Q H0 C hQ hw ls hl
  have hx := C.1
  have hb := C.2.1
  have hl : lv_has ls 2 [(0, .ref (A 1 0)), (1, .int kd)] := hl
  have l0 : rg 0 = (tI M 2 4).toInt := hr.2.1.1
  have l1 : rg 1 = (tI M 2 6).toInt := hr.2.1.2.1
  have l2 : rg 2 = (tI M 2 5).toInt := hr.2.1.2.2.1
  have l3 : rg 3 = (tI M 2 3).toInt := hr.2.1.2.2.2
  have l4 : rg 4 = (tI M 1 4).toInt := hr.2.2.1.1
  have l5 : rg 5 = (tI M 1 5).toInt := hr.2.2.1.2.1
  have l7 : rg 7 = (tI M t 4).toInt := hr.2.2.2.1.1
  have l8 : rg 8 = (tI M t 5).toInt := hr.2.2.2.1.2.1
  have l9 : rg 9 = (tI M t 3).toInt := hr.2.2.2.1.2.2
  refine lv_aload_n hx hb dX4_refuse_0 rfl (lv_at hl 0 rfl) ?_
  refine ti_get (ci := 4) (k := 4) (N := 6) (T := TX4) C hw iw_4 rfl ob_1 (by decide) (by decide) fl_X4_22 rfl rfl dX4_refuse_1 ?_
  refine lv_topi (fun x_1 ex_1 => ?_)
  have u_2 : (tI M 1 4).toInt = x_1.toInt := by rw [ex_1]
  refine sb_if_ne (tgt := 23) hx hb rfl dX4_refuse_4 (by decide) (fun c_4_2 => ?_) (fun c_4_2 => ?_)
  · refine lv_aload_n hx hb dX4_refuse_23 rfl (lv_at hl 0 rfl) ?_
    refine ti_get (ci := 4) (k := 0) (N := 6) (T := TX4) (v := .ref (A 2 0)) C hw iw_4 rfl ob_1 (by decide) (by decide) fl_X4_12 rfl rfl dX4_refuse_24 ?_
    refine lv_bipush (v := 28) hx hb dX4_refuse_27 (by decide) ?_
    refine ti_putI (ci := 7) (k := 4) (N := 7) (T := TX7) C hw iw_7 tyX7 tyX7_ok nmX7 rfl ob_2 (by decide) (by decide) fl_X4_41 rfl rfl rfl rfl (fn_7 A _) fs_7_4 dX4_refuse_29 (fun H locs hw => ?_)
    obtain ⟨M_12, hM_12⟩ : ∃ z : ti_M, z = uI M 2 4 28 := ⟨_, rfl⟩
    have hw := hw.to hM_12.symm
    have iM_12 : cI Tc M_12 := cI_uI hI hM_12 ob_2.1 (ib_mk (lo := 0) (hi := 41) (by decide) (by decide))
    have vM_12 : (tI M_12 2 4).toInt = 28 := by rw [tI_uE hM_12]; decide
    have hs_13 := rC_24 ht hM_12 hr
    rw [show (28 : Int32).toInt = 28 by decide] at hs_13
    obtain ⟨g_14, eg_14⟩ : ∃ z : Nat → Int, z = pp_su rg 0 28 := ⟨_, rfl⟩
    rw [← eg_14] at hs_13
    have lg_14_0 : g_14 0 = (tI M_12 2 4).toInt := hs_13.2.1.1
    have lg_14_1 : g_14 1 = (tI M_12 2 6).toInt := hs_13.2.1.2.1
    have lg_14_4 : g_14 4 = (tI M_12 1 4).toInt := hs_13.2.2.1.1
    have lg_14_7 : g_14 7 = (tI M_12 t 4).toInt := hs_13.2.2.2.1.1
    have lg_14_8 : g_14 8 = (tI M_12 t 5).toInt := hs_13.2.2.2.1.2.1
    exact hQ _ _ _ _ _ hw (⟨iM_12, (rf_I hM_12), (o12_I hM_12 (by decide)), (tI_nE hM_12 (nk (by decide))), (ry_I hM_12), (by unfold pp_rf; rw [if_neg (by omega), ← eg_14]; exact hs_13)⟩) dX4_refuse_32
  · refine lv_aload_n hx hb dX4_refuse_7 rfl (lv_at hl 0 rfl) ?_
    refine lv_iload_n hx hb dX4_refuse_8 rfl (lv_at hl 1 rfl) ?_
    refine ti_putI (ci := 4) (k := 4) (N := 6) (T := TX4) C hw iw_4 tyX4 tyX4_ok nmX4 rfl ob_1 (by decide) (by decide) fl_X4_22 rfl rfl rfl rfl (fn_4 A _) fs_4_4 dX4_refuse_9 (fun H locs hw => ?_)
    obtain ⟨M_4, hM_4⟩ : ∃ z : ti_M, z = uI M 1 4 kd := ⟨_, rfl⟩
    have hw := hw.to hM_4.symm
    have iM_4 : cI Tc M_4 := cI_uI hI hM_4 ob_1.1 trivial
    have hs_5 := rC_14 ht hM_4 hr
    obtain ⟨g_6, eg_6⟩ : ∃ z : Nat → Int, z = pp_su rg 4 kd.toInt := ⟨_, rfl⟩
    rw [← eg_6] at hs_5
    have lg_6_0 : g_6 0 = (tI M_4 2 4).toInt := hs_5.2.1.1
    have lg_6_1 : g_6 1 = (tI M_4 2 6).toInt := hs_5.2.1.2.1
    have lg_6_4 : g_6 4 = (tI M_4 1 4).toInt := hs_5.2.2.1.1
    have lg_6_7 : g_6 7 = (tI M_4 t 4).toInt := hs_5.2.2.2.1.1
    have lg_6_8 : g_6 8 = (tI M_4 t 5).toInt := hs_5.2.2.2.1.2.1
    refine lv_aload_n hx hb dX4_refuse_12 rfl (lv_at hl 0 rfl) ?_
    refine lv_aload_n hx hb dX4_refuse_13 rfl (lv_at hl 0 rfl) ?_
    refine ti_get (ci := 4) (k := 0) (N := 6) (T := TX4) (v := .ref (A 2 0)) C hw iw_4 rfl ob_1 (by decide) (by decide) fl_X4_12 rfl rfl dX4_refuse_14 ?_
    refine ti_get (ci := 7) (k := 5) (N := 7) (T := TX7) C hw iw_7 rfl ob_2 (by decide) (by decide) fl_X4_91 rfl rfl dX4_refuse_17 ?_
    refine lv_topi (fun x_7 ex_7 => ?_)
    have u_8 : (tI M_4 2 5).toInt = x_7.toInt := by rw [ex_7]
    have lxx_7 : rg 2 = x_7.toInt := by rw [l2, ex_7, (tI_nE hM_4 (nk (by decide)))]
    refine ti_putI (ci := 4) (k := 5) (N := 6) (T := TX4) C hw iw_4 tyX4 tyX4_ok nmX4 rfl ob_1 (by decide) (by decide) fl_X4_25 rfl rfl rfl rfl (fn_4 A _) fs_4_5 dX4_refuse_20 (fun H locs hw => ?_)
    obtain ⟨M_9, hM_9⟩ : ∃ z : ti_M, z = uI M_4 1 5 x_7 := ⟨_, rfl⟩
    have hw := hw.to hM_9.symm
    have iM_9 : cI Tc M_9 := cI_uI iM_4 hM_9 ob_1.1 trivial
    have hs_10 := rC_15 ht hM_9 hs_5
    obtain ⟨g_11, eg_11⟩ : ∃ z : Nat → Int, z = pp_su g_6 5 x_7.toInt := ⟨_, rfl⟩
    rw [← eg_11] at hs_10
    have lg_11_0 : g_11 0 = (tI M_9 2 4).toInt := hs_10.2.1.1
    have lg_11_1 : g_11 1 = (tI M_9 2 6).toInt := hs_10.2.1.2.1
    have lg_11_4 : g_11 4 = (tI M_9 1 4).toInt := hs_10.2.2.1.1
    have lg_11_7 : g_11 7 = (tI M_9 t 4).toInt := hs_10.2.2.2.1.1
    have lg_11_8 : g_11 8 = (tI M_9 t 5).toInt := hs_10.2.2.2.1.2.1
    refine lv_aload_n hx hb dX4_refuse_23 rfl (lv_at hl 0 rfl) ?_
    refine ti_get (ci := 4) (k := 0) (N := 6) (T := TX4) (v := .ref (A 2 0)) C hw iw_4 rfl ob_1 (by decide) (by decide) fl_X4_12 rfl rfl dX4_refuse_24 ?_
    refine lv_bipush (v := 28) hx hb dX4_refuse_27 (by decide) ?_
    refine ti_putI (ci := 7) (k := 4) (N := 7) (T := TX7) C hw iw_7 tyX7 tyX7_ok nmX7 rfl ob_2 (by decide) (by decide) fl_X4_41 rfl rfl rfl rfl (fn_7 A _) fs_7_4 dX4_refuse_29 (fun H locs hw => ?_)
    obtain ⟨M_15, hM_15⟩ : ∃ z : ti_M, z = uI M_9 2 4 28 := ⟨_, rfl⟩
    have hw := hw.to hM_15.symm
    have iM_15 : cI Tc M_15 := cI_uI iM_9 hM_15 ob_2.1 (ib_mk (lo := 0) (hi := 41) (by decide) (by decide))
    have vM_15 : (tI M_15 2 4).toInt = 28 := by rw [tI_uE hM_15]; decide
    have hs_16 := rC_24 ht hM_15 hs_10
    rw [show (28 : Int32).toInt = 28 by decide] at hs_16
    obtain ⟨g_17, eg_17⟩ : ∃ z : Nat → Int, z = pp_su g_11 0 28 := ⟨_, rfl⟩
    rw [← eg_17] at hs_16
    have lg_17_0 : g_17 0 = (tI M_15 2 4).toInt := hs_16.2.1.1
    have lg_17_1 : g_17 1 = (tI M_15 2 6).toInt := hs_16.2.1.2.1
    have lg_17_4 : g_17 4 = (tI M_15 1 4).toInt := hs_16.2.2.1.1
    have lg_17_7 : g_17 7 = (tI M_15 t 4).toInt := hs_16.2.2.2.1.1
    have lg_17_8 : g_17 8 = (tI M_15 t 5).toInt := hs_16.2.2.2.1.2.1
    exact hQ _ _ _ _ _ hw (⟨iM_15, ((rf_I hM_15).trans ((rf_I hM_9).trans (rf_I hM_4))), (o12.trans (o12_I hM_15 (by decide)) (o12.trans (o12_I hM_9 (by decide)) (o12_I hM_4 (by decide)))), ((tI_nE hM_15 (nk (by decide))).trans ((tI_nE hM_9 (nk (by decide))).trans (tI_nE hM_4 (nk (by decide))))), ((ry_I hM_15).trans ((ry_I hM_9).trans (ry_I hM_4))), (by unfold pp_rf; rw [if_pos (by omega), show rg 2 = x_7.toInt by omega, ← eg_6, ← eg_11, ← eg_17]; exact hs_16)⟩) dX4_refuse_32
set_option maxHeartbeats 4000000 in
set_option maxRecDepth 100000 in
theorem x_X4_take (l : Launch) (D : va_G) (A : Nat → Nat → Nat) (cy : Nat → ClassId) (hJ : ti_inj ti_LT A) (M : ti_M) (hI : cI Tc M) (t : Nat) (ht : t = 3 ∨ t = 4) (kd : Int32) (B : Nat → Int) (n : Nat) (rg : Nat → Int) (hr : rC B n t rg M) : ti_KvE l yX4_take cX4_take 2 7 ti_LT D A cy M [.ref (A 1 0), .int kd] (fun M2 => cI Tc M2 ∧ M2.2.2.2 = M.2.2.2 ∧ o12 M2 M ∧ tI M2 2 1 = tI M 2 1 ∧ M2.2.1 = M.2.1 ∧ rC B n t (pp_tk B n kd.toInt rg) M2) := by
  refine ti_eVE yp_X4_take hJ ti_LT_nd (Nat.le_of_ble_eq_true rfl) ?_
  intro p e s m args below meth c Q H0 C hE hQ hw ls hl
  have hx := C.1
  have hb := C.2.1
  have hl : lv_has ls 2 [(0, .ref (A 1 0)), (1, .int kd)] := hl
  have l0 : rg 0 = (tI M 2 4).toInt := hr.2.1.1
  have l1 : rg 1 = (tI M 2 6).toInt := hr.2.1.2.1
  have l2 : rg 2 = (tI M 2 5).toInt := hr.2.1.2.2.1
  have l3 : rg 3 = (tI M 2 3).toInt := hr.2.1.2.2.2
  have l4 : rg 4 = (tI M 1 4).toInt := hr.2.2.1.1
  have l5 : rg 5 = (tI M 1 5).toInt := hr.2.2.1.2.1
  have l7 : rg 7 = (tI M t 4).toInt := hr.2.2.2.1.1
  have l8 : rg 8 = (tI M t 5).toInt := hr.2.2.2.1.2.1
  have l9 : rg 9 = (tI M t 3).toInt := hr.2.2.2.1.2.2
  refine lv_aload_n hx hb dX4_take_0 rfl (lv_at hl 0 rfl) ?_
  refine ti_get (ci := 4) (k := 0) (N := 6) (T := TX4) (v := .ref (A 2 0)) C hw iw_4 rfl ob_1 (by decide) (by decide) fl_X4_12 rfl rfl dX4_take_1 ?_
  refine ti_get (ci := 7) (k := 4) (N := 7) (T := TX7) C hw iw_7 rfl ob_2 (by decide) (by decide) fl_X4_41 rfl rfl dX4_take_4 ?_
  refine lv_topi (fun x_1 ex_1 => ?_)
  have bx_1 : 0 ≤ x_1.toInt ∧ x_1.toInt ≤ 41 := cI_rd hI ob_2.1 ex_1
  have ux_1 : (tI M 2 4).toInt = x_1.toInt := by rw [ex_1]
  refine lv_iload_n hx hb dX4_take_7 rfl (lv_at hl 1 rfl) ?_
  refine sb_icmp_ne (tgt := 21) hx hb rfl rfl dX4_take_8 (by decide) (fun c_8_1 => ?_) (fun c_8_1 => ?_)
  · refine lv_aload_n hx hb dX4_take_21 rfl (lv_at hl 0 rfl) ?_
    refine lv_iconst (v := 1) hx hb dX4_take_22 (by decide) ?_
    refine ti_callVv (ci := 4) (av := [.int 1]) C hw (x_X4_refuse l D A cy hJ M hI t ht 1 B n rg hr) ⟨ml_X4_82, ym_X4_refuse, yv_X4_refuse, yi_X4_refuse, yc_X4_refuse⟩ yd_X4_refuse ob_1 (by decide) rfl rfl hl.1 (Nat.le_of_ble_eq_true rfl) ⟨by decide, by decide⟩ ⟨Nat.zero_le _, Nat.zero_le _⟩ dX4_take_23 (fun M_12 H locs hp_12 hw => ?_)
    obtain ⟨iM_12, q_13, q_14, q_15, q_16, p0r_11⟩ := hp_12
    have hlr_11_1 : (1 : Int32).toInt = 1 := by decide
    simp only [hlr_11_1] at p0r_11
    obtain ⟨g_17, eg_17⟩ : ∃ z : Nat → Int, z = pp_rf 1 rg := ⟨_, rfl⟩
    rw [← eg_17] at p0r_11
    have lg_17_0 : g_17 0 = (tI M_12 2 4).toInt := p0r_11.2.1.1
    have lg_17_1 : g_17 1 = (tI M_12 2 6).toInt := p0r_11.2.1.2.1
    have lg_17_4 : g_17 4 = (tI M_12 1 4).toInt := p0r_11.2.2.1.1
    have lg_17_7 : g_17 7 = (tI M_12 t 4).toInt := p0r_11.2.2.2.1.1
    have lg_17_8 : g_17 8 = (tI M_12 t 5).toInt := p0r_11.2.2.2.1.2.1
    exact hQ _ _ _ _ _ hw (⟨iM_12, (q_13), q_14, (q_15), (q_16), (by unfold pp_tk; rw [if_neg (by omega), ← eg_17]; exact p0r_11)⟩) dX4_take_26
  · refine lv_aload_n hx hb dX4_take_11 rfl (lv_at hl 0 rfl) ?_
    refine ti_get (ci := 4) (k := 0) (N := 6) (T := TX4) (v := .ref (A 2 0)) C hw iw_4 rfl ob_1 (by decide) (by decide) fl_X4_12 rfl rfl dX4_take_12 ?_
    refine ti_callVvE (ci := 7) (av := []) C hE hw (x_X7_advance l D A cy hJ M hI ) ⟨ml_X4_92, ym_X7_advance, yv_X7_advance, yi_X7_advance, yc_X7_advance⟩ yd_X7_advance ob_2 (by decide) rfl rfl hl.1 (Nat.le_of_ble_eq_true rfl) ⟨by decide, by decide⟩ ⟨Nat.zero_le _, Nat.zero_le _⟩ dX4_take_15 (fun M_4 H locs hp_4 hw => ?_)
    obtain ⟨iM_4, q_5, q_6, q_7, q_8, p0r_3, p1r_3, p2r_3, p3r_3⟩ := hp_4
    have hs_9 := rC_av ht hr q_8 q_6 p0r_3 p1r_3 p2r_3 p3r_3
    obtain ⟨g_10, eg_10⟩ : ∃ z : Nat → Int, z = pp_av B n rg := ⟨_, rfl⟩
    rw [← eg_10] at hs_9
    have lg_10_0 : g_10 0 = (tI M_4 2 4).toInt := hs_9.2.1.1
    have lg_10_1 : g_10 1 = (tI M_4 2 6).toInt := hs_9.2.1.2.1
    have lg_10_4 : g_10 4 = (tI M_4 1 4).toInt := hs_9.2.2.1.1
    have lg_10_7 : g_10 7 = (tI M_4 t 4).toInt := hs_9.2.2.2.1.1
    have lg_10_8 : g_10 8 = (tI M_4 t 5).toInt := hs_9.2.2.2.1.2.1
    refine lv_goto (tgt := 26) hx hb dX4_take_18 (by decide) ?_
    exact hQ _ _ _ _ _ hw (⟨iM_4, (q_5), (o2_12 q_6), (q_7), (q_8.1), (by unfold pp_tk; rw [if_pos (by omega), ← eg_10]; exact hs_9)⟩) dX4_take_26
set_option maxHeartbeats 4000000 in
set_option maxRecDepth 100000 in
theorem x_X4_number (l : Launch) (D : va_G) (A : Nat → Nat → Nat) (cy : Nat → ClassId) (hJ : ti_inj ti_LT A) (M : ti_M) (hI : cI Tc M) (t : Nat) (ht : t = 3 ∨ t = 4) (lo mo : Int32) (B : Nat → Int) (n : Nat) (rg : Nat → Int) (hr : rC B n t rg M) : ti_KiE l yX4_number cX4_number 4 (some .int) 7 ti_LT D A cy M [.ref (A 1 0), .int lo, .int mo] (fun r M2 => cI Tc M2 ∧ M2.2.2.2 = M.2.2.2 ∧ o12 M2 M ∧ tI M2 2 1 = tI M 2 1 ∧ M2.2.1 = M.2.1 ∧ r.toInt = rg 1 ∧ rC B n t (pp_nb B n lo.toInt mo.toInt rg) M2) := by
  refine ti_eIE yp_X4_number hJ ti_LT_nd (Nat.le_of_ble_eq_true rfl) ?_
  intro p e s m args below meth c Q H0 C hE hQ hw ls hl
  have hx := C.1
  have hb := C.2.1
  have hl : lv_has ls 4 [(0, .ref (A 1 0)), (1, .int lo), (2, .int mo)] := hl
  have l0 : rg 0 = (tI M 2 4).toInt := hr.2.1.1
  have l1 : rg 1 = (tI M 2 6).toInt := hr.2.1.2.1
  have l2 : rg 2 = (tI M 2 5).toInt := hr.2.1.2.2.1
  have l3 : rg 3 = (tI M 2 3).toInt := hr.2.1.2.2.2
  have l4 : rg 4 = (tI M 1 4).toInt := hr.2.2.1.1
  have l5 : rg 5 = (tI M 1 5).toInt := hr.2.2.1.2.1
  have l7 : rg 7 = (tI M t 4).toInt := hr.2.2.2.1.1
  have l8 : rg 8 = (tI M t 5).toInt := hr.2.2.2.1.2.1
  have l9 : rg 9 = (tI M t 3).toInt := hr.2.2.2.1.2.2
  refine lv_aload_n hx hb dX4_number_0 rfl (lv_at hl 0 rfl) ?_
  refine ti_get (ci := 4) (k := 0) (N := 6) (T := TX4) (v := .ref (A 2 0)) C hw iw_4 rfl ob_1 (by decide) (by decide) fl_X4_12 rfl rfl dX4_number_1 ?_
  refine ti_get (ci := 7) (k := 6) (N := 7) (T := TX7) C hw iw_7 rfl ob_2 (by decide) (by decide) fl_X4_95 rfl rfl dX4_number_4 ?_
  refine lv_topi (fun x_1 ex_1 => ?_)
  have bx_1 : 0 ≤ x_1.toInt ∧ x_1.toInt ≤ 2147483647 := cI_rd hI ob_2.1 ex_1
  have ux_1 : (tI M 2 6).toInt = x_1.toInt := by rw [ex_1]
  refine lv_istore_n (lv' := [(3, .int x_1), (0, .ref (A 1 0)), (1, .int lo), (2, .int mo)]) hx hb dX4_number_7 rfl hl (by decide) rfl (fun ls hl => ?_)
  refine lv_aload_n hx hb dX4_number_8 rfl (lv_at hl 1 rfl) ?_
  refine ti_get (ci := 4) (k := 0) (N := 6) (T := TX4) (v := .ref (A 2 0)) C hw iw_4 rfl ob_1 (by decide) (by decide) fl_X4_12 rfl rfl dX4_number_9 ?_
  refine ti_get (ci := 7) (k := 4) (N := 7) (T := TX7) C hw iw_7 rfl ob_2 (by decide) (by decide) fl_X4_41 rfl rfl dX4_number_12 ?_
  refine lv_topi (fun x_2 ex_2 => ?_)
  have bx_2 : 0 ≤ x_2.toInt ∧ x_2.toInt ≤ 41 := cI_rd hI ob_2.1 ex_2
  have ux_2 : (tI M 2 4).toInt = x_2.toInt := by rw [ex_2]
  refine lv_bipush (v := 26) hx hb dX4_number_15 (by decide) ?_
  refine sb_icmp_eq (tgt := 28) hx hb rfl (by decide : (26 : Int32).toInt = 26) dX4_number_17 (by decide) (fun c_17_2 => ?_) (fun c_17_2 => ?_)
  · refine lv_iload_n hx hb dX4_number_28 rfl (lv_at hl 0 rfl) ?_
    refine lv_iload_n hx hb dX4_number_29 rfl (lv_at hl 2 rfl) ?_
    refine sb_icmp_lt (tgt := 38) hx hb rfl rfl dX4_number_30 (by decide) (fun c_30_10 => ?_) (fun c_30_10 => ?_)
    · refine lv_aload_n hx hb dX4_number_38 rfl (lv_at hl 1 rfl) ?_
      refine lv_iconst (v := 2) hx hb dX4_number_39 (by decide) ?_
      refine ti_callVv (ci := 4) (av := [.int 2]) C hw (x_X4_refuse l D A cy hJ M hI t ht 2 B n rg hr) ⟨ml_X4_82, ym_X4_refuse, yv_X4_refuse, yi_X4_refuse, yc_X4_refuse⟩ yd_X4_refuse ob_1 (by decide) rfl rfl hl.1 (Nat.le_of_ble_eq_true rfl) ⟨by decide, by decide⟩ ⟨Nat.zero_le _, Nat.zero_le _⟩ dX4_number_40 (fun M_14 H locs hp_14 hw => ?_)
      obtain ⟨iM_14, q_15, q_16, q_17, q_18, p0r_13⟩ := hp_14
      have hlr_13_2 : (2 : Int32).toInt = 2 := by decide
      simp only [hlr_13_2] at p0r_13
      obtain ⟨g_19, eg_19⟩ : ∃ z : Nat → Int, z = pp_rf 2 rg := ⟨_, rfl⟩
      rw [← eg_19] at p0r_13
      have lg_19_0 : g_19 0 = (tI M_14 2 4).toInt := p0r_13.2.1.1
      have lg_19_1 : g_19 1 = (tI M_14 2 6).toInt := p0r_13.2.1.2.1
      have lg_19_4 : g_19 4 = (tI M_14 1 4).toInt := p0r_13.2.2.1.1
      have lg_19_7 : g_19 7 = (tI M_14 t 4).toInt := p0r_13.2.2.2.1.1
      have lg_19_8 : g_19 8 = (tI M_14 t 5).toInt := p0r_13.2.2.2.1.2.1
      refine lv_goto (tgt := 53) hx hb dX4_number_43 (by decide) ?_
      refine lv_iload_n hx hb dX4_number_53 rfl (lv_at hl 0 rfl) ?_
      exact hQ _ _ _ _ _ _ hw rfl (⟨iM_14, (q_15), q_16, (q_17), (q_18), by omega, (by unfold pp_nb; rw [if_pos (by omega), if_pos (by omega), ← eg_19]; exact p0r_13)⟩) dX4_number_54
    · refine lv_iload_n hx hb dX4_number_33 rfl (lv_at hl 0 rfl) ?_
      refine lv_iload_n hx hb dX4_number_34 rfl (lv_at hl 3 rfl) ?_
      refine sb_icmp_le (tgt := 46) hx hb rfl rfl dX4_number_35 (by decide) (fun c_35_11 => ?_) (fun c_35_11 => ?_)
      · refine lv_aload_n hx hb dX4_number_46 rfl (lv_at hl 1 rfl) ?_
        refine ti_get (ci := 4) (k := 0) (N := 6) (T := TX4) (v := .ref (A 2 0)) C hw iw_4 rfl ob_1 (by decide) (by decide) fl_X4_12 rfl rfl dX4_number_47 ?_
        refine ti_callVvE (ci := 7) (av := []) C hE hw (x_X7_advance l D A cy hJ M hI ) ⟨ml_X4_92, ym_X7_advance, yv_X7_advance, yi_X7_advance, yc_X7_advance⟩ yd_X7_advance ob_2 (by decide) rfl rfl hl.1 (Nat.le_of_ble_eq_true rfl) ⟨by decide, by decide⟩ ⟨Nat.zero_le _, Nat.zero_le _⟩ dX4_number_50 (fun M_28 H locs hp_28 hw => ?_)
        obtain ⟨iM_28, q_29, q_30, q_31, q_32, p0r_27, p1r_27, p2r_27, p3r_27⟩ := hp_28
        have hs_33 := rC_av ht hr q_32 q_30 p0r_27 p1r_27 p2r_27 p3r_27
        obtain ⟨g_34, eg_34⟩ : ∃ z : Nat → Int, z = pp_av B n rg := ⟨_, rfl⟩
        rw [← eg_34] at hs_33
        have lg_34_0 : g_34 0 = (tI M_28 2 4).toInt := hs_33.2.1.1
        have lg_34_1 : g_34 1 = (tI M_28 2 6).toInt := hs_33.2.1.2.1
        have lg_34_4 : g_34 4 = (tI M_28 1 4).toInt := hs_33.2.2.1.1
        have lg_34_7 : g_34 7 = (tI M_28 t 4).toInt := hs_33.2.2.2.1.1
        have lg_34_8 : g_34 8 = (tI M_28 t 5).toInt := hs_33.2.2.2.1.2.1
        refine lv_iload_n hx hb dX4_number_53 rfl (lv_at hl 0 rfl) ?_
        exact hQ _ _ _ _ _ _ hw rfl (⟨iM_28, (q_29), (o2_12 q_30), (q_31), (q_32.1), by omega, (by unfold pp_nb; rw [if_pos (by omega), if_neg (by omega), ← eg_34]; exact hs_33)⟩) dX4_number_54
      · refine lv_aload_n hx hb dX4_number_38 rfl (lv_at hl 1 rfl) ?_
        refine lv_iconst (v := 2) hx hb dX4_number_39 (by decide) ?_
        refine ti_callVv (ci := 4) (av := [.int 2]) C hw (x_X4_refuse l D A cy hJ M hI t ht 2 B n rg hr) ⟨ml_X4_82, ym_X4_refuse, yv_X4_refuse, yi_X4_refuse, yc_X4_refuse⟩ yd_X4_refuse ob_1 (by decide) rfl rfl hl.1 (Nat.le_of_ble_eq_true rfl) ⟨by decide, by decide⟩ ⟨Nat.zero_le _, Nat.zero_le _⟩ dX4_number_40 (fun M_21 H locs hp_21 hw => ?_)
        obtain ⟨iM_21, q_22, q_23, q_24, q_25, p0r_20⟩ := hp_21
        have hlr_20_2 : (2 : Int32).toInt = 2 := by decide
        simp only [hlr_20_2] at p0r_20
        obtain ⟨g_26, eg_26⟩ : ∃ z : Nat → Int, z = pp_rf 2 rg := ⟨_, rfl⟩
        rw [← eg_26] at p0r_20
        have lg_26_0 : g_26 0 = (tI M_21 2 4).toInt := p0r_20.2.1.1
        have lg_26_1 : g_26 1 = (tI M_21 2 6).toInt := p0r_20.2.1.2.1
        have lg_26_4 : g_26 4 = (tI M_21 1 4).toInt := p0r_20.2.2.1.1
        have lg_26_7 : g_26 7 = (tI M_21 t 4).toInt := p0r_20.2.2.2.1.1
        have lg_26_8 : g_26 8 = (tI M_21 t 5).toInt := p0r_20.2.2.2.1.2.1
        refine lv_goto (tgt := 53) hx hb dX4_number_43 (by decide) ?_
        refine lv_iload_n hx hb dX4_number_53 rfl (lv_at hl 0 rfl) ?_
        exact hQ _ _ _ _ _ _ hw rfl (⟨iM_21, (q_22), q_23, (q_24), (q_25), by omega, (by unfold pp_nb; rw [if_pos (by omega), if_pos (by omega), ← eg_26]; exact p0r_20)⟩) dX4_number_54
  · refine lv_aload_n hx hb dX4_number_20 rfl (lv_at hl 1 rfl) ?_
    refine lv_iconst (v := 1) hx hb dX4_number_21 (by decide) ?_
    refine ti_callVv (ci := 4) (av := [.int 1]) C hw (x_X4_refuse l D A cy hJ M hI t ht 1 B n rg hr) ⟨ml_X4_82, ym_X4_refuse, yv_X4_refuse, yi_X4_refuse, yc_X4_refuse⟩ yd_X4_refuse ob_1 (by decide) rfl rfl hl.1 (Nat.le_of_ble_eq_true rfl) ⟨by decide, by decide⟩ ⟨Nat.zero_le _, Nat.zero_le _⟩ dX4_number_22 (fun M_5 H locs hp_5 hw => ?_)
    obtain ⟨iM_5, q_6, q_7, q_8, q_9, p0r_4⟩ := hp_5
    have hlr_4_1 : (1 : Int32).toInt = 1 := by decide
    simp only [hlr_4_1] at p0r_4
    obtain ⟨g_10, eg_10⟩ : ∃ z : Nat → Int, z = pp_rf 1 rg := ⟨_, rfl⟩
    rw [← eg_10] at p0r_4
    have lg_10_0 : g_10 0 = (tI M_5 2 4).toInt := p0r_4.2.1.1
    have lg_10_1 : g_10 1 = (tI M_5 2 6).toInt := p0r_4.2.1.2.1
    have lg_10_4 : g_10 4 = (tI M_5 1 4).toInt := p0r_4.2.2.1.1
    have lg_10_7 : g_10 7 = (tI M_5 t 4).toInt := p0r_4.2.2.2.1.1
    have lg_10_8 : g_10 8 = (tI M_5 t 5).toInt := p0r_4.2.2.2.1.2.1
    refine lv_goto (tgt := 53) hx hb dX4_number_25 (by decide) ?_
    refine lv_iload_n hx hb dX4_number_53 rfl (lv_at hl 0 rfl) ?_
    exact hQ _ _ _ _ _ _ hw rfl (⟨iM_5, (q_6), q_7, (q_8), (q_9), by omega, (by unfold pp_nb; rw [if_neg (by omega), ← eg_10]; exact p0r_4)⟩) dX4_number_54
def pp_tm (s : Nat → Int) : Nat → Int := if s 0 = 25 then (if pp_fd s (s 1) 0 = -1 then pp_rf 4 s else s) else pp_rf 1 s
def pp_tv (s : Nat → Int) : Int := if s 0 = 25 then pp_fd s (s 1) 0 else -1
set_option maxHeartbeats 4000000 in
set_option maxRecDepth 100000 in
theorem x_X4_once (l : Launch) (D : va_G) (A : Nat → Nat → Nat) (cy : Nat → ClassId) (hJ : ti_inj ti_LT A) (M : ti_M) (hI : cI Tc M) (t : Nat) (ht : t = 3 ∨ t = 4) (B : Nat → Int) (n : Nat) (rg : Nat → Int) (hr : rC B n t rg M) (hk : 0 ≤ rg 0 ∧ rg 0 < 15) : ti_KvE l yX4_once cX4_once 2 7 ti_LT D A cy M [.ref (A 1 0)] (fun M2 => cI Tc M2 ∧ M2.2.2.2 = M.2.2.2 ∧ o12 M2 M ∧ tI M2 2 1 = tI M 2 1 ∧ M2.2.1 = M.2.1 ∧ rC B n t (pp_on B n rg) M2) := by
  refine ti_eVE yp_X4_once hJ ti_LT_nd (Nat.le_of_ble_eq_true rfl) ?_
  intro p e s m args below meth c Q H0 C hE hQ hw ls hl
  have hx := C.1
  have hb := C.2.1
  have hl : lv_has ls 2 [(0, .ref (A 1 0))] := hl
  have l0 : rg 0 = (tI M 2 4).toInt := hr.2.1.1
  have l1 : rg 1 = (tI M 2 6).toInt := hr.2.1.2.1
  have l2 : rg 2 = (tI M 2 5).toInt := hr.2.1.2.2.1
  have l3 : rg 3 = (tI M 2 3).toInt := hr.2.1.2.2.2
  have l4 : rg 4 = (tI M 1 4).toInt := hr.2.2.1.1
  have l5 : rg 5 = (tI M 1 5).toInt := hr.2.2.1.2.1
  have l7 : rg 7 = (tI M t 4).toInt := hr.2.2.2.1.1
  have l8 : rg 8 = (tI M t 5).toInt := hr.2.2.2.1.2.1
  have l9 : rg 9 = (tI M t 3).toInt := hr.2.2.2.1.2.2
  refine lv_iconst (v := 1) hx hb dX4_once_0 (by decide) ?_
  refine lv_aload_n hx hb dX4_once_1 rfl (lv_at hl 0 rfl) ?_
  refine ti_get (ci := 4) (k := 0) (N := 6) (T := TX4) (v := .ref (A 2 0)) C hw iw_4 rfl ob_1 (by decide) (by decide) fl_X4_12 rfl rfl dX4_once_2 ?_
  refine ti_get (ci := 7) (k := 4) (N := 7) (T := TX7) C hw iw_7 rfl ob_2 (by decide) (by decide) fl_X4_41 rfl rfl dX4_once_5 ?_
  refine lv_topi (fun x_1 ex_1 => ?_)
  have bx_1 : 0 ≤ x_1.toInt ∧ x_1.toInt ≤ 41 := cI_rd hI ob_2.1 ex_1
  have ux_1 : (tI M 2 4).toInt = x_1.toInt := by rw [ex_1]
  refine lv_ishl hx hb dX4_once_8 ?_
  refine lv_topi (fun x_2 ex_2 => ?_)
  refine lv_istore_n (lv' := [(1, .int x_2), (0, .ref (A 1 0))]) hx hb dX4_once_9 rfl hl (by decide) rfl (fun ls hl => ?_)
  refine lv_aload_n hx hb dX4_once_10 rfl (lv_at hl 1 rfl) ?_
  refine ti_get (ci := 4) (k := 3) (N := 6) (T := TX4) C hw iw_4 rfl ob_1 (by decide) (by decide) fl_X4_18 rfl rfl dX4_once_11 ?_
  refine lv_topi (fun x_3 ex_3 => ?_)
  have u_4 : (tI M 1 3).toInt = x_3.toInt := by rw [ex_3]
  refine lv_iload_n hx hb dX4_once_14 rfl (lv_at hl 0 rfl) ?_
  refine lv_iand hx hb dX4_once_15 ?_
  refine lv_topi (fun x_5 ex_5 => ?_)
  refine sb_if_eq (tgt := 27) hx hb rfl dX4_once_16 (by decide) (fun c_16_5 => ?_) (fun c_16_5 => ?_)
  · refine lv_aload_n hx hb dX4_once_27 rfl (lv_at hl 1 rfl) ?_
    refine lv_dup hx hb dX4_once_28 rfl ?_
    refine ti_get (ci := 4) (k := 3) (N := 6) (T := TX4) C hw iw_4 rfl ob_1 (by decide) (by decide) fl_X4_18 rfl rfl dX4_once_29 ?_
    refine ti_top (y := x_3) (ex_3.symm) ?_
    refine lv_iload_n hx hb dX4_once_32 rfl (lv_at hl 0 rfl) ?_
    refine lv_ior hx hb dX4_once_33 ?_
    refine lv_topi (fun x_14 ex_14 => ?_)
    refine ti_putI (ci := 4) (k := 3) (N := 6) (T := TX4) C hw iw_4 tyX4 tyX4_ok nmX4 rfl ob_1 (by decide) (by decide) fl_X4_18 rfl rfl rfl rfl (fn_4 A _) fs_4_3 dX4_once_34 (fun H locs hw => ?_)
    obtain ⟨M_15, hM_15⟩ : ∃ z : ti_M, z = uI M 1 3 x_14 := ⟨_, rfl⟩
    have hw := hw.to hM_15.symm
    have iM_15 : cI Tc M_15 := cI_uI hI hM_15 ob_1.1 trivial
    have hs_16 := rC_13 (k := x_1.toInt) ht hM_15 ex_2 rfl (by omega) (by omega) (by rw [← ex_3]; exact ex_14) hr
    obtain ⟨g_17, eg_17⟩ : ∃ z : Nat → Int, z = pp_su rg (300 + x_1.toInt.toNat) 1 := ⟨_, rfl⟩
    rw [← eg_17] at hs_16
    have lg_17_0 : g_17 0 = (tI M_15 2 4).toInt := hs_16.2.1.1
    have lg_17_1 : g_17 1 = (tI M_15 2 6).toInt := hs_16.2.1.2.1
    have lg_17_4 : g_17 4 = (tI M_15 1 4).toInt := hs_16.2.2.1.1
    have lg_17_7 : g_17 7 = (tI M_15 t 4).toInt := hs_16.2.2.2.1.1
    have lg_17_8 : g_17 8 = (tI M_15 t 5).toInt := hs_16.2.2.2.1.2.1
    refine lv_aload_n hx hb dX4_once_37 rfl (lv_at hl 1 rfl) ?_
    refine ti_get (ci := 4) (k := 0) (N := 6) (T := TX4) (v := .ref (A 2 0)) C hw iw_4 rfl ob_1 (by decide) (by decide) fl_X4_12 rfl rfl dX4_once_38 ?_
    refine ti_callVvE (ci := 7) (av := []) C hE hw (x_X7_advance l D A cy hJ M_15 iM_15 ) ⟨ml_X4_92, ym_X7_advance, yv_X7_advance, yi_X7_advance, yc_X7_advance⟩ yd_X7_advance ob_2 (by decide) rfl rfl hl.1 (Nat.le_of_ble_eq_true rfl) ⟨by decide, by decide⟩ ⟨Nat.zero_le _, Nat.zero_le _⟩ dX4_once_41 (fun M_19 H locs hp_19 hw => ?_)
    obtain ⟨iM_19, q_20, q_21, q_22, q_23, p0r_18, p1r_18, p2r_18, p3r_18⟩ := hp_19
    have hs_24 := rC_av ht hs_16 q_23 q_21 p0r_18 p1r_18 p2r_18 p3r_18
    obtain ⟨g_25, eg_25⟩ : ∃ z : Nat → Int, z = pp_av B n g_17 := ⟨_, rfl⟩
    rw [← eg_25] at hs_24
    have lg_25_0 : g_25 0 = (tI M_19 2 4).toInt := hs_24.2.1.1
    have lg_25_1 : g_25 1 = (tI M_19 2 6).toInt := hs_24.2.1.2.1
    have lg_25_4 : g_25 4 = (tI M_19 1 4).toInt := hs_24.2.2.1.1
    have lg_25_7 : g_25 7 = (tI M_19 t 4).toInt := hs_24.2.2.2.1.1
    have lg_25_8 : g_25 8 = (tI M_19 t 5).toInt := hs_24.2.2.2.1.2.1
    exact hQ _ _ _ _ _ hw (⟨iM_19, ((q_20).trans (rf_I hM_15)), (o12.trans (o2_12 q_21) (o12_I hM_15 (by decide))), ((q_22).trans (tI_nE hM_15 (nk (by decide)))), ((q_23.1).trans (ry_I hM_15)), (by have hb : rg (300 + x_1.toInt.toNat) = pp_bt x_3 x_1.toInt.toNat := (by rw [ex_3]; exact hr.2.2.1.2.2 _ (by omega)); have hi := bt_and (k := x_1.toInt) ex_2 rfl (by omega) (by omega) ex_5; unfold pp_on; rw [show rg 0 = x_1.toInt by omega, if_pos (by rw [hb]; exact hi.mp (by omega)), ← eg_17, ← eg_25]; exact hs_24)⟩) dX4_once_44
  · refine lv_aload_n hx hb dX4_once_19 rfl (lv_at hl 1 rfl) ?_
    refine lv_iconst (v := 3) hx hb dX4_once_20 (by decide) ?_
    refine ti_callVv (ci := 4) (av := [.int 3]) C hw (x_X4_refuse l D A cy hJ M hI t ht 3 B n rg hr) ⟨ml_X4_82, ym_X4_refuse, yv_X4_refuse, yi_X4_refuse, yc_X4_refuse⟩ yd_X4_refuse ob_1 (by decide) rfl rfl hl.1 (Nat.le_of_ble_eq_true rfl) ⟨by decide, by decide⟩ ⟨Nat.zero_le _, Nat.zero_le _⟩ dX4_once_21 (fun M_8 H locs hp_8 hw => ?_)
    obtain ⟨iM_8, q_9, q_10, q_11, q_12, p0r_7⟩ := hp_8
    have hlr_7_3 : (3 : Int32).toInt = 3 := by decide
    simp only [hlr_7_3] at p0r_7
    obtain ⟨g_13, eg_13⟩ : ∃ z : Nat → Int, z = pp_rf 3 rg := ⟨_, rfl⟩
    rw [← eg_13] at p0r_7
    have lg_13_0 : g_13 0 = (tI M_8 2 4).toInt := p0r_7.2.1.1
    have lg_13_1 : g_13 1 = (tI M_8 2 6).toInt := p0r_7.2.1.2.1
    have lg_13_4 : g_13 4 = (tI M_8 1 4).toInt := p0r_7.2.2.1.1
    have lg_13_7 : g_13 7 = (tI M_8 t 4).toInt := p0r_7.2.2.2.1.1
    have lg_13_8 : g_13 8 = (tI M_8 t 5).toInt := p0r_7.2.2.2.1.2.1
    refine lv_goto (tgt := 44) hx hb dX4_once_24 (by decide) ?_
    exact hQ _ _ _ _ _ hw (⟨iM_8, (q_9), q_10, (q_11), (q_12), (by have hb : rg (300 + x_1.toInt.toNat) = pp_bt x_3 x_1.toInt.toNat := (by rw [ex_3]; exact hr.2.2.1.2.2 _ (by omega)); have hi := bt_and (k := x_1.toInt) ex_2 rfl (by omega) (by omega) ex_5; unfold pp_on; rw [show rg 0 = x_1.toInt by omega, if_neg (by rw [hb]; exact fun q => absurd (hi.mpr q) (by omega)), ← eg_13]; exact p0r_7)⟩) dX4_once_44
set_option maxHeartbeats 4000000 in
set_option maxRecDepth 100000 in
theorem x_X4_knot (l : Launch) (D : va_G) (A : Nat → Nat → Nat) (cy : Nat → ClassId) (hJ : ti_inj ti_LT A) (M : ti_M) (hI : cI Tc M) (t : Nat) (ht : t = 3 ∨ t = 4) (hT : tT M 1 1 = some t) (B : Nat → Int) (n : Nat) (rg : Nat → Int) (hr : rC B n t rg M) (td : Nat → Int) (hq : tq t td M) : ti_KvE l yX4_knot cX4_knot 1 7 ti_LT D A cy M [.ref (A 1 0)] (fun M2 => cI Tc M2 ∧ M2.2.2.2 = M.2.2.2 ∧ f0 M2 M ∧ tI M2 2 1 = tI M 2 1 ∧ ot t M2 M ∧ M2.2.1 = M.2.1 ∧ rC B n t (pp_kn B n rg) M2 ∧ tq t (td) M2) := by
  refine ti_eVE yp_X4_knot hJ ti_LT_nd (Nat.le_of_ble_eq_true rfl) ?_
  intro p e s m args below meth c Q H0 C hE hQ hw ls hl
  have hx := C.1
  have hb := C.2.1
  have hl : lv_has ls 1 [(0, .ref (A 1 0))] := hl
  have l0 : rg 0 = (tI M 2 4).toInt := hr.2.1.1
  have l1 : rg 1 = (tI M 2 6).toInt := hr.2.1.2.1
  have l2 : rg 2 = (tI M 2 5).toInt := hr.2.1.2.2.1
  have l3 : rg 3 = (tI M 2 3).toInt := hr.2.1.2.2.2
  have l4 : rg 4 = (tI M 1 4).toInt := hr.2.2.1.1
  have l5 : rg 5 = (tI M 1 5).toInt := hr.2.2.1.2.1
  have l7 : rg 7 = (tI M t 4).toInt := hr.2.2.2.1.1
  have l8 : rg 8 = (tI M t 5).toInt := hr.2.2.2.1.2.1
  have l9 : rg 9 = (tI M t 3).toInt := hr.2.2.2.1.2.2
  refine lv_aload_n hx hb dX4_knot_0 rfl (lv_at hl 0 rfl) ?_
  refine ti_get (ci := 4) (k := 1) (N := 6) (T := TX4) (v := .ref (A t 0)) C hw iw_4 rfl ob_1 (by decide) (by decide) fl_X4_28 rfl (ti_Tv (hT)) dX4_knot_1 ?_
  refine ti_get (ci := 8) (k := 5) (N := 12) (T := TX8) C hw iw_8 rfl (ob_t ht) (by decide) (by decide) fl_X4_161 rfl rfl dX4_knot_4 ?_
  refine lv_topi (fun x_1 ex_1 => ?_)
  have u_2 : (tI M t 5).toInt = x_1.toInt := by rw [ex_1]
  refine lv_bipush (v := 64) hx hb dX4_knot_7 (by decide) ?_
  refine sb_icmp_lt (tgt := 20) hx hb rfl (by decide : (64 : Int32).toInt = 64) dX4_knot_9 (by decide) (fun c_9_2 => ?_) (fun c_9_2 => ?_)
  · refine lv_aload_n hx hb dX4_knot_20 rfl (lv_at hl 0 rfl) ?_
    refine ti_get (ci := 4) (k := 1) (N := 6) (T := TX4) (v := .ref (A t 0)) C hw iw_4 rfl ob_1 (by decide) (by decide) fl_X4_28 rfl (ti_Tv (hT)) dX4_knot_21 ?_
    refine lv_dup hx hb dX4_knot_24 rfl ?_
    refine ti_get (ci := 8) (k := 5) (N := 12) (T := TX8) C hw iw_8 rfl (ob_t ht) (by decide) (by decide) fl_X4_161 rfl rfl dX4_knot_25 ?_
    refine ti_top (y := x_1) (ex_1.symm) ?_
    refine lv_iconst (v := 1) hx hb dX4_knot_28 (by decide) ?_
    refine lv_iadd hx hb dX4_knot_29 ?_
    refine lv_topi (fun x_12 ex_12 => ?_)
    have lox_12x_1 := x_1.le_toInt
    have hix_12x_1 := x_1.toInt_lt
    have tx_12 : x_12.toInt = x_1.toInt + 1 := i_add ex_12 rfl (by decide : (1 : Int32).toInt = 1) (by omega) (by omega)
    refine ti_putI (ci := 8) (k := 5) (N := 12) (T := TX8) C hw iw_8 tyX8 tyX8_ok nmX8 rfl (ob_t ht) (by decide) (by decide) fl_X4_161 rfl rfl rfl rfl (fn_8 A _) fs_8_5 dX4_knot_30 (fun H locs hw => ?_)
    obtain ⟨M_13, hM_13⟩ : ∃ z : ti_M, z = uI M t 5 x_12 := ⟨_, rfl⟩
    have hw := hw.to hM_13.symm
    have iM_13 : cI Tc M_13 := cI_uI hI hM_13 (ob_t ht).1 trivial
    have hs_14 := rC_t5 ht hM_13 hr
    obtain ⟨g_15, eg_15⟩ : ∃ z : Nat → Int, z = pp_su rg 8 x_12.toInt := ⟨_, rfl⟩
    rw [← eg_15] at hs_14
    have lg_15_0 : g_15 0 = (tI M_13 2 4).toInt := hs_14.2.1.1
    have lg_15_1 : g_15 1 = (tI M_13 2 6).toInt := hs_14.2.1.2.1
    have lg_15_4 : g_15 4 = (tI M_13 1 4).toInt := hs_14.2.2.1.1
    have lg_15_7 : g_15 7 = (tI M_13 t 4).toInt := hs_14.2.2.2.1.1
    have lg_15_8 : g_15 8 = (tI M_13 t 5).toInt := hs_14.2.2.2.1.2.1
    have tq_17 : tq t td M_13 := tq_t0 ht hq hM_13 (by decide)
    refine lv_aload_n hx hb dX4_knot_33 rfl (lv_at hl 0 rfl) ?_
    refine ti_get (ci := 4) (k := 0) (N := 6) (T := TX4) (v := .ref (A 2 0)) C hw iw_4 rfl ob_1 (by decide) (by decide) fl_X4_12 rfl rfl dX4_knot_34 ?_
    refine ti_callVvE (ci := 7) (av := []) C hE hw (x_X7_advance l D A cy hJ M_13 iM_13 ) ⟨ml_X4_92, ym_X7_advance, yv_X7_advance, yi_X7_advance, yc_X7_advance⟩ yd_X7_advance ob_2 (by decide) rfl rfl hl.1 (Nat.le_of_ble_eq_true rfl) ⟨by decide, by decide⟩ ⟨Nat.zero_le _, Nat.zero_le _⟩ dX4_knot_37 (fun M_19 H locs hp_19 hw => ?_)
    obtain ⟨iM_19, q_20, q_21, q_22, q_23, p0r_18, p1r_18, p2r_18, p3r_18⟩ := hp_19
    have hs_24 := rC_av ht hs_14 q_23 q_21 p0r_18 p1r_18 p2r_18 p3r_18
    obtain ⟨g_25, eg_25⟩ : ∃ z : Nat → Int, z = pp_av B n g_15 := ⟨_, rfl⟩
    rw [← eg_25] at hs_24
    have lg_25_0 : g_25 0 = (tI M_19 2 4).toInt := hs_24.2.1.1
    have lg_25_1 : g_25 1 = (tI M_19 2 6).toInt := hs_24.2.1.2.1
    have lg_25_4 : g_25 4 = (tI M_19 1 4).toInt := hs_24.2.2.1.1
    have lg_25_7 : g_25 7 = (tI M_19 t 4).toInt := hs_24.2.2.2.1.1
    have lg_25_8 : g_25 8 = (tI M_19 t 5).toInt := hs_24.2.2.2.1.2.1
    have tq_26 : tq t td M_19 := tq_fr ht tq_17 (o2_12 q_21) q_23.1
    exact hQ _ _ _ _ _ hw (⟨iM_19, ((q_20).trans (rf_I hM_13)), (f0.trans (f0_12 (o2_12 q_21)) (f0_I hM_13 (f0n (ob_t ht).1 (by decide)))), ((q_22).trans (tI_nE hM_13 (nk (by decide)))), (ot.trans (ot_12 ht (o2_12 q_21) q_23.1) (ot_I ht hM_13 (by omega))), ((q_23.1).trans (ry_I hM_13)), (by unfold pp_kn; rw [if_pos (by omega), show rg 8 + 1 = x_12.toInt by omega, ← eg_15, ← eg_25]; exact hs_24), tq_26⟩) dX4_knot_40
  · refine lv_aload_n hx hb dX4_knot_12 rfl (lv_at hl 0 rfl) ?_
    refine lv_iconst (v := 2) hx hb dX4_knot_13 (by decide) ?_
    refine ti_callVv (ci := 4) (av := [.int 2]) C hw (x_X4_refuse l D A cy hJ M hI t ht 2 B n rg hr) ⟨ml_X4_82, ym_X4_refuse, yv_X4_refuse, yi_X4_refuse, yc_X4_refuse⟩ yd_X4_refuse ob_1 (by decide) rfl rfl hl.1 (Nat.le_of_ble_eq_true rfl) ⟨by decide, by decide⟩ ⟨Nat.zero_le _, Nat.zero_le _⟩ dX4_knot_14 (fun M_5 H locs hp_5 hw => ?_)
    obtain ⟨iM_5, q_6, q_7, q_8, q_9, p0r_4⟩ := hp_5
    have hlr_4_2 : (2 : Int32).toInt = 2 := by decide
    simp only [hlr_4_2] at p0r_4
    obtain ⟨g_10, eg_10⟩ : ∃ z : Nat → Int, z = pp_rf 2 rg := ⟨_, rfl⟩
    rw [← eg_10] at p0r_4
    have lg_10_0 : g_10 0 = (tI M_5 2 4).toInt := p0r_4.2.1.1
    have lg_10_1 : g_10 1 = (tI M_5 2 6).toInt := p0r_4.2.1.2.1
    have lg_10_4 : g_10 4 = (tI M_5 1 4).toInt := p0r_4.2.2.1.1
    have lg_10_7 : g_10 7 = (tI M_5 t 4).toInt := p0r_4.2.2.2.1.1
    have lg_10_8 : g_10 8 = (tI M_5 t 5).toInt := p0r_4.2.2.2.1.2.1
    have tq_11 : tq t td M_5 := tq_fr ht hq q_7 q_9
    refine lv_goto (tgt := 40) hx hb dX4_knot_17 (by decide) ?_
    exact hQ _ _ _ _ _ hw (⟨iM_5, (q_6), (f0_12 q_7), (q_8), (ot_12 ht q_7 q_9), (q_9), (by unfold pp_kn; rw [if_neg (by omega), ← eg_10]; exact p0r_4), tq_11⟩) dX4_knot_40
set_option maxHeartbeats 4000000 in
set_option maxRecDepth 100000 in
theorem x_X4_toldMan (l : Launch) (D : va_G) (A : Nat → Nat → Nat) (cy : Nat → ClassId) (hJ : ti_inj ti_LT A) (M : ti_M) (hI : cI Tc M) (t : Nat) (ht : t = 3 ∨ t = 4) (hT : tT M 1 1 = some t) (B : Nat → Int) (n : Nat) (rg : Nat → Int) (hr : rC B n t rg M) : ti_Ki l yX4_toldMan cX4_toldMan 2 (some .int) 1 ti_LT D A cy M [.ref (A 1 0)] (fun r M2 => cI Tc M2 ∧ M2.2.2.2 = M.2.2.2 ∧ o12 M2 M ∧ tI M2 2 1 = tI M 2 1 ∧ M2.2.1 = M.2.1 ∧ (-1) ≤ r.toInt ∧ r.toInt ≤ 7 ∧ r.toInt = pp_tv rg ∧ rC B n t (pp_tm rg) M2) := by
  refine ti_eI yp_X4_toldMan hJ ti_LT_nd (Nat.le_of_ble_eq_true rfl) ?_
  intro p e s m args below meth c Q H0 C hQ hw ls hl
  have hx := C.1
  have hb := C.2.1
  have hl : lv_has ls 2 [(0, .ref (A 1 0))] := hl
  have l0 : rg 0 = (tI M 2 4).toInt := hr.2.1.1
  have l1 : rg 1 = (tI M 2 6).toInt := hr.2.1.2.1
  have l2 : rg 2 = (tI M 2 5).toInt := hr.2.1.2.2.1
  have l3 : rg 3 = (tI M 2 3).toInt := hr.2.1.2.2.2
  have l4 : rg 4 = (tI M 1 4).toInt := hr.2.2.1.1
  have l5 : rg 5 = (tI M 1 5).toInt := hr.2.2.1.2.1
  have l7 : rg 7 = (tI M t 4).toInt := hr.2.2.2.1.1
  have l8 : rg 8 = (tI M t 5).toInt := hr.2.2.2.1.2.1
  have l9 : rg 9 = (tI M t 3).toInt := hr.2.2.2.1.2.2
  refine lv_aload_n hx hb dX4_toldMan_0 rfl (lv_at hl 0 rfl) ?_
  refine ti_get (ci := 4) (k := 0) (N := 6) (T := TX4) (v := .ref (A 2 0)) C hw iw_4 rfl ob_1 (by decide) (by decide) fl_X4_12 rfl rfl dX4_toldMan_1 ?_
  refine ti_get (ci := 7) (k := 4) (N := 7) (T := TX7) C hw iw_7 rfl ob_2 (by decide) (by decide) fl_X4_41 rfl rfl dX4_toldMan_4 ?_
  refine lv_topi (fun x_1 ex_1 => ?_)
  have bx_1 : 0 ≤ x_1.toInt ∧ x_1.toInt ≤ 41 := cI_rd hI ob_2.1 ex_1
  have ux_1 : (tI M 2 4).toInt = x_1.toInt := by rw [ex_1]
  refine lv_bipush (v := 25) hx hb dX4_toldMan_7 (by decide) ?_
  refine sb_icmp_eq (tgt := 19) hx hb rfl (by decide : (25 : Int32).toInt = 25) dX4_toldMan_9 (by decide) (fun c_9_1 => ?_) (fun c_9_1 => ?_)
  · refine lv_aload_n hx hb dX4_toldMan_19 rfl (lv_at hl 0 rfl) ?_
    refine ti_get (ci := 4) (k := 1) (N := 6) (T := TX4) (v := .ref (A t 0)) C hw iw_4 rfl ob_1 (by decide) (by decide) fl_X4_28 rfl (ti_Tv (hT)) dX4_toldMan_20 ?_
    refine lv_aload_n hx hb dX4_toldMan_23 rfl (lv_at hl 0 rfl) ?_
    refine ti_get (ci := 4) (k := 0) (N := 6) (T := TX4) (v := .ref (A 2 0)) C hw iw_4 rfl ob_1 (by decide) (by decide) fl_X4_12 rfl rfl dX4_toldMan_24 ?_
    refine ti_get (ci := 7) (k := 6) (N := 7) (T := TX7) C hw iw_7 rfl ob_2 (by decide) (by decide) fl_X4_95 rfl rfl dX4_toldMan_27 ?_
    refine lv_topi (fun x_10 ex_10 => ?_)
    have bx_10 : 0 ≤ x_10.toInt ∧ x_10.toInt ≤ 2147483647 := cI_rd hI ob_2.1 ex_10
    have ux_10 : (tI M 2 6).toInt = x_10.toInt := by rw [ex_10]
    refine ti_callVi (ci := 8) (av := [.int x_10]) C hw (x_X8_find l D A cy hJ M hI t ht x_10 B n rg hr) ⟨ml_X4_110, ym_X8_find, yv_X8_find, yi_X8_find, yc_X8_find⟩ yd_X8_find (ob_t ht) (by decide) rfl rfl hl.1 (Nat.le_of_ble_eq_true rfl) ⟨by decide, by decide⟩ ⟨Nat.zero_le _, Nat.zero_le _⟩ dX4_toldMan_30 (fun r_11 M_12 H locs hp_12 hw => ?_)
    obtain ⟨hm, b0r_11, b1r_11, p0r_11⟩ := hp_12
    have hw := hw.to hm
    refine lv_istore_n (lv' := [(1, .int r_11), (0, .ref (A 1 0))]) hx hb dX4_toldMan_33 rfl hl (by decide) rfl (fun ls hl => ?_)
    refine lv_iload_n hx hb dX4_toldMan_34 rfl (lv_at hl 0 rfl) ?_
    refine lv_iconst (v := (-1)) hx hb dX4_toldMan_35 (by decide) ?_
    refine sb_icmp_ne (tgt := 44) hx hb rfl (by decide : ((-1) : Int32).toInt = (-1)) dX4_toldMan_36 (by decide) (fun c_36_12 => ?_) (fun c_36_12 => ?_)
    · refine lv_iload_n hx hb dX4_toldMan_44 rfl (lv_at hl 0 rfl) ?_
      exact hQ _ _ _ _ _ _ hw rfl (⟨hI, rfl, o12.refl, rfl, rfl, by first | omega | decide, by first | omega | decide, (by unfold pp_tv; rw [if_pos (by omega), show rg 1 = x_10.toInt by omega]; omega), (by unfold pp_tm; rw [if_pos (by omega), show rg 1 = x_10.toInt by omega, if_neg (by omega)]; exact hr)⟩) dX4_toldMan_45
    · refine lv_aload_n hx hb dX4_toldMan_39 rfl (lv_at hl 1 rfl) ?_
      refine lv_iconst (v := 4) hx hb dX4_toldMan_40 (by decide) ?_
      refine ti_callVv (ci := 4) (av := [.int 4]) C hw (x_X4_refuse l D A cy hJ M hI t ht 4 B n rg hr) ⟨ml_X4_82, ym_X4_refuse, yv_X4_refuse, yi_X4_refuse, yc_X4_refuse⟩ yd_X4_refuse ob_1 (by decide) rfl rfl hl.1 (Nat.le_of_ble_eq_true rfl) ⟨by decide, by decide⟩ ⟨Nat.zero_le _, Nat.zero_le _⟩ dX4_toldMan_41 (fun M_15 H locs hp_15 hw => ?_)
      obtain ⟨iM_15, q_16, q_17, q_18, q_19, p0r_14⟩ := hp_15
      have hlr_14_4 : (4 : Int32).toInt = 4 := by decide
      simp only [hlr_14_4] at p0r_14
      obtain ⟨g_20, eg_20⟩ : ∃ z : Nat → Int, z = pp_rf 4 rg := ⟨_, rfl⟩
      rw [← eg_20] at p0r_14
      have lg_20_0 : g_20 0 = (tI M_15 2 4).toInt := p0r_14.2.1.1
      have lg_20_1 : g_20 1 = (tI M_15 2 6).toInt := p0r_14.2.1.2.1
      have lg_20_4 : g_20 4 = (tI M_15 1 4).toInt := p0r_14.2.2.1.1
      have lg_20_7 : g_20 7 = (tI M_15 t 4).toInt := p0r_14.2.2.2.1.1
      have lg_20_8 : g_20 8 = (tI M_15 t 5).toInt := p0r_14.2.2.2.1.2.1
      refine lv_iload_n hx hb dX4_toldMan_44 rfl (lv_at hl 0 rfl) ?_
      exact hQ _ _ _ _ _ _ hw rfl (⟨iM_15, (q_16), q_17, (q_18), (q_19), by first | omega | decide, by first | omega | decide, (by unfold pp_tv; rw [if_pos (by omega), show rg 1 = x_10.toInt by omega]; omega), (by unfold pp_tm; rw [if_pos (by omega), show rg 1 = x_10.toInt by omega, if_pos (by omega), ← eg_20]; exact p0r_14)⟩) dX4_toldMan_45
  · refine lv_aload_n hx hb dX4_toldMan_12 rfl (lv_at hl 0 rfl) ?_
    refine lv_iconst (v := 1) hx hb dX4_toldMan_13 (by decide) ?_
    refine ti_callVv (ci := 4) (av := [.int 1]) C hw (x_X4_refuse l D A cy hJ M hI t ht 1 B n rg hr) ⟨ml_X4_82, ym_X4_refuse, yv_X4_refuse, yi_X4_refuse, yc_X4_refuse⟩ yd_X4_refuse ob_1 (by decide) rfl rfl hl.1 (Nat.le_of_ble_eq_true rfl) ⟨by decide, by decide⟩ ⟨Nat.zero_le _, Nat.zero_le _⟩ dX4_toldMan_14 (fun M_4 H locs hp_4 hw => ?_)
    obtain ⟨iM_4, q_5, q_6, q_7, q_8, p0r_3⟩ := hp_4
    have hlr_3_1 : (1 : Int32).toInt = 1 := by decide
    simp only [hlr_3_1] at p0r_3
    obtain ⟨g_9, eg_9⟩ : ∃ z : Nat → Int, z = pp_rf 1 rg := ⟨_, rfl⟩
    rw [← eg_9] at p0r_3
    have lg_9_0 : g_9 0 = (tI M_4 2 4).toInt := p0r_3.2.1.1
    have lg_9_1 : g_9 1 = (tI M_4 2 6).toInt := p0r_3.2.1.2.1
    have lg_9_4 : g_9 4 = (tI M_4 1 4).toInt := p0r_3.2.2.1.1
    have lg_9_7 : g_9 7 = (tI M_4 t 4).toInt := p0r_3.2.2.2.1.1
    have lg_9_8 : g_9 8 = (tI M_4 t 5).toInt := p0r_3.2.2.2.1.2.1
    refine lv_iconst (v := (-1)) hx hb dX4_toldMan_17 (by decide) ?_
    exact hQ _ _ _ _ _ _ hw rfl (⟨iM_4, (q_5), q_6, (q_7), (q_8), by first | omega | decide, by first | omega | decide, (by unfold pp_tv; rw [if_neg (by omega)]; decide), (by unfold pp_tm; rw [if_neg (by omega), ← eg_9]; exact p0r_3)⟩) dX4_toldMan_18

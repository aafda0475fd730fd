section
variable {Tc : gC} {Tm : gM}
theorem pp_law {o : Nat} (h : ti_cls o = 1) : 21 ≤ o := by
  unfold ti_cls at h
  repeat' split at h
  all_goals omega
theorem lwb_b {t j : Nat} (hj : j < 3) : 21 ≤ ti_laws t j ∧ ti_laws t j ≤ 26 := by unfold ti_laws; split <;> omega
theorem lwb_j {t i j : Nat} (h : i ≠ j) : ti_laws t i ≠ ti_laws t j := by unfold ti_laws; split <;> omega
theorem ry_T {M N : ti_M} {o k : Nat} {v : Option Nat} (e : N = uT M o k v) : N.2.1 = M.2.1 := by subst e; rfl
/-- all that the other text tells stays, as do the face, queues, steps, stones, image -/
def ot (t : Nat) (N M : ti_M) : Prop := (∀ k : Nat, tI N (7 - t) k = tI M (7 - t) k) ∧ (∀ i k : Nat, i < 8 → tI N (ti_men (7 - t) i) k = tI M (ti_men (7 - t) i) k) ∧ (∀ k : Nat, tY N (7 - t) k = tY M (7 - t) k) ∧ (∀ j k : Nat, j < 3 → tI N (ti_laws (7 - t) j) k = tI M (ti_laws (7 - t) j) k ∧ tY N (ti_laws (7 - t) j) k = tY M (ti_laws (7 - t) j) k) ∧ ∀ o k : Nat, (o = 0 ∨ 26 < o) → tI N o k = tI M o k ∧ tY N o k = tY M o k
theorem ot.refl {t : Nat} {M : ti_M} : ot t M M := ⟨fun _ => rfl, fun _ _ _ => rfl, fun _ => rfl, fun _ _ _ => ⟨rfl, rfl⟩, fun _ _ _ => ⟨rfl, rfl⟩⟩
theorem ot.trans {t : Nat} {K N M : ti_M} (x : ot t K N) (y : ot t N M) : ot t K M := ⟨fun k => (x.1 k).trans (y.1 k), fun i k h => (x.2.1 i k h).trans (y.2.1 i k h), fun k => (x.2.2.1 k).trans (y.2.2.1 k), fun j k h => ⟨(x.2.2.2.1 j k h).1.trans (y.2.2.2.1 j k h).1, (x.2.2.2.1 j k h).2.trans (y.2.2.2.1 j k h).2⟩, fun o k h => ⟨(x.2.2.2.2 o k h).1.trans (y.2.2.2.2 o k h).1, (x.2.2.2.2 o k h).2.trans (y.2.2.2.2 o k h).2⟩⟩
theorem ot_of {t : Nat} {N M : ti_M} (e : N.1 = M.1) (e2 : N.2.1 = M.2.1) : ot t N M := ⟨fun _ => tI_fr e, fun _ _ _ => tI_fr e, fun _ => tY_fr e2, fun _ _ _ => ⟨tI_fr e, tY_fr e2⟩, fun _ _ _ => ⟨tI_fr e, tY_fr e2⟩⟩
theorem ot_12 {t : Nat} {N M : ti_M} (ht : t = 3 ∨ t = 4) (h : o12 N M) (e2 : N.2.1 = M.2.1) : ot t N M := ⟨fun k => h _ k (by omega) (by omega), fun i k _ => h _ k (by have := pp_men (t := 7 - t) (i := i); omega) (by have := pp_men (t := 7 - t) (i := i); omega), fun _ => tY_fr e2, fun j k hj => ⟨h _ k (by have := lwb_b (t := 7 - t) hj; omega) (by have := lwb_b (t := 7 - t) hj; omega), tY_fr e2⟩, fun o k q => ⟨h o k (by omega) (by omega), tY_fr e2⟩⟩
theorem ot_I {t o k : Nat} {N M : ti_M} {v : Int32} (ht : t = 3 ∨ t = 4) (e : N = uI M o k v) (h : (1 ≤ o ∧ o ≤ 2) ∨ o = t) : ot t N M := ⟨fun k2 => tI_nE e (no (by omega)), fun i k2 hi => tI_nE e (no (by have := pp_men (t := 7 - t) (i := i); have := pp_men20 (t := 7 - t) hi; omega)), fun _ => tY_uIE e, fun j k2 hj => ⟨tI_nE e (no (by have := lwb_b (t := 7 - t) hj; omega)), tY_uIE e⟩, fun o2 k2 q => ⟨tI_nE e (no (by omega)), tY_uIE e⟩⟩
theorem ot_m {t j k : Nat} {N M : ti_M} {v : Int32} (ht : t = 3 ∨ t = 4) (hj : j < 8) (e : N = uI M (ti_men t j) k v) : ot t N M := by
  have q : ∀ i : Nat, i < 8 → ti_men (7 - t) i ≠ ti_men t j := by
    intro i hi
    unfold ti_men
    rcases ht with rfl | rfl
    · rw [if_neg (by decide), if_pos rfl]; omega
    · rw [if_pos (by decide), if_neg (by decide)]; omega
  have w := pp_men (t := t) (i := j)
  have w2 := pp_men20 (t := t) hj
  exact ⟨fun k2 => tI_nE e (no (by omega)), fun i k2 hi => tI_nE e (no (q i hi)), fun _ => tY_uIE e, fun i k2 hi => ⟨tI_nE e (no (by have := lwb_b (t := 7 - t) hi; omega)), tY_uIE e⟩, fun o2 k2 q => ⟨tI_nE e (no (by omega)), tY_uIE e⟩⟩
theorem lw_ne {t i j : Nat} (ht : t = 3 ∨ t = 4) (hi : i < 3) (hj : j < 3) : ti_laws (7 - t) i ≠ ti_laws t j := by
  unfold ti_laws
  rcases ht with rfl | rfl
  · rw [if_neg (by decide), if_pos rfl]; omega
  · rw [if_pos (by decide), if_neg (by decide)]; omega
theorem ot_l {t j k : Nat} {N M : ti_M} {v : Int32} (ht : t = 3 ∨ t = 4) (hj : j < 3) (e : N = uI M (ti_laws t j) k v) : ot t N M := by
  have w := lwb_b (t := t) hj
  exact ⟨fun k2 => tI_nE e (no (by omega)), fun i k2 hi => tI_nE e (no (by have := pp_men20 (t := 7 - t) hi; omega)), fun _ => tY_uIE e, fun i k2 hi => ⟨tI_nE e (no (lw_ne ht hi hj)), tY_uIE e⟩, fun o2 k2 q => ⟨tI_nE e (no (by omega)), tY_uIE e⟩⟩
theorem ot_Yt {t k : Nat} {N M : ti_M} {f : Nat → Int32} (ht : t = 3 ∨ t = 4) (e : N = uY M t k f) : ot t N M := ⟨fun _ => tI_uYE e, fun _ _ _ => tI_uYE e, fun _ => tY_nE e (no (by omega)), fun i k2 hi => ⟨tI_uYE e, tY_nE e (no (by have := lwb_b (t := 7 - t) hi; omega))⟩, fun o2 k2 q => ⟨tI_uYE e, tY_nE e (no (by omega))⟩⟩
theorem ot_Yl {t j k : Nat} {N M : ti_M} {f : Nat → Int32} (ht : t = 3 ∨ t = 4) (hj : j < 3) (e : N = uY M (ti_laws t j) k f) : ot t N M := by
  have w := lwb_b (t := t) hj
  exact ⟨fun _ => tI_uYE e, fun _ _ _ => tI_uYE e, fun _ => tY_nE e (no (by omega)), fun i k2 hi => ⟨tI_uYE e, tY_nE e (no (lw_ne ht hi hj))⟩, fun o2 k2 q => ⟨tI_uYE e, tY_nE e (no (by omega))⟩⟩
def tq (t : Nat) (td : Nat → Int) (M : ti_M) : Prop := (∀ k : Nat, 6 ≤ k → k ≤ 11 → td k = (tI M t k).toInt) ∧ (∀ i : Nat, i < 3 → td (32 + i) = (tY M t 1 i).toInt) ∧ (∀ i k : Nat, i < 8 → 1 ≤ k → k ≤ 8 → td (100 + 16 * i + k) = (tI M (ti_men t i) k).toInt) ∧ ∀ j : Nat, j < 3 → td (300 + j) = (tI M (ti_laws t j) 3).toInt ∧ ∀ n : Nat, n < 64 → td (400 + 64 * j + n) = (tY M (ti_laws t j) 0 n).toInt
section
variable {t j k : Nat} {td : Nat → Int} {M N : ti_M} {v z : Int32} {x : Int}
theorem tq_of (h : tq t td M) (a : ∀ k : Nat, 6 ≤ k → k ≤ 11 → tI N t k = tI M t k) (b : tY N t 1 = tY M t 1) (c : ∀ i k : Nat, i < 8 → 1 ≤ k → k ≤ 8 → tI N (ti_men t i) k = tI M (ti_men t i) k) (d : ∀ j : Nat, j < 3 → tI N (ti_laws t j) 3 = tI M (ti_laws t j) 3 ∧ tY N (ti_laws t j) 0 = tY M (ti_laws t j) 0) : tq t td N :=
  ⟨fun k h1 h2 => by rw [a k h1 h2]; exact h.1 k h1 h2, fun i hi => by rw [b]; exact h.2.1 i hi, fun i k hi h1 h2 => by rw [c i k hi h1 h2]; exact h.2.2.1 i k hi h1 h2, fun j hj => ⟨by rw [(d j hj).1]; exact (h.2.2.2 j hj).1, fun n hn => by rw [(d j hj).2]; exact (h.2.2.2 j hj).2 n hn⟩⟩
theorem tq_fr (ht : t = 3 ∨ t = 4) (h : tq t td M) (o : o12 N M) (e : N.2.1 = M.2.1) : tq t td N := tq_of h (fun k _ _ => o t k (by omega) (by omega)) (tY_fr e) (fun i k _ _ _ => o _ k (by have := pp_men (t := t) (i := i); omega) (by have := pp_men (t := t) (i := i); omega)) (fun j hj => ⟨o _ 3 (by have := lwb_b (t := t) hj; omega) (by have := lwb_b (t := t) hj; omega), tY_fr e⟩)
theorem tq_T {o : Nat} {f : Option Nat} (h : tq t td M) (e : N = uT M o k f) : tq t td N := by subst e; exact h
/-- ints that tell nothing here: the reader's, names, guards, lines, men, knots -/
theorem tq_I0 {o : Nat} (ht : t = 3 ∨ t = 4) (h : tq t td M) (e : N = uI M o k v) (ho : o ≤ 2) : tq t td N := tq_of h (fun k _ _ => tI_nE e (no (by omega))) (tY_uIE e) (fun i k _ _ _ => tI_nE e (no (by have := pp_men (t := t) (i := i); omega))) (fun j hj => ⟨tI_nE e (no (by have := lwb_b (t := t) hj; omega)), tY_uIE e⟩)
theorem tq_t0 (ht : t = 3 ∨ t = 4) (h : tq t td M) (e : N = uI M t k v) (hk : k < 6) : tq t td N := tq_of h (fun k2 _ _ => tI_nE e (nk (by omega))) (tY_uIE e) (fun i k _ _ _ => tI_nE e (no (by have := pp_men (t := t) (i := i); omega))) (fun j hj => ⟨tI_nE e (no (by have := lwb_b (t := t) hj; omega)), tY_uIE e⟩)
theorem tq_m0 (ht : t = 3 ∨ t = 4) (hj : j < 8) (h : tq t td M) (e : N = uI M (ti_men t j) k v) (hk : k = 0 ∨ 8 < k) : tq t td N := tq_of h (fun k _ _ => tI_nE e (no (by have := pp_men (t := t) (i := j); omega))) (tY_uIE e) (fun i k2 _ h1 h2 => tI_nE e (nk (by omega))) (fun i hi => ⟨tI_nE e (no (by have := lwb_b (t := t) hi; have := pp_men20 (t := t) hj; omega)), tY_uIE e⟩)
theorem tq_t (ht : t = 3 ∨ t = 4) (h : tq t td M) (hv : v.toInt = x) (e : N = uI M t k v) (hk : 6 ≤ k ∧ k ≤ 11) : tq t (pp_su td k x) N := by
  refine ⟨fun k2 h1 h2 => ?_, fun i hi => ?_, fun i k2 hi h1 h2 => ?_, fun i hi => ⟨?_, fun n hn => ?_⟩⟩
  · by_cases q : k2 = k
    · subst q; rw [su_s, tI_uE e, hv]
    · rw [su_n q, tI_nE e (nk q)]; exact h.1 k2 h1 h2
  · rw [su_n (by omega), tY_uIE e]; exact h.2.1 i hi
  · rw [su_n (by omega), tI_nE e (no (by have := pp_men (t := t) (i := i); omega))]; exact h.2.2.1 i k2 hi h1 h2
  · rw [su_n (by omega), tI_nE e (no (by have := lwb_b (t := t) hi; omega))]; exact (h.2.2.2 i hi).1
  · rw [su_n (by omega), tY_uIE e]; exact (h.2.2.2 i hi).2 n hn
theorem tq_m (ht : t = 3 ∨ t = 4) (hj : j < 8) (h : tq t td M) (hv : v.toInt = x) (e : N = uI M (ti_men t j) k v) (hk : 1 ≤ k ∧ k ≤ 8) : tq t (pp_su td (100 + 16 * j + k) x) N := by
  refine ⟨fun k2 h1 h2 => ?_, fun i hi => ?_, fun i k2 hi h1 h2 => ?_, fun i hi => ⟨?_, fun n hn => ?_⟩⟩
  · rw [su_n (by omega), tI_nE e (no (by have := pp_men (t := t) (i := j); omega))]; exact h.1 k2 h1 h2
  · rw [su_n (by omega), tY_uIE e]; exact h.2.1 i hi
  · by_cases q : i = j
    · subst q
      by_cases r : k2 = k
      · subst r; rw [su_s, tI_uE e, hv]
      · rw [su_n (by omega), tI_nE e (nk r)]; exact h.2.2.1 i k2 hi h1 h2
    · rw [su_n (by omega), tI_nE e (no (pp_menj q))]; exact h.2.2.1 i k2 hi h1 h2
  · rw [su_n (by omega), tI_nE e (no (by have := lwb_b (t := t) hi; have := pp_men20 (t := t) hj; omega))]; exact (h.2.2.2 i hi).1
  · rw [su_n (by omega), tY_uIE e]; exact (h.2.2.2 i hi).2 n hn
theorem tq_l (ht : t = 3 ∨ t = 4) (hj : j < 3) (h : tq t td M) (hv : v.toInt = x) (e : N = uI M (ti_laws t j) 3 v) : tq t (pp_su td (300 + j) x) N := by
  have w := lwb_b (t := t) hj
  refine ⟨fun k2 h1 h2 => ?_, fun i hi => ?_, fun i k2 hi h1 h2 => ?_, fun i hi => ⟨?_, fun n hn => ?_⟩⟩
  · rw [su_n (by omega), tI_nE e (no (by omega))]; exact h.1 k2 h1 h2
  · rw [su_n (by omega), tY_uIE e]; exact h.2.1 i hi
  · rw [su_n (by omega), tI_nE e (no (by have := pp_men20 (t := t) hi; omega))]; exact h.2.2.1 i k2 hi h1 h2
  · by_cases q : i = j
    · subst q; rw [su_s, tI_uE e, hv]
    · rw [su_n (by omega), tI_nE e (no (lwb_j q))]; exact (h.2.2.2 i hi).1
  · rw [su_n (by omega), tY_uIE e]; exact (h.2.2.2 i hi).2 n hn
theorem tq_Y1 (ht : t = 3 ∨ t = 4) (h : tq t td M) (hz : z.toInt = (j : Int)) (hj : j < 3) (hv : v.toInt = x) (e : N = uY M t 1 (upd (tY M t 1) z.toNatClampNeg v)) : tq t (pp_su td (32 + j) x) N := by
  rw [i_cl hz] at e
  refine ⟨fun k2 h1 h2 => ?_, fun i hi => ?_, fun i k2 hi h1 h2 => ?_, fun i hi => ⟨?_, fun n hn => ?_⟩⟩
  · rw [su_n (by omega), tI_uYE e]; exact h.1 k2 h1 h2
  · rw [tY_uE e]
    by_cases q : i = j
    · subst q; rw [su_s, pk_us, hv]
    · rw [su_n (by omega), pk_un q]; exact h.2.1 i hi
  · rw [su_n (by omega), tI_uYE e]; exact h.2.2.1 i k2 hi h1 h2
  · rw [su_n (by omega), tI_uYE e]; exact (h.2.2.2 i hi).1
  · rw [su_n (by omega), tY_nE e (no (by have := lwb_b (t := t) hi; omega))]; exact (h.2.2.2 i hi).2 n hn
theorem tq_Yc {n : Nat} (ht : t = 3 ∨ t = 4) (hj : j < 3) (h : tq t td M) (hz : z.toInt = (n : Int)) (hn : n < 64) (hv : v.toInt = x) (e : N = uY M (ti_laws t j) 0 (upd (tY M (ti_laws t j) 0) z.toNatClampNeg v)) : tq t (pp_su td (400 + 64 * j + n) x) N := by
  rw [i_cl hz] at e
  have w := lwb_b (t := t) hj
  refine ⟨fun k2 h1 h2 => ?_, fun i hi => ?_, fun i k2 hi h1 h2 => ?_, fun i hi => ⟨?_, fun n2 hn2 => ?_⟩⟩
  · rw [su_n (by omega), tI_uYE e]; exact h.1 k2 h1 h2
  · rw [su_n (by omega), tY_nE e (no (by omega))]; exact h.2.1 i hi
  · rw [su_n (by omega), tI_uYE e]; exact h.2.2.1 i k2 hi h1 h2
  · rw [su_n (by omega), tI_uYE e]; exact (h.2.2.2 i hi).1
  · by_cases q : i = j
    · subst q
      rw [tY_uE e]
      by_cases r : n2 = n
      · subst r; rw [su_s, pk_us, hv]
      · rw [su_n (by omega), pk_un r]; exact (h.2.2.2 i hi).2 n2 hn2
    · rw [su_n (by omega), tY_nE e (no (lwb_j q))]; exact (h.2.2.2 i hi).2 n2 hn2
end
set_option maxHeartbeats 4000000 in
set_option maxRecDepth 100000 in
theorem x_X8_find (l : Launch) (D : va_G) (A : Nat → Nat → Nat) (cy : Nat → ClassId) (hJ : ti_inj ti_LT A) (M : ti_M) (hI : cI Tc M) (t : Nat) (ht : t = 3 ∨ t = 4) (nm : Int32) (B : Nat → Int) (n : Nat) (rg : Nat → Int) (hr : rC B n t rg M) : ti_Ki l yX8_find cX8_find 3 (some .int) 0 ti_LT D A cy M [.ref (A t 0), .int nm] (fun r M2 => M2 = M ∧ (-1) ≤ r.toInt ∧ r.toInt ≤ 7 ∧ r.toInt = pp_fd rg nm.toInt 0) := by
  refine ti_eI yp_X8_find hJ ti_LT_nd (Nat.le_of_ble_eq_true rfl) ?_
  intro p e s m args below meth c Q H0 C hQ hw ls hl
  have hx := C.1
  have hb := C.2.1
  have hl : lv_has ls 3 [(0, .ref (A t 0)), (1, .int nm)] := hl
  have l0 : rg 0 = (tI M 2 4).toInt := hr.2.1.1
  have l1 : rg 1 = (tI M 2 6).toInt := hr.2.1.2.1
  have l2 : rg 2 = (tI M 2 5).toInt := hr.2.1.2.2.1
  have l3 : rg 3 = (tI M 2 3).toInt := hr.2.1.2.2.2
  have l4 : rg 4 = (tI M 1 4).toInt := hr.2.2.1.1
  have l5 : rg 5 = (tI M 1 5).toInt := hr.2.2.1.2.1
  have l7 : rg 7 = (tI M t 4).toInt := hr.2.2.2.1.1
  have l8 : rg 8 = (tI M t 5).toInt := hr.2.2.2.1.2.1
  have l9 : rg 9 = (tI M t 3).toInt := hr.2.2.2.1.2.2
  refine lv_iconst (v := 0) hx hb dX8_find_0 (by decide) ?_
  refine lv_istore_n (lv' := [(2, .int 0), (0, .ref (A t 0)), (1, .int nm)]) hx hb dX8_find_1 rfl hl (by decide) rfl (fun ls hl => ?_)
  have hl_2_4 : ∀ (n_5 : Nat) (x_1 : Int32) (H : Heap) (locs : List Loc) (ls : Array Slot), (8 - x_1.toInt : Int).toNat < n_5 → (0 ≤ x_1.toInt) → (x_1.toInt ≤ 8) → (pp_fd rg nm.toInt 0 = pp_fd rg nm.toInt (x_1.toInt).toNat) → ti_H ti_LT D A cy H0 M H locs → lv_has ls 3 [(2, .int x_1), (0, .ref (A t 0)), (1, .int nm)] → W p l e (ti_rm 0) s m args below meth c H locs 0 0 Q (F0 m 2 ls []) := by
    intro n_5
    induction n_5 with
    | zero => intro x_1 H locs ls hf_5; exact absurd hf_5 (Nat.not_lt_zero _)
    | succ n_5 ih_5 =>
      intro x_1 H locs ls hf_5 b_2 b_3 j_4 hw hl
      refine lv_iload_n hx hb dX8_find_2 rfl (lv_at hl 0 rfl) ?_
      refine lv_aload_n hx hb dX8_find_3 rfl (lv_at hl 1 rfl) ?_
      refine ti_get (ci := 8) (k := 4) (N := 12) (T := TX8) C hw iw_8 rfl (ob_t ht) (by decide) (by decide) fl_X8_36 rfl rfl dX8_find_4 ?_
      refine lv_topi (fun x_6 ex_6 => ?_)
      have bx_6 : 0 ≤ x_6.toInt ∧ x_6.toInt ≤ 8 := cI_rd hI (ob_t ht).1 ex_6
      have ux_6 : (tI M t 4).toInt = x_6.toInt := by rw [ex_6]
      refine sb_icmp_ge (tgt := 31) hx hb rfl rfl dX8_find_7 (by decide) (fun c_7_6 => ?_) (fun c_7_6 => ?_)
      · refine lv_iconst (v := (-1)) hx hb dX8_find_31 (by decide) ?_
        exact hQ _ _ _ _ _ _ hw rfl (⟨rfl, by decide, by decide, (by rw [j_4, fd_end (s := rg) (v := nm.toInt) (i := x_1.toInt.toNat) (by omega)]; decide)⟩) dX8_find_32
      · refine lv_aload_n hx hb dX8_find_10 rfl (lv_at hl 1 rfl) ?_
        refine ti_get (ci := 8) (k := 0) (N := 12) (T := TX8) (v := .ref (A t 1)) C hw iw_8 rfl (ob_t ht) (by decide) (by decide) fl_X8_11 rfl rfl dX8_find_11 ?_
        refine lv_iload_n hx hb dX8_find_14 rfl (lv_at hl 0 rfl) ?_
        refine ti_aald (ci := 8) (k := 0) (n := 8) (t0 := 5) (Cn := RX2) (gg := (ti_men t)) (j := x_1.toNatClampNeg) C hw (ob_t ht) (by decide) (fun _ _ => rfl) rfl (vp_in_iff.mpr (by omega)) rfl dX8_find_15 ?_
        have ob_8 : ti_ob ti_LT (ti_men t x_1.toNatClampNeg) 2 := ob_m ht (i_nt rfl (by omega) (by omega))
        refine ti_get (ci := 2) (k := 0) (N := 10) (T := TX2) C hw iw_2 rfl ob_8 (by decide) (by decide) fl_X8_63 rfl rfl dX8_find_16 ?_
        refine lv_topi (fun x_9 ex_9 => ?_)
        have u_10 : (tI M (ti_men t x_1.toNatClampNeg) 0).toInt = x_9.toInt := by rw [ex_9]
        have mnx_1 : rg (100 + x_1.toInt.toNat) = x_9.toInt := by rw [ex_9]; exact (hr.2.2.2.2 x_1.toInt.toNat (by omega)).1
        refine lv_iload_n hx hb dX8_find_19 rfl (lv_at hl 2 rfl) ?_
        refine sb_icmp_ne (tgt := 25) hx hb rfl rfl dX8_find_20 (by decide) (fun c_20_10 => ?_) (fun c_20_10 => ?_)
        · obtain ⟨x_12, ex_12⟩ : ∃ z : Int32, z = x_1 + 1 := ⟨_, rfl⟩
          have tx_12 : x_12.toInt = x_1.toInt + 1 := i_add ex_12 rfl (by decide) (by omega) (by omega)
          refine lv_iinc (v := x_12) (lv' := [(2, .int x_12), (0, .ref (A t 0)), (1, .int nm)]) hx hb dX8_find_25 hl (k := 0) rfl (by rw [ex_12]; rfl) (by decide) rfl (fun ls hl => ?_)
          refine lv_goto (tgt := 2) hx hb dX8_find_28 (by decide) ?_
          exact ih_5 x_12 _ _ _ (by omega) (by first | omega | decide) (by first | omega | decide) (by rw [show x_12.toInt.toNat = x_1.toInt.toNat + 1 by omega, ← fd_go (s := rg) (v := nm.toInt) (i := x_1.toInt.toNat) (by omega) (by rw [mnx_1]; omega)]; exact j_4) hw (lv_sub hl [0, 1, 2] rfl)
        · refine lv_iload_n hx hb dX8_find_23 rfl (lv_at hl 0 rfl) ?_
          exact hQ _ _ _ _ _ _ hw rfl (⟨rfl, by omega, by omega, (by rw [j_4, fd_at (s := rg) (v := nm.toInt) (i := x_1.toInt.toNat) (by omega) (by rw [mnx_1]; omega)]; omega)⟩) dX8_find_24
  exact hl_2_4 ((8 - 0 : Int).toNat + 1) 0 _ _ _ (Nat.lt_succ_self _) (by have lt0 : (0 : Int32).toInt = 0 := (by decide); first | omega | decide) (by have lt0 : (0 : Int32).toInt = 0 := (by decide); first | omega | decide) rfl hw (lv_sub hl [0, 1, 2] rfl)
set_option maxHeartbeats 4000000 in
set_option maxRecDepth 100000 in
theorem x_X4_refuse (l : Launch) (D : va_G) (A : Nat → Nat → Nat) (cy : Nat → ClassId) (hJ : ti_inj ti_LT A) (M : ti_M) (hI : cI Tc M) (t : Nat) (ht : t = 3 ∨ t = 4) (kd : Int32) (B : Nat → Int) (n : Nat) (rg : Nat → Int) (hr : rC B n t rg M) : ti_Kv l yX4_refuse cX4_refuse 2 0 ti_LT D A cy M [.ref (A 1 0), .int kd] (fun M2 => cI Tc M2 ∧ M2.2.2.2 = M.2.2.2 ∧ o12 M2 M ∧ tI M2 2 1 = tI M 2 1 ∧ M2.2.1 = M.2.1 ∧ rC B n t (pp_rf kd.toInt rg) M2) := by
  refine ti_eV yp_X4_refuse hJ ti_LT_nd (Nat.le_of_ble_eq_true rfl) ?_
  intro p e s m args below meth c Q H0 C hQ hw ls hl
  have hx := C.1
  have hb := C.2.1
  have hl : lv_has ls 2 [(0, .ref (A 1 0)), (1, .int kd)] := hl
  have l0 : rg 0 = (tI M 2 4).toInt := hr.2.1.1
  have l1 : rg 1 = (tI M 2 6).toInt := hr.2.1.2.1
  have l2 : rg 2 = (tI M 2 5).toInt := hr.2.1.2.2.1
  have l3 : rg 3 = (tI M 2 3).toInt := hr.2.1.2.2.2
  have l4 : rg 4 = (tI M 1 4).toInt := hr.2.2.1.1
  have l5 : rg 5 = (tI M 1 5).toInt := hr.2.2.1.2.1
  have l7 : rg 7 = (tI M t 4).toInt := hr.2.2.2.1.1
  have l8 : rg 8 = (tI M t 5).toInt := hr.2.2.2.1.2.1
  have l9 : rg 9 = (tI M t 3).toInt := hr.2.2.2.1.2.2
  refine lv_aload_n hx hb dX4_refuse_0 rfl (lv_at hl 0 rfl) ?_
  refine ti_get (ci := 4) (k := 4) (N := 6) (T := TX4) C hw iw_4 rfl ob_1 (by decide) (by decide) fl_X4_22 rfl rfl dX4_refuse_1 ?_
  refine lv_topi (fun x_1 ex_1 => ?_)
  have u_2 : (tI M 1 4).toInt = x_1.toInt := by rw [ex_1]
  refine sb_if_ne (tgt := 23) hx hb rfl dX4_refuse_4 (by decide) (fun c_4_2 => ?_) (fun c_4_2 => ?_)
  · refine lv_aload_n hx hb dX4_refuse_23 rfl (lv_at hl 0 rfl) ?_
    refine ti_get (ci := 4) (k := 0) (N := 6) (T := TX4) (v := .ref (A 2 0)) C hw iw_4 rfl ob_1 (by decide) (by decide) fl_X4_12 rfl rfl dX4_refuse_24 ?_
    refine lv_bipush (v := 28) hx hb dX4_refuse_27 (by decide) ?_
    refine ti_putI (ci := 7) (k := 4) (N := 7) (T := TX7) C hw iw_7 tyX7 tyX7_ok nmX7 rfl ob_2 (by decide) (by decide) fl_X4_41 rfl rfl rfl rfl (fn_7 A _) fs_7_4 dX4_refuse_29 (fun H locs hw => ?_)
    obtain ⟨M_12, hM_12⟩ : ∃ z : ti_M, z = uI M 2 4 28 := ⟨_, rfl⟩
    have hw := hw.to hM_12.symm
    have iM_12 : cI Tc M_12 := cI_uI hI hM_12 ob_2.1 (ib_mk (lo := 0) (hi := 41) (by decide) (by decide))
    have vM_12 : (tI M_12 2 4).toInt = 28 := by rw [tI_uE hM_12]; decide
    have hs_13 := rC_24 ht hM_12 hr
    rw [show (28 : Int32).toInt = 28 by decide] at hs_13
    obtain ⟨g_14, eg_14⟩ : ∃ z : Nat → Int, z = pp_su rg 0 28 := ⟨_, rfl⟩
    rw [← eg_14] at hs_13
    have lg_14_0 : g_14 0 = (tI M_12 2 4).toInt := hs_13.2.1.1
    have lg_14_1 : g_14 1 = (tI M_12 2 6).toInt := hs_13.2.1.2.1
    have lg_14_4 : g_14 4 = (tI M_12 1 4).toInt := hs_13.2.2.1.1
    have lg_14_7 : g_14 7 = (tI M_12 t 4).toInt := hs_13.2.2.2.1.1
    have lg_14_8 : g_14 8 = (tI M_12 t 5).toInt := hs_13.2.2.2.1.2.1
    exact hQ _ _ _ _ _ hw (⟨iM_12, (rf_I hM_12), (o12_I hM_12 (by decide)), (tI_nE hM_12 (nk (by decide))), (ry_I hM_12), (by unfold pp_rf; rw [if_neg (by omega), ← eg_14]; exact hs_13)⟩) dX4_refuse_32
  · refine lv_aload_n hx hb dX4_refuse_7 rfl (lv_at hl 0 rfl) ?_
    refine lv_iload_n hx hb dX4_refuse_8 rfl (lv_at hl 1 rfl) ?_
    refine ti_putI (ci := 4) (k := 4) (N := 6) (T := TX4) C hw iw_4 tyX4 tyX4_ok nmX4 rfl ob_1 (by decide) (by decide) fl_X4_22 rfl rfl rfl rfl (fn_4 A _) fs_4_4 dX4_refuse_9 (fun H locs hw => ?_)
    obtain ⟨M_4, hM_4⟩ : ∃ z : ti_M, z = uI M 1 4 kd := ⟨_, rfl⟩
    have hw := hw.to hM_4.symm
    have iM_4 : cI Tc M_4 := cI_uI hI hM_4 ob_1.1 trivial
    have hs_5 := rC_14 ht hM_4 hr
    obtain ⟨g_6, eg_6⟩ : ∃ z : Nat → Int, z = pp_su rg 4 kd.toInt := ⟨_, rfl⟩
    rw [← eg_6] at hs_5
    have lg_6_0 : g_6 0 = (tI M_4 2 4).toInt := hs_5.2.1.1
    have lg_6_1 : g_6 1 = (tI M_4 2 6).toInt := hs_5.2.1.2.1
    have lg_6_4 : g_6 4 = (tI M_4 1 4).toInt := hs_5.2.2.1.1
    have lg_6_7 : g_6 7 = (tI M_4 t 4).toInt := hs_5.2.2.2.1.1
    have lg_6_8 : g_6 8 = (tI M_4 t 5).toInt := hs_5.2.2.2.1.2.1
    refine lv_aload_n hx hb dX4_refuse_12 rfl (lv_at hl 0 rfl) ?_
    refine lv_aload_n hx hb dX4_refuse_13 rfl (lv_at hl 0 rfl) ?_
    refine ti_get (ci := 4) (k := 0) (N := 6) (T := TX4) (v := .ref (A 2 0)) C hw iw_4 rfl ob_1 (by decide) (by decide) fl_X4_12 rfl rfl dX4_refuse_14 ?_
    refine ti_get (ci := 7) (k := 5) (N := 7) (T := TX7) C hw iw_7 rfl ob_2 (by decide) (by decide) fl_X4_91 rfl rfl dX4_refuse_17 ?_
    refine lv_topi (fun x_7 ex_7 => ?_)
    have u_8 : (tI M_4 2 5).toInt = x_7.toInt := by rw [ex_7]
    have lxx_7 : rg 2 = x_7.toInt := by rw [l2, ex_7, (tI_nE hM_4 (nk (by decide)))]
    refine ti_putI (ci := 4) (k := 5) (N := 6) (T := TX4) C hw iw_4 tyX4 tyX4_ok nmX4 rfl ob_1 (by decide) (by decide) fl_X4_25 rfl rfl rfl rfl (fn_4 A _) fs_4_5 dX4_refuse_20 (fun H locs hw => ?_)
    obtain ⟨M_9, hM_9⟩ : ∃ z : ti_M, z = uI M_4 1 5 x_7 := ⟨_, rfl⟩
    have hw := hw.to hM_9.symm
    have iM_9 : cI Tc M_9 := cI_uI iM_4 hM_9 ob_1.1 trivial
    have hs_10 := rC_15 ht hM_9 hs_5
    obtain ⟨g_11, eg_11⟩ : ∃ z : Nat → Int, z = pp_su g_6 5 x_7.toInt := ⟨_, rfl⟩
    rw [← eg_11] at hs_10
    have lg_11_0 : g_11 0 = (tI M_9 2 4).toInt := hs_10.2.1.1
    have lg_11_1 : g_11 1 = (tI M_9 2 6).toInt := hs_10.2.1.2.1
    have lg_11_4 : g_11 4 = (tI M_9 1 4).toInt := hs_10.2.2.1.1
    have lg_11_7 : g_11 7 = (tI M_9 t 4).toInt := hs_10.2.2.2.1.1
    have lg_11_8 : g_11 8 = (tI M_9 t 5).toInt := hs_10.2.2.2.1.2.1
    refine lv_aload_n hx hb dX4_refuse_23 rfl (lv_at hl 0 rfl) ?_
    refine ti_get (ci := 4) (k := 0) (N := 6) (T := TX4) (v := .ref (A 2 0)) C hw iw_4 rfl ob_1 (by decide) (by decide) fl_X4_12 rfl rfl dX4_refuse_24 ?_
    refine lv_bipush (v := 28) hx hb dX4_refuse_27 (by decide) ?_
    refine ti_putI (ci := 7) (k := 4) (N := 7) (T := TX7) C hw iw_7 tyX7 tyX7_ok nmX7 rfl ob_2 (by decide) (by decide) fl_X4_41 rfl rfl rfl rfl (fn_7 A _) fs_7_4 dX4_refuse_29 (fun H locs hw => ?_)
    obtain ⟨M_15, hM_15⟩ : ∃ z : ti_M, z = uI M_9 2 4 28 := ⟨_, rfl⟩
    have hw := hw.to hM_15.symm
    have iM_15 : cI Tc M_15 := cI_uI iM_9 hM_15 ob_2.1 (ib_mk (lo := 0) (hi := 41) (by decide) (by decide))
    have vM_15 : (tI M_15 2 4).toInt = 28 := by rw [tI_uE hM_15]; decide
    have hs_16 := rC_24 ht hM_15 hs_10
    rw [show (28 : Int32).toInt = 28 by decide] at hs_16
    obtain ⟨g_17, eg_17⟩ : ∃ z : Nat → Int, z = pp_su g_11 0 28 := ⟨_, rfl⟩
    rw [← eg_17] at hs_16
    have lg_17_0 : g_17 0 = (tI M_15 2 4).toInt := hs_16.2.1.1
    have lg_17_1 : g_17 1 = (tI M_15 2 6).toInt := hs_16.2.1.2.1
    have lg_17_4 : g_17 4 = (tI M_15 1 4).toInt := hs_16.2.2.1.1
    have lg_17_7 : g_17 7 = (tI M_15 t 4).toInt := hs_16.2.2.2.1.1
    have lg_17_8 : g_17 8 = (tI M_15 t 5).toInt := hs_16.2.2.2.1.2.1
    exact hQ _ _ _ _ _ hw (⟨iM_15, ((rf_I hM_15).trans ((rf_I hM_9).trans (rf_I hM_4))), (o12.trans (o12_I hM_15 (by decide)) (o12.trans (o12_I hM_9 (by decide)) (o12_I hM_4 (by decide)))), ((tI_nE hM_15 (nk (by decide))).trans ((tI_nE hM_9 (nk (by decide))).trans (tI_nE hM_4 (nk (by decide))))), ((ry_I hM_15).trans ((ry_I hM_9).trans (ry_I hM_4))), (by unfold pp_rf; rw [if_pos (by omega), show rg 2 = x_7.toInt by omega, ← eg_6, ← eg_11, ← eg_17]; exact hs_16)⟩) dX4_refuse_32
set_option maxHeartbeats 4000000 in
set_option maxRecDepth 100000 in
theorem x_X4_take (l : Launch) (D : va_G) (A : Nat → Nat → Nat) (cy : Nat → ClassId) (hJ : ti_inj ti_LT A) (M : ti_M) (hI : cI Tc M) (t : Nat) (ht : t = 3 ∨ t = 4) (kd : Int32) (B : Nat → Int) (n : Nat) (rg : Nat → Int) (hr : rC B n t rg M) : ti_KvE l yX4_take cX4_take 2 7 ti_LT D A cy M [.ref (A 1 0), .int kd] (fun M2 => cI Tc M2 ∧ M2.2.2.2 = M.2.2.2 ∧ o12 M2 M ∧ tI M2 2 1 = tI M 2 1 ∧ M2.2.1 = M.2.1 ∧ rC B n t (pp_tk B n kd.toInt rg) M2) := by
  refine ti_eVE yp_X4_take hJ ti_LT_nd (Nat.le_of_ble_eq_true rfl) ?_
  intro p e s m args below meth c Q H0 C hE hQ hw ls hl
  have hx := C.1
  have hb := C.2.1
  have hl : lv_has ls 2 [(0, .ref (A 1 0)), (1, .int kd)] := hl
  have l0 : rg 0 = (tI M 2 4).toInt := hr.2.1.1
  have l1 : rg 1 = (tI M 2 6).toInt := hr.2.1.2.1
  have l2 : rg 2 = (tI M 2 5).toInt := hr.2.1.2.2.1
  have l3 : rg 3 = (tI M 2 3).toInt := hr.2.1.2.2.2
  have l4 : rg 4 = (tI M 1 4).toInt := hr.2.2.1.1
  have l5 : rg 5 = (tI M 1 5).toInt := hr.2.2.1.2.1
  have l7 : rg 7 = (tI M t 4).toInt := hr.2.2.2.1.1
  have l8 : rg 8 = (tI M t 5).toInt := hr.2.2.2.1.2.1
  have l9 : rg 9 = (tI M t 3).toInt := hr.2.2.2.1.2.2
  refine lv_aload_n hx hb dX4_take_0 rfl (lv_at hl 0 rfl) ?_
  refine ti_get (ci := 4) (k := 0) (N := 6) (T := TX4) (v := .ref (A 2 0)) C hw iw_4 rfl ob_1 (by decide) (by decide) fl_X4_12 rfl rfl dX4_take_1 ?_
  refine ti_get (ci := 7) (k := 4) (N := 7) (T := TX7) C hw iw_7 rfl ob_2 (by decide) (by decide) fl_X4_41 rfl rfl dX4_take_4 ?_
  refine lv_topi (fun x_1 ex_1 => ?_)
  have bx_1 : 0 ≤ x_1.toInt ∧ x_1.toInt ≤ 41 := cI_rd hI ob_2.1 ex_1
  have ux_1 : (tI M 2 4).toInt = x_1.toInt := by rw [ex_1]
  refine lv_iload_n hx hb dX4_take_7 rfl (lv_at hl 1 rfl) ?_
  refine sb_icmp_ne (tgt := 21) hx hb rfl rfl dX4_take_8 (by decide) (fun c_8_1 => ?_) (fun c_8_1 => ?_)
  · refine lv_aload_n hx hb dX4_take_21 rfl (lv_at hl 0 rfl) ?_
    refine lv_iconst (v := 1) hx hb dX4_take_22 (by decide) ?_
    refine ti_callVv (ci := 4) (av := [.int 1]) C hw (x_X4_refuse l D A cy hJ M hI t ht 1 B n rg hr) ⟨ml_X4_82, ym_X4_refuse, yv_X4_refuse, yi_X4_refuse, yc_X4_refuse⟩ yd_X4_refuse ob_1 (by decide) rfl rfl hl.1 (Nat.le_of_ble_eq_true rfl) ⟨by decide, by decide⟩ ⟨Nat.zero_le _, Nat.zero_le _⟩ dX4_take_23 (fun M_12 H locs hp_12 hw => ?_)
    obtain ⟨iM_12, q_13, q_14, q_15, q_16, p0r_11⟩ := hp_12
    have hlr_11_1 : (1 : Int32).toInt = 1 := by decide
    simp only [hlr_11_1] at p0r_11
    obtain ⟨g_17, eg_17⟩ : ∃ z : Nat → Int, z = pp_rf 1 rg := ⟨_, rfl⟩
    rw [← eg_17] at p0r_11
    have lg_17_0 : g_17 0 = (tI M_12 2 4).toInt := p0r_11.2.1.1
    have lg_17_1 : g_17 1 = (tI M_12 2 6).toInt := p0r_11.2.1.2.1
    have lg_17_4 : g_17 4 = (tI M_12 1 4).toInt := p0r_11.2.2.1.1
    have lg_17_7 : g_17 7 = (tI M_12 t 4).toInt := p0r_11.2.2.2.1.1
    have lg_17_8 : g_17 8 = (tI M_12 t 5).toInt := p0r_11.2.2.2.1.2.1
    exact hQ _ _ _ _ _ hw (⟨iM_12, (q_13), q_14, (q_15), (q_16), (by unfold pp_tk; rw [if_neg (by omega), ← eg_17]; exact p0r_11)⟩) dX4_take_26
  · refine lv_aload_n hx hb dX4_take_11 rfl (lv_at hl 0 rfl) ?_
    refine ti_get (ci := 4) (k := 0) (N := 6) (T := TX4) (v := .ref (A 2 0)) C hw iw_4 rfl ob_1 (by decide) (by decide) fl_X4_12 rfl rfl dX4_take_12 ?_
    refine ti_callVvE (ci := 7) (av := []) C hE hw (x_X7_advance l D A cy hJ M hI ) ⟨ml_X4_92, ym_X7_advance, yv_X7_advance, yi_X7_advance, yc_X7_advance⟩ yd_X7_advance ob_2 (by decide) rfl rfl hl.1 (Nat.le_of_ble_eq_true rfl) ⟨by decide, by decide⟩ ⟨Nat.zero_le _, Nat.zero_le _⟩ dX4_take_15 (fun M_4 H locs hp_4 hw => ?_)
    obtain ⟨iM_4, q_5, q_6, q_7, q_8, p0r_3, p1r_3, p2r_3, p3r_3⟩ := hp_4
    have hs_9 := rC_av ht hr q_8 q_6 p0r_3 p1r_3 p2r_3 p3r_3
    obtain ⟨g_10, eg_10⟩ : ∃ z : Nat → Int, z = pp_av B n rg := ⟨_, rfl⟩
    rw [← eg_10] at hs_9
    have lg_10_0 : g_10 0 = (tI M_4 2 4).toInt := hs_9.2.1.1
    have lg_10_1 : g_10 1 = (tI M_4 2 6).toInt := hs_9.2.1.2.1
    have lg_10_4 : g_10 4 = (tI M_4 1 4).toInt := hs_9.2.2.1.1
    have lg_10_7 : g_10 7 = (tI M_4 t 4).toInt := hs_9.2.2.2.1.1
    have lg_10_8 : g_10 8 = (tI M_4 t 5).toInt := hs_9.2.2.2.1.2.1
    refine lv_goto (tgt := 26) hx hb dX4_take_18 (by decide) ?_
    exact hQ _ _ _ _ _ hw (⟨iM_4, (q_5), (o2_12 q_6), (q_7), (q_8.1), (by unfold pp_tk; rw [if_pos (by omega), ← eg_10]; exact hs_9)⟩) dX4_take_26
set_option maxHeartbeats 4000000 in
set_option maxRecDepth 100000 in
theorem x_X4_number (l : Launch) (D : va_G) (A : Nat → Nat → Nat) (cy : Nat → ClassId) (hJ : ti_inj ti_LT A) (M : ti_M) (hI : cI Tc M) (t : Nat) (ht : t = 3 ∨ t = 4) (lo mo : Int32) (B : Nat → Int) (n : Nat) (rg : Nat → Int) (hr : rC B n t rg M) : ti_KiE l yX4_number cX4_number 4 (some .int) 7 ti_LT D A cy M [.ref (A 1 0), .int lo, .int mo] (fun r M2 => cI Tc M2 ∧ M2.2.2.2 = M.2.2.2 ∧ o12 M2 M ∧ tI M2 2 1 = tI M 2 1 ∧ M2.2.1 = M.2.1 ∧ r.toInt = rg 1 ∧ rC B n t (pp_nb B n lo.toInt mo.toInt rg) M2) := by
  refine ti_eIE yp_X4_number hJ ti_LT_nd (Nat.le_of_ble_eq_true rfl) ?_
  intro p e s m args below meth c Q H0 C hE hQ hw ls hl
  have hx := C.1
  have hb := C.2.1
  have hl : lv_has ls 4 [(0, .ref (A 1 0)), (1, .int lo), (2, .int mo)] := hl
  have l0 : rg 0 = (tI M 2 4).toInt := hr.2.1.1
  have l1 : rg 1 = (tI M 2 6).toInt := hr.2.1.2.1
  have l2 : rg 2 = (tI M 2 5).toInt := hr.2.1.2.2.1
  have l3 : rg 3 = (tI M 2 3).toInt := hr.2.1.2.2.2
  have l4 : rg 4 = (tI M 1 4).toInt := hr.2.2.1.1
  have l5 : rg 5 = (tI M 1 5).toInt := hr.2.2.1.2.1
  have l7 : rg 7 = (tI M t 4).toInt := hr.2.2.2.1.1
  have l8 : rg 8 = (tI M t 5).toInt := hr.2.2.2.1.2.1
  have l9 : rg 9 = (tI M t 3).toInt := hr.2.2.2.1.2.2
  refine lv_aload_n hx hb dX4_number_0 rfl (lv_at hl 0 rfl) ?_
  refine ti_get (ci := 4) (k := 0) (N := 6) (T := TX4) (v := .ref (A 2 0)) C hw iw_4 rfl ob_1 (by decide) (by decide) fl_X4_12 rfl rfl dX4_number_1 ?_
  refine ti_get (ci := 7) (k := 6) (N := 7) (T := TX7) C hw iw_7 rfl ob_2 (by decide) (by decide) fl_X4_95 rfl rfl dX4_number_4 ?_
  refine lv_topi (fun x_1 ex_1 => ?_)
  have bx_1 : 0 ≤ x_1.toInt ∧ x_1.toInt ≤ 2147483647 := cI_rd hI ob_2.1 ex_1
  have ux_1 : (tI M 2 6).toInt = x_1.toInt := by rw [ex_1]
  refine lv_istore_n (lv' := [(3, .int x_1), (0, .ref (A 1 0)), (1, .int lo), (2, .int mo)]) hx hb dX4_number_7 rfl hl (by decide) rfl (fun ls hl => ?_)
  refine lv_aload_n hx hb dX4_number_8 rfl (lv_at hl 1 rfl) ?_
  refine ti_get (ci := 4) (k := 0) (N := 6) (T := TX4) (v := .ref (A 2 0)) C hw iw_4 rfl ob_1 (by decide) (by decide) fl_X4_12 rfl rfl dX4_number_9 ?_
  refine ti_get (ci := 7) (k := 4) (N := 7) (T := TX7) C hw iw_7 rfl ob_2 (by decide) (by decide) fl_X4_41 rfl rfl dX4_number_12 ?_
  refine lv_topi (fun x_2 ex_2 => ?_)
  have bx_2 : 0 ≤ x_2.toInt ∧ x_2.toInt ≤ 41 := cI_rd hI ob_2.1 ex_2
  have ux_2 : (tI M 2 4).toInt = x_2.toInt := by rw [ex_2]
  refine lv_bipush (v := 26) hx hb dX4_number_15 (by decide) ?_
  refine sb_icmp_eq (tgt := 28) hx hb rfl (by decide : (26 : Int32).toInt = 26) dX4_number_17 (by decide) (fun c_17_2 => ?_) (fun c_17_2 => ?_)
  · refine lv_iload_n hx hb dX4_number_28 rfl (lv_at hl 0 rfl) ?_
    refine lv_iload_n hx hb dX4_number_29 rfl (lv_at hl 2 rfl) ?_
    refine sb_icmp_lt (tgt := 38) hx hb rfl rfl dX4_number_30 (by decide) (fun c_30_10 => ?_) (fun c_30_10 => ?_)
    · refine lv_aload_n hx hb dX4_number_38 rfl (lv_at hl 1 rfl) ?_
      refine lv_iconst (v := 2) hx hb dX4_number_39 (by decide) ?_
      refine ti_callVv (ci := 4) (av := [.int 2]) C hw (x_X4_refuse l D A cy hJ M hI t ht 2 B n rg hr) ⟨ml_X4_82, ym_X4_refuse, yv_X4_refuse, yi_X4_refuse, yc_X4_refuse⟩ yd_X4_refuse ob_1 (by decide) rfl rfl hl.1 (Nat.le_of_ble_eq_true rfl) ⟨by decide, by decide⟩ ⟨Nat.zero_le _, Nat.zero_le _⟩ dX4_number_40 (fun M_14 H locs hp_14 hw => ?_)
      obtain ⟨iM_14, q_15, q_16, q_17, q_18, p0r_13⟩ := hp_14
      have hlr_13_2 : (2 : Int32).toInt = 2 := by decide
      simp only [hlr_13_2] at p0r_13
      obtain ⟨g_19, eg_19⟩ : ∃ z : Nat → Int, z = pp_rf 2 rg := ⟨_, rfl⟩
      rw [← eg_19] at p0r_13
      have lg_19_0 : g_19 0 = (tI M_14 2 4).toInt := p0r_13.2.1.1
      have lg_19_1 : g_19 1 = (tI M_14 2 6).toInt := p0r_13.2.1.2.1
      have lg_19_4 : g_19 4 = (tI M_14 1 4).toInt := p0r_13.2.2.1.1
      have lg_19_7 : g_19 7 = (tI M_14 t 4).toInt := p0r_13.2.2.2.1.1
      have lg_19_8 : g_19 8 = (tI M_14 t 5).toInt := p0r_13.2.2.2.1.2.1
      refine lv_goto (tgt := 53) hx hb dX4_number_43 (by decide) ?_
      refine lv_iload_n hx hb dX4_number_53 rfl (lv_at hl 0 rfl) ?_
      exact hQ _ _ _ _ _ _ hw rfl (⟨iM_14, (q_15), q_16, (q_17), (q_18), by omega, (by unfold pp_nb; rw [if_pos (by omega), if_pos (by omega), ← eg_19]; exact p0r_13)⟩) dX4_number_54
    · refine lv_iload_n hx hb dX4_number_33 rfl (lv_at hl 0 rfl) ?_
      refine lv_iload_n hx hb dX4_number_34 rfl (lv_at hl 3 rfl) ?_
      refine sb_icmp_le (tgt := 46) hx hb rfl rfl dX4_number_35 (by decide) (fun c_35_11 => ?_) (fun c_35_11 => ?_)
      · refine lv_aload_n hx hb dX4_number_46 rfl (lv_at hl 1 rfl) ?_
        refine ti_get (ci := 4) (k := 0) (N := 6) (T := TX4) (v := .ref (A 2 0)) C hw iw_4 rfl ob_1 (by decide) (by decide) fl_X4_12 rfl rfl dX4_number_47 ?_
        refine ti_callVvE (ci := 7) (av := []) C hE hw (x_X7_advance l D A cy hJ M hI ) ⟨ml_X4_92, ym_X7_advance, yv_X7_advance, yi_X7_advance, yc_X7_advance⟩ yd_X7_advance ob_2 (by decide) rfl rfl hl.1 (Nat.le_of_ble_eq_true rfl) ⟨by decide, by decide⟩ ⟨Nat.zero_le _, Nat.zero_le _⟩ dX4_number_50 (fun M_28 H locs hp_28 hw => ?_)
        obtain ⟨iM_28, q_29, q_30, q_31, q_32, p0r_27, p1r_27, p2r_27, p3r_27⟩ := hp_28
        have hs_33 := rC_av ht hr q_32 q_30 p0r_27 p1r_27 p2r_27 p3r_27
        obtain ⟨g_34, eg_34⟩ : ∃ z : Nat → Int, z = pp_av B n rg := ⟨_, rfl⟩
        rw [← eg_34] at hs_33
        have lg_34_0 : g_34 0 = (tI M_28 2 4).toInt := hs_33.2.1.1
        have lg_34_1 : g_34 1 = (tI M_28 2 6).toInt := hs_33.2.1.2.1
        have lg_34_4 : g_34 4 = (tI M_28 1 4).toInt := hs_33.2.2.1.1
        have lg_34_7 : g_34 7 = (tI M_28 t 4).toInt := hs_33.2.2.2.1.1
        have lg_34_8 : g_34 8 = (tI M_28 t 5).toInt := hs_33.2.2.2.1.2.1
        refine lv_iload_n hx hb dX4_number_53 rfl (lv_at hl 0 rfl) ?_
        exact hQ _ _ _ _ _ _ hw rfl (⟨iM_28, (q_29), (o2_12 q_30), (q_31), (q_32.1), by omega, (by unfold pp_nb; rw [if_pos (by omega), if_neg (by omega), ← eg_34]; exact hs_33)⟩) dX4_number_54
      · refine lv_aload_n hx hb dX4_number_38 rfl (lv_at hl 1 rfl) ?_
        refine lv_iconst (v := 2) hx hb dX4_number_39 (by decide) ?_
        refine ti_callVv (ci := 4) (av := [.int 2]) C hw (x_X4_refuse l D A cy hJ M hI t ht 2 B n rg hr) ⟨ml_X4_82, ym_X4_refuse, yv_X4_refuse, yi_X4_refuse, yc_X4_refuse⟩ yd_X4_refuse ob_1 (by decide) rfl rfl hl.1 (Nat.le_of_ble_eq_true rfl) ⟨by decide, by decide⟩ ⟨Nat.zero_le _, Nat.zero_le _⟩ dX4_number_40 (fun M_21 H locs hp_21 hw => ?_)
        obtain ⟨iM_21, q_22, q_23, q_24, q_25, p0r_20⟩ := hp_21
        have hlr_20_2 : (2 : Int32).toInt = 2 := by decide
        simp only [hlr_20_2] at p0r_20
        obtain ⟨g_26, eg_26⟩ : ∃ z : Nat → Int, z = pp_rf 2 rg := ⟨_, rfl⟩
        rw [← eg_26] at p0r_20
        have lg_26_0 : g_26 0 = (tI M_21 2 4).toInt := p0r_20.2.1.1
        have lg_26_1 : g_26 1 = (tI M_21 2 6).toInt := p0r_20.2.1.2.1
        have lg_26_4 : g_26 4 = (tI M_21 1 4).toInt := p0r_20.2.2.1.1
        have lg_26_7 : g_26 7 = (tI M_21 t 4).toInt := p0r_20.2.2.2.1.1
        have lg_26_8 : g_26 8 = (tI M_21 t 5).toInt := p0r_20.2.2.2.1.2.1
        refine lv_goto (tgt := 53) hx hb dX4_number_43 (by decide) ?_
        refine lv_iload_n hx hb dX4_number_53 rfl (lv_at hl 0 rfl) ?_
        exact hQ _ _ _ _ _ _ hw rfl (⟨iM_21, (q_22), q_23, (q_24), (q_25), by omega, (by unfold pp_nb; rw [if_pos (by omega), if_pos (by omega), ← eg_26]; exact p0r_20)⟩) dX4_number_54
  · refine lv_aload_n hx hb dX4_number_20 rfl (lv_at hl 1 rfl) ?_
    refine lv_iconst (v := 1) hx hb dX4_number_21 (by decide) ?_
    refine ti_callVv (ci := 4) (av := [.int 1]) C hw (x_X4_refuse l D A cy hJ M hI t ht 1 B n rg hr) ⟨ml_X4_82, ym_X4_refuse, yv_X4_refuse, yi_X4_refuse, yc_X4_refuse⟩ yd_X4_refuse ob_1 (by decide) rfl rfl hl.1 (Nat.le_of_ble_eq_true rfl) ⟨by decide, by decide⟩ ⟨Nat.zero_le _, Nat.zero_le _⟩ dX4_number_22 (fun M_5 H locs hp_5 hw => ?_)
    obtain ⟨iM_5, q_6, q_7, q_8, q_9, p0r_4⟩ := hp_5
    have hlr_4_1 : (1 : Int32).toInt = 1 := by decide
    simp only [hlr_4_1] at p0r_4
    obtain ⟨g_10, eg_10⟩ : ∃ z : Nat → Int, z = pp_rf 1 rg := ⟨_, rfl⟩
    rw [← eg_10] at p0r_4
    have lg_10_0 : g_10 0 = (tI M_5 2 4).toInt := p0r_4.2.1.1
    have lg_10_1 : g_10 1 = (tI M_5 2 6).toInt := p0r_4.2.1.2.1
    have lg_10_4 : g_10 4 = (tI M_5 1 4).toInt := p0r_4.2.2.1.1
    have lg_10_7 : g_10 7 = (tI M_5 t 4).toInt := p0r_4.2.2.2.1.1
    have lg_10_8 : g_10 8 = (tI M_5 t 5).toInt := p0r_4.2.2.2.1.2.1
    refine lv_goto (tgt := 53) hx hb dX4_number_25 (by decide) ?_
    refine lv_iload_n hx hb dX4_number_53 rfl (lv_at hl 0 rfl) ?_
    exact hQ _ _ _ _ _ _ hw rfl (⟨iM_5, (q_6), q_7, (q_8), (q_9), by omega, (by unfold pp_nb; rw [if_neg (by omega), ← eg_10]; exact p0r_4)⟩) dX4_number_54
def pp_tm (s : Nat → Int) : Nat → Int := if s 0 = 25 then (if pp_fd s (s 1) 0 = -1 then pp_rf 4 s else s) else pp_rf 1 s
def pp_tv (s : Nat → Int) : Int := if s 0 = 25 then pp_fd s (s 1) 0 else -1
set_option maxHeartbeats 4000000 in
set_option maxRecDepth 100000 in
theorem x_X4_once (l : Launch) (D : va_G) (A : Nat → Nat → Nat) (cy : Nat → ClassId) (hJ : ti_inj ti_LT A) (M : ti_M) (hI : cI Tc M) (t : Nat) (ht : t = 3 ∨ t = 4) (B : Nat → Int) (n : Nat) (rg : Nat → Int) (hr : rC B n t rg M) (hk : 0 ≤ rg 0 ∧ rg 0 < 15) : ti_KvE l yX4_once cX4_once 2 7 ti_LT D A cy M [.ref (A 1 0)] (fun M2 => cI Tc M2 ∧ M2.2.2.2 = M.2.2.2 ∧ o12 M2 M ∧ tI M2 2 1 = tI M 2 1 ∧ M2.2.1 = M.2.1 ∧ rC B n t (pp_on B n rg) M2) := by
  refine ti_eVE yp_X4_once hJ ti_LT_nd (Nat.le_of_ble_eq_true rfl) ?_
  intro p e s m args below meth c Q H0 C hE hQ hw ls hl
  have hx := C.1
  have hb := C.2.1
  have hl : lv_has ls 2 [(0, .ref (A 1 0))] := hl
  have l0 : rg 0 = (tI M 2 4).toInt := hr.2.1.1
  have l1 : rg 1 = (tI M 2 6).toInt := hr.2.1.2.1
  have l2 : rg 2 = (tI M 2 5).toInt := hr.2.1.2.2.1
  have l3 : rg 3 = (tI M 2 3).toInt := hr.2.1.2.2.2
  have l4 : rg 4 = (tI M 1 4).toInt := hr.2.2.1.1
  have l5 : rg 5 = (tI M 1 5).toInt := hr.2.2.1.2.1
  have l7 : rg 7 = (tI M t 4).toInt := hr.2.2.2.1.1
  have l8 : rg 8 = (tI M t 5).toInt := hr.2.2.2.1.2.1
  have l9 : rg 9 = (tI M t 3).toInt := hr.2.2.2.1.2.2
  refine lv_iconst (v := 1) hx hb dX4_once_0 (by decide) ?_
  refine lv_aload_n hx hb dX4_once_1 rfl (lv_at hl 0 rfl) ?_
  refine ti_get (ci := 4) (k := 0) (N := 6) (T := TX4) (v := .ref (A 2 0)) C hw iw_4 rfl ob_1 (by decide) (by decide) fl_X4_12 rfl rfl dX4_once_2 ?_
  refine ti_get (ci := 7) (k := 4) (N := 7) (T := TX7) C hw iw_7 rfl ob_2 (by decide) (by decide) fl_X4_41 rfl rfl dX4_once_5 ?_
  refine lv_topi (fun x_1 ex_1 => ?_)
  have bx_1 : 0 ≤ x_1.toInt ∧ x_1.toInt ≤ 41 := cI_rd hI ob_2.1 ex_1
  have ux_1 : (tI M 2 4).toInt = x_1.toInt := by rw [ex_1]
  refine lv_ishl hx hb dX4_once_8 ?_
  refine lv_topi (fun x_2 ex_2 => ?_)
  refine lv_istore_n (lv' := [(1, .int x_2), (0, .ref (A 1 0))]) hx hb dX4_once_9 rfl hl (by decide) rfl (fun ls hl => ?_)
  refine lv_aload_n hx hb dX4_once_10 rfl (lv_at hl 1 rfl) ?_
  refine ti_get (ci := 4) (k := 3) (N := 6) (T := TX4) C hw iw_4 rfl ob_1 (by decide) (by decide) fl_X4_18 rfl rfl dX4_once_11 ?_
  refine lv_topi (fun x_3 ex_3 => ?_)
  have u_4 : (tI M 1 3).toInt = x_3.toInt := by rw [ex_3]
  refine lv_iload_n hx hb dX4_once_14 rfl (lv_at hl 0 rfl) ?_
  refine lv_iand hx hb dX4_once_15 ?_
  refine lv_topi (fun x_5 ex_5 => ?_)
  refine sb_if_eq (tgt := 27) hx hb rfl dX4_once_16 (by decide) (fun c_16_5 => ?_) (fun c_16_5 => ?_)
  · refine lv_aload_n hx hb dX4_once_27 rfl (lv_at hl 1 rfl) ?_
    refine lv_dup hx hb dX4_once_28 rfl ?_
    refine ti_get (ci := 4) (k := 3) (N := 6) (T := TX4) C hw iw_4 rfl ob_1 (by decide) (by decide) fl_X4_18 rfl rfl dX4_once_29 ?_
    refine ti_top (y := x_3) (ex_3.symm) ?_
    refine lv_iload_n hx hb dX4_once_32 rfl (lv_at hl 0 rfl) ?_
    refine lv_ior hx hb dX4_once_33 ?_
    refine lv_topi (fun x_14 ex_14 => ?_)
    refine ti_putI (ci := 4) (k := 3) (N := 6) (T := TX4) C hw iw_4 tyX4 tyX4_ok nmX4 rfl ob_1 (by decide) (by decide) fl_X4_18 rfl rfl rfl rfl (fn_4 A _) fs_4_3 dX4_once_34 (fun H locs hw => ?_)
    obtain ⟨M_15, hM_15⟩ : ∃ z : ti_M, z = uI M 1 3 x_14 := ⟨_, rfl⟩
    have hw := hw.to hM_15.symm
    have iM_15 : cI Tc M_15 := cI_uI hI hM_15 ob_1.1 trivial
    have hs_16 := rC_13 (k := x_1.toInt) ht hM_15 ex_2 rfl (by omega) (by omega) (by rw [← ex_3]; exact ex_14) hr
    obtain ⟨g_17, eg_17⟩ : ∃ z : Nat → Int, z = pp_su rg (300 + x_1.toInt.toNat) 1 := ⟨_, rfl⟩
    rw [← eg_17] at hs_16
    have lg_17_0 : g_17 0 = (tI M_15 2 4).toInt := hs_16.2.1.1
    have lg_17_1 : g_17 1 = (tI M_15 2 6).toInt := hs_16.2.1.2.1
    have lg_17_4 : g_17 4 = (tI M_15 1 4).toInt := hs_16.2.2.1.1
    have lg_17_7 : g_17 7 = (tI M_15 t 4).toInt := hs_16.2.2.2.1.1
    have lg_17_8 : g_17 8 = (tI M_15 t 5).toInt := hs_16.2.2.2.1.2.1
    refine lv_aload_n hx hb dX4_once_37 rfl (lv_at hl 1 rfl) ?_
    refine ti_get (ci := 4) (k := 0) (N := 6) (T := TX4) (v := .ref (A 2 0)) C hw iw_4 rfl ob_1 (by decide) (by decide) fl_X4_12 rfl rfl dX4_once_38 ?_
    refine ti_callVvE (ci := 7) (av := []) C hE hw (x_X7_advance l D A cy hJ M_15 iM_15 ) ⟨ml_X4_92, ym_X7_advance, yv_X7_advance, yi_X7_advance, yc_X7_advance⟩ yd_X7_advance ob_2 (by decide) rfl rfl hl.1 (Nat.le_of_ble_eq_true rfl) ⟨by decide, by decide⟩ ⟨Nat.zero_le _, Nat.zero_le _⟩ dX4_once_41 (fun M_19 H locs hp_19 hw => ?_)
    obtain ⟨iM_19, q_20, q_21, q_22, q_23, p0r_18, p1r_18, p2r_18, p3r_18⟩ := hp_19
    have hs_24 := rC_av ht hs_16 q_23 q_21 p0r_18 p1r_18 p2r_18 p3r_18
    obtain ⟨g_25, eg_25⟩ : ∃ z : Nat → Int, z = pp_av B n g_17 := ⟨_, rfl⟩
    rw [← eg_25] at hs_24
    have lg_25_0 : g_25 0 = (tI M_19 2 4).toInt := hs_24.2.1.1
    have lg_25_1 : g_25 1 = (tI M_19 2 6).toInt := hs_24.2.1.2.1
    have lg_25_4 : g_25 4 = (tI M_19 1 4).toInt := hs_24.2.2.1.1
    have lg_25_7 : g_25 7 = (tI M_19 t 4).toInt := hs_24.2.2.2.1.1
    have lg_25_8 : g_25 8 = (tI M_19 t 5).toInt := hs_24.2.2.2.1.2.1
    exact hQ _ _ _ _ _ hw (⟨iM_19, ((q_20).trans (rf_I hM_15)), (o12.trans (o2_12 q_21) (o12_I hM_15 (by decide))), ((q_22).trans (tI_nE hM_15 (nk (by decide)))), ((q_23.1).trans (ry_I hM_15)), (by have hb : rg (300 + x_1.toInt.toNat) = pp_bt x_3 x_1.toInt.toNat := (by rw [ex_3]; exact hr.2.2.1.2.2 _ (by omega)); have hi := bt_and (k := x_1.toInt) ex_2 rfl (by omega) (by omega) ex_5; unfold pp_on; rw [show rg 0 = x_1.toInt by omega, if_pos (by rw [hb]; exact hi.mp (by omega)), ← eg_17, ← eg_25]; exact hs_24)⟩) dX4_once_44
  · refine lv_aload_n hx hb dX4_once_19 rfl (lv_at hl 1 rfl) ?_
    refine lv_iconst (v := 3) hx hb dX4_once_20 (by decide) ?_
    refine ti_callVv (ci := 4) (av := [.int 3]) C hw (x_X4_refuse l D A cy hJ M hI t ht 3 B n rg hr) ⟨ml_X4_82, ym_X4_refuse, yv_X4_refuse, yi_X4_refuse, yc_X4_refuse⟩ yd_X4_refuse ob_1 (by decide) rfl rfl hl.1 (Nat.le_of_ble_eq_true rfl) ⟨by decide, by decide⟩ ⟨Nat.zero_le _, Nat.zero_le _⟩ dX4_once_21 (fun M_8 H locs hp_8 hw => ?_)
    obtain ⟨iM_8, q_9, q_10, q_11, q_12, p0r_7⟩ := hp_8
    have hlr_7_3 : (3 : Int32).toInt = 3 := by decide
    simp only [hlr_7_3] at p0r_7
    obtain ⟨g_13, eg_13⟩ : ∃ z : Nat → Int, z = pp_rf 3 rg := ⟨_, rfl⟩
    rw [← eg_13] at p0r_7
    have lg_13_0 : g_13 0 = (tI M_8 2 4).toInt := p0r_7.2.1.1
    have lg_13_1 : g_13 1 = (tI M_8 2 6).toInt := p0r_7.2.1.2.1
    have lg_13_4 : g_13 4 = (tI M_8 1 4).toInt := p0r_7.2.2.1.1
    have lg_13_7 : g_13 7 = (tI M_8 t 4).toInt := p0r_7.2.2.2.1.1
    have lg_13_8 : g_13 8 = (tI M_8 t 5).toInt := p0r_7.2.2.2.1.2.1
    refine lv_goto (tgt := 44) hx hb dX4_once_24 (by decide) ?_
    exact hQ _ _ _ _ _ hw (⟨iM_8, (q_9), q_10, (q_11), (q_12), (by have hb : rg (300 + x_1.toInt.toNat) = pp_bt x_3 x_1.toInt.toNat := (by rw [ex_3]; exact hr.2.2.1.2.2 _ (by omega)); have hi := bt_and (k := x_1.toInt) ex_2 rfl (by omega) (by omega) ex_5; unfold pp_on; rw [show rg 0 = x_1.toInt by omega, if_neg (by rw [hb]; exact fun q => absurd (hi.mpr q) (by omega)), ← eg_13]; exact p0r_7)⟩) dX4_once_44
set_option maxHeartbeats 4000000 in
set_option maxRecDepth 100000 in
theorem x_X4_knot (l : Launch) (D : va_G) (A : Nat → Nat → Nat) (cy : Nat → ClassId) (hJ : ti_inj ti_LT A) (M : ti_M) (hI : cI Tc M) (t : Nat) (ht : t = 3 ∨ t = 4) (hT : tT M 1 1 = some t) (B : Nat → Int) (n : Nat) (rg : Nat → Int) (hr : rC B n t rg M) (td : Nat → Int) (hq : tq t td M) : ti_KvE l yX4_knot cX4_knot 1 7 ti_LT D A cy M [.ref (A 1 0)] (fun M2 => cI Tc M2 ∧ M2.2.2.2 = M.2.2.2 ∧ f0 M2 M ∧ tI M2 2 1 = tI M 2 1 ∧ ot t M2 M ∧ M2.2.1 = M.2.1 ∧ rC B n t (pp_kn B n rg) M2 ∧ tq t (td) M2) := by
  refine ti_eVE yp_X4_knot hJ ti_LT_nd (Nat.le_of_ble_eq_true rfl) ?_
  intro p e s m args below meth c Q H0 C hE hQ hw ls hl
  have hx := C.1
  have hb := C.2.1
  have hl : lv_has ls 1 [(0, .ref (A 1 0))] := hl
  have l0 : rg 0 = (tI M 2 4).toInt := hr.2.1.1
  have l1 : rg 1 = (tI M 2 6).toInt := hr.2.1.2.1
  have l2 : rg 2 = (tI M 2 5).toInt := hr.2.1.2.2.1
  have l3 : rg 3 = (tI M 2 3).toInt := hr.2.1.2.2.2
  have l4 : rg 4 = (tI M 1 4).toInt := hr.2.2.1.1
  have l5 : rg 5 = (tI M 1 5).toInt := hr.2.2.1.2.1
  have l7 : rg 7 = (tI M t 4).toInt := hr.2.2.2.1.1
  have l8 : rg 8 = (tI M t 5).toInt := hr.2.2.2.1.2.1
  have l9 : rg 9 = (tI M t 3).toInt := hr.2.2.2.1.2.2
  refine lv_aload_n hx hb dX4_knot_0 rfl (lv_at hl 0 rfl) ?_
  refine ti_get (ci := 4) (k := 1) (N := 6) (T := TX4) (v := .ref (A t 0)) C hw iw_4 rfl ob_1 (by decide) (by decide) fl_X4_28 rfl (ti_Tv (hT)) dX4_knot_1 ?_
  refine ti_get (ci := 8) (k := 5) (N := 12) (T := TX8) C hw iw_8 rfl (ob_t ht) (by decide) (by decide) fl_X4_161 rfl rfl dX4_knot_4 ?_
  refine lv_topi (fun x_1 ex_1 => ?_)
  have u_2 : (tI M t 5).toInt = x_1.toInt := by rw [ex_1]
  refine lv_bipush (v := 64) hx hb dX4_knot_7 (by decide) ?_
  refine sb_icmp_lt (tgt := 20) hx hb rfl (by decide : (64 : Int32).toInt = 64) dX4_knot_9 (by decide) (fun c_9_2 => ?_) (fun c_9_2 => ?_)
  · refine lv_aload_n hx hb dX4_knot_20 rfl (lv_at hl 0 rfl) ?_
    refine ti_get (ci := 4) (k := 1) (N := 6) (T := TX4) (v := .ref (A t 0)) C hw iw_4 rfl ob_1 (by decide) (by decide) fl_X4_28 rfl (ti_Tv (hT)) dX4_knot_21 ?_
    refine lv_dup hx hb dX4_knot_24 rfl ?_
    refine ti_get (ci := 8) (k := 5) (N := 12) (T := TX8) C hw iw_8 rfl (ob_t ht) (by decide) (by decide) fl_X4_161 rfl rfl dX4_knot_25 ?_
    refine ti_top (y := x_1) (ex_1.symm) ?_
    refine lv_iconst (v := 1) hx hb dX4_knot_28 (by decide) ?_
    refine lv_iadd hx hb dX4_knot_29 ?_
    refine lv_topi (fun x_12 ex_12 => ?_)
    have lox_12x_1 := x_1.le_toInt
    have hix_12x_1 := x_1.toInt_lt
    have tx_12 : x_12.toInt = x_1.toInt + 1 := i_add ex_12 rfl (by decide : (1 : Int32).toInt = 1) (by omega) (by omega)
    refine ti_putI (ci := 8) (k := 5) (N := 12) (T := TX8) C hw iw_8 tyX8 tyX8_ok nmX8 rfl (ob_t ht) (by decide) (by decide) fl_X4_161 rfl rfl rfl rfl (fn_8 A _) fs_8_5 dX4_knot_30 (fun H locs hw => ?_)
    obtain ⟨M_13, hM_13⟩ : ∃ z : ti_M, z = uI M t 5 x_12 := ⟨_, rfl⟩
    have hw := hw.to hM_13.symm
    have iM_13 : cI Tc M_13 := cI_uI hI hM_13 (ob_t ht).1 trivial
    have hs_14 := rC_t5 ht hM_13 hr
    obtain ⟨g_15, eg_15⟩ : ∃ z : Nat → Int, z = pp_su rg 8 x_12.toInt := ⟨_, rfl⟩
    rw [← eg_15] at hs_14
    have lg_15_0 : g_15 0 = (tI M_13 2 4).toInt := hs_14.2.1.1
    have lg_15_1 : g_15 1 = (tI M_13 2 6).toInt := hs_14.2.1.2.1
    have lg_15_4 : g_15 4 = (tI M_13 1 4).toInt := hs_14.2.2.1.1
    have lg_15_7 : g_15 7 = (tI M_13 t 4).toInt := hs_14.2.2.2.1.1
    have lg_15_8 : g_15 8 = (tI M_13 t 5).toInt := hs_14.2.2.2.1.2.1
    have tq_17 : tq t td M_13 := tq_t0 ht hq hM_13 (by decide)
    refine lv_aload_n hx hb dX4_knot_33 rfl (lv_at hl 0 rfl) ?_
    refine ti_get (ci := 4) (k := 0) (N := 6) (T := TX4) (v := .ref (A 2 0)) C hw iw_4 rfl ob_1 (by decide) (by decide) fl_X4_12 rfl rfl dX4_knot_34 ?_
    refine ti_callVvE (ci := 7) (av := []) C hE hw (x_X7_advance l D A cy hJ M_13 iM_13 ) ⟨ml_X4_92, ym_X7_advance, yv_X7_advance, yi_X7_advance, yc_X7_advance⟩ yd_X7_advance ob_2 (by decide) rfl rfl hl.1 (Nat.le_of_ble_eq_true rfl) ⟨by decide, by decide⟩ ⟨Nat.zero_le _, Nat.zero_le _⟩ dX4_knot_37 (fun M_19 H locs hp_19 hw => ?_)
    obtain ⟨iM_19, q_20, q_21, q_22, q_23, p0r_18, p1r_18, p2r_18, p3r_18⟩ := hp_19
    have hs_24 := rC_av ht hs_14 q_23 q_21 p0r_18 p1r_18 p2r_18 p3r_18
    obtain ⟨g_25, eg_25⟩ : ∃ z : Nat → Int, z = pp_av B n g_15 := ⟨_, rfl⟩
    rw [← eg_25] at hs_24
    have lg_25_0 : g_25 0 = (tI M_19 2 4).toInt := hs_24.2.1.1
    have lg_25_1 : g_25 1 = (tI M_19 2 6).toInt := hs_24.2.1.2.1
    have lg_25_4 : g_25 4 = (tI M_19 1 4).toInt := hs_24.2.2.1.1
    have lg_25_7 : g_25 7 = (tI M_19 t 4).toInt := hs_24.2.2.2.1.1
    have lg_25_8 : g_25 8 = (tI M_19 t 5).toInt := hs_24.2.2.2.1.2.1
    have tq_26 : tq t td M_19 := tq_fr ht tq_17 (o2_12 q_21) q_23.1
    exact hQ _ _ _ _ _ hw (⟨iM_19, ((q_20).trans (rf_I hM_13)), (f0.trans (f0_12 (o2_12 q_21)) (f0_I hM_13 (f0n (ob_t ht).1 (by decide)))), ((q_22).trans (tI_nE hM_13 (nk (by decide)))), (ot.trans (ot_12 ht (o2_12 q_21) q_23.1) (ot_I ht hM_13 (by omega))), ((q_23.1).trans (ry_I hM_13)), (by unfold pp_kn; rw [if_pos (by omega), show rg 8 + 1 = x_12.toInt by omega, ← eg_15, ← eg_25]; exact hs_24), tq_26⟩) dX4_knot_40
  · refine lv_aload_n hx hb dX4_knot_12 rfl (lv_at hl 0 rfl) ?_
    refine lv_iconst (v := 2) hx hb dX4_knot_13 (by decide) ?_
    refine ti_callVv (ci := 4) (av := [.int 2]) C hw (x_X4_refuse l D A cy hJ M hI t ht 2 B n rg hr) ⟨ml_X4_82, ym_X4_refuse, yv_X4_refuse, yi_X4_refuse, yc_X4_refuse⟩ yd_X4_refuse ob_1 (by decide) rfl rfl hl.1 (Nat.le_of_ble_eq_true rfl) ⟨by decide, by decide⟩ ⟨Nat.zero_le _, Nat.zero_le _⟩ dX4_knot_14 (fun M_5 H locs hp_5 hw => ?_)
    obtain ⟨iM_5, q_6, q_7, q_8, q_9, p0r_4⟩ := hp_5
    have hlr_4_2 : (2 : Int32).toInt = 2 := by decide
    simp only [hlr_4_2] at p0r_4
    obtain ⟨g_10, eg_10⟩ : ∃ z : Nat → Int, z = pp_rf 2 rg := ⟨_, rfl⟩
    rw [← eg_10] at p0r_4
    have lg_10_0 : g_10 0 = (tI M_5 2 4).toInt := p0r_4.2.1.1
    have lg_10_1 : g_10 1 = (tI M_5 2 6).toInt := p0r_4.2.1.2.1
    have lg_10_4 : g_10 4 = (tI M_5 1 4).toInt := p0r_4.2.2.1.1
    have lg_10_7 : g_10 7 = (tI M_5 t 4).toInt := p0r_4.2.2.2.1.1
    have lg_10_8 : g_10 8 = (tI M_5 t 5).toInt := p0r_4.2.2.2.1.2.1
    have tq_11 : tq t td M_5 := tq_fr ht hq q_7 q_9
    refine lv_goto (tgt := 40) hx hb dX4_knot_17 (by decide) ?_
    exact hQ _ _ _ _ _ hw (⟨iM_5, (q_6), (f0_12 q_7), (q_8), (ot_12 ht q_7 q_9), (q_9), (by unfold pp_kn; rw [if_neg (by omega), ← eg_10]; exact p0r_4), tq_11⟩) dX4_knot_40
set_option maxHeartbeats 4000000 in
set_option maxRecDepth 100000 in
theorem x_X4_toldMan (l : Launch) (D : va_G) (A : Nat → Nat → Nat) (cy : Nat → ClassId) (hJ : ti_inj ti_LT A) (M : ti_M) (hI : cI Tc M) (t : Nat) (ht : t = 3 ∨ t = 4) (hT : tT M 1 1 = some t) (B : Nat → Int) (n : Nat) (rg : Nat → Int) (hr : rC B n t rg M) : ti_Ki l yX4_toldMan cX4_toldMan 2 (some .int) 1 ti_LT D A cy M [.ref (A 1 0)] (fun r M2 => cI Tc M2 ∧ M2.2.2.2 = M.2.2.2 ∧ o12 M2 M ∧ tI M2 2 1 = tI M 2 1 ∧ M2.2.1 = M.2.1 ∧ (-1) ≤ r.toInt ∧ r.toInt ≤ 7 ∧ r.toInt = pp_tv rg ∧ rC B n t (pp_tm rg) M2) := by
  refine ti_eI yp_X4_toldMan hJ ti_LT_nd (Nat.le_of_ble_eq_true rfl) ?_
  intro p e s m args below meth c Q H0 C hQ hw ls hl
  have hx := C.1
  have hb := C.2.1
  have hl : lv_has ls 2 [(0, .ref (A 1 0))] := hl
  have l0 : rg 0 = (tI M 2 4).toInt := hr.2.1.1
  have l1 : rg 1 = (tI M 2 6).toInt := hr.2.1.2.1
  have l2 : rg 2 = (tI M 2 5).toInt := hr.2.1.2.2.1
  have l3 : rg 3 = (tI M 2 3).toInt := hr.2.1.2.2.2
  have l4 : rg 4 = (tI M 1 4).toInt := hr.2.2.1.1
  have l5 : rg 5 = (tI M 1 5).toInt := hr.2.2.1.2.1
  have l7 : rg 7 = (tI M t 4).toInt := hr.2.2.2.1.1
  have l8 : rg 8 = (tI M t 5).toInt := hr.2.2.2.1.2.1
  have l9 : rg 9 = (tI M t 3).toInt := hr.2.2.2.1.2.2
  refine lv_aload_n hx hb dX4_toldMan_0 rfl (lv_at hl 0 rfl) ?_
  refine ti_get (ci := 4) (k := 0) (N := 6) (T := TX4) (v := .ref (A 2 0)) C hw iw_4 rfl ob_1 (by decide) (by decide) fl_X4_12 rfl rfl dX4_toldMan_1 ?_
  refine ti_get (ci := 7) (k := 4) (N := 7) (T := TX7) C hw iw_7 rfl ob_2 (by decide) (by decide) fl_X4_41 rfl rfl dX4_toldMan_4 ?_
  refine lv_topi (fun x_1 ex_1 => ?_)
  have bx_1 : 0 ≤ x_1.toInt ∧ x_1.toInt ≤ 41 := cI_rd hI ob_2.1 ex_1
  have ux_1 : (tI M 2 4).toInt = x_1.toInt := by rw [ex_1]
  refine lv_bipush (v := 25) hx hb dX4_toldMan_7 (by decide) ?_
  refine sb_icmp_eq (tgt := 19) hx hb rfl (by decide : (25 : Int32).toInt = 25) dX4_toldMan_9 (by decide) (fun c_9_1 => ?_) (fun c_9_1 => ?_)
  · refine lv_aload_n hx hb dX4_toldMan_19 rfl (lv_at hl 0 rfl) ?_
    refine ti_get (ci := 4) (k := 1) (N := 6) (T := TX4) (v := .ref (A t 0)) C hw iw_4 rfl ob_1 (by decide) (by decide) fl_X4_28 rfl (ti_Tv (hT)) dX4_toldMan_20 ?_
    refine lv_aload_n hx hb dX4_toldMan_23 rfl (lv_at hl 0 rfl) ?_
    refine ti_get (ci := 4) (k := 0) (N := 6) (T := TX4) (v := .ref (A 2 0)) C hw iw_4 rfl ob_1 (by decide) (by decide) fl_X4_12 rfl rfl dX4_toldMan_24 ?_
    refine ti_get (ci := 7) (k := 6) (N := 7) (T := TX7) C hw iw_7 rfl ob_2 (by decide) (by decide) fl_X4_95 rfl rfl dX4_toldMan_27 ?_
    refine lv_topi (fun x_10 ex_10 => ?_)
    have bx_10 : 0 ≤ x_10.toInt ∧ x_10.toInt ≤ 2147483647 := cI_rd hI ob_2.1 ex_10
    have ux_10 : (tI M 2 6).toInt = x_10.toInt := by rw [ex_10]
    refine ti_callVi (ci := 8) (av := [.int x_10]) C hw (x_X8_find l D A cy hJ M hI t ht x_10 B n rg hr) ⟨ml_X4_110, ym_X8_find, yv_X8_find, yi_X8_find, yc_X8_find⟩ yd_X8_find (ob_t ht) (by decide) rfl rfl hl.1 (Nat.le_of_ble_eq_true rfl) ⟨by decide, by decide⟩ ⟨Nat.zero_le _, Nat.zero_le _⟩ dX4_toldMan_30 (fun r_11 M_12 H locs hp_12 hw => ?_)
    obtain ⟨hm, b0r_11, b1r_11, p0r_11⟩ := hp_12
    have hw := hw.to hm
    refine lv_istore_n (lv' := [(1, .int r_11), (0, .ref (A 1 0))]) hx hb dX4_toldMan_33 rfl hl (by decide) rfl (fun ls hl => ?_)
    refine lv_iload_n hx hb dX4_toldMan_34 rfl (lv_at hl 0 rfl) ?_
    refine lv_iconst (v := (-1)) hx hb dX4_toldMan_35 (by decide) ?_
    refine sb_icmp_ne (tgt := 44) hx hb rfl (by decide : ((-1) : Int32).toInt = (-1)) dX4_toldMan_36 (by decide) (fun c_36_12 => ?_) (fun c_36_12 => ?_)
    · refine lv_iload_n hx hb dX4_toldMan_44 rfl (lv_at hl 0 rfl) ?_
      exact hQ _ _ _ _ _ _ hw rfl (⟨hI, rfl, o12.refl, rfl, rfl, by first | omega | decide, by first | omega | decide, (by unfold pp_tv; rw [if_pos (by omega), show rg 1 = x_10.toInt by omega]; omega), (by unfold pp_tm; rw [if_pos (by omega), show rg 1 = x_10.toInt by omega, if_neg (by omega)]; exact hr)⟩) dX4_toldMan_45
    · refine lv_aload_n hx hb dX4_toldMan_39 rfl (lv_at hl 1 rfl) ?_
      refine lv_iconst (v := 4) hx hb dX4_toldMan_40 (by decide) ?_
      refine ti_callVv (ci := 4) (av := [.int 4]) C hw (x_X4_refuse l D A cy hJ M hI t ht 4 B n rg hr) ⟨ml_X4_82, ym_X4_refuse, yv_X4_refuse, yi_X4_refuse, yc_X4_refuse⟩ yd_X4_refuse ob_1 (by decide) rfl rfl hl.1 (Nat.le_of_ble_eq_true rfl) ⟨by decide, by decide⟩ ⟨Nat.zero_le _, Nat.zero_le _⟩ dX4_toldMan_41 (fun M_15 H locs hp_15 hw => ?_)
      obtain ⟨iM_15, q_16, q_17, q_18, q_19, p0r_14⟩ := hp_15
      have hlr_14_4 : (4 : Int32).toInt = 4 := by decide
      simp only [hlr_14_4] at p0r_14
      obtain ⟨g_20, eg_20⟩ : ∃ z : Nat → Int, z = pp_rf 4 rg := ⟨_, rfl⟩
      rw [← eg_20] at p0r_14
      have lg_20_0 : g_20 0 = (tI M_15 2 4).toInt := p0r_14.2.1.1
      have lg_20_1 : g_20 1 = (tI M_15 2 6).toInt := p0r_14.2.1.2.1
      have lg_20_4 : g_20 4 = (tI M_15 1 4).toInt := p0r_14.2.2.1.1
      have lg_20_7 : g_20 7 = (tI M_15 t 4).toInt := p0r_14.2.2.2.1.1
      have lg_20_8 : g_20 8 = (tI M_15 t 5).toInt := p0r_14.2.2.2.1.2.1
      refine lv_iload_n hx hb dX4_toldMan_44 rfl (lv_at hl 0 rfl) ?_
      exact hQ _ _ _ _ _ _ hw rfl (⟨iM_15, (q_16), q_17, (q_18), (q_19), by first | omega | decide, by first | omega | decide, (by unfold pp_tv; rw [if_pos (by omega), show rg 1 = x_10.toInt by omega]; omega), (by unfold pp_tm; rw [if_pos (by omega), show rg 1 = x_10.toInt by omega, if_pos (by omega), ← eg_20]; exact p0r_14)⟩) dX4_toldMan_45
  · refine lv_aload_n hx hb dX4_toldMan_12 rfl (lv_at hl 0 rfl) ?_
    refine lv_iconst (v := 1) hx hb dX4_toldMan_13 (by decide) ?_
    refine ti_callVv (ci := 4) (av := [.int 1]) C hw (x_X4_refuse l D A cy hJ M hI t ht 1 B n rg hr) ⟨ml_X4_82, ym_X4_refuse, yv_X4_refuse, yi_X4_refuse, yc_X4_refuse⟩ yd_X4_refuse ob_1 (by decide) rfl rfl hl.1 (Nat.le_of_ble_eq_true rfl) ⟨by decide, by decide⟩ ⟨Nat.zero_le _, Nat.zero_le _⟩ dX4_toldMan_14 (fun M_4 H locs hp_4 hw => ?_)
    obtain ⟨iM_4, q_5, q_6, q_7, q_8, p0r_3⟩ := hp_4
    have hlr_3_1 : (1 : Int32).toInt = 1 := by decide
    simp only [hlr_3_1] at p0r_3
    obtain ⟨g_9, eg_9⟩ : ∃ z : Nat → Int, z = pp_rf 1 rg := ⟨_, rfl⟩
    rw [← eg_9] at p0r_3
    have lg_9_0 : g_9 0 = (tI M_4 2 4).toInt := p0r_3.2.1.1
    have lg_9_1 : g_9 1 = (tI M_4 2 6).toInt := p0r_3.2.1.2.1
    have lg_9_4 : g_9 4 = (tI M_4 1 4).toInt := p0r_3.2.2.1.1
    have lg_9_7 : g_9 7 = (tI M_4 t 4).toInt := p0r_3.2.2.2.1.1
    have lg_9_8 : g_9 8 = (tI M_4 t 5).toInt := p0r_3.2.2.2.1.2.1
    refine lv_iconst (v := (-1)) hx hb dX4_toldMan_17 (by decide) ?_
    exact hQ _ _ _ _ _ _ hw rfl (⟨iM_4, (q_5), q_6, (q_7), (q_8), by first | omega | decide, by first | omega | decide, (by unfold pp_tv; rw [if_neg (by omega)]; decide), (by unfold pp_tm; rw [if_neg (by omega), ← eg_9]; exact p0r_3)⟩) dX4_toldMan_18
end
section
variable {Tc : gC} {Tm : gM}
def pp_m1 (B : Nat → Int) (n : Nat) (s : Nat → Int) : Nat → Int := pp_su (pp_av B n s) (100 + (s 7).toNat) (pp_av B n s 1)
def pp_m2 (s : Nat → Int) : Nat → Int := if s 0 = 25 ∧ ¬ pp_fd s (s 1) 0 = -1 then pp_rf 3 s else s
def pp_m3 (B : Nat → Int) (n : Nat) (s : Nat → Int) : Nat → Int := pp_nb B n 0 59 (pp_nb B n 0 99 (pp_nb B n 0 99 (pp_nb B n 1 30 (pp_nb B n 1 99 (pp_nb B n 0 9 (pp_nb B n 1 99 (pp_tk B n 25 s)))))))
def pp_m4 (B : Nat → Int) (n : Nat) (s : Nat → Int) : Nat → Int := if s 0 = 15 then pp_av B n s else s
def pp_m5 (s : Nat → Int) : Nat → Int := pp_su (pp_su s (200 + (s 7).toNat) (-1)) 7 (s 7 + 1)
/-- a line of a man -/
def pp_mn (B : Nat → Int) (n : Nat) (s : Nat → Int) : Nat → Int := if s 7 < 8 then pp_m5 (pp_m4 B n (pp_m3 B n (pp_m2 (pp_m1 B n s)))) else pp_rf 2 s
def pp_g1 (B : Nat → Int) (n : Nat) (a : Int) (s : Nat → Int) : Nat → Int := pp_tk B n 25 (if s (200 + a.toNat) = -1 then s else pp_rf 3 s)
def pp_g2 (B : Nat → Int) (n : Nat) (a b : Int) (s : Nat → Int) : Nat → Int := pp_su (pp_tk B n 25 (if b = a then pp_rf 5 s else s)) (200 + a.toNat) b
def pp_g3 (B : Nat → Int) (n : Nat) (a : Int) (s : Nat → Int) : Nat → Int := pp_g2 B n a (pp_tv s) (pp_tm s)
/-- a line of a guard, behind its first word -/
def pp_gd (B : Nat → Int) (n : Nat) (s : Nat → Int) : Nat → Int := if pp_tv (pp_av B n s) = -1 then pp_tm (pp_av B n s) else pp_g3 B n (pp_tv (pp_av B n s)) (pp_g1 B n (pp_tv (pp_av B n s)) (pp_tm (pp_av B n s)))
/-- a line of a power -/
def pp_pw (B : Nat → Int) (n : Nat) (s : Nat → Int) : Nat → Int := if 9 ≤ pp_av B n s 0 ∧ pp_av B n s 0 ≤ 11 then pp_nb B n 0 7 (pp_on B n (pp_av B n s)) else pp_rf 1 (pp_av B n s)
def qq_m3 (B : Nat → Int) (n : Nat) (m : Nat) (b td : Nat → Int) : Nat → Int := pp_su (pp_su (pp_su (pp_su (pp_su (pp_su (pp_su td (100 + 16 * m + 1) (b 1)) (100 + 16 * m + 2) (pp_nb B n 1 99 b 1)) (100 + 16 * m + 3) (pp_nb B n 0 9 (pp_nb B n 1 99 b) 1)) (100 + 16 * m + 4) (pp_nb B n 1 99 (pp_nb B n 0 9 (pp_nb B n 1 99 b)) 1)) (100 + 16 * m + 5) (pp_nb B n 1 30 (pp_nb B n 1 99 (pp_nb B n 0 9 (pp_nb B n 1 99 b))) 1)) (100 + 16 * m + 6) (pp_nb B n 0 99 (pp_nb B n 1 30 (pp_nb B n 1 99 (pp_nb B n 0 9 (pp_nb B n 1 99 b)))) 1)) (100 + 16 * m + 7) (pp_nb B n 0 99 (pp_nb B n 0 99 (pp_nb B n 1 30 (pp_nb B n 1 99 (pp_nb B n 0 9 (pp_nb B n 1 99 b))))) 1)
def qq_m4 (m : Nat) (g td : Nat → Int) : Nat → Int := pp_su td (100 + 16 * m + 8) (if g 0 = 15 then 1 else 0)
def qq_mn (B : Nat → Int) (n : Nat) (s td : Nat → Int) : Nat → Int := if s 7 < 8 then qq_m4 (s 7).toNat (pp_m3 B n (pp_m2 (pp_m1 B n s))) (qq_m3 B n (s 7).toNat (pp_tk B n 25 (pp_m2 (pp_m1 B n s))) td) else td
def qq_pw (B : Nat → Int) (n : Nat) (s td : Nat → Int) : Nat → Int := if 9 ≤ pp_av B n s 0 ∧ pp_av B n s 0 ≤ 11 then pp_su td (32 + (pp_av B n s 0 - 9).toNat) (pp_on B n (pp_av B n s) 1) else td
set_option maxHeartbeats 4000000 in
set_option maxRecDepth 100000 in
theorem x_X4_readMan (l : Launch) (D : va_G) (A : Nat → Nat → Nat) (cy : Nat → ClassId) (hJ : ti_inj ti_LT A) (M : ti_M) (hI : cI Tc M) (t : Nat) (ht : t = 3 ∨ t = 4) (hT : tT M 1 1 = some t) (B : Nat → Int) (n : Nat) (rg : Nat → Int) (hr : rC B n t rg M) (td : Nat → Int) (hq : tq t td M) : ti_KvE l yX4_readMan cX4_readMan 2 8 ti_LT D A cy M [.ref (A 1 0)] (fun M2 => cI Tc M2 ∧ M2.2.2.2 = M.2.2.2 ∧ f0 M2 M ∧ tI M2 2 1 = tI M 2 1 ∧ ot t M2 M ∧ rC B n t (pp_mn B n rg) M2 ∧ tq t (qq_mn B n rg td) M2) := by
  refine ti_eVE yp_X4_readMan hJ ti_LT_nd (Nat.le_of_ble_eq_true rfl) ?_
  intro p e s m args below meth c Q H0 C hE hQ hw ls hl
  have hx := C.1
  have hb := C.2.1
  have hl : lv_has ls 2 [(0, .ref (A 1 0))] := hl
  have l0 : rg 0 = (tI M 2 4).toInt := hr.2.1.1
  have l1 : rg 1 = (tI M 2 6).toInt := hr.2.1.2.1
  have l2 : rg 2 = (tI M 2 5).toInt := hr.2.1.2.2.1
  have l3 : rg 3 = (tI M 2 3).toInt := hr.2.1.2.2.2
  have l4 : rg 4 = (tI M 1 4).toInt := hr.2.2.1.1
  have l5 : rg 5 = (tI M 1 5).toInt := hr.2.2.1.2.1
  have l7 : rg 7 = (tI M t 4).toInt := hr.2.2.2.1.1
  have l8 : rg 8 = (tI M t 5).toInt := hr.2.2.2.1.2.1
  have l9 : rg 9 = (tI M t 3).toInt := hr.2.2.2.1.2.2
  refine lv_aload_n hx hb dX4_readMan_0 rfl (lv_at hl 0 rfl) ?_
  refine ti_get (ci := 4) (k := 1) (N := 6) (T := TX4) (v := .ref (A t 0)) C hw iw_4 rfl ob_1 (by decide) (by decide) fl_X4_28 rfl (ti_Tv (hT)) dX4_readMan_1 ?_
  refine ti_get (ci := 8) (k := 4) (N := 12) (T := TX8) C hw iw_8 rfl (ob_t ht) (by decide) (by decide) fl_X4_98 rfl rfl dX4_readMan_4 ?_
  refine lv_topi (fun x_1 ex_1 => ?_)
  have bx_1 : 0 ≤ x_1.toInt ∧ x_1.toInt ≤ 8 := cI_rd hI (ob_t ht).1 ex_1
  have ux_1 : (tI M t 4).toInt = x_1.toInt := by rw [ex_1]
  refine lv_bipush (v := 8) hx hb dX4_readMan_7 (by decide) ?_
  refine sb_icmp_lt (tgt := 18) hx hb rfl (by decide : (8 : Int32).toInt = 8) dX4_readMan_9 (by decide) (fun c_9_1 => ?_) (fun c_9_1 => ?_)
  · refine lv_aload_n hx hb dX4_readMan_18 rfl (lv_at hl 0 rfl) ?_
    refine ti_get (ci := 4) (k := 1) (N := 6) (T := TX4) (v := .ref (A t 0)) C hw iw_4 rfl ob_1 (by decide) (by decide) fl_X4_28 rfl (ti_Tv (hT)) dX4_readMan_19 ?_
    refine ti_get (ci := 8) (k := 0) (N := 12) (T := TX8) (v := .ref (A t 1)) C hw iw_8 rfl (ob_t ht) (by decide) (by decide) fl_X4_101 rfl rfl dX4_readMan_22 ?_
    refine lv_aload_n hx hb dX4_readMan_25 rfl (lv_at hl 0 rfl) ?_
    refine ti_get (ci := 4) (k := 1) (N := 6) (T := TX4) (v := .ref (A t 0)) C hw iw_4 rfl ob_1 (by decide) (by decide) fl_X4_28 rfl (ti_Tv (hT)) dX4_readMan_26 ?_
    refine ti_get (ci := 8) (k := 4) (N := 12) (T := TX8) C hw iw_8 rfl (ob_t ht) (by decide) (by decide) fl_X4_98 rfl rfl dX4_readMan_29 ?_
    refine ti_top (y := x_1) (ex_1.symm) ?_
    have u_11 : (tI M t 4).toInt = (x_1 : Int32).toInt := by rw [(ex_1.symm)]
    refine ti_aald (ci := 8) (k := 0) (n := 8) (t0 := 5) (Cn := RX2) (gg := (ti_men t)) (j := x_1.toNatClampNeg) C hw (ob_t ht) (by decide) (fun _ _ => rfl) rfl (vp_in_iff.mpr (by omega)) rfl dX4_readMan_32 ?_
    have ob_12 : ti_ob ti_LT (ti_men t x_1.toNatClampNeg) 2 := ob_m ht (i_nt rfl (by omega) (by omega))
    refine lv_astore_n (lv' := [(1, .ref (A (ti_men t x_1.toNatClampNeg) 0)), (0, .ref (A 1 0))]) hx hb dX4_readMan_33 rfl hl (by decide) rfl (fun ls hl => ?_)
    refine lv_aload_n hx hb dX4_readMan_34 rfl (lv_at hl 1 rfl) ?_
    refine ti_get (ci := 4) (k := 0) (N := 6) (T := TX4) (v := .ref (A 2 0)) C hw iw_4 rfl ob_1 (by decide) (by decide) fl_X4_12 rfl rfl dX4_readMan_35 ?_
    refine ti_callVvE (ci := 7) (av := []) C hE hw (x_X7_advance l D A cy hJ M hI ) ⟨ml_X4_92, ym_X7_advance, yv_X7_advance, yi_X7_advance, yc_X7_advance⟩ yd_X7_advance ob_2 (by decide) rfl rfl hl.1 (Nat.le_of_ble_eq_true rfl) ⟨by decide, by decide⟩ ⟨Nat.zero_le _, Nat.zero_le _⟩ dX4_readMan_38 (fun M_14 H locs hp_14 hw => ?_)
    obtain ⟨iM_14, q_15, q_16, q_17, q_18, p0r_13, p1r_13, p2r_13, p3r_13⟩ := hp_14
    have hs_19 := rC_av ht hr q_18 q_16 p0r_13 p1r_13 p2r_13 p3r_13
    obtain ⟨g_20, eg_20⟩ : ∃ z : Nat → Int, z = pp_av B n rg := ⟨_, rfl⟩
    rw [← eg_20] at hs_19
    have lg_20_0 : g_20 0 = (tI M_14 2 4).toInt := hs_19.2.1.1
    have lg_20_1 : g_20 1 = (tI M_14 2 6).toInt := hs_19.2.1.2.1
    have lg_20_4 : g_20 4 = (tI M_14 1 4).toInt := hs_19.2.2.1.1
    have lg_20_7 : g_20 7 = (tI M_14 t 4).toInt := hs_19.2.2.2.1.1
    have lg_20_8 : g_20 8 = (tI M_14 t 5).toInt := hs_19.2.2.2.1.2.1
    have tq_21 : tq t td M_14 := tq_fr ht hq (o2_12 q_16) q_18.1
    refine lv_aload_n hx hb dX4_readMan_41 rfl (lv_at hl 0 rfl) ?_
    refine lv_aload_n hx hb dX4_readMan_42 rfl (lv_at hl 1 rfl) ?_
    refine ti_get (ci := 4) (k := 0) (N := 6) (T := TX4) (v := .ref (A 2 0)) C hw iw_4 rfl ob_1 (by decide) (by decide) fl_X4_12 rfl rfl dX4_readMan_43 ?_
    refine ti_get (ci := 7) (k := 6) (N := 7) (T := TX7) C hw iw_7 rfl ob_2 (by decide) (by decide) fl_X4_95 rfl rfl dX4_readMan_46 ?_
    refine lv_topi (fun x_22 ex_22 => ?_)
    have bx_22 : 0 ≤ x_22.toInt ∧ x_22.toInt ≤ 2147483647 := cI_rd iM_14 ob_2.1 ex_22
    have ux_22 : (tI M_14 2 6).toInt = x_22.toInt := by rw [ex_22]
    refine ti_putI (ci := 2) (k := 0) (N := 10) (T := TX2) C hw iw_2 tyX2 tyX2_ok nmX2 rfl ob_12 (by decide) (by decide) fl_X4_105 rfl rfl rfl rfl (fn_2 A _) fs_2_0 dX4_readMan_49 (fun H locs hw => ?_)
    obtain ⟨M_23, hM_23⟩ : ∃ z : ti_M, z = uI M_14 (ti_men t x_1.toNatClampNeg) 0 x_22 := ⟨_, rfl⟩
    have hw := hw.to hM_23.symm
    have iM_23 : cI Tc M_23 := cI_uI iM_14 hM_23 ob_12.1 trivial
    have hs_24 := rC_m0 (j := x_1.toNatClampNeg) ht (i_nt (x := x_1) rfl (by omega) (by omega)) hM_23 hs_19
    obtain ⟨g_25, eg_25⟩ : ∃ z : Nat → Int, z = pp_su g_20 (100 + x_1.toNatClampNeg) x_22.toInt := ⟨_, rfl⟩
    rw [← eg_25] at hs_24
    have lg_25_0 : g_25 0 = (tI M_23 2 4).toInt := hs_24.2.1.1
    have lg_25_1 : g_25 1 = (tI M_23 2 6).toInt := hs_24.2.1.2.1
    have lg_25_4 : g_25 4 = (tI M_23 1 4).toInt := hs_24.2.2.1.1
    have lg_25_7 : g_25 7 = (tI M_23 t 4).toInt := hs_24.2.2.2.1.1
    have lg_25_8 : g_25 8 = (tI M_23 t 5).toInt := hs_24.2.2.2.1.2.1
    have tq_27 : tq t td M_23 := tq_m0 ht (i_nt (x := x_1) rfl (by omega) (by omega)) tq_21 hM_23 (by decide)
    have v1 : g_25 1 = x_22.toInt := by rw [lg_25_1, ((tI_nE hM_23 (nk (by decide))).trans ex_22.symm)]
    refine lv_aload_n hx hb dX4_readMan_52 rfl (lv_at hl 1 rfl) ?_
    refine ti_get (ci := 4) (k := 0) (N := 6) (T := TX4) (v := .ref (A 2 0)) C hw iw_4 rfl ob_1 (by decide) (by decide) fl_X4_12 rfl rfl dX4_readMan_53 ?_
    refine ti_get (ci := 7) (k := 4) (N := 7) (T := TX7) C hw iw_7 rfl ob_2 (by decide) (by decide) fl_X4_41 rfl rfl dX4_readMan_56 ?_
    refine lv_topi (fun x_28 ex_28 => ?_)
    have bx_28 : 0 ≤ x_28.toInt ∧ x_28.toInt ≤ 41 := cI_rd iM_23 ob_2.1 ex_28
    have ux_28 : (tI M_23 2 4).toInt = x_28.toInt := by rw [ex_28]
    refine lv_bipush (v := 25) hx hb dX4_readMan_59 (by decide) ?_
    have hj_84_53 : ∀ (M_41 : ti_M) (g_48 : Nat → Int) (d_50 : Nat → Int) (H : Heap) (locs : List Loc) (ls : Array Slot), (cI Tc M_41) → (M_41.2.2.2 = M.2.2.2) → (f0 M_41 M) → (tI M_41 2 1 = tI M 2 1) → (ot t M_41 M) → (tI M_41 t 4 = x_1) → (tT M_41 1 1 = (some t)) → (rC B n t g_48 M_41) → (tq t d_50 M_41) → (pp_m2 g_25 = g_48) → (td = d_50) → ti_H ti_LT D A cy H0 M_41 H locs → lv_has ls 2 [(1, .ref (A (ti_men t x_1.toNatClampNeg) 0)), (0, .ref (A 1 0))] → W p l e (ti_rm 8) s m args below meth c H locs 0 0 Q (F0 m 84 ls []) := by
      intro M_41 g_48 d_50 H locs ls iM_41 f_42 f_43 f_44 f_45 f_46 f_47 hs_49 tq_51 j_52 j_53 hw hl
      have lg_48_0 : g_48 0 = (tI M_41 2 4).toInt := hs_49.2.1.1
      have lg_48_1 : g_48 1 = (tI M_41 2 6).toInt := hs_49.2.1.2.1
      have lg_48_4 : g_48 4 = (tI M_41 1 4).toInt := hs_49.2.2.1.1
      have lg_48_7 : g_48 7 = (tI M_41 t 4).toInt := hs_49.2.2.2.1.1
      have lg_48_8 : g_48 8 = (tI M_41 t 5).toInt := hs_49.2.2.2.1.2.1
      refine lv_aload_n hx hb dX4_readMan_84 rfl (lv_at hl 1 rfl) ?_
      refine lv_bipush (v := 25) hx hb dX4_readMan_85 (by decide) ?_
      refine ti_callVvE (ci := 4) (av := [.int 25]) C hE hw (x_X4_take l D A cy hJ M_41 iM_41 t ht 25 B n g_48 hs_49) ⟨ml_X4_85, ym_X4_take, yv_X4_take, yi_X4_take, yc_X4_take⟩ yd_X4_take ob_1 (by decide) rfl rfl hl.1 (Nat.le_of_ble_eq_true rfl) ⟨by decide, by decide⟩ ⟨Nat.zero_le _, Nat.zero_le _⟩ dX4_readMan_87 (fun M_55 H locs hp_55 hw => ?_)
      obtain ⟨iM_55, q_56, q_57, q_58, q_59, p0r_54⟩ := hp_55
      have hlr_54_25 : (25 : Int32).toInt = 25 := by decide
      simp only [hlr_54_25] at p0r_54
      obtain ⟨g_60, eg_60⟩ : ∃ z : Nat → Int, z = pp_tk B n 25 g_48 := ⟨_, rfl⟩
      rw [← eg_60] at p0r_54
      have lg_60_0 : g_60 0 = (tI M_55 2 4).toInt := p0r_54.2.1.1
      have lg_60_1 : g_60 1 = (tI M_55 2 6).toInt := p0r_54.2.1.2.1
      have lg_60_4 : g_60 4 = (tI M_55 1 4).toInt := p0r_54.2.2.1.1
      have lg_60_7 : g_60 7 = (tI M_55 t 4).toInt := p0r_54.2.2.2.1.1
      have lg_60_8 : g_60 8 = (tI M_55 t 5).toInt := p0r_54.2.2.2.1.2.1
      have tq_61 : tq t d_50 M_55 := tq_fr ht tq_51 q_57 q_59
      refine lv_aload_n hx hb dX4_readMan_90 rfl (lv_at hl 0 rfl) ?_
      refine lv_aload_n hx hb dX4_readMan_91 rfl (lv_at hl 1 rfl) ?_
      refine lv_iconst (v := 1) hx hb dX4_readMan_92 (by decide) ?_
      refine lv_bipush (v := 99) hx hb dX4_readMan_93 (by decide) ?_
      refine ti_callViE (ci := 4) (av := [.int 1, .int 99]) C hE hw (x_X4_number l D A cy hJ M_55 iM_55 t ht 1 99 B n g_60 p0r_54) ⟨ml_X4_56, ym_X4_number, yv_X4_number, yi_X4_number, yc_X4_number⟩ yd_X4_number ob_1 (by decide) rfl rfl hl.1 (Nat.le_of_ble_eq_true rfl) ⟨by decide, by decide⟩ ⟨Nat.zero_le _, Nat.zero_le _⟩ dX4_readMan_95 (fun r_62 M_63 H locs hp_63 hw => ?_)
      obtain ⟨iM_63, q_64, q_65, q_66, q_67, p0r_62, p1r_62⟩ := hp_63
      have hlr_62_1 : (1 : Int32).toInt = 1 := by decide
      have hlr_62_99 : (99 : Int32).toInt = 99 := by decide
      simp only [hlr_62_1, hlr_62_99] at p1r_62
      obtain ⟨g_68, eg_68⟩ : ∃ z : Nat → Int, z = pp_nb B n 1 99 g_60 := ⟨_, rfl⟩
      rw [← eg_68] at p1r_62
      have lg_68_0 : g_68 0 = (tI M_63 2 4).toInt := p1r_62.2.1.1
      have lg_68_1 : g_68 1 = (tI M_63 2 6).toInt := p1r_62.2.1.2.1
      have lg_68_4 : g_68 4 = (tI M_63 1 4).toInt := p1r_62.2.2.1.1
      have lg_68_7 : g_68 7 = (tI M_63 t 4).toInt := p1r_62.2.2.2.1.1
      have lg_68_8 : g_68 8 = (tI M_63 t 5).toInt := p1r_62.2.2.2.1.2.1
      have tq_69 : tq t d_50 M_63 := tq_fr ht tq_61 q_65 q_67
      refine ti_putI (ci := 2) (k := 1) (N := 10) (T := TX2) C hw iw_2 tyX2 tyX2_ok nmX2 rfl ob_12 (by decide) (by decide) fl_X4_114 rfl rfl rfl rfl (fn_2 A _) fs_2_1 dX4_readMan_98 (fun H locs hw => ?_)
      obtain ⟨M_70, hM_70⟩ : ∃ z : ti_M, z = uI M_63 (ti_men t x_1.toNatClampNeg) 1 r_62 := ⟨_, rfl⟩
      have hw := hw.to hM_70.symm
      have iM_70 : cI Tc M_70 := cI_uI iM_63 hM_70 ob_12.1 trivial
      have hs_71 := rC_m1x (j := x_1.toNatClampNeg) ht hM_70 p1r_62
      have lM_70_0 : g_68 0 = (tI M_70 2 4).toInt := hs_71.2.1.1
      have lM_70_1 : g_68 1 = (tI M_70 2 6).toInt := hs_71.2.1.2.1
      have lM_70_4 : g_68 4 = (tI M_70 1 4).toInt := hs_71.2.2.1.1
      have lM_70_7 : g_68 7 = (tI M_70 t 4).toInt := hs_71.2.2.2.1.1
      have lM_70_8 : g_68 8 = (tI M_70 t 5).toInt := hs_71.2.2.2.1.2.1
      have tq_72 : tq t (pp_su d_50 (100 + 16 * x_1.toNatClampNeg + 1) r_62.toInt) M_70 := tq_m ht (i_nt (x := x_1) rfl (by omega) (by omega)) tq_69 rfl hM_70 (by decide)
      obtain ⟨d_73, ed_73⟩ : ∃ z : Nat → Int, z = pp_su d_50 (100 + 16 * x_1.toNatClampNeg + 1) r_62.toInt := ⟨_, rfl⟩
      rw [← ed_73] at tq_72
      refine lv_aload_n hx hb dX4_readMan_101 rfl (lv_at hl 0 rfl) ?_
      refine lv_aload_n hx hb dX4_readMan_102 rfl (lv_at hl 1 rfl) ?_
      refine lv_iconst (v := 0) hx hb dX4_readMan_103 (by decide) ?_
      refine lv_bipush (v := 9) hx hb dX4_readMan_104 (by decide) ?_
      refine ti_callViE (ci := 4) (av := [.int 0, .int 9]) C hE hw (x_X4_number l D A cy hJ M_70 iM_70 t ht 0 9 B n g_68 hs_71) ⟨ml_X4_56, ym_X4_number, yv_X4_number, yi_X4_number, yc_X4_number⟩ yd_X4_number ob_1 (by decide) rfl rfl hl.1 (Nat.le_of_ble_eq_true rfl) ⟨by decide, by decide⟩ ⟨Nat.zero_le _, Nat.zero_le _⟩ dX4_readMan_106 (fun r_74 M_75 H locs hp_75 hw => ?_)
      obtain ⟨iM_75, q_76, q_77, q_78, q_79, p0r_74, p1r_74⟩ := hp_75
      have hlr_74_0 : (0 : Int32).toInt = 0 := by decide
      have hlr_74_9 : (9 : Int32).toInt = 9 := by decide
      simp only [hlr_74_0, hlr_74_9] at p1r_74
      obtain ⟨g_80, eg_80⟩ : ∃ z : Nat → Int, z = pp_nb B n 0 9 g_68 := ⟨_, rfl⟩
      rw [← eg_80] at p1r_74
      have lg_80_0 : g_80 0 = (tI M_75 2 4).toInt := p1r_74.2.1.1
      have lg_80_1 : g_80 1 = (tI M_75 2 6).toInt := p1r_74.2.1.2.1
      have lg_80_4 : g_80 4 = (tI M_75 1 4).toInt := p1r_74.2.2.1.1
      have lg_80_7 : g_80 7 = (tI M_75 t 4).toInt := p1r_74.2.2.2.1.1
      have lg_80_8 : g_80 8 = (tI M_75 t 5).toInt := p1r_74.2.2.2.1.2.1
      have tq_81 : tq t d_73 M_75 := tq_fr ht tq_72 q_77 q_79
      refine ti_putI (ci := 2) (k := 2) (N := 10) (T := TX2) C hw iw_2 tyX2 tyX2_ok nmX2 rfl ob_12 (by decide) (by decide) fl_X4_117 rfl rfl rfl rfl (fn_2 A _) fs_2_2 dX4_readMan_109 (fun H locs hw => ?_)
      obtain ⟨M_82, hM_82⟩ : ∃ z : ti_M, z = uI M_75 (ti_men t x_1.toNatClampNeg) 2 r_74 := ⟨_, rfl⟩
      have hw := hw.to hM_82.symm
      have iM_82 : cI Tc M_82 := cI_uI iM_75 hM_82 ob_12.1 trivial
      have hs_83 := rC_m2x (j := x_1.toNatClampNeg) ht hM_82 p1r_74
      have lM_82_0 : g_80 0 = (tI M_82 2 4).toInt := hs_83.2.1.1
      have lM_82_1 : g_80 1 = (tI M_82 2 6).toInt := hs_83.2.1.2.1
      have lM_82_4 : g_80 4 = (tI M_82 1 4).toInt := hs_83.2.2.1.1
      have lM_82_7 : g_80 7 = (tI M_82 t 4).toInt := hs_83.2.2.2.1.1
      have lM_82_8 : g_80 8 = (tI M_82 t 5).toInt := hs_83.2.2.2.1.2.1
      have tq_84 : tq t (pp_su d_73 (100 + 16 * x_1.toNatClampNeg + 2) r_74.toInt) M_82 := tq_m ht (i_nt (x := x_1) rfl (by omega) (by omega)) tq_81 rfl hM_82 (by decide)
      obtain ⟨d_85, ed_85⟩ : ∃ z : Nat → Int, z = pp_su d_73 (100 + 16 * x_1.toNatClampNeg + 2) r_74.toInt := ⟨_, rfl⟩
      rw [← ed_85] at tq_84
      refine lv_aload_n hx hb dX4_readMan_112 rfl (lv_at hl 0 rfl) ?_
      refine lv_aload_n hx hb dX4_readMan_113 rfl (lv_at hl 1 rfl) ?_
      refine lv_iconst (v := 1) hx hb dX4_readMan_114 (by decide) ?_
      refine lv_bipush (v := 99) hx hb dX4_readMan_115 (by decide) ?_
      refine ti_callViE (ci := 4) (av := [.int 1, .int 99]) C hE hw (x_X4_number l D A cy hJ M_82 iM_82 t ht 1 99 B n g_80 hs_83) ⟨ml_X4_56, ym_X4_number, yv_X4_number, yi_X4_number, yc_X4_number⟩ yd_X4_number ob_1 (by decide) rfl rfl hl.1 (Nat.le_of_ble_eq_true rfl) ⟨by decide, by decide⟩ ⟨Nat.zero_le _, Nat.zero_le _⟩ dX4_readMan_117 (fun r_86 M_87 H locs hp_87 hw => ?_)
      obtain ⟨iM_87, q_88, q_89, q_90, q_91, p0r_86, p1r_86⟩ := hp_87
      have hlr_86_1 : (1 : Int32).toInt = 1 := by decide
      have hlr_86_99 : (99 : Int32).toInt = 99 := by decide
      simp only [hlr_86_1, hlr_86_99] at p1r_86
      obtain ⟨g_92, eg_92⟩ : ∃ z : Nat → Int, z = pp_nb B n 1 99 g_80 := ⟨_, rfl⟩
      rw [← eg_92] at p1r_86
      have lg_92_0 : g_92 0 = (tI M_87 2 4).toInt := p1r_86.2.1.1
      have lg_92_1 : g_92 1 = (tI M_87 2 6).toInt := p1r_86.2.1.2.1
      have lg_92_4 : g_92 4 = (tI M_87 1 4).toInt := p1r_86.2.2.1.1
      have lg_92_7 : g_92 7 = (tI M_87 t 4).toInt := p1r_86.2.2.2.1.1
      have lg_92_8 : g_92 8 = (tI M_87 t 5).toInt := p1r_86.2.2.2.1.2.1
      have tq_93 : tq t d_85 M_87 := tq_fr ht tq_84 q_89 q_91
      refine ti_putI (ci := 2) (k := 3) (N := 10) (T := TX2) C hw iw_2 tyX2 tyX2_ok nmX2 rfl ob_12 (by decide) (by decide) fl_X4_120 rfl rfl rfl rfl (fn_2 A _) fs_2_3 dX4_readMan_120 (fun H locs hw => ?_)
      obtain ⟨M_94, hM_94⟩ : ∃ z : ti_M, z = uI M_87 (ti_men t x_1.toNatClampNeg) 3 r_86 := ⟨_, rfl⟩
      have hw := hw.to hM_94.symm
      have iM_94 : cI Tc M_94 := cI_uI iM_87 hM_94 ob_12.1 trivial
      have hs_95 := rC_m3x (j := x_1.toNatClampNeg) ht hM_94 p1r_86
      have lM_94_0 : g_92 0 = (tI M_94 2 4).toInt := hs_95.2.1.1
      have lM_94_1 : g_92 1 = (tI M_94 2 6).toInt := hs_95.2.1.2.1
      have lM_94_4 : g_92 4 = (tI M_94 1 4).toInt := hs_95.2.2.1.1
      have lM_94_7 : g_92 7 = (tI M_94 t 4).toInt := hs_95.2.2.2.1.1
      have lM_94_8 : g_92 8 = (tI M_94 t 5).toInt := hs_95.2.2.2.1.2.1
      have tq_96 : tq t (pp_su d_85 (100 + 16 * x_1.toNatClampNeg + 3) r_86.toInt) M_94 := tq_m ht (i_nt (x := x_1) rfl (by omega) (by omega)) tq_93 rfl hM_94 (by decide)
      obtain ⟨d_97, ed_97⟩ : ∃ z : Nat → Int, z = pp_su d_85 (100 + 16 * x_1.toNatClampNeg + 3) r_86.toInt := ⟨_, rfl⟩
      rw [← ed_97] at tq_96
      refine lv_aload_n hx hb dX4_readMan_123 rfl (lv_at hl 0 rfl) ?_
      refine lv_aload_n hx hb dX4_readMan_124 rfl (lv_at hl 1 rfl) ?_
      refine lv_iconst (v := 1) hx hb dX4_readMan_125 (by decide) ?_
      refine lv_bipush (v := 30) hx hb dX4_readMan_126 (by decide) ?_
      refine ti_callViE (ci := 4) (av := [.int 1, .int 30]) C hE hw (x_X4_number l D A cy hJ M_94 iM_94 t ht 1 30 B n g_92 hs_95) ⟨ml_X4_56, ym_X4_number, yv_X4_number, yi_X4_number, yc_X4_number⟩ yd_X4_number ob_1 (by decide) rfl rfl hl.1 (Nat.le_of_ble_eq_true rfl) ⟨by decide, by decide⟩ ⟨Nat.zero_le _, Nat.zero_le _⟩ dX4_readMan_128 (fun r_98 M_99 H locs hp_99 hw => ?_)
      obtain ⟨iM_99, q_100, q_101, q_102, q_103, p0r_98, p1r_98⟩ := hp_99
      have hlr_98_1 : (1 : Int32).toInt = 1 := by decide
      have hlr_98_30 : (30 : Int32).toInt = 30 := by decide
      simp only [hlr_98_1, hlr_98_30] at p1r_98
      obtain ⟨g_104, eg_104⟩ : ∃ z : Nat → Int, z = pp_nb B n 1 30 g_92 := ⟨_, rfl⟩
      rw [← eg_104] at p1r_98
      have lg_104_0 : g_104 0 = (tI M_99 2 4).toInt := p1r_98.2.1.1
      have lg_104_1 : g_104 1 = (tI M_99 2 6).toInt := p1r_98.2.1.2.1
      have lg_104_4 : g_104 4 = (tI M_99 1 4).toInt := p1r_98.2.2.1.1
      have lg_104_7 : g_104 7 = (tI M_99 t 4).toInt := p1r_98.2.2.2.1.1
      have lg_104_8 : g_104 8 = (tI M_99 t 5).toInt := p1r_98.2.2.2.1.2.1
      have tq_105 : tq t d_97 M_99 := tq_fr ht tq_96 q_101 q_103
      refine ti_putI (ci := 2) (k := 4) (N := 10) (T := TX2) C hw iw_2 tyX2 tyX2_ok nmX2 rfl ob_12 (by decide) (by decide) fl_X4_123 rfl rfl rfl rfl (fn_2 A _) fs_2_4 dX4_readMan_131 (fun H locs hw => ?_)
      obtain ⟨M_106, hM_106⟩ : ∃ z : ti_M, z = uI M_99 (ti_men t x_1.toNatClampNeg) 4 r_98 := ⟨_, rfl⟩
      have hw := hw.to hM_106.symm
      have iM_106 : cI Tc M_106 := cI_uI iM_99 hM_106 ob_12.1 trivial
      have hs_107 := rC_m4x (j := x_1.toNatClampNeg) ht hM_106 p1r_98
      have lM_106_0 : g_104 0 = (tI M_106 2 4).toInt := hs_107.2.1.1
      have lM_106_1 : g_104 1 = (tI M_106 2 6).toInt := hs_107.2.1.2.1
      have lM_106_4 : g_104 4 = (tI M_106 1 4).toInt := hs_107.2.2.1.1
      have lM_106_7 : g_104 7 = (tI M_106 t 4).toInt := hs_107.2.2.2.1.1
      have lM_106_8 : g_104 8 = (tI M_106 t 5).toInt := hs_107.2.2.2.1.2.1
      have tq_108 : tq t (pp_su d_97 (100 + 16 * x_1.toNatClampNeg + 4) r_98.toInt) M_106 := tq_m ht (i_nt (x := x_1) rfl (by omega) (by omega)) tq_105 rfl hM_106 (by decide)
      obtain ⟨d_109, ed_109⟩ : ∃ z : Nat → Int, z = pp_su d_97 (100 + 16 * x_1.toNatClampNeg + 4) r_98.toInt := ⟨_, rfl⟩
      rw [← ed_109] at tq_108
      refine lv_aload_n hx hb dX4_readMan_134 rfl (lv_at hl 0 rfl) ?_
      refine lv_aload_n hx hb dX4_readMan_135 rfl (lv_at hl 1 rfl) ?_
      refine lv_iconst (v := 0) hx hb dX4_readMan_136 (by decide) ?_
      refine lv_bipush (v := 99) hx hb dX4_readMan_137 (by decide) ?_
      refine ti_callViE (ci := 4) (av := [.int 0, .int 99]) C hE hw (x_X4_number l D A cy hJ M_106 iM_106 t ht 0 99 B n g_104 hs_107) ⟨ml_X4_56, ym_X4_number, yv_X4_number, yi_X4_number, yc_X4_number⟩ yd_X4_number ob_1 (by decide) rfl rfl hl.1 (Nat.le_of_ble_eq_true rfl) ⟨by decide, by decide⟩ ⟨Nat.zero_le _, Nat.zero_le _⟩ dX4_readMan_139 (fun r_110 M_111 H locs hp_111 hw => ?_)
      obtain ⟨iM_111, q_112, q_113, q_114, q_115, p0r_110, p1r_110⟩ := hp_111
      have hlr_110_0 : (0 : Int32).toInt = 0 := by decide
      have hlr_110_99 : (99 : Int32).toInt = 99 := by decide
      simp only [hlr_110_0, hlr_110_99] at p1r_110
      obtain ⟨g_116, eg_116⟩ : ∃ z : Nat → Int, z = pp_nb B n 0 99 g_104 := ⟨_, rfl⟩
      rw [← eg_116] at p1r_110
      have lg_116_0 : g_116 0 = (tI M_111 2 4).toInt := p1r_110.2.1.1
      have lg_116_1 : g_116 1 = (tI M_111 2 6).toInt := p1r_110.2.1.2.1
      have lg_116_4 : g_116 4 = (tI M_111 1 4).toInt := p1r_110.2.2.1.1
      have lg_116_7 : g_116 7 = (tI M_111 t 4).toInt := p1r_110.2.2.2.1.1
      have lg_116_8 : g_116 8 = (tI M_111 t 5).toInt := p1r_110.2.2.2.1.2.1
      have tq_117 : tq t d_109 M_111 := tq_fr ht tq_108 q_113 q_115
      refine ti_putI (ci := 2) (k := 5) (N := 10) (T := TX2) C hw iw_2 tyX2 tyX2_ok nmX2 rfl ob_12 (by decide) (by decide) fl_X4_126 rfl rfl rfl rfl (fn_2 A _) fs_2_5 dX4_readMan_142 (fun H locs hw => ?_)
      obtain ⟨M_118, hM_118⟩ : ∃ z : ti_M, z = uI M_111 (ti_men t x_1.toNatClampNeg) 5 r_110 := ⟨_, rfl⟩
      have hw := hw.to hM_118.symm
      have iM_118 : cI Tc M_118 := cI_uI iM_111 hM_118 ob_12.1 trivial
      have hs_119 := rC_m5x (j := x_1.toNatClampNeg) ht hM_118 p1r_110
      have lM_118_0 : g_116 0 = (tI M_118 2 4).toInt := hs_119.2.1.1
      have lM_118_1 : g_116 1 = (tI M_118 2 6).toInt := hs_119.2.1.2.1
      have lM_118_4 : g_116 4 = (tI M_118 1 4).toInt := hs_119.2.2.1.1
      have lM_118_7 : g_116 7 = (tI M_118 t 4).toInt := hs_119.2.2.2.1.1
      have lM_118_8 : g_116 8 = (tI M_118 t 5).toInt := hs_119.2.2.2.1.2.1
      have tq_120 : tq t (pp_su d_109 (100 + 16 * x_1.toNatClampNeg + 5) r_110.toInt) M_118 := tq_m ht (i_nt (x := x_1) rfl (by omega) (by omega)) tq_117 rfl hM_118 (by decide)
      obtain ⟨d_121, ed_121⟩ : ∃ z : Nat → Int, z = pp_su d_109 (100 + 16 * x_1.toNatClampNeg + 5) r_110.toInt := ⟨_, rfl⟩
      rw [← ed_121] at tq_120
      refine lv_aload_n hx hb dX4_readMan_145 rfl (lv_at hl 0 rfl) ?_
      refine lv_aload_n hx hb dX4_readMan_146 rfl (lv_at hl 1 rfl) ?_
      refine lv_iconst (v := 0) hx hb dX4_readMan_147 (by decide) ?_
      refine lv_bipush (v := 99) hx hb dX4_readMan_148 (by decide) ?_
      refine ti_callViE (ci := 4) (av := [.int 0, .int 99]) C hE hw (x_X4_number l D A cy hJ M_118 iM_118 t ht 0 99 B n g_116 hs_119) ⟨ml_X4_56, ym_X4_number, yv_X4_number, yi_X4_number, yc_X4_number⟩ yd_X4_number ob_1 (by decide) rfl rfl hl.1 (Nat.le_of_ble_eq_true rfl) ⟨by decide, by decide⟩ ⟨Nat.zero_le _, Nat.zero_le _⟩ dX4_readMan_150 (fun r_122 M_123 H locs hp_123 hw => ?_)
      obtain ⟨iM_123, q_124, q_125, q_126, q_127, p0r_122, p1r_122⟩ := hp_123
      have hlr_122_0 : (0 : Int32).toInt = 0 := by decide
      have hlr_122_99 : (99 : Int32).toInt = 99 := by decide
      simp only [hlr_122_0, hlr_122_99] at p1r_122
      obtain ⟨g_128, eg_128⟩ : ∃ z : Nat → Int, z = pp_nb B n 0 99 g_116 := ⟨_, rfl⟩
      rw [← eg_128] at p1r_122
      have lg_128_0 : g_128 0 = (tI M_123 2 4).toInt := p1r_122.2.1.1
      have lg_128_1 : g_128 1 = (tI M_123 2 6).toInt := p1r_122.2.1.2.1
      have lg_128_4 : g_128 4 = (tI M_123 1 4).toInt := p1r_122.2.2.1.1
      have lg_128_7 : g_128 7 = (tI M_123 t 4).toInt := p1r_122.2.2.2.1.1
      have lg_128_8 : g_128 8 = (tI M_123 t 5).toInt := p1r_122.2.2.2.1.2.1
      have tq_129 : tq t d_121 M_123 := tq_fr ht tq_120 q_125 q_127
      refine ti_putI (ci := 2) (k := 6) (N := 10) (T := TX2) C hw iw_2 tyX2 tyX2_ok nmX2 rfl ob_12 (by decide) (by decide) fl_X4_129 rfl rfl rfl rfl (fn_2 A _) fs_2_6 dX4_readMan_153 (fun H locs hw => ?_)
      obtain ⟨M_130, hM_130⟩ : ∃ z : ti_M, z = uI M_123 (ti_men t x_1.toNatClampNeg) 6 r_122 := ⟨_, rfl⟩
      have hw := hw.to hM_130.symm
      have iM_130 : cI Tc M_130 := cI_uI iM_123 hM_130 ob_12.1 trivial
      have hs_131 := rC_m6x (j := x_1.toNatClampNeg) ht hM_130 p1r_122
      have lM_130_0 : g_128 0 = (tI M_130 2 4).toInt := hs_131.2.1.1
      have lM_130_1 : g_128 1 = (tI M_130 2 6).toInt := hs_131.2.1.2.1
      have lM_130_4 : g_128 4 = (tI M_130 1 4).toInt := hs_131.2.2.1.1
      have lM_130_7 : g_128 7 = (tI M_130 t 4).toInt := hs_131.2.2.2.1.1
      have lM_130_8 : g_128 8 = (tI M_130 t 5).toInt := hs_131.2.2.2.1.2.1
      have tq_132 : tq t (pp_su d_121 (100 + 16 * x_1.toNatClampNeg + 6) r_122.toInt) M_130 := tq_m ht (i_nt (x := x_1) rfl (by omega) (by omega)) tq_129 rfl hM_130 (by decide)
      obtain ⟨d_133, ed_133⟩ : ∃ z : Nat → Int, z = pp_su d_121 (100 + 16 * x_1.toNatClampNeg + 6) r_122.toInt := ⟨_, rfl⟩
      rw [← ed_133] at tq_132
      refine lv_aload_n hx hb dX4_readMan_156 rfl (lv_at hl 0 rfl) ?_
      refine lv_aload_n hx hb dX4_readMan_157 rfl (lv_at hl 1 rfl) ?_
      refine lv_iconst (v := 0) hx hb dX4_readMan_158 (by decide) ?_
      refine lv_bipush (v := 59) hx hb dX4_readMan_159 (by decide) ?_
      refine ti_callViE (ci := 4) (av := [.int 0, .int 59]) C hE hw (x_X4_number l D A cy hJ M_130 iM_130 t ht 0 59 B n g_128 hs_131) ⟨ml_X4_56, ym_X4_number, yv_X4_number, yi_X4_number, yc_X4_number⟩ yd_X4_number ob_1 (by decide) rfl rfl hl.1 (Nat.le_of_ble_eq_true rfl) ⟨by decide, by decide⟩ ⟨Nat.zero_le _, Nat.zero_le _⟩ dX4_readMan_161 (fun r_134 M_135 H locs hp_135 hw => ?_)
      obtain ⟨iM_135, q_136, q_137, q_138, q_139, p0r_134, p1r_134⟩ := hp_135
      have hlr_134_0 : (0 : Int32).toInt = 0 := by decide
      have hlr_134_59 : (59 : Int32).toInt = 59 := by decide
      simp only [hlr_134_0, hlr_134_59] at p1r_134
      obtain ⟨g_140, eg_140⟩ : ∃ z : Nat → Int, z = pp_nb B n 0 59 g_128 := ⟨_, rfl⟩
      rw [← eg_140] at p1r_134
      have lg_140_0 : g_140 0 = (tI M_135 2 4).toInt := p1r_134.2.1.1
      have lg_140_1 : g_140 1 = (tI M_135 2 6).toInt := p1r_134.2.1.2.1
      have lg_140_4 : g_140 4 = (tI M_135 1 4).toInt := p1r_134.2.2.1.1
      have lg_140_7 : g_140 7 = (tI M_135 t 4).toInt := p1r_134.2.2.2.1.1
      have lg_140_8 : g_140 8 = (tI M_135 t 5).toInt := p1r_134.2.2.2.1.2.1
      have tq_141 : tq t d_133 M_135 := tq_fr ht tq_132 q_137 q_139
      refine ti_putI (ci := 2) (k := 7) (N := 10) (T := TX2) C hw iw_2 tyX2 tyX2_ok nmX2 rfl ob_12 (by decide) (by decide) fl_X4_132 rfl rfl rfl rfl (fn_2 A _) fs_2_7 dX4_readMan_164 (fun H locs hw => ?_)
      obtain ⟨M_142, hM_142⟩ : ∃ z : ti_M, z = uI M_135 (ti_men t x_1.toNatClampNeg) 7 r_134 := ⟨_, rfl⟩
      have hw := hw.to hM_142.symm
      have iM_142 : cI Tc M_142 := cI_uI iM_135 hM_142 ob_12.1 trivial
      have hs_143 := rC_m7x (j := x_1.toNatClampNeg) ht hM_142 p1r_134
      have lM_142_0 : g_140 0 = (tI M_142 2 4).toInt := hs_143.2.1.1
      have lM_142_1 : g_140 1 = (tI M_142 2 6).toInt := hs_143.2.1.2.1
      have lM_142_4 : g_140 4 = (tI M_142 1 4).toInt := hs_143.2.2.1.1
      have lM_142_7 : g_140 7 = (tI M_142 t 4).toInt := hs_143.2.2.2.1.1
      have lM_142_8 : g_140 8 = (tI M_142 t 5).toInt := hs_143.2.2.2.1.2.1
      have tq_144 : tq t (pp_su d_133 (100 + 16 * x_1.toNatClampNeg + 7) r_134.toInt) M_142 := tq_m ht (i_nt (x := x_1) rfl (by omega) (by omega)) tq_141 rfl hM_142 (by decide)
      obtain ⟨d_145, ed_145⟩ : ∃ z : Nat → Int, z = pp_su d_133 (100 + 16 * x_1.toNatClampNeg + 7) r_134.toInt := ⟨_, rfl⟩
      rw [← ed_145] at tq_144
      refine lv_aload_n hx hb dX4_readMan_167 rfl (lv_at hl 0 rfl) ?_
      refine lv_aload_n hx hb dX4_readMan_168 rfl (lv_at hl 1 rfl) ?_
      refine ti_get (ci := 4) (k := 0) (N := 6) (T := TX4) (v := .ref (A 2 0)) C hw iw_4 rfl ob_1 (by decide) (by decide) fl_X4_12 rfl rfl dX4_readMan_169 ?_
      refine ti_get (ci := 7) (k := 4) (N := 7) (T := TX7) C hw iw_7 rfl ob_2 (by decide) (by decide) fl_X4_41 rfl rfl dX4_readMan_172 ?_
      refine lv_topi (fun x_146 ex_146 => ?_)
      have bx_146 : 0 ≤ x_146.toInt ∧ x_146.toInt ≤ 41 := cI_rd iM_142 ob_2.1 ex_146
      have ux_146 : (tI M_142 2 4).toInt = x_146.toInt := by rw [ex_146]
      refine lv_bipush (v := 15) hx hb dX4_readMan_175 (by decide) ?_
      refine sb_icmp_ne (tgt := 184) hx hb rfl (by decide : (15 : Int32).toInt = 15) dX4_readMan_177 (by decide) (fun c_177_146 => ?_) (fun c_177_146 => ?_)
      · refine lv_iconst (v := 0) hx hb dX4_readMan_184 (by decide) ?_
        refine ti_putI (ci := 2) (k := 8) (N := 10) (T := TX2) C hw iw_2 tyX2 tyX2_ok nmX2 rfl ob_12 (by decide) (by decide) fl_X4_135 rfl rfl rfl rfl (fn_2 A _) fs_2_8 dX4_readMan_185 (fun H locs hw => ?_)
        obtain ⟨M_153, hM_153⟩ : ∃ z : ti_M, z = uI M_142 (ti_men t x_1.toNatClampNeg) 8 0 := ⟨_, rfl⟩
        have hw := hw.to hM_153.symm
        have iM_153 : cI Tc M_153 := cI_uI iM_142 hM_153 ob_12.1 trivial
        have hs_154 := rC_m8x (j := x_1.toNatClampNeg) ht hM_153 hs_143
        have lM_153_0 : g_140 0 = (tI M_153 2 4).toInt := hs_154.2.1.1
        have lM_153_1 : g_140 1 = (tI M_153 2 6).toInt := hs_154.2.1.2.1
        have lM_153_4 : g_140 4 = (tI M_153 1 4).toInt := hs_154.2.2.1.1
        have lM_153_7 : g_140 7 = (tI M_153 t 4).toInt := hs_154.2.2.2.1.1
        have lM_153_8 : g_140 8 = (tI M_153 t 5).toInt := hs_154.2.2.2.1.2.1
        have tq_155 : tq t (pp_su d_145 (100 + 16 * x_1.toNatClampNeg + 8) 0) M_153 := tq_m ht (i_nt (x := x_1) rfl (by omega) (by omega)) tq_144 (by decide : (0 : Int32).toInt = 0) hM_153 (by decide)
        obtain ⟨d_156, ed_156⟩ : ∃ z : Nat → Int, z = pp_su d_145 (100 + 16 * x_1.toNatClampNeg + 8) 0 := ⟨_, rfl⟩
        rw [← ed_156] at tq_155
        refine lv_aload_n hx hb dX4_readMan_188 rfl (lv_at hl 0 rfl) ?_
        refine ti_get (ci := 2) (k := 8) (N := 10) (T := TX2) C hw iw_2 rfl ob_12 (by decide) (by decide) fl_X4_135 rfl rfl dX4_readMan_189 ?_
        refine ti_top (y := 0) (tI_uE hM_153) ?_
        refine sb_if_eq (tgt := 202) hx hb (by decide : (0 : Int32).toInt = 0) dX4_readMan_192 (by decide) (fun c_192_156 => ?_) (fun h => absurd h (by decide))
        refine lv_aload_n hx hb dX4_readMan_202 rfl (lv_at hl 0 rfl) ?_
        refine lv_iconst (v := (-1)) hx hb dX4_readMan_203 (by decide) ?_
        refine ti_putI (ci := 2) (k := 9) (N := 10) (T := TX2) C hw iw_2 tyX2 tyX2_ok nmX2 rfl ob_12 (by decide) (by decide) fl_X4_139 rfl rfl rfl rfl (fn_2 A _) fs_2_9 dX4_readMan_204 (fun H locs hw => ?_)
        obtain ⟨M_167, hM_167⟩ : ∃ z : ti_M, z = uI M_153 (ti_men t x_1.toNatClampNeg) 9 (-1) := ⟨_, rfl⟩
        have hw := hw.to hM_167.symm
        have iM_167 : cI Tc M_167 := cI_uI iM_153 hM_167 ob_12.1 trivial
        have hs_168 := rC_m9 (j := x_1.toNatClampNeg) ht (i_nt (x := x_1) rfl (by omega) (by omega)) hM_167 hs_154
        rw [show ((-1) : Int32).toInt = (-1) by decide] at hs_168
        obtain ⟨g_169, eg_169⟩ : ∃ z : Nat → Int, z = pp_su g_140 (200 + x_1.toNatClampNeg) (-1) := ⟨_, rfl⟩
        rw [← eg_169] at hs_168
        have lg_169_0 : g_169 0 = (tI M_167 2 4).toInt := hs_168.2.1.1
        have lg_169_1 : g_169 1 = (tI M_167 2 6).toInt := hs_168.2.1.2.1
        have lg_169_4 : g_169 4 = (tI M_167 1 4).toInt := hs_168.2.2.1.1
        have lg_169_7 : g_169 7 = (tI M_167 t 4).toInt := hs_168.2.2.2.1.1
        have lg_169_8 : g_169 8 = (tI M_167 t 5).toInt := hs_168.2.2.2.1.2.1
        have tq_171 : tq t d_156 M_167 := tq_m0 ht (i_nt (x := x_1) rfl (by omega) (by omega)) tq_155 hM_167 (by decide)
        refine lv_aload_n hx hb dX4_readMan_207 rfl (lv_at hl 1 rfl) ?_
        refine ti_get (ci := 4) (k := 1) (N := 6) (T := TX4) (v := .ref (A t 0)) C hw iw_4 rfl ob_1 (by decide) (by decide) fl_X4_28 rfl (ti_Tv ((tT_uIE hM_167).trans ((tT_uIE hM_153).trans ((tT_uIE hM_142).trans ((tT_fr q_136).trans ((tT_uIE hM_130).trans ((tT_fr q_124).trans ((tT_uIE hM_118).trans ((tT_fr q_112).trans ((tT_uIE hM_106).trans ((tT_fr q_100).trans ((tT_uIE hM_94).trans ((tT_fr q_88).trans ((tT_uIE hM_82).trans ((tT_fr q_76).trans ((tT_uIE hM_70).trans ((tT_fr q_64).trans ((tT_fr q_56).trans f_47)))))))))))))))))) dX4_readMan_208 ?_
        refine lv_dup hx hb dX4_readMan_211 rfl ?_
        refine ti_get (ci := 8) (k := 4) (N := 12) (T := TX8) C hw iw_8 rfl (ob_t ht) (by decide) (by decide) fl_X4_98 rfl rfl dX4_readMan_212 ?_
        refine ti_top (y := x_1) ((tI_nE hM_167 (nk (by decide))).trans ((tI_nE hM_153 (nk (by decide))).trans ((tI_nE hM_142 (nk (by decide))).trans ((q_137 t 4 (cls_ne (ob_t ht).1 ob_1.1 (by decide)) (cls_ne (ob_t ht).1 ob_2.1 (by decide))).trans ((tI_nE hM_130 (nk (by decide))).trans ((q_125 t 4 (cls_ne (ob_t ht).1 ob_1.1 (by decide)) (cls_ne (ob_t ht).1 ob_2.1 (by decide))).trans ((tI_nE hM_118 (nk (by decide))).trans ((q_113 t 4 (cls_ne (ob_t ht).1 ob_1.1 (by decide)) (cls_ne (ob_t ht).1 ob_2.1 (by decide))).trans ((tI_nE hM_106 (no (cls_ne (ob_t ht).1 ob_12.1 (by decide)))).trans ((q_101 t 4 (cls_ne (ob_t ht).1 ob_1.1 (by decide)) (cls_ne (ob_t ht).1 ob_2.1 (by decide))).trans ((tI_nE hM_94 (nk (by decide))).trans ((q_89 t 4 (cls_ne (ob_t ht).1 ob_1.1 (by decide)) (cls_ne (ob_t ht).1 ob_2.1 (by decide))).trans ((tI_nE hM_82 (nk (by decide))).trans ((q_77 t 4 (cls_ne (ob_t ht).1 ob_1.1 (by decide)) (cls_ne (ob_t ht).1 ob_2.1 (by decide))).trans ((tI_nE hM_70 (nk (by decide))).trans ((q_65 t 4 (cls_ne (ob_t ht).1 ob_1.1 (by decide)) (cls_ne (ob_t ht).1 ob_2.1 (by decide))).trans ((q_57 t 4 (cls_ne (ob_t ht).1 ob_1.1 (by decide)) (cls_ne (ob_t ht).1 ob_2.1 (by decide))).trans f_46))))))))))))))))) ?_
        have u_172 : (tI M_167 t 4).toInt = (x_1 : Int32).toInt := by rw [((tI_nE hM_167 (nk (by decide))).trans ((tI_nE hM_153 (nk (by decide))).trans ((tI_nE hM_142 (nk (by decide))).trans ((q_137 t 4 (cls_ne (ob_t ht).1 ob_1.1 (by decide)) (cls_ne (ob_t ht).1 ob_2.1 (by decide))).trans ((tI_nE hM_130 (nk (by decide))).trans ((q_125 t 4 (cls_ne (ob_t ht).1 ob_1.1 (by decide)) (cls_ne (ob_t ht).1 ob_2.1 (by decide))).trans ((tI_nE hM_118 (nk (by decide))).trans ((q_113 t 4 (cls_ne (ob_t ht).1 ob_1.1 (by decide)) (cls_ne (ob_t ht).1 ob_2.1 (by decide))).trans ((tI_nE hM_106 (no (cls_ne (ob_t ht).1 ob_12.1 (by decide)))).trans ((q_101 t 4 (cls_ne (ob_t ht).1 ob_1.1 (by decide)) (cls_ne (ob_t ht).1 ob_2.1 (by decide))).trans ((tI_nE hM_94 (nk (by decide))).trans ((q_89 t 4 (cls_ne (ob_t ht).1 ob_1.1 (by decide)) (cls_ne (ob_t ht).1 ob_2.1 (by decide))).trans ((tI_nE hM_82 (nk (by decide))).trans ((q_77 t 4 (cls_ne (ob_t ht).1 ob_1.1 (by decide)) (cls_ne (ob_t ht).1 ob_2.1 (by decide))).trans ((tI_nE hM_70 (nk (by decide))).trans ((q_65 t 4 (cls_ne (ob_t ht).1 ob_1.1 (by decide)) (cls_ne (ob_t ht).1 ob_2.1 (by decide))).trans ((q_57 t 4 (cls_ne (ob_t ht).1 ob_1.1 (by decide)) (cls_ne (ob_t ht).1 ob_2.1 (by decide))).trans f_46)))))))))))))))))]
        refine lv_iconst (v := 1) hx hb dX4_readMan_215 (by decide) ?_
        refine lv_iadd hx hb dX4_readMan_216 ?_
        refine lv_topi (fun x_173 ex_173 => ?_)
        have lox_173x_1 := x_1.le_toInt
        have hix_173x_1 := x_1.toInt_lt
        have tx_173 : x_173.toInt = x_1.toInt + 1 := i_add ex_173 rfl (by decide : (1 : Int32).toInt = 1) (by omega) (by omega)
        refine ti_putI (ci := 8) (k := 4) (N := 12) (T := TX8) C hw iw_8 tyX8 tyX8_ok nmX8 rfl (ob_t ht) (by decide) (by decide) fl_X4_98 rfl rfl rfl rfl (fn_8 A _) fs_8_4 dX4_readMan_217 (fun H locs hw => ?_)
        obtain ⟨M_174, hM_174⟩ : ∃ z : ti_M, z = uI M_167 t 4 x_173 := ⟨_, rfl⟩
        have hw := hw.to hM_174.symm
        have iM_174 : cI Tc M_174 := cI_uI iM_167 hM_174 (ob_t ht).1 (ib_mk (lo := 0) (hi := 8) (by omega) (by omega))
        have vM_174 : (tI M_174 t 4).toInt = (x_173 : Int32).toInt := by rw [tI_uE hM_174]
        have hs_175 := rC_t4 ht hM_174 hs_168
        obtain ⟨g_176, eg_176⟩ : ∃ z : Nat → Int, z = pp_su g_169 7 x_173.toInt := ⟨_, rfl⟩
        rw [← eg_176] at hs_175
        have lg_176_0 : g_176 0 = (tI M_174 2 4).toInt := hs_175.2.1.1
        have lg_176_1 : g_176 1 = (tI M_174 2 6).toInt := hs_175.2.1.2.1
        have lg_176_4 : g_176 4 = (tI M_174 1 4).toInt := hs_175.2.2.1.1
        have lg_176_7 : g_176 7 = (tI M_174 t 4).toInt := hs_175.2.2.2.1.1
        have lg_176_8 : g_176 8 = (tI M_174 t 5).toInt := hs_175.2.2.2.1.2.1
        have tq_178 : tq t d_156 M_174 := tq_t0 ht tq_171 hM_174 (by decide)
        have h47 : g_140 7 = x_1.toInt := by rw [hs_154.2.2.2.1.1, ((tI_nE hM_153 (nk (by decide))).trans ((tI_nE hM_142 (nk (by decide))).trans ((q_137 t 4 (cls_ne (ob_t ht).1 ob_1.1 (by decide)) (cls_ne (ob_t ht).1 ob_2.1 (by decide))).trans ((tI_nE hM_130 (nk (by decide))).trans ((q_125 t 4 (cls_ne (ob_t ht).1 ob_1.1 (by decide)) (cls_ne (ob_t ht).1 ob_2.1 (by decide))).trans ((tI_nE hM_118 (nk (by decide))).trans ((q_113 t 4 (cls_ne (ob_t ht).1 ob_1.1 (by decide)) (cls_ne (ob_t ht).1 ob_2.1 (by decide))).trans ((tI_nE hM_106 (no (cls_ne (ob_t ht).1 ob_12.1 (by decide)))).trans ((q_101 t 4 (cls_ne (ob_t ht).1 ob_1.1 (by decide)) (cls_ne (ob_t ht).1 ob_2.1 (by decide))).trans ((tI_nE hM_94 (nk (by decide))).trans ((q_89 t 4 (cls_ne (ob_t ht).1 ob_1.1 (by decide)) (cls_ne (ob_t ht).1 ob_2.1 (by decide))).trans ((tI_nE hM_82 (nk (by decide))).trans ((q_77 t 4 (cls_ne (ob_t ht).1 ob_1.1 (by decide)) (cls_ne (ob_t ht).1 ob_2.1 (by decide))).trans ((tI_nE hM_70 (nk (by decide))).trans ((q_65 t 4 (cls_ne (ob_t ht).1 ob_1.1 (by decide)) (cls_ne (ob_t ht).1 ob_2.1 (by decide))).trans ((q_57 t 4 (cls_ne (ob_t ht).1 ob_1.1 (by decide)) (cls_ne (ob_t ht).1 ob_2.1 (by decide))).trans f_46))))))))))))))))]
        have E1 : pp_m1 B n rg = g_25 := by unfold pp_m1; rw [← eg_20, show (rg 7).toNat = x_1.toNatClampNeg by (show (rg 7).toNat = x_1.toInt.toNat; omega), show g_20 1 = x_22.toInt by omega, ← eg_25]
        have E3 : pp_m3 B n g_48 = g_140 := by unfold pp_m3; rw [← eg_60, ← eg_68, ← eg_80, ← eg_92, ← eg_104, ← eg_116, ← eg_128, ← eg_140]
        have E4 : pp_m4 B n g_140 = g_140 := by unfold pp_m4; rw [if_neg (by omega)]
        have E5 : pp_m5 g_140 = g_176 := by unfold pp_m5; rw [show (g_140 7).toNat = x_1.toNatClampNeg by (show (g_140 7).toNat = x_1.toInt.toNat; omega), show g_140 7 + 1 = x_173.toInt by omega, ← eg_169, ← eg_176]
        have ET : qq_mn B n rg d_50 = d_156 := by unfold qq_mn; rw [if_pos (by omega), E1, j_52, E3, ← eg_60]; unfold qq_m3 qq_m4; rw [show (rg 7).toNat = x_1.toNatClampNeg by (show (rg 7).toNat = x_1.toInt.toNat; omega), ← eg_68, ← eg_80, ← eg_92, ← eg_104, ← eg_116, ← eg_128, ← p0r_62, ← p0r_74, ← p0r_86, ← p0r_98, ← p0r_110, ← p0r_122, ← p0r_134, if_neg (by omega), ← ed_73, ← ed_85, ← ed_97, ← ed_109, ← ed_121, ← ed_133, ← ed_145, ← ed_156]
        exact hQ _ _ _ _ _ hw (⟨iM_174, ((rf_I hM_174).trans ((rf_I hM_167).trans ((rf_I hM_153).trans ((rf_I hM_142).trans ((q_136).trans ((rf_I hM_130).trans ((q_124).trans ((rf_I hM_118).trans ((q_112).trans ((rf_I hM_106).trans ((q_100).trans ((rf_I hM_94).trans ((q_88).trans ((rf_I hM_82).trans ((q_76).trans ((rf_I hM_70).trans ((q_64).trans ((q_56).trans f_42)))))))))))))))))), (f0.trans (f0_I hM_174 (f0n (ob_t ht).1 (by decide))) (f0.trans (f0_I hM_167 (f0n ob_12.1 (by decide))) (f0.trans (f0_I hM_153 (f0n ob_12.1 (by decide))) (f0.trans (f0_I hM_142 (f0n ob_12.1 (by decide))) (f0.trans (f0_12 q_137) (f0.trans (f0_I hM_130 (f0n ob_12.1 (by decide))) (f0.trans (f0_12 q_125) (f0.trans (f0_I hM_118 (f0n ob_12.1 (by decide))) (f0.trans (f0_12 q_113) (f0.trans (f0_I hM_106 (f0n ob_12.1 (by decide))) (f0.trans (f0_12 q_101) (f0.trans (f0_I hM_94 (f0n ob_12.1 (by decide))) (f0.trans (f0_12 q_89) (f0.trans (f0_I hM_82 (f0n ob_12.1 (by decide))) (f0.trans (f0_12 q_77) (f0.trans (f0_I hM_70 (f0n ob_12.1 (by decide))) (f0.trans (f0_12 q_65) (f0.trans (f0_12 q_57) f_43)))))))))))))))))), ((tI_nE hM_174 (nk (by decide))).trans ((tI_nE hM_167 (nk (by decide))).trans ((tI_nE hM_153 (nk (by decide))).trans ((tI_nE hM_142 (nk (by decide))).trans ((q_138).trans ((tI_nE hM_130 (nk (by decide))).trans ((q_126).trans ((tI_nE hM_118 (nk (by decide))).trans ((q_114).trans ((tI_nE hM_106 (nk (by decide))).trans ((q_102).trans ((tI_nE hM_94 (nk (by decide))).trans ((q_90).trans ((tI_nE hM_82 (nk (by decide))).trans ((q_78).trans ((tI_nE hM_70 (no (cls_ne ob_2.1 ob_12.1 (by decide)))).trans ((q_66).trans ((q_58).trans f_44)))))))))))))))))), (ot.trans (ot_I ht hM_174 (by omega)) (ot.trans (ot_m ht (i_nt (x := x_1) rfl (by omega) (by omega)) hM_167) (ot.trans (ot_m ht (i_nt (x := x_1) rfl (by omega) (by omega)) hM_153) (ot.trans (ot_m ht (i_nt (x := x_1) rfl (by omega) (by omega)) hM_142) (ot.trans (ot_12 ht q_137 q_139) (ot.trans (ot_m ht (i_nt (x := x_1) rfl (by omega) (by omega)) hM_130) (ot.trans (ot_12 ht q_125 q_127) (ot.trans (ot_m ht (i_nt (x := x_1) rfl (by omega) (by omega)) hM_118) (ot.trans (ot_12 ht q_113 q_115) (ot.trans (ot_m ht (i_nt (x := x_1) rfl (by omega) (by omega)) hM_106) (ot.trans (ot_12 ht q_101 q_103) (ot.trans (ot_m ht (i_nt (x := x_1) rfl (by omega) (by omega)) hM_94) (ot.trans (ot_12 ht q_89 q_91) (ot.trans (ot_m ht (i_nt (x := x_1) rfl (by omega) (by omega)) hM_82) (ot.trans (ot_12 ht q_77 q_79) (ot.trans (ot_m ht (i_nt (x := x_1) rfl (by omega) (by omega)) hM_70) (ot.trans (ot_12 ht q_65 q_67) (ot.trans (ot_12 ht q_57 q_59) f_45)))))))))))))))))), (by unfold pp_mn; rw [if_pos (by omega), E1, j_52, E3, E4, E5]; exact hs_175), (by rw [show td = d_50 from j_53, ET]; exact tq_178)⟩) dX4_readMan_220
      · refine lv_iconst (v := 1) hx hb dX4_readMan_180 (by decide) ?_
        refine lv_goto (tgt := 185) hx hb dX4_readMan_181 (by decide) ?_
        refine ti_putI (ci := 2) (k := 8) (N := 10) (T := TX2) C hw iw_2 tyX2 tyX2_ok nmX2 rfl ob_12 (by decide) (by decide) fl_X4_135 rfl rfl rfl rfl (fn_2 A _) fs_2_8 dX4_readMan_185 (fun H locs hw => ?_)
        obtain ⟨M_148, hM_148⟩ : ∃ z : ti_M, z = uI M_142 (ti_men t x_1.toNatClampNeg) 8 1 := ⟨_, rfl⟩
        have hw := hw.to hM_148.symm
        have iM_148 : cI Tc M_148 := cI_uI iM_142 hM_148 ob_12.1 trivial
        have hs_149 := rC_m8x (j := x_1.toNatClampNeg) ht hM_148 hs_143
        have lM_148_0 : g_140 0 = (tI M_148 2 4).toInt := hs_149.2.1.1
        have lM_148_1 : g_140 1 = (tI M_148 2 6).toInt := hs_149.2.1.2.1
        have lM_148_4 : g_140 4 = (tI M_148 1 4).toInt := hs_149.2.2.1.1
        have lM_148_7 : g_140 7 = (tI M_148 t 4).toInt := hs_149.2.2.2.1.1
        have lM_148_8 : g_140 8 = (tI M_148 t 5).toInt := hs_149.2.2.2.1.2.1
        have tq_150 : tq t (pp_su d_145 (100 + 16 * x_1.toNatClampNeg + 8) 1) M_148 := tq_m ht (i_nt (x := x_1) rfl (by omega) (by omega)) tq_144 (by decide : (1 : Int32).toInt = 1) hM_148 (by decide)
        obtain ⟨d_151, ed_151⟩ : ∃ z : Nat → Int, z = pp_su d_145 (100 + 16 * x_1.toNatClampNeg + 8) 1 := ⟨_, rfl⟩
        rw [← ed_151] at tq_150
        refine lv_aload_n hx hb dX4_readMan_188 rfl (lv_at hl 0 rfl) ?_
        refine ti_get (ci := 2) (k := 8) (N := 10) (T := TX2) C hw iw_2 rfl ob_12 (by decide) (by decide) fl_X4_135 rfl rfl dX4_readMan_189 ?_
        refine ti_top (y := 1) (tI_uE hM_148) ?_
        refine sb_if_eq (tgt := 202) hx hb (by decide : (1 : Int32).toInt = 1) dX4_readMan_192 (by decide) (fun h => absurd h (by decide)) (fun c_192_151 => ?_)
        refine lv_aload_n hx hb dX4_readMan_195 rfl (lv_at hl 1 rfl) ?_
        refine ti_get (ci := 4) (k := 0) (N := 6) (T := TX4) (v := .ref (A 2 0)) C hw iw_4 rfl ob_1 (by decide) (by decide) fl_X4_12 rfl rfl dX4_readMan_196 ?_
        refine ti_callVvE (ci := 7) (av := []) C hE hw (x_X7_advance l D A cy hJ M_148 iM_148 ) ⟨ml_X4_92, ym_X7_advance, yv_X7_advance, yi_X7_advance, yc_X7_advance⟩ yd_X7_advance ob_2 (by decide) rfl rfl hl.1 (Nat.le_of_ble_eq_true rfl) ⟨by decide, by decide⟩ ⟨Nat.zero_le _, Nat.zero_le _⟩ dX4_readMan_199 (fun M_159 H locs hp_159 hw => ?_)
        obtain ⟨iM_159, q_160, q_161, q_162, q_163, p0r_158, p1r_158, p2r_158, p3r_158⟩ := hp_159
        have hs_164 := rC_av ht hs_149 q_163 q_161 p0r_158 p1r_158 p2r_158 p3r_158
        obtain ⟨g_165, eg_165⟩ : ∃ z : Nat → Int, z = pp_av B n g_140 := ⟨_, rfl⟩
        rw [← eg_165] at hs_164
        have lg_165_0 : g_165 0 = (tI M_159 2 4).toInt := hs_164.2.1.1
        have lg_165_1 : g_165 1 = (tI M_159 2 6).toInt := hs_164.2.1.2.1
        have lg_165_4 : g_165 4 = (tI M_159 1 4).toInt := hs_164.2.2.1.1
        have lg_165_7 : g_165 7 = (tI M_159 t 4).toInt := hs_164.2.2.2.1.1
        have lg_165_8 : g_165 8 = (tI M_159 t 5).toInt := hs_164.2.2.2.1.2.1
        have tq_166 : tq t d_151 M_159 := tq_fr ht tq_150 (o2_12 q_161) q_163.1
        refine lv_aload_n hx hb dX4_readMan_202 rfl (lv_at hl 0 rfl) ?_
        refine lv_iconst (v := (-1)) hx hb dX4_readMan_203 (by decide) ?_
        refine ti_putI (ci := 2) (k := 9) (N := 10) (T := TX2) C hw iw_2 tyX2 tyX2_ok nmX2 rfl ob_12 (by decide) (by decide) fl_X4_139 rfl rfl rfl rfl (fn_2 A _) fs_2_9 dX4_readMan_204 (fun H locs hw => ?_)
        obtain ⟨M_179, hM_179⟩ : ∃ z : ti_M, z = uI M_159 (ti_men t x_1.toNatClampNeg) 9 (-1) := ⟨_, rfl⟩
        have hw := hw.to hM_179.symm
        have iM_179 : cI Tc M_179 := cI_uI iM_159 hM_179 ob_12.1 trivial
        have hs_180 := rC_m9 (j := x_1.toNatClampNeg) ht (i_nt (x := x_1) rfl (by omega) (by omega)) hM_179 hs_164
        rw [show ((-1) : Int32).toInt = (-1) by decide] at hs_180
        obtain ⟨g_181, eg_181⟩ : ∃ z : Nat → Int, z = pp_su g_165 (200 + x_1.toNatClampNeg) (-1) := ⟨_, rfl⟩
        rw [← eg_181] at hs_180
        have lg_181_0 : g_181 0 = (tI M_179 2 4).toInt := hs_180.2.1.1
        have lg_181_1 : g_181 1 = (tI M_179 2 6).toInt := hs_180.2.1.2.1
        have lg_181_4 : g_181 4 = (tI M_179 1 4).toInt := hs_180.2.2.1.1
        have lg_181_7 : g_181 7 = (tI M_179 t 4).toInt := hs_180.2.2.2.1.1
        have lg_181_8 : g_181 8 = (tI M_179 t 5).toInt := hs_180.2.2.2.1.2.1
        have tq_183 : tq t d_151 M_179 := tq_m0 ht (i_nt (x := x_1) rfl (by omega) (by omega)) tq_166 hM_179 (by decide)
        refine lv_aload_n hx hb dX4_readMan_207 rfl (lv_at hl 1 rfl) ?_
        refine ti_get (ci := 4) (k := 1) (N := 6) (T := TX4) (v := .ref (A t 0)) C hw iw_4 rfl ob_1 (by decide) (by decide) fl_X4_28 rfl (ti_Tv ((tT_uIE hM_179).trans ((tT_fr q_160).trans ((tT_uIE hM_148).trans ((tT_uIE hM_142).trans ((tT_fr q_136).trans ((tT_uIE hM_130).trans ((tT_fr q_124).trans ((tT_uIE hM_118).trans ((tT_fr q_112).trans ((tT_uIE hM_106).trans ((tT_fr q_100).trans ((tT_uIE hM_94).trans ((tT_fr q_88).trans ((tT_uIE hM_82).trans ((tT_fr q_76).trans ((tT_uIE hM_70).trans ((tT_fr q_64).trans ((tT_fr q_56).trans f_47))))))))))))))))))) dX4_readMan_208 ?_
        refine lv_dup hx hb dX4_readMan_211 rfl ?_
        refine ti_get (ci := 8) (k := 4) (N := 12) (T := TX8) C hw iw_8 rfl (ob_t ht) (by decide) (by decide) fl_X4_98 rfl rfl dX4_readMan_212 ?_
        refine ti_top (y := x_1) ((tI_nE hM_179 (nk (by decide))).trans (((o2_12 q_161) t 4 (cls_ne (ob_t ht).1 ob_1.1 (by decide)) (cls_ne (ob_t ht).1 ob_2.1 (by decide))).trans ((tI_nE hM_148 (nk (by decide))).trans ((tI_nE hM_142 (nk (by decide))).trans ((q_137 t 4 (cls_ne (ob_t ht).1 ob_1.1 (by decide)) (cls_ne (ob_t ht).1 ob_2.1 (by decide))).trans ((tI_nE hM_130 (nk (by decide))).trans ((q_125 t 4 (cls_ne (ob_t ht).1 ob_1.1 (by decide)) (cls_ne (ob_t ht).1 ob_2.1 (by decide))).trans ((tI_nE hM_118 (nk (by decide))).trans ((q_113 t 4 (cls_ne (ob_t ht).1 ob_1.1 (by decide)) (cls_ne (ob_t ht).1 ob_2.1 (by decide))).trans ((tI_nE hM_106 (no (cls_ne (ob_t ht).1 ob_12.1 (by decide)))).trans ((q_101 t 4 (cls_ne (ob_t ht).1 ob_1.1 (by decide)) (cls_ne (ob_t ht).1 ob_2.1 (by decide))).trans ((tI_nE hM_94 (nk (by decide))).trans ((q_89 t 4 (cls_ne (ob_t ht).1 ob_1.1 (by decide)) (cls_ne (ob_t ht).1 ob_2.1 (by decide))).trans ((tI_nE hM_82 (nk (by decide))).trans ((q_77 t 4 (cls_ne (ob_t ht).1 ob_1.1 (by decide)) (cls_ne (ob_t ht).1 ob_2.1 (by decide))).trans ((tI_nE hM_70 (nk (by decide))).trans ((q_65 t 4 (cls_ne (ob_t ht).1 ob_1.1 (by decide)) (cls_ne (ob_t ht).1 ob_2.1 (by decide))).trans ((q_57 t 4 (cls_ne (ob_t ht).1 ob_1.1 (by decide)) (cls_ne (ob_t ht).1 ob_2.1 (by decide))).trans f_46)))))))))))))))))) ?_
        have u_184 : (tI M_179 t 4).toInt = (x_1 : Int32).toInt := by rw [((tI_nE hM_179 (nk (by decide))).trans (((o2_12 q_161) t 4 (cls_ne (ob_t ht).1 ob_1.1 (by decide)) (cls_ne (ob_t ht).1 ob_2.1 (by decide))).trans ((tI_nE hM_148 (nk (by decide))).trans ((tI_nE hM_142 (nk (by decide))).trans ((q_137 t 4 (cls_ne (ob_t ht).1 ob_1.1 (by decide)) (cls_ne (ob_t ht).1 ob_2.1 (by decide))).trans ((tI_nE hM_130 (nk (by decide))).trans ((q_125 t 4 (cls_ne (ob_t ht).1 ob_1.1 (by decide)) (cls_ne (ob_t ht).1 ob_2.1 (by decide))).trans ((tI_nE hM_118 (nk (by decide))).trans ((q_113 t 4 (cls_ne (ob_t ht).1 ob_1.1 (by decide)) (cls_ne (ob_t ht).1 ob_2.1 (by decide))).trans ((tI_nE hM_106 (no (cls_ne (ob_t ht).1 ob_12.1 (by decide)))).trans ((q_101 t 4 (cls_ne (ob_t ht).1 ob_1.1 (by decide)) (cls_ne (ob_t ht).1 ob_2.1 (by decide))).trans ((tI_nE hM_94 (nk (by decide))).trans ((q_89 t 4 (cls_ne (ob_t ht).1 ob_1.1 (by decide)) (cls_ne (ob_t ht).1 ob_2.1 (by decide))).trans ((tI_nE hM_82 (nk (by decide))).trans ((q_77 t 4 (cls_ne (ob_t ht).1 ob_1.1 (by decide)) (cls_ne (ob_t ht).1 ob_2.1 (by decide))).trans ((tI_nE hM_70 (nk (by decide))).trans ((q_65 t 4 (cls_ne (ob_t ht).1 ob_1.1 (by decide)) (cls_ne (ob_t ht).1 ob_2.1 (by decide))).trans ((q_57 t 4 (cls_ne (ob_t ht).1 ob_1.1 (by decide)) (cls_ne (ob_t ht).1 ob_2.1 (by decide))).trans f_46))))))))))))))))))]
        refine lv_iconst (v := 1) hx hb dX4_readMan_215 (by decide) ?_
        refine lv_iadd hx hb dX4_readMan_216 ?_
        refine lv_topi (fun x_185 ex_185 => ?_)
        have lox_185x_1 := x_1.le_toInt
        have hix_185x_1 := x_1.toInt_lt
        have tx_185 : x_185.toInt = x_1.toInt + 1 := i_add ex_185 rfl (by decide : (1 : Int32).toInt = 1) (by omega) (by omega)
        refine ti_putI (ci := 8) (k := 4) (N := 12) (T := TX8) C hw iw_8 tyX8 tyX8_ok nmX8 rfl (ob_t ht) (by decide) (by decide) fl_X4_98 rfl rfl rfl rfl (fn_8 A _) fs_8_4 dX4_readMan_217 (fun H locs hw => ?_)
        obtain ⟨M_186, hM_186⟩ : ∃ z : ti_M, z = uI M_179 t 4 x_185 := ⟨_, rfl⟩
        have hw := hw.to hM_186.symm
        have iM_186 : cI Tc M_186 := cI_uI iM_179 hM_186 (ob_t ht).1 (ib_mk (lo := 0) (hi := 8) (by omega) (by omega))
        have vM_186 : (tI M_186 t 4).toInt = (x_185 : Int32).toInt := by rw [tI_uE hM_186]
        have hs_187 := rC_t4 ht hM_186 hs_180
        obtain ⟨g_188, eg_188⟩ : ∃ z : Nat → Int, z = pp_su g_181 7 x_185.toInt := ⟨_, rfl⟩
        rw [← eg_188] at hs_187
        have lg_188_0 : g_188 0 = (tI M_186 2 4).toInt := hs_187.2.1.1
        have lg_188_1 : g_188 1 = (tI M_186 2 6).toInt := hs_187.2.1.2.1
        have lg_188_4 : g_188 4 = (tI M_186 1 4).toInt := hs_187.2.2.1.1
        have lg_188_7 : g_188 7 = (tI M_186 t 4).toInt := hs_187.2.2.2.1.1
        have lg_188_8 : g_188 8 = (tI M_186 t 5).toInt := hs_187.2.2.2.1.2.1
        have tq_190 : tq t d_151 M_186 := tq_t0 ht tq_183 hM_186 (by decide)
        have h47 : g_165 7 = x_1.toInt := by rw [hs_164.2.2.2.1.1, (((o2_12 q_161) t 4 (cls_ne (ob_t ht).1 ob_1.1 (by decide)) (cls_ne (ob_t ht).1 ob_2.1 (by decide))).trans ((tI_nE hM_148 (nk (by decide))).trans ((tI_nE hM_142 (nk (by decide))).trans ((q_137 t 4 (cls_ne (ob_t ht).1 ob_1.1 (by decide)) (cls_ne (ob_t ht).1 ob_2.1 (by decide))).trans ((tI_nE hM_130 (nk (by decide))).trans ((q_125 t 4 (cls_ne (ob_t ht).1 ob_1.1 (by decide)) (cls_ne (ob_t ht).1 ob_2.1 (by decide))).trans ((tI_nE hM_118 (nk (by decide))).trans ((q_113 t 4 (cls_ne (ob_t ht).1 ob_1.1 (by decide)) (cls_ne (ob_t ht).1 ob_2.1 (by decide))).trans ((tI_nE hM_106 (no (cls_ne (ob_t ht).1 ob_12.1 (by decide)))).trans ((q_101 t 4 (cls_ne (ob_t ht).1 ob_1.1 (by decide)) (cls_ne (ob_t ht).1 ob_2.1 (by decide))).trans ((tI_nE hM_94 (nk (by decide))).trans ((q_89 t 4 (cls_ne (ob_t ht).1 ob_1.1 (by decide)) (cls_ne (ob_t ht).1 ob_2.1 (by decide))).trans ((tI_nE hM_82 (nk (by decide))).trans ((q_77 t 4 (cls_ne (ob_t ht).1 ob_1.1 (by decide)) (cls_ne (ob_t ht).1 ob_2.1 (by decide))).trans ((tI_nE hM_70 (nk (by decide))).trans ((q_65 t 4 (cls_ne (ob_t ht).1 ob_1.1 (by decide)) (cls_ne (ob_t ht).1 ob_2.1 (by decide))).trans ((q_57 t 4 (cls_ne (ob_t ht).1 ob_1.1 (by decide)) (cls_ne (ob_t ht).1 ob_2.1 (by decide))).trans f_46)))))))))))))))))]
        have E1 : pp_m1 B n rg = g_25 := by unfold pp_m1; rw [← eg_20, show (rg 7).toNat = x_1.toNatClampNeg by (show (rg 7).toNat = x_1.toInt.toNat; omega), show g_20 1 = x_22.toInt by omega, ← eg_25]
        have E3 : pp_m3 B n g_48 = g_140 := by unfold pp_m3; rw [← eg_60, ← eg_68, ← eg_80, ← eg_92, ← eg_104, ← eg_116, ← eg_128, ← eg_140]
        have E4 : pp_m4 B n g_140 = g_165 := by unfold pp_m4; rw [if_pos (by omega), ← eg_165]
        have E5 : pp_m5 g_165 = g_188 := by unfold pp_m5; rw [show (g_165 7).toNat = x_1.toNatClampNeg by (show (g_165 7).toNat = x_1.toInt.toNat; omega), show g_165 7 + 1 = x_185.toInt by omega, ← eg_181, ← eg_188]
        have ET : qq_mn B n rg d_50 = d_151 := by unfold qq_mn; rw [if_pos (by omega), E1, j_52, E3, ← eg_60]; unfold qq_m3 qq_m4; rw [show (rg 7).toNat = x_1.toNatClampNeg by (show (rg 7).toNat = x_1.toInt.toNat; omega), ← eg_68, ← eg_80, ← eg_92, ← eg_104, ← eg_116, ← eg_128, ← p0r_62, ← p0r_74, ← p0r_86, ← p0r_98, ← p0r_110, ← p0r_122, ← p0r_134, if_pos (by omega), ← ed_73, ← ed_85, ← ed_97, ← ed_109, ← ed_121, ← ed_133, ← ed_145, ← ed_151]
        exact hQ _ _ _ _ _ hw (⟨iM_186, ((rf_I hM_186).trans ((rf_I hM_179).trans ((q_160).trans ((rf_I hM_148).trans ((rf_I hM_142).trans ((q_136).trans ((rf_I hM_130).trans ((q_124).trans ((rf_I hM_118).trans ((q_112).trans ((rf_I hM_106).trans ((q_100).trans ((rf_I hM_94).trans ((q_88).trans ((rf_I hM_82).trans ((q_76).trans ((rf_I hM_70).trans ((q_64).trans ((q_56).trans f_42))))))))))))))))))), (f0.trans (f0_I hM_186 (f0n (ob_t ht).1 (by decide))) (f0.trans (f0_I hM_179 (f0n ob_12.1 (by decide))) (f0.trans (f0_12 (o2_12 q_161)) (f0.trans (f0_I hM_148 (f0n ob_12.1 (by decide))) (f0.trans (f0_I hM_142 (f0n ob_12.1 (by decide))) (f0.trans (f0_12 q_137) (f0.trans (f0_I hM_130 (f0n ob_12.1 (by decide))) (f0.trans (f0_12 q_125) (f0.trans (f0_I hM_118 (f0n ob_12.1 (by decide))) (f0.trans (f0_12 q_113) (f0.trans (f0_I hM_106 (f0n ob_12.1 (by decide))) (f0.trans (f0_12 q_101) (f0.trans (f0_I hM_94 (f0n ob_12.1 (by decide))) (f0.trans (f0_12 q_89) (f0.trans (f0_I hM_82 (f0n ob_12.1 (by decide))) (f0.trans (f0_12 q_77) (f0.trans (f0_I hM_70 (f0n ob_12.1 (by decide))) (f0.trans (f0_12 q_65) (f0.trans (f0_12 q_57) f_43))))))))))))))))))), ((tI_nE hM_186 (nk (by decide))).trans ((tI_nE hM_179 (nk (by decide))).trans ((q_162).trans ((tI_nE hM_148 (nk (by decide))).trans ((tI_nE hM_142 (nk (by decide))).trans ((q_138).trans ((tI_nE hM_130 (nk (by decide))).trans ((q_126).trans ((tI_nE hM_118 (nk (by decide))).trans ((q_114).trans ((tI_nE hM_106 (nk (by decide))).trans ((q_102).trans ((tI_nE hM_94 (nk (by decide))).trans ((q_90).trans ((tI_nE hM_82 (nk (by decide))).trans ((q_78).trans ((tI_nE hM_70 (no (cls_ne ob_2.1 ob_12.1 (by decide)))).trans ((q_66).trans ((q_58).trans f_44))))))))))))))))))), (ot.trans (ot_I ht hM_186 (by omega)) (ot.trans (ot_m ht (i_nt (x := x_1) rfl (by omega) (by omega)) hM_179) (ot.trans (ot_12 ht (o2_12 q_161) q_163.1) (ot.trans (ot_m ht (i_nt (x := x_1) rfl (by omega) (by omega)) hM_148) (ot.trans (ot_m ht (i_nt (x := x_1) rfl (by omega) (by omega)) hM_142) (ot.trans (ot_12 ht q_137 q_139) (ot.trans (ot_m ht (i_nt (x := x_1) rfl (by omega) (by omega)) hM_130) (ot.trans (ot_12 ht q_125 q_127) (ot.trans (ot_m ht (i_nt (x := x_1) rfl (by omega) (by omega)) hM_118) (ot.trans (ot_12 ht q_113 q_115) (ot.trans (ot_m ht (i_nt (x := x_1) rfl (by omega) (by omega)) hM_106) (ot.trans (ot_12 ht q_101 q_103) (ot.trans (ot_m ht (i_nt (x := x_1) rfl (by omega) (by omega)) hM_94) (ot.trans (ot_12 ht q_89 q_91) (ot.trans (ot_m ht (i_nt (x := x_1) rfl (by omega) (by omega)) hM_82) (ot.trans (ot_12 ht q_77 q_79) (ot.trans (ot_m ht (i_nt (x := x_1) rfl (by omega) (by omega)) hM_70) (ot.trans (ot_12 ht q_65 q_67) (ot.trans (ot_12 ht q_57 q_59) f_45))))))))))))))))))), (by unfold pp_mn; rw [if_pos (by omega), E1, j_52, E3, E4, E5]; exact hs_187), (by rw [show td = d_50 from j_53, ET]; exact tq_190)⟩) dX4_readMan_220
    refine sb_icmp_ne (tgt := 84) hx hb rfl (by decide : (25 : Int32).toInt = 25) dX4_readMan_61 (by decide) (fun c_61_28 => ?_) (fun c_61_28 => ?_)
    · exact hj_84_53 M_23 g_25 td _ _ _ iM_23 ((rf_I hM_23).trans q_15) (f0.trans (f0_I hM_23 (f0n ob_12.1 (by decide))) (f0_12 (o2_12 q_16))) ((tI_nE hM_23 (nk (by decide))).trans q_17) (ot.trans (ot_m ht (i_nt (x := x_1) rfl (by omega) (by omega)) hM_23) (ot_12 ht (o2_12 q_16) q_18.1)) ((tI_nE hM_23 (nk (by decide))).trans (((o2_12 q_16) t 4 (cls_ne (ob_t ht).1 ob_1.1 (by decide)) (cls_ne (ob_t ht).1 ob_2.1 (by decide))).trans ex_1.symm)) ((tT_uIE hM_23).trans ((tT_fr q_15).trans hT)) hs_24 tq_27 (by unfold pp_m2; rw [if_neg (fun q => absurd q.1 (by omega))]) rfl hw (lv_sub hl [0, 1] rfl)
    · refine lv_aload_n hx hb dX4_readMan_64 rfl (lv_at hl 1 rfl) ?_
      refine ti_get (ci := 4) (k := 1) (N := 6) (T := TX4) (v := .ref (A t 0)) C hw iw_4 rfl ob_1 (by decide) (by decide) fl_X4_28 rfl (ti_Tv ((tT_uIE hM_23).trans ((tT_fr q_15).trans hT))) dX4_readMan_65 ?_
      refine lv_aload_n hx hb dX4_readMan_68 rfl (lv_at hl 0 rfl) ?_
      refine ti_get (ci := 2) (k := 0) (N := 10) (T := TX2) C hw iw_2 rfl ob_12 (by decide) (by decide) fl_X4_105 rfl rfl dX4_readMan_69 ?_
      refine ti_top (y := x_22) (tI_uE hM_23) ?_
      refine ti_callVi (ci := 8) (av := [.int x_22]) C hw (x_X8_find l D A cy hJ M_23 iM_23 t ht x_22 B n g_25 hs_24) ⟨ml_X4_110, ym_X8_find, yv_X8_find, yi_X8_find, yc_X8_find⟩ yd_X8_find (ob_t ht) (by decide) rfl rfl hl.1 (Nat.le_of_ble_eq_true rfl) ⟨by decide, by decide⟩ ⟨Nat.zero_le _, Nat.zero_le _⟩ dX4_readMan_72 (fun r_30 M_31 H locs hp_31 hw => ?_)
      obtain ⟨hm, b0r_30, b1r_30, p0r_30⟩ := hp_31
      have hw := hw.to hm
      refine lv_iconst (v := (-1)) hx hb dX4_readMan_75 (by decide) ?_
      refine sb_icmp_eq (tgt := 84) hx hb rfl (by decide : ((-1) : Int32).toInt = (-1)) dX4_readMan_76 (by decide) (fun c_76_31 => ?_) (fun c_76_31 => ?_)
      · exact hj_84_53 M_23 g_25 td _ _ _ iM_23 ((rf_I hM_23).trans q_15) (f0.trans (f0_I hM_23 (f0n ob_12.1 (by decide))) (f0_12 (o2_12 q_16))) ((tI_nE hM_23 (nk (by decide))).trans q_17) (ot.trans (ot_m ht (i_nt (x := x_1) rfl (by omega) (by omega)) hM_23) (ot_12 ht (o2_12 q_16) q_18.1)) ((tI_nE hM_23 (nk (by decide))).trans (((o2_12 q_16) t 4 (cls_ne (ob_t ht).1 ob_1.1 (by decide)) (cls_ne (ob_t ht).1 ob_2.1 (by decide))).trans ex_1.symm)) ((tT_uIE hM_23).trans ((tT_fr q_15).trans hT)) hs_24 tq_27 (by unfold pp_m2; rw [if_neg (fun q => q.2 (by rw [show pp_fd g_25 (g_25 1) 0 = r_30.toInt by (rw [show g_25 1 = x_22.toInt by omega]; exact p0r_30.symm)]; omega))]) rfl hw (lv_sub hl [0, 1] rfl)
      · refine lv_aload_n hx hb dX4_readMan_79 rfl (lv_at hl 1 rfl) ?_
        refine lv_iconst (v := 3) hx hb dX4_readMan_80 (by decide) ?_
        refine ti_callVv (ci := 4) (av := [.int 3]) C hw (x_X4_refuse l D A cy hJ M_23 iM_23 t ht 3 B n g_25 hs_24) ⟨ml_X4_82, ym_X4_refuse, yv_X4_refuse, yi_X4_refuse, yc_X4_refuse⟩ yd_X4_refuse ob_1 (by decide) rfl rfl hl.1 (Nat.le_of_ble_eq_true rfl) ⟨by decide, by decide⟩ ⟨Nat.zero_le _, Nat.zero_le _⟩ dX4_readMan_81 (fun M_34 H locs hp_34 hw => ?_)
        obtain ⟨iM_34, q_35, q_36, q_37, q_38, p0r_33⟩ := hp_34
        have hlr_33_3 : (3 : Int32).toInt = 3 := by decide
        simp only [hlr_33_3] at p0r_33
        obtain ⟨g_39, eg_39⟩ : ∃ z : Nat → Int, z = pp_rf 3 g_25 := ⟨_, rfl⟩
        rw [← eg_39] at p0r_33
        have lg_39_0 : g_39 0 = (tI M_34 2 4).toInt := p0r_33.2.1.1
        have lg_39_1 : g_39 1 = (tI M_34 2 6).toInt := p0r_33.2.1.2.1
        have lg_39_4 : g_39 4 = (tI M_34 1 4).toInt := p0r_33.2.2.1.1
        have lg_39_7 : g_39 7 = (tI M_34 t 4).toInt := p0r_33.2.2.2.1.1
        have lg_39_8 : g_39 8 = (tI M_34 t 5).toInt := p0r_33.2.2.2.1.2.1
        have tq_40 : tq t td M_34 := tq_fr ht tq_27 q_36 q_38
        exact hj_84_53 M_34 g_39 td _ _ _ iM_34 ((q_35).trans ((rf_I hM_23).trans q_15)) (f0.trans (f0_12 q_36) (f0.trans (f0_I hM_23 (f0n ob_12.1 (by decide))) (f0_12 (o2_12 q_16)))) ((q_37).trans ((tI_nE hM_23 (nk (by decide))).trans q_17)) (ot.trans (ot_12 ht q_36 q_38) (ot.trans (ot_m ht (i_nt (x := x_1) rfl (by omega) (by omega)) hM_23) (ot_12 ht (o2_12 q_16) q_18.1))) ((q_36 t 4 (cls_ne (ob_t ht).1 ob_1.1 (by decide)) (cls_ne (ob_t ht).1 ob_2.1 (by decide))).trans ((tI_nE hM_23 (nk (by decide))).trans (((o2_12 q_16) t 4 (cls_ne (ob_t ht).1 ob_1.1 (by decide)) (cls_ne (ob_t ht).1 ob_2.1 (by decide))).trans ex_1.symm))) ((tT_fr q_35).trans ((tT_uIE hM_23).trans ((tT_fr q_15).trans hT))) p0r_33 tq_40 (by unfold pp_m2; rw [if_pos ⟨by omega, by rw [show pp_fd g_25 (g_25 1) 0 = r_30.toInt by (rw [show g_25 1 = x_22.toInt by omega]; exact p0r_30.symm)]; omega⟩, ← eg_39]) rfl hw (lv_sub hl [0, 1] rfl)
  · refine lv_aload_n hx hb dX4_readMan_12 rfl (lv_at hl 0 rfl) ?_
    refine lv_iconst (v := 2) hx hb dX4_readMan_13 (by decide) ?_
    refine ti_callVv (ci := 4) (av := [.int 2]) C hw (x_X4_refuse l D A cy hJ M hI t ht 2 B n rg hr) ⟨ml_X4_82, ym_X4_refuse, yv_X4_refuse, yi_X4_refuse, yc_X4_refuse⟩ yd_X4_refuse ob_1 (by decide) rfl rfl hl.1 (Nat.le_of_ble_eq_true rfl) ⟨by decide, by decide⟩ ⟨Nat.zero_le _, Nat.zero_le _⟩ dX4_readMan_14 (fun M_4 H locs hp_4 hw => ?_)
    obtain ⟨iM_4, q_5, q_6, q_7, q_8, p0r_3⟩ := hp_4
    have hlr_3_2 : (2 : Int32).toInt = 2 := by decide
    simp only [hlr_3_2] at p0r_3
    obtain ⟨g_9, eg_9⟩ : ∃ z : Nat → Int, z = pp_rf 2 rg := ⟨_, rfl⟩
    rw [← eg_9] at p0r_3
    have lg_9_0 : g_9 0 = (tI M_4 2 4).toInt := p0r_3.2.1.1
    have lg_9_1 : g_9 1 = (tI M_4 2 6).toInt := p0r_3.2.1.2.1
    have lg_9_4 : g_9 4 = (tI M_4 1 4).toInt := p0r_3.2.2.1.1
    have lg_9_7 : g_9 7 = (tI M_4 t 4).toInt := p0r_3.2.2.2.1.1
    have lg_9_8 : g_9 8 = (tI M_4 t 5).toInt := p0r_3.2.2.2.1.2.1
    have tq_10 : tq t td M_4 := tq_fr ht hq q_6 q_8
    exact hQ _ _ _ _ _ hw (⟨iM_4, (q_5), (f0_12 q_6), (q_7), (ot_12 ht q_6 q_8), (by unfold pp_mn; rw [if_neg (by omega), ← eg_9]; exact p0r_3), (by unfold qq_mn; rw [if_neg (by omega)]; exact tq_10)⟩) dX4_readMan_17
set_option maxHeartbeats 4000000 in
set_option maxRecDepth 100000 in
theorem x_X4_readPower (l : Launch) (D : va_G) (A : Nat → Nat → Nat) (cy : Nat → ClassId) (hJ : ti_inj ti_LT A) (M : ti_M) (hI : cI Tc M) (t : Nat) (ht : t = 3 ∨ t = 4) (hT : tT M 1 1 = some t) (B : Nat → Int) (n : Nat) (rg : Nat → Int) (hr : rC B n t rg M) (td : Nat → Int) (hq : tq t td M) : ti_KvE l yX4_readPower cX4_readPower 2 8 ti_LT D A cy M [.ref (A 1 0)] (fun M2 => cI Tc M2 ∧ M2.2.2.2 = M.2.2.2 ∧ f0 M2 M ∧ tI M2 2 1 = tI M 2 1 ∧ ot t M2 M ∧ rC B n t (pp_pw B n rg) M2 ∧ tq t (qq_pw B n rg td) M2) := by
  refine ti_eVE yp_X4_readPower hJ ti_LT_nd (Nat.le_of_ble_eq_true rfl) ?_
  intro p e s m args below meth c Q H0 C hE hQ hw ls hl
  have hx := C.1
  have hb := C.2.1
  have hl : lv_has ls 2 [(0, .ref (A 1 0))] := hl
  have l0 : rg 0 = (tI M 2 4).toInt := hr.2.1.1
  have l1 : rg 1 = (tI M 2 6).toInt := hr.2.1.2.1
  have l2 : rg 2 = (tI M 2 5).toInt := hr.2.1.2.2.1
  have l3 : rg 3 = (tI M 2 3).toInt := hr.2.1.2.2.2
  have l4 : rg 4 = (tI M 1 4).toInt := hr.2.2.1.1
  have l5 : rg 5 = (tI M 1 5).toInt := hr.2.2.1.2.1
  have l7 : rg 7 = (tI M t 4).toInt := hr.2.2.2.1.1
  have l8 : rg 8 = (tI M t 5).toInt := hr.2.2.2.1.2.1
  have l9 : rg 9 = (tI M t 3).toInt := hr.2.2.2.1.2.2
  refine lv_aload_n hx hb dX4_readPower_0 rfl (lv_at hl 0 rfl) ?_
  refine ti_get (ci := 4) (k := 0) (N := 6) (T := TX4) (v := .ref (A 2 0)) C hw iw_4 rfl ob_1 (by decide) (by decide) fl_X4_12 rfl rfl dX4_readPower_1 ?_
  refine ti_callVvE (ci := 7) (av := []) C hE hw (x_X7_advance l D A cy hJ M hI ) ⟨ml_X4_92, ym_X7_advance, yv_X7_advance, yi_X7_advance, yc_X7_advance⟩ yd_X7_advance ob_2 (by decide) rfl rfl hl.1 (Nat.le_of_ble_eq_true rfl) ⟨by decide, by decide⟩ ⟨Nat.zero_le _, Nat.zero_le _⟩ dX4_readPower_4 (fun M_2 H locs hp_2 hw => ?_)
  obtain ⟨iM_2, q_3, q_4, q_5, q_6, p0r_1, p1r_1, p2r_1, p3r_1⟩ := hp_2
  have hs_7 := rC_av ht hr q_6 q_4 p0r_1 p1r_1 p2r_1 p3r_1
  obtain ⟨g_8, eg_8⟩ : ∃ z : Nat → Int, z = pp_av B n rg := ⟨_, rfl⟩
  rw [← eg_8] at hs_7
  have lg_8_0 : g_8 0 = (tI M_2 2 4).toInt := hs_7.2.1.1
  have lg_8_1 : g_8 1 = (tI M_2 2 6).toInt := hs_7.2.1.2.1
  have lg_8_4 : g_8 4 = (tI M_2 1 4).toInt := hs_7.2.2.1.1
  have lg_8_7 : g_8 7 = (tI M_2 t 4).toInt := hs_7.2.2.2.1.1
  have lg_8_8 : g_8 8 = (tI M_2 t 5).toInt := hs_7.2.2.2.1.2.1
  have tq_9 : tq t td M_2 := tq_fr ht hq (o2_12 q_4) q_6.1
  refine lv_aload_n hx hb dX4_readPower_7 rfl (lv_at hl 0 rfl) ?_
  refine ti_get (ci := 4) (k := 0) (N := 6) (T := TX4) (v := .ref (A 2 0)) C hw iw_4 rfl ob_1 (by decide) (by decide) fl_X4_12 rfl rfl dX4_readPower_8 ?_
  refine ti_get (ci := 7) (k := 4) (N := 7) (T := TX7) C hw iw_7 rfl ob_2 (by decide) (by decide) fl_X4_41 rfl rfl dX4_readPower_11 ?_
  refine lv_topi (fun x_10 ex_10 => ?_)
  have bx_10 : 0 ≤ x_10.toInt ∧ x_10.toInt ≤ 41 := cI_rd iM_2 ob_2.1 ex_10
  have ux_10 : (tI M_2 2 4).toInt = x_10.toInt := by rw [ex_10]
  refine lv_istore_n (lv' := [(1, .int x_10), (0, .ref (A 1 0))]) hx hb dX4_readPower_14 rfl hl (by decide) rfl (fun ls hl => ?_)
  refine lv_iload_n hx hb dX4_readPower_15 rfl (lv_at hl 0 rfl) ?_
  refine lv_bipush (v := 9) hx hb dX4_readPower_16 (by decide) ?_
  refine sb_icmp_lt (tgt := 27) hx hb rfl (by decide : (9 : Int32).toInt = 9) dX4_readPower_18 (by decide) (fun c_18_10 => ?_) (fun c_18_10 => ?_)
  · refine lv_aload_n hx hb dX4_readPower_27 rfl (lv_at hl 1 rfl) ?_
    refine lv_iconst (v := 1) hx hb dX4_readPower_28 (by decide) ?_
    refine ti_callVv (ci := 4) (av := [.int 1]) C hw (x_X4_refuse l D A cy hJ M_2 iM_2 t ht 1 B n g_8 hs_7) ⟨ml_X4_82, ym_X4_refuse, yv_X4_refuse, yi_X4_refuse, yc_X4_refuse⟩ yd_X4_refuse ob_1 (by decide) rfl rfl hl.1 (Nat.le_of_ble_eq_true rfl) ⟨by decide, by decide⟩ ⟨Nat.zero_le _, Nat.zero_le _⟩ dX4_readPower_29 (fun M_14 H locs hp_14 hw => ?_)
    obtain ⟨iM_14, q_15, q_16, q_17, q_18, p0r_13⟩ := hp_14
    have hlr_13_1 : (1 : Int32).toInt = 1 := by decide
    simp only [hlr_13_1] at p0r_13
    obtain ⟨g_19, eg_19⟩ : ∃ z : Nat → Int, z = pp_rf 1 g_8 := ⟨_, rfl⟩
    rw [← eg_19] at p0r_13
    have lg_19_0 : g_19 0 = (tI M_14 2 4).toInt := p0r_13.2.1.1
    have lg_19_1 : g_19 1 = (tI M_14 2 6).toInt := p0r_13.2.1.2.1
    have lg_19_4 : g_19 4 = (tI M_14 1 4).toInt := p0r_13.2.2.1.1
    have lg_19_7 : g_19 7 = (tI M_14 t 4).toInt := p0r_13.2.2.2.1.1
    have lg_19_8 : g_19 8 = (tI M_14 t 5).toInt := p0r_13.2.2.2.1.2.1
    have tq_20 : tq t td M_14 := tq_fr ht tq_9 q_16 q_18
    exact hQ _ _ _ _ _ hw (⟨iM_14, ((q_15).trans q_3), (f0.trans (f0_12 q_16) (f0_12 (o2_12 q_4))), ((q_17).trans q_5), (ot.trans (ot_12 ht q_16 q_18) (ot_12 ht (o2_12 q_4) q_6.1)), (by unfold pp_pw; rw [← eg_8, if_neg (fun q => by omega), ← eg_19]; exact p0r_13), (by unfold qq_pw; rw [← eg_8, if_neg (fun q => by omega)]; exact tq_20)⟩) dX4_readPower_32
  · refine lv_iload_n hx hb dX4_readPower_21 rfl (lv_at hl 0 rfl) ?_
    refine lv_bipush (v := 11) hx hb dX4_readPower_22 (by decide) ?_
    refine sb_icmp_le (tgt := 33) hx hb rfl (by decide : (11 : Int32).toInt = 11) dX4_readPower_24 (by decide) (fun c_24_11 => ?_) (fun c_24_11 => ?_)
    · refine lv_aload_n hx hb dX4_readPower_33 rfl (lv_at hl 1 rfl) ?_
      refine ti_callVvE (ci := 4) (av := []) C hE hw (x_X4_once l D A cy hJ M_2 iM_2 t ht B n g_8 hs_7 (by omega)) ⟨ml_X4_53, ym_X4_once, yv_X4_once, yi_X4_once, yc_X4_once⟩ yd_X4_once ob_1 (by decide) rfl rfl hl.1 (Nat.le_of_ble_eq_true rfl) ⟨by decide, by decide⟩ ⟨Nat.zero_le _, Nat.zero_le _⟩ dX4_readPower_34 (fun M_30 H locs hp_30 hw => ?_)
      obtain ⟨iM_30, q_31, q_32, q_33, q_34, p0r_29⟩ := hp_30
      obtain ⟨g_35, eg_35⟩ : ∃ z : Nat → Int, z = pp_on B n g_8 := ⟨_, rfl⟩
      rw [← eg_35] at p0r_29
      have lg_35_0 : g_35 0 = (tI M_30 2 4).toInt := p0r_29.2.1.1
      have lg_35_1 : g_35 1 = (tI M_30 2 6).toInt := p0r_29.2.1.2.1
      have lg_35_4 : g_35 4 = (tI M_30 1 4).toInt := p0r_29.2.2.1.1
      have lg_35_7 : g_35 7 = (tI M_30 t 4).toInt := p0r_29.2.2.2.1.1
      have lg_35_8 : g_35 8 = (tI M_30 t 5).toInt := p0r_29.2.2.2.1.2.1
      have tq_36 : tq t td M_30 := tq_fr ht tq_9 q_32 q_34
      refine lv_aload_n hx hb dX4_readPower_37 rfl (lv_at hl 1 rfl) ?_
      refine ti_get (ci := 4) (k := 1) (N := 6) (T := TX4) (v := .ref (A t 0)) C hw iw_4 rfl ob_1 (by decide) (by decide) fl_X4_28 rfl (ti_Tv ((tT_fr q_31).trans ((tT_fr q_3).trans hT))) dX4_readPower_38 ?_
      refine ti_get (ci := 8) (k := 1) (N := 12) (T := TX8) (v := .ref (A t 2)) C hw iw_8 rfl (ob_t ht) (by decide) (by decide) fl_X4_146 rfl rfl dX4_readPower_41 ?_
      refine lv_iload_n hx hb dX4_readPower_44 rfl (lv_at hl 0 rfl) ?_
      refine lv_bipush (v := 9) hx hb dX4_readPower_45 (by decide) ?_
      refine lv_isub hx hb dX4_readPower_47 ?_
      refine lv_topi (fun x_37 ex_37 => ?_)
      have tx_37 : x_37.toInt = x_10.toInt - 9 := i_sub ex_37 rfl (by decide : (9 : Int32).toInt = 9) (by omega) (by omega)
      refine lv_aload_n hx hb dX4_readPower_48 rfl (lv_at hl 1 rfl) ?_
      refine lv_iconst (v := 0) hx hb dX4_readPower_49 (by decide) ?_
      refine lv_bipush (v := 7) hx hb dX4_readPower_50 (by decide) ?_
      refine ti_callViE (ci := 4) (av := [.int 0, .int 7]) C hE hw (x_X4_number l D A cy hJ M_30 iM_30 t ht 0 7 B n g_35 p0r_29) ⟨ml_X4_56, ym_X4_number, yv_X4_number, yi_X4_number, yc_X4_number⟩ yd_X4_number ob_1 (by decide) rfl rfl hl.1 (Nat.le_of_ble_eq_true rfl) ⟨by decide, by decide⟩ ⟨Nat.zero_le _, Nat.zero_le _⟩ dX4_readPower_52 (fun r_38 M_39 H locs hp_39 hw => ?_)
      obtain ⟨iM_39, q_40, q_41, q_42, q_43, p0r_38, p1r_38⟩ := hp_39
      have hlr_38_0 : (0 : Int32).toInt = 0 := by decide
      have hlr_38_7 : (7 : Int32).toInt = 7 := by decide
      simp only [hlr_38_0, hlr_38_7] at p1r_38
      obtain ⟨g_44, eg_44⟩ : ∃ z : Nat → Int, z = pp_nb B n 0 7 g_35 := ⟨_, rfl⟩
      rw [← eg_44] at p1r_38
      have lg_44_0 : g_44 0 = (tI M_39 2 4).toInt := p1r_38.2.1.1
      have lg_44_1 : g_44 1 = (tI M_39 2 6).toInt := p1r_38.2.1.2.1
      have lg_44_4 : g_44 4 = (tI M_39 1 4).toInt := p1r_38.2.2.1.1
      have lg_44_7 : g_44 7 = (tI M_39 t 4).toInt := p1r_38.2.2.2.1.1
      have lg_44_8 : g_44 8 = (tI M_39 t 5).toInt := p1r_38.2.2.2.1.2.1
      have tq_45 : tq t td M_39 := tq_fr ht tq_36 q_41 q_43
      refine ti_iast (ci := 8) (k := 1) (n := 3) C hw (ob_t ht) (by decide) (fun _ _ => rfl) (vp_in_iff.mpr (by omega)) dX4_readPower_55 (fun H locs hw => ?_)
      obtain ⟨M_46, hM_46⟩ : ∃ z : ti_M, z = uY M_39 t 1 (upd (tY M_39 t 1) (x_37 : Int32).toNatClampNeg r_38) := ⟨_, rfl⟩
      have hw := hw.to hM_46.symm
      have iM_46 : cI Tc M_46 := cI_up iM_39 hM_46 (ob_t ht).1 trivial
      have hs_47 := rC_Y hM_46 (no (cls_ne ob_2.1 (ob_t ht).1 (by decide))) p1r_38
      have lM_46_0 : g_44 0 = (tI M_46 2 4).toInt := hs_47.2.1.1
      have lM_46_1 : g_44 1 = (tI M_46 2 6).toInt := hs_47.2.1.2.1
      have lM_46_4 : g_44 4 = (tI M_46 1 4).toInt := hs_47.2.2.1.1
      have lM_46_7 : g_44 7 = (tI M_46 t 4).toInt := hs_47.2.2.2.1.1
      have lM_46_8 : g_44 8 = (tI M_46 t 5).toInt := hs_47.2.2.2.1.2.1
      have tq_48 : tq t (pp_su td (32 + x_37.toInt.toNat) r_38.toInt) M_46 := tq_Y1 (z := x_37) ht tq_45 (by omega) (by omega) rfl hM_46
      obtain ⟨d_49, ed_49⟩ : ∃ z : Nat → Int, z = pp_su td (32 + x_37.toInt.toNat) r_38.toInt := ⟨_, rfl⟩
      rw [← ed_49] at tq_48
      exact hQ _ _ _ _ _ hw (⟨iM_46, ((rf_Y hM_46).trans ((q_40).trans ((q_31).trans q_3))), (f0.trans (f0_of (ra_Y hM_46)) (f0.trans (f0_12 q_41) (f0.trans (f0_12 q_32) (f0_12 (o2_12 q_4))))), ((tI_uYE hM_46).trans ((q_42).trans ((q_33).trans q_5))), (ot.trans (ot_Yt ht hM_46) (ot.trans (ot_12 ht q_41 q_43) (ot.trans (ot_12 ht q_32 q_34) (ot_12 ht (o2_12 q_4) q_6.1)))), (by unfold pp_pw; rw [← eg_8, if_pos ⟨by omega, by omega⟩, ← eg_35, ← eg_44]; exact hs_47), (by unfold qq_pw; rw [← eg_8, if_pos ⟨by omega, by omega⟩, ← eg_35, ← p0r_38, show (g_8 0 - 9).toNat = x_37.toInt.toNat by omega, ← ed_49]; exact tq_48)⟩) dX4_readPower_56
    · refine lv_aload_n hx hb dX4_readPower_27 rfl (lv_at hl 1 rfl) ?_
      refine lv_iconst (v := 1) hx hb dX4_readPower_28 (by decide) ?_
      refine ti_callVv (ci := 4) (av := [.int 1]) C hw (x_X4_refuse l D A cy hJ M_2 iM_2 t ht 1 B n g_8 hs_7) ⟨ml_X4_82, ym_X4_refuse, yv_X4_refuse, yi_X4_refuse, yc_X4_refuse⟩ yd_X4_refuse ob_1 (by decide) rfl rfl hl.1 (Nat.le_of_ble_eq_true rfl) ⟨by decide, by decide⟩ ⟨Nat.zero_le _, Nat.zero_le _⟩ dX4_readPower_29 (fun M_22 H locs hp_22 hw => ?_)
      obtain ⟨iM_22, q_23, q_24, q_25, q_26, p0r_21⟩ := hp_22
      have hlr_21_1 : (1 : Int32).toInt = 1 := by decide
      simp only [hlr_21_1] at p0r_21
      obtain ⟨g_27, eg_27⟩ : ∃ z : Nat → Int, z = pp_rf 1 g_8 := ⟨_, rfl⟩
      rw [← eg_27] at p0r_21
      have lg_27_0 : g_27 0 = (tI M_22 2 4).toInt := p0r_21.2.1.1
      have lg_27_1 : g_27 1 = (tI M_22 2 6).toInt := p0r_21.2.1.2.1
      have lg_27_4 : g_27 4 = (tI M_22 1 4).toInt := p0r_21.2.2.1.1
      have lg_27_7 : g_27 7 = (tI M_22 t 4).toInt := p0r_21.2.2.2.1.1
      have lg_27_8 : g_27 8 = (tI M_22 t 5).toInt := p0r_21.2.2.2.1.2.1
      have tq_28 : tq t td M_22 := tq_fr ht tq_9 q_24 q_26
      exact hQ _ _ _ _ _ hw (⟨iM_22, ((q_23).trans q_3), (f0.trans (f0_12 q_24) (f0_12 (o2_12 q_4))), ((q_25).trans q_5), (ot.trans (ot_12 ht q_24 q_26) (ot_12 ht (o2_12 q_4) q_6.1)), (by unfold pp_pw; rw [← eg_8, if_neg (fun q => by omega), ← eg_27]; exact p0r_21), (by unfold qq_pw; rw [← eg_8, if_neg (fun q => by omega)]; exact tq_28)⟩) dX4_readPower_32
set_option maxHeartbeats 4000000 in
set_option maxRecDepth 100000 in
theorem x_X4_readGuard (l : Launch) (D : va_G) (A : Nat → Nat → Nat) (cy : Nat → ClassId) (hJ : ti_inj ti_LT A) (M : ti_M) (hI : cI Tc M) (t : Nat) (ht : t = 3 ∨ t = 4) (hT : tT M 1 1 = some t) (B : Nat → Int) (n : Nat) (rg : Nat → Int) (hr : rC B n t rg M) (td : Nat → Int) (hq : tq t td M) : ti_KvE l yX4_readGuard cX4_readGuard 3 8 ti_LT D A cy M [.ref (A 1 0)] (fun M2 => cI Tc M2 ∧ M2.2.2.2 = M.2.2.2 ∧ f0 M2 M ∧ tI M2 2 1 = tI M 2 1 ∧ ot t M2 M ∧ rC B n t (pp_gd B n rg) M2 ∧ tq t (td) M2) := by
  refine ti_eVE yp_X4_readGuard hJ ti_LT_nd (Nat.le_of_ble_eq_true rfl) ?_
  intro p e s m args below meth c Q H0 C hE hQ hw ls hl
  have hx := C.1
  have hb := C.2.1
  have hl : lv_has ls 3 [(0, .ref (A 1 0))] := hl
  have l0 : rg 0 = (tI M 2 4).toInt := hr.2.1.1
  have l1 : rg 1 = (tI M 2 6).toInt := hr.2.1.2.1
  have l2 : rg 2 = (tI M 2 5).toInt := hr.2.1.2.2.1
  have l3 : rg 3 = (tI M 2 3).toInt := hr.2.1.2.2.2
  have l4 : rg 4 = (tI M 1 4).toInt := hr.2.2.1.1
  have l5 : rg 5 = (tI M 1 5).toInt := hr.2.2.1.2.1
  have l7 : rg 7 = (tI M t 4).toInt := hr.2.2.2.1.1
  have l8 : rg 8 = (tI M t 5).toInt := hr.2.2.2.1.2.1
  have l9 : rg 9 = (tI M t 3).toInt := hr.2.2.2.1.2.2
  refine lv_aload_n hx hb dX4_readGuard_0 rfl (lv_at hl 0 rfl) ?_
  refine ti_get (ci := 4) (k := 0) (N := 6) (T := TX4) (v := .ref (A 2 0)) C hw iw_4 rfl ob_1 (by decide) (by decide) fl_X4_12 rfl rfl dX4_readGuard_1 ?_
  refine ti_callVvE (ci := 7) (av := []) C hE hw (x_X7_advance l D A cy hJ M hI ) ⟨ml_X4_92, ym_X7_advance, yv_X7_advance, yi_X7_advance, yc_X7_advance⟩ yd_X7_advance ob_2 (by decide) rfl rfl hl.1 (Nat.le_of_ble_eq_true rfl) ⟨by decide, by decide⟩ ⟨Nat.zero_le _, Nat.zero_le _⟩ dX4_readGuard_4 (fun M_2 H locs hp_2 hw => ?_)
  obtain ⟨iM_2, q_3, q_4, q_5, q_6, p0r_1, p1r_1, p2r_1, p3r_1⟩ := hp_2
  have hs_7 := rC_av ht hr q_6 q_4 p0r_1 p1r_1 p2r_1 p3r_1
  obtain ⟨g_8, eg_8⟩ : ∃ z : Nat → Int, z = pp_av B n rg := ⟨_, rfl⟩
  rw [← eg_8] at hs_7
  have lg_8_0 : g_8 0 = (tI M_2 2 4).toInt := hs_7.2.1.1
  have lg_8_1 : g_8 1 = (tI M_2 2 6).toInt := hs_7.2.1.2.1
  have lg_8_4 : g_8 4 = (tI M_2 1 4).toInt := hs_7.2.2.1.1
  have lg_8_7 : g_8 7 = (tI M_2 t 4).toInt := hs_7.2.2.2.1.1
  have lg_8_8 : g_8 8 = (tI M_2 t 5).toInt := hs_7.2.2.2.1.2.1
  have tq_9 : tq t td M_2 := tq_fr ht hq (o2_12 q_4) q_6.1
  refine lv_aload_n hx hb dX4_readGuard_7 rfl (lv_at hl 0 rfl) ?_
  refine ti_callVi (ci := 4) (av := []) C hw (x_X4_toldMan l D A cy hJ M_2 iM_2 t ht ((tT_fr q_3).trans hT) B n g_8 hs_7) ⟨ml_X4_142, ym_X4_toldMan, yv_X4_toldMan, yi_X4_toldMan, yc_X4_toldMan⟩ yd_X4_toldMan ob_1 (by decide) rfl rfl hl.1 (Nat.le_of_ble_eq_true rfl) ⟨by decide, by decide⟩ ⟨Nat.zero_le _, Nat.zero_le _⟩ dX4_readGuard_8 (fun r_10 M_11 H locs hp_11 hw => ?_)
  obtain ⟨iM_11, q_12, q_13, q_14, q_15, b0r_10, b1r_10, p0r_10, p1r_10⟩ := hp_11
  obtain ⟨g_16, eg_16⟩ : ∃ z : Nat → Int, z = pp_tm g_8 := ⟨_, rfl⟩
  rw [← eg_16] at p1r_10
  have lg_16_0 : g_16 0 = (tI M_11 2 4).toInt := p1r_10.2.1.1
  have lg_16_1 : g_16 1 = (tI M_11 2 6).toInt := p1r_10.2.1.2.1
  have lg_16_4 : g_16 4 = (tI M_11 1 4).toInt := p1r_10.2.2.1.1
  have lg_16_7 : g_16 7 = (tI M_11 t 4).toInt := p1r_10.2.2.2.1.1
  have lg_16_8 : g_16 8 = (tI M_11 t 5).toInt := p1r_10.2.2.2.1.2.1
  have tq_17 : tq t td M_11 := tq_fr ht tq_9 q_13 q_15
  refine lv_istore_n (lv' := [(1, .int r_10), (0, .ref (A 1 0))]) hx hb dX4_readGuard_11 rfl hl (by decide) rfl (fun ls hl => ?_)
  refine lv_iload_n hx hb dX4_readGuard_12 rfl (lv_at hl 0 rfl) ?_
  refine lv_iconst (v := (-1)) hx hb dX4_readGuard_13 (by decide) ?_
  refine sb_icmp_ne (tgt := 18) hx hb rfl (by decide : ((-1) : Int32).toInt = (-1)) dX4_readGuard_14 (by decide) (fun c_14_17 => ?_) (fun c_14_17 => ?_)
  · refine lv_aload_n hx hb dX4_readGuard_18 rfl (lv_at hl 1 rfl) ?_
    refine ti_get (ci := 4) (k := 1) (N := 6) (T := TX4) (v := .ref (A t 0)) C hw iw_4 rfl ob_1 (by decide) (by decide) fl_X4_28 rfl (ti_Tv ((tT_fr q_12).trans ((tT_fr q_3).trans hT))) dX4_readGuard_19 ?_
    refine ti_get (ci := 8) (k := 0) (N := 12) (T := TX8) (v := .ref (A t 1)) C hw iw_8 rfl (ob_t ht) (by decide) (by decide) fl_X4_101 rfl rfl dX4_readGuard_22 ?_
    refine lv_iload_n hx hb dX4_readGuard_25 rfl (lv_at hl 0 rfl) ?_
    refine ti_aald (ci := 8) (k := 0) (n := 8) (t0 := 5) (Cn := RX2) (gg := (ti_men t)) (j := r_10.toNatClampNeg) C hw (ob_t ht) (by decide) (fun _ _ => rfl) rfl (vp_in_iff.mpr (by omega)) rfl dX4_readGuard_26 ?_
    have ob_19 : ti_ob ti_LT (ti_men t r_10.toNatClampNeg) 2 := ob_m ht (i_nt rfl (by omega) (by omega))
    refine ti_get (ci := 2) (k := 9) (N := 10) (T := TX2) C hw iw_2 rfl ob_19 (by decide) (by decide) fl_X4_139 rfl rfl dX4_readGuard_27 ?_
    refine lv_topi (fun x_20 ex_20 => ?_)
    have u_21 : (tI M_11 (ti_men t r_10.toNatClampNeg) 9).toInt = x_20.toInt := by rw [ex_20]
    have gu : g_16 (200 + r_10.toInt.toNat) = x_20.toInt := by rw [ex_20]; exact (p1r_10.2.2.2.2 r_10.toInt.toNat (by omega)).2
    refine lv_iconst (v := (-1)) hx hb dX4_readGuard_30 (by decide) ?_
    refine sb_icmp_eq (tgt := 39) hx hb rfl (by decide : ((-1) : Int32).toInt = (-1)) dX4_readGuard_31 (by decide) (fun c_31_21 => ?_) (fun c_31_21 => ?_)
    · refine lv_aload_n hx hb dX4_readGuard_39 rfl (lv_at hl 1 rfl) ?_
      refine lv_bipush (v := 25) hx hb dX4_readGuard_40 (by decide) ?_
      refine ti_callVvE (ci := 4) (av := [.int 25]) C hE hw (x_X4_take l D A cy hJ M_11 iM_11 t ht 25 B n g_16 p1r_10) ⟨ml_X4_85, ym_X4_take, yv_X4_take, yi_X4_take, yc_X4_take⟩ yd_X4_take ob_1 (by decide) rfl rfl hl.1 (Nat.le_of_ble_eq_true rfl) ⟨by decide, by decide⟩ ⟨Nat.zero_le _, Nat.zero_le _⟩ dX4_readGuard_42 (fun M_32 H locs hp_32 hw => ?_)
      obtain ⟨iM_32, q_33, q_34, q_35, q_36, p0r_31⟩ := hp_32
      have hlr_31_25 : (25 : Int32).toInt = 25 := by decide
      simp only [hlr_31_25] at p0r_31
      obtain ⟨g_37, eg_37⟩ : ∃ z : Nat → Int, z = pp_tk B n 25 g_16 := ⟨_, rfl⟩
      rw [← eg_37] at p0r_31
      have lg_37_0 : g_37 0 = (tI M_32 2 4).toInt := p0r_31.2.1.1
      have lg_37_1 : g_37 1 = (tI M_32 2 6).toInt := p0r_31.2.1.2.1
      have lg_37_4 : g_37 4 = (tI M_32 1 4).toInt := p0r_31.2.2.1.1
      have lg_37_7 : g_37 7 = (tI M_32 t 4).toInt := p0r_31.2.2.2.1.1
      have lg_37_8 : g_37 8 = (tI M_32 t 5).toInt := p0r_31.2.2.2.1.2.1
      have tq_38 : tq t td M_32 := tq_fr ht tq_17 q_34 q_36
      refine lv_aload_n hx hb dX4_readGuard_45 rfl (lv_at hl 1 rfl) ?_
      refine ti_callVi (ci := 4) (av := []) C hw (x_X4_toldMan l D A cy hJ M_32 iM_32 t ht ((tT_fr q_33).trans ((tT_fr q_12).trans ((tT_fr q_3).trans hT))) B n g_37 p0r_31) ⟨ml_X4_142, ym_X4_toldMan, yv_X4_toldMan, yi_X4_toldMan, yc_X4_toldMan⟩ yd_X4_toldMan ob_1 (by decide) rfl rfl hl.1 (Nat.le_of_ble_eq_true rfl) ⟨by decide, by decide⟩ ⟨Nat.zero_le _, Nat.zero_le _⟩ dX4_readGuard_46 (fun r_39 M_40 H locs hp_40 hw => ?_)
      obtain ⟨iM_40, q_41, q_42, q_43, q_44, b0r_39, b1r_39, p0r_39, p1r_39⟩ := hp_40
      obtain ⟨g_45, eg_45⟩ : ∃ z : Nat → Int, z = pp_tm g_37 := ⟨_, rfl⟩
      rw [← eg_45] at p1r_39
      have lg_45_0 : g_45 0 = (tI M_40 2 4).toInt := p1r_39.2.1.1
      have lg_45_1 : g_45 1 = (tI M_40 2 6).toInt := p1r_39.2.1.2.1
      have lg_45_4 : g_45 4 = (tI M_40 1 4).toInt := p1r_39.2.2.1.1
      have lg_45_7 : g_45 7 = (tI M_40 t 4).toInt := p1r_39.2.2.2.1.1
      have lg_45_8 : g_45 8 = (tI M_40 t 5).toInt := p1r_39.2.2.2.1.2.1
      have tq_46 : tq t td M_40 := tq_fr ht tq_38 q_42 q_44
      refine lv_istore_n (lv' := [(2, .int r_39), (1, .int r_10), (0, .ref (A 1 0))]) hx hb dX4_readGuard_49 rfl hl (by decide) rfl (fun ls hl => ?_)
      refine lv_iload_n hx hb dX4_readGuard_50 rfl (lv_at hl 0 rfl) ?_
      refine lv_iload_n hx hb dX4_readGuard_51 rfl (lv_at hl 1 rfl) ?_
      refine sb_icmp_ne (tgt := 60) hx hb rfl rfl dX4_readGuard_52 (by decide) (fun c_52_46 => ?_) (fun c_52_46 => ?_)
      · refine lv_aload_n hx hb dX4_readGuard_60 rfl (lv_at hl 2 rfl) ?_
        refine lv_bipush (v := 25) hx hb dX4_readGuard_61 (by decide) ?_
        refine ti_callVvE (ci := 4) (av := [.int 25]) C hE hw (x_X4_take l D A cy hJ M_40 iM_40 t ht 25 B n g_45 p1r_39) ⟨ml_X4_85, ym_X4_take, yv_X4_take, yi_X4_take, yc_X4_take⟩ yd_X4_take ob_1 (by decide) rfl rfl hl.1 (Nat.le_of_ble_eq_true rfl) ⟨by decide, by decide⟩ ⟨Nat.zero_le _, Nat.zero_le _⟩ dX4_readGuard_63 (fun M_82 H locs hp_82 hw => ?_)
        obtain ⟨iM_82, q_83, q_84, q_85, q_86, p0r_81⟩ := hp_82
        have hlr_81_25 : (25 : Int32).toInt = 25 := by decide
        simp only [hlr_81_25] at p0r_81
        obtain ⟨g_87, eg_87⟩ : ∃ z : Nat → Int, z = pp_tk B n 25 g_45 := ⟨_, rfl⟩
        rw [← eg_87] at p0r_81
        have lg_87_0 : g_87 0 = (tI M_82 2 4).toInt := p0r_81.2.1.1
        have lg_87_1 : g_87 1 = (tI M_82 2 6).toInt := p0r_81.2.1.2.1
        have lg_87_4 : g_87 4 = (tI M_82 1 4).toInt := p0r_81.2.2.1.1
        have lg_87_7 : g_87 7 = (tI M_82 t 4).toInt := p0r_81.2.2.2.1.1
        have lg_87_8 : g_87 8 = (tI M_82 t 5).toInt := p0r_81.2.2.2.1.2.1
        have tq_88 : tq t td M_82 := tq_fr ht tq_46 q_84 q_86
        refine lv_aload_n hx hb dX4_readGuard_66 rfl (lv_at hl 2 rfl) ?_
        refine ti_get (ci := 4) (k := 1) (N := 6) (T := TX4) (v := .ref (A t 0)) C hw iw_4 rfl ob_1 (by decide) (by decide) fl_X4_28 rfl (ti_Tv ((tT_fr q_83).trans ((tT_fr q_41).trans ((tT_fr q_33).trans ((tT_fr q_12).trans ((tT_fr q_3).trans hT)))))) dX4_readGuard_67 ?_
        refine ti_get (ci := 8) (k := 0) (N := 12) (T := TX8) (v := .ref (A t 1)) C hw iw_8 rfl (ob_t ht) (by decide) (by decide) fl_X4_101 rfl rfl dX4_readGuard_70 ?_
        refine lv_iload_n hx hb dX4_readGuard_73 rfl (lv_at hl 1 rfl) ?_
        refine ti_aald (ci := 8) (k := 0) (n := 8) (t0 := 5) (Cn := RX2) (gg := (ti_men t)) (j := r_10.toNatClampNeg) C hw (ob_t ht) (by decide) (fun _ _ => rfl) rfl (vp_in_iff.mpr (by omega)) rfl dX4_readGuard_74 ?_
        refine lv_iload_n hx hb dX4_readGuard_75 rfl (lv_at hl 0 rfl) ?_
        refine ti_putI (ci := 2) (k := 9) (N := 10) (T := TX2) C hw iw_2 tyX2 tyX2_ok nmX2 rfl ob_19 (by decide) (by decide) fl_X4_139 rfl rfl rfl rfl (fn_2 A _) fs_2_9 dX4_readGuard_76 (fun H locs hw => ?_)
        obtain ⟨M_89, hM_89⟩ : ∃ z : ti_M, z = uI M_82 (ti_men t r_10.toNatClampNeg) 9 r_39 := ⟨_, rfl⟩
        have hw := hw.to hM_89.symm
        have iM_89 : cI Tc M_89 := cI_uI iM_82 hM_89 ob_19.1 trivial
        have hs_90 := rC_m9 (j := r_10.toNatClampNeg) ht (i_nt (x := r_10) rfl (by omega) (by omega)) hM_89 p0r_81
        obtain ⟨g_91, eg_91⟩ : ∃ z : Nat → Int, z = pp_su g_87 (200 + r_10.toNatClampNeg) r_39.toInt := ⟨_, rfl⟩
        rw [← eg_91] at hs_90
        have lg_91_0 : g_91 0 = (tI M_89 2 4).toInt := hs_90.2.1.1
        have lg_91_1 : g_91 1 = (tI M_89 2 6).toInt := hs_90.2.1.2.1
        have lg_91_4 : g_91 4 = (tI M_89 1 4).toInt := hs_90.2.2.1.1
        have lg_91_7 : g_91 7 = (tI M_89 t 4).toInt := hs_90.2.2.2.1.1
        have lg_91_8 : g_91 8 = (tI M_89 t 5).toInt := hs_90.2.2.2.1.2.1
        have tq_93 : tq t td M_89 := tq_m0 ht (i_nt (x := r_10) rfl (by omega) (by omega)) tq_88 hM_89 (by decide)
        have E1 : pp_g1 B n r_10.toInt g_16 = g_37 := by unfold pp_g1; rw [if_pos (by rw [gu]; omega), ← eg_37]
        have E2 : pp_g3 B n r_10.toInt g_37 = g_91 := by unfold pp_g3; rw [show pp_tv g_37 = r_39.toInt from p0r_39.symm, ← eg_45]; unfold pp_g2; rw [if_neg (by omega), show r_10.toInt.toNat = r_10.toNatClampNeg from rfl, ← eg_87, ← eg_91]
        exact hQ _ _ _ _ _ hw (⟨iM_89, ((rf_I hM_89).trans ((q_83).trans ((q_41).trans ((q_33).trans ((q_12).trans q_3))))), (f0.trans (f0_I hM_89 (f0n ob_19.1 (by decide))) (f0.trans (f0_12 q_84) (f0.trans (f0_12 q_42) (f0.trans (f0_12 q_34) (f0.trans (f0_12 q_13) (f0_12 (o2_12 q_4))))))), ((tI_nE hM_89 (nk (by decide))).trans ((q_85).trans ((q_43).trans ((q_35).trans ((q_14).trans q_5))))), (ot.trans (ot_m ht (i_nt (x := r_10) rfl (by omega) (by omega)) hM_89) (ot.trans (ot_12 ht q_84 q_86) (ot.trans (ot_12 ht q_42 q_44) (ot.trans (ot_12 ht q_34 q_36) (ot.trans (ot_12 ht q_13 q_15) (ot_12 ht (o2_12 q_4) q_6.1)))))), (by unfold pp_gd; rw [← eg_8, ← eg_16, show pp_tv g_8 = r_10.toInt from p0r_10.symm, if_neg (by omega), E1, E2]; exact hs_90), tq_93⟩) dX4_readGuard_79
      · refine lv_aload_n hx hb dX4_readGuard_55 rfl (lv_at hl 2 rfl) ?_
        refine lv_iconst (v := 5) hx hb dX4_readGuard_56 (by decide) ?_
        refine ti_callVv (ci := 4) (av := [.int 5]) C hw (x_X4_refuse l D A cy hJ M_40 iM_40 t ht 5 B n g_45 p1r_39) ⟨ml_X4_82, ym_X4_refuse, yv_X4_refuse, yi_X4_refuse, yc_X4_refuse⟩ yd_X4_refuse ob_1 (by decide) rfl rfl hl.1 (Nat.le_of_ble_eq_true rfl) ⟨by decide, by decide⟩ ⟨Nat.zero_le _, Nat.zero_le _⟩ dX4_readGuard_57 (fun M_66 H locs hp_66 hw => ?_)
        obtain ⟨iM_66, q_67, q_68, q_69, q_70, p0r_65⟩ := hp_66
        have hlr_65_5 : (5 : Int32).toInt = 5 := by decide
        simp only [hlr_65_5] at p0r_65
        obtain ⟨g_71, eg_71⟩ : ∃ z : Nat → Int, z = pp_rf 5 g_45 := ⟨_, rfl⟩
        rw [← eg_71] at p0r_65
        have lg_71_0 : g_71 0 = (tI M_66 2 4).toInt := p0r_65.2.1.1
        have lg_71_1 : g_71 1 = (tI M_66 2 6).toInt := p0r_65.2.1.2.1
        have lg_71_4 : g_71 4 = (tI M_66 1 4).toInt := p0r_65.2.2.1.1
        have lg_71_7 : g_71 7 = (tI M_66 t 4).toInt := p0r_65.2.2.2.1.1
        have lg_71_8 : g_71 8 = (tI M_66 t 5).toInt := p0r_65.2.2.2.1.2.1
        have tq_72 : tq t td M_66 := tq_fr ht tq_46 q_68 q_70
        refine lv_aload_n hx hb dX4_readGuard_60 rfl (lv_at hl 2 rfl) ?_
        refine lv_bipush (v := 25) hx hb dX4_readGuard_61 (by decide) ?_
        refine ti_callVvE (ci := 4) (av := [.int 25]) C hE hw (x_X4_take l D A cy hJ M_66 iM_66 t ht 25 B n g_71 p0r_65) ⟨ml_X4_85, ym_X4_take, yv_X4_take, yi_X4_take, yc_X4_take⟩ yd_X4_take ob_1 (by decide) rfl rfl hl.1 (Nat.le_of_ble_eq_true rfl) ⟨by decide, by decide⟩ ⟨Nat.zero_le _, Nat.zero_le _⟩ dX4_readGuard_63 (fun M_108 H locs hp_108 hw => ?_)
        obtain ⟨iM_108, q_109, q_110, q_111, q_112, p0r_107⟩ := hp_108
        have hlr_107_25 : (25 : Int32).toInt = 25 := by decide
        simp only [hlr_107_25] at p0r_107
        obtain ⟨g_113, eg_113⟩ : ∃ z : Nat → Int, z = pp_tk B n 25 g_71 := ⟨_, rfl⟩
        rw [← eg_113] at p0r_107
        have lg_113_0 : g_113 0 = (tI M_108 2 4).toInt := p0r_107.2.1.1
        have lg_113_1 : g_113 1 = (tI M_108 2 6).toInt := p0r_107.2.1.2.1
        have lg_113_4 : g_113 4 = (tI M_108 1 4).toInt := p0r_107.2.2.1.1
        have lg_113_7 : g_113 7 = (tI M_108 t 4).toInt := p0r_107.2.2.2.1.1
        have lg_113_8 : g_113 8 = (tI M_108 t 5).toInt := p0r_107.2.2.2.1.2.1
        have tq_114 : tq t td M_108 := tq_fr ht tq_72 q_110 q_112
        refine lv_aload_n hx hb dX4_readGuard_66 rfl (lv_at hl 2 rfl) ?_
        refine ti_get (ci := 4) (k := 1) (N := 6) (T := TX4) (v := .ref (A t 0)) C hw iw_4 rfl ob_1 (by decide) (by decide) fl_X4_28 rfl (ti_Tv ((tT_fr q_109).trans ((tT_fr q_67).trans ((tT_fr q_41).trans ((tT_fr q_33).trans ((tT_fr q_12).trans ((tT_fr q_3).trans hT))))))) dX4_readGuard_67 ?_
        refine ti_get (ci := 8) (k := 0) (N := 12) (T := TX8) (v := .ref (A t 1)) C hw iw_8 rfl (ob_t ht) (by decide) (by decide) fl_X4_101 rfl rfl dX4_readGuard_70 ?_
        refine lv_iload_n hx hb dX4_readGuard_73 rfl (lv_at hl 1 rfl) ?_
        refine ti_aald (ci := 8) (k := 0) (n := 8) (t0 := 5) (Cn := RX2) (gg := (ti_men t)) (j := r_10.toNatClampNeg) C hw (ob_t ht) (by decide) (fun _ _ => rfl) rfl (vp_in_iff.mpr (by omega)) rfl dX4_readGuard_74 ?_
        refine lv_iload_n hx hb dX4_readGuard_75 rfl (lv_at hl 0 rfl) ?_
        refine ti_putI (ci := 2) (k := 9) (N := 10) (T := TX2) C hw iw_2 tyX2 tyX2_ok nmX2 rfl ob_19 (by decide) (by decide) fl_X4_139 rfl rfl rfl rfl (fn_2 A _) fs_2_9 dX4_readGuard_76 (fun H locs hw => ?_)
        obtain ⟨M_115, hM_115⟩ : ∃ z : ti_M, z = uI M_108 (ti_men t r_10.toNatClampNeg) 9 r_39 := ⟨_, rfl⟩
        have hw := hw.to hM_115.symm
        have iM_115 : cI Tc M_115 := cI_uI iM_108 hM_115 ob_19.1 trivial
        have hs_116 := rC_m9 (j := r_10.toNatClampNeg) ht (i_nt (x := r_10) rfl (by omega) (by omega)) hM_115 p0r_107
        obtain ⟨g_117, eg_117⟩ : ∃ z : Nat → Int, z = pp_su g_113 (200 + r_10.toNatClampNeg) r_39.toInt := ⟨_, rfl⟩
        rw [← eg_117] at hs_116
        have lg_117_0 : g_117 0 = (tI M_115 2 4).toInt := hs_116.2.1.1
        have lg_117_1 : g_117 1 = (tI M_115 2 6).toInt := hs_116.2.1.2.1
        have lg_117_4 : g_117 4 = (tI M_115 1 4).toInt := hs_116.2.2.1.1
        have lg_117_7 : g_117 7 = (tI M_115 t 4).toInt := hs_116.2.2.2.1.1
        have lg_117_8 : g_117 8 = (tI M_115 t 5).toInt := hs_116.2.2.2.1.2.1
        have tq_119 : tq t td M_115 := tq_m0 ht (i_nt (x := r_10) rfl (by omega) (by omega)) tq_114 hM_115 (by decide)
        have E1 : pp_g1 B n r_10.toInt g_16 = g_37 := by unfold pp_g1; rw [if_pos (by rw [gu]; omega), ← eg_37]
        have E2 : pp_g3 B n r_10.toInt g_37 = g_117 := by unfold pp_g3; rw [show pp_tv g_37 = r_39.toInt from p0r_39.symm, ← eg_45]; unfold pp_g2; rw [if_pos (by omega), show r_10.toInt.toNat = r_10.toNatClampNeg from rfl, ← eg_71, ← eg_113, ← eg_117]
        exact hQ _ _ _ _ _ hw (⟨iM_115, ((rf_I hM_115).trans ((q_109).trans ((q_67).trans ((q_41).trans ((q_33).trans ((q_12).trans q_3)))))), (f0.trans (f0_I hM_115 (f0n ob_19.1 (by decide))) (f0.trans (f0_12 q_110) (f0.trans (f0_12 q_68) (f0.trans (f0_12 q_42) (f0.trans (f0_12 q_34) (f0.trans (f0_12 q_13) (f0_12 (o2_12 q_4)))))))), ((tI_nE hM_115 (nk (by decide))).trans ((q_111).trans ((q_69).trans ((q_43).trans ((q_35).trans ((q_14).trans q_5)))))), (ot.trans (ot_m ht (i_nt (x := r_10) rfl (by omega) (by omega)) hM_115) (ot.trans (ot_12 ht q_110 q_112) (ot.trans (ot_12 ht q_68 q_70) (ot.trans (ot_12 ht q_42 q_44) (ot.trans (ot_12 ht q_34 q_36) (ot.trans (ot_12 ht q_13 q_15) (ot_12 ht (o2_12 q_4) q_6.1))))))), (by unfold pp_gd; rw [← eg_8, ← eg_16, show pp_tv g_8 = r_10.toInt from p0r_10.symm, if_neg (by omega), E1, E2]; exact hs_116), tq_119⟩) dX4_readGuard_79
    · refine lv_aload_n hx hb dX4_readGuard_34 rfl (lv_at hl 1 rfl) ?_
      refine lv_iconst (v := 3) hx hb dX4_readGuard_35 (by decide) ?_
      refine ti_callVv (ci := 4) (av := [.int 3]) C hw (x_X4_refuse l D A cy hJ M_11 iM_11 t ht 3 B n g_16 p1r_10) ⟨ml_X4_82, ym_X4_refuse, yv_X4_refuse, yi_X4_refuse, yc_X4_refuse⟩ yd_X4_refuse ob_1 (by decide) rfl rfl hl.1 (Nat.le_of_ble_eq_true rfl) ⟨by decide, by decide⟩ ⟨Nat.zero_le _, Nat.zero_le _⟩ dX4_readGuard_36 (fun M_24 H locs hp_24 hw => ?_)
      obtain ⟨iM_24, q_25, q_26, q_27, q_28, p0r_23⟩ := hp_24
      have hlr_23_3 : (3 : Int32).toInt = 3 := by decide
      simp only [hlr_23_3] at p0r_23
      obtain ⟨g_29, eg_29⟩ : ∃ z : Nat → Int, z = pp_rf 3 g_16 := ⟨_, rfl⟩
      rw [← eg_29] at p0r_23
      have lg_29_0 : g_29 0 = (tI M_24 2 4).toInt := p0r_23.2.1.1
      have lg_29_1 : g_29 1 = (tI M_24 2 6).toInt := p0r_23.2.1.2.1
      have lg_29_4 : g_29 4 = (tI M_24 1 4).toInt := p0r_23.2.2.1.1
      have lg_29_7 : g_29 7 = (tI M_24 t 4).toInt := p0r_23.2.2.2.1.1
      have lg_29_8 : g_29 8 = (tI M_24 t 5).toInt := p0r_23.2.2.2.1.2.1
      have tq_30 : tq t td M_24 := tq_fr ht tq_17 q_26 q_28
      refine lv_aload_n hx hb dX4_readGuard_39 rfl (lv_at hl 1 rfl) ?_
      refine lv_bipush (v := 25) hx hb dX4_readGuard_40 (by decide) ?_
      refine ti_callVvE (ci := 4) (av := [.int 25]) C hE hw (x_X4_take l D A cy hJ M_24 iM_24 t ht 25 B n g_29 p0r_23) ⟨ml_X4_85, ym_X4_take, yv_X4_take, yi_X4_take, yc_X4_take⟩ yd_X4_take ob_1 (by decide) rfl rfl hl.1 (Nat.le_of_ble_eq_true rfl) ⟨by decide, by decide⟩ ⟨Nat.zero_le _, Nat.zero_le _⟩ dX4_readGuard_42 (fun M_49 H locs hp_49 hw => ?_)
      obtain ⟨iM_49, q_50, q_51, q_52, q_53, p0r_48⟩ := hp_49
      have hlr_48_25 : (25 : Int32).toInt = 25 := by decide
      simp only [hlr_48_25] at p0r_48
      obtain ⟨g_54, eg_54⟩ : ∃ z : Nat → Int, z = pp_tk B n 25 g_29 := ⟨_, rfl⟩
      rw [← eg_54] at p0r_48
      have lg_54_0 : g_54 0 = (tI M_49 2 4).toInt := p0r_48.2.1.1
      have lg_54_1 : g_54 1 = (tI M_49 2 6).toInt := p0r_48.2.1.2.1
      have lg_54_4 : g_54 4 = (tI M_49 1 4).toInt := p0r_48.2.2.1.1
      have lg_54_7 : g_54 7 = (tI M_49 t 4).toInt := p0r_48.2.2.2.1.1
      have lg_54_8 : g_54 8 = (tI M_49 t 5).toInt := p0r_48.2.2.2.1.2.1
      have tq_55 : tq t td M_49 := tq_fr ht tq_30 q_51 q_53
      refine lv_aload_n hx hb dX4_readGuard_45 rfl (lv_at hl 1 rfl) ?_
      refine ti_callVi (ci := 4) (av := []) C hw (x_X4_toldMan l D A cy hJ M_49 iM_49 t ht ((tT_fr q_50).trans ((tT_fr q_25).trans ((tT_fr q_12).trans ((tT_fr q_3).trans hT)))) B n g_54 p0r_48) ⟨ml_X4_142, ym_X4_toldMan, yv_X4_toldMan, yi_X4_toldMan, yc_X4_toldMan⟩ yd_X4_toldMan ob_1 (by decide) rfl rfl hl.1 (Nat.le_of_ble_eq_true rfl) ⟨by decide, by decide⟩ ⟨Nat.zero_le _, Nat.zero_le _⟩ dX4_readGuard_46 (fun r_56 M_57 H locs hp_57 hw => ?_)
      obtain ⟨iM_57, q_58, q_59, q_60, q_61, b0r_56, b1r_56, p0r_56, p1r_56⟩ := hp_57
      obtain ⟨g_62, eg_62⟩ : ∃ z : Nat → Int, z = pp_tm g_54 := ⟨_, rfl⟩
      rw [← eg_62] at p1r_56
      have lg_62_0 : g_62 0 = (tI M_57 2 4).toInt := p1r_56.2.1.1
      have lg_62_1 : g_62 1 = (tI M_57 2 6).toInt := p1r_56.2.1.2.1
      have lg_62_4 : g_62 4 = (tI M_57 1 4).toInt := p1r_56.2.2.1.1
      have lg_62_7 : g_62 7 = (tI M_57 t 4).toInt := p1r_56.2.2.2.1.1
      have lg_62_8 : g_62 8 = (tI M_57 t 5).toInt := p1r_56.2.2.2.1.2.1
      have tq_63 : tq t td M_57 := tq_fr ht tq_55 q_59 q_61
      refine lv_istore_n (lv' := [(2, .int r_56), (1, .int r_10), (0, .ref (A 1 0))]) hx hb dX4_readGuard_49 rfl hl (by decide) rfl (fun ls hl => ?_)
      refine lv_iload_n hx hb dX4_readGuard_50 rfl (lv_at hl 0 rfl) ?_
      refine lv_iload_n hx hb dX4_readGuard_51 rfl (lv_at hl 1 rfl) ?_
      refine sb_icmp_ne (tgt := 60) hx hb rfl rfl dX4_readGuard_52 (by decide) (fun c_52_63 => ?_) (fun c_52_63 => ?_)
      · refine lv_aload_n hx hb dX4_readGuard_60 rfl (lv_at hl 2 rfl) ?_
        refine lv_bipush (v := 25) hx hb dX4_readGuard_61 (by decide) ?_
        refine ti_callVvE (ci := 4) (av := [.int 25]) C hE hw (x_X4_take l D A cy hJ M_57 iM_57 t ht 25 B n g_62 p1r_56) ⟨ml_X4_85, ym_X4_take, yv_X4_take, yi_X4_take, yc_X4_take⟩ yd_X4_take ob_1 (by decide) rfl rfl hl.1 (Nat.le_of_ble_eq_true rfl) ⟨by decide, by decide⟩ ⟨Nat.zero_le _, Nat.zero_le _⟩ dX4_readGuard_63 (fun M_95 H locs hp_95 hw => ?_)
        obtain ⟨iM_95, q_96, q_97, q_98, q_99, p0r_94⟩ := hp_95
        have hlr_94_25 : (25 : Int32).toInt = 25 := by decide
        simp only [hlr_94_25] at p0r_94
        obtain ⟨g_100, eg_100⟩ : ∃ z : Nat → Int, z = pp_tk B n 25 g_62 := ⟨_, rfl⟩
        rw [← eg_100] at p0r_94
        have lg_100_0 : g_100 0 = (tI M_95 2 4).toInt := p0r_94.2.1.1
        have lg_100_1 : g_100 1 = (tI M_95 2 6).toInt := p0r_94.2.1.2.1
        have lg_100_4 : g_100 4 = (tI M_95 1 4).toInt := p0r_94.2.2.1.1
        have lg_100_7 : g_100 7 = (tI M_95 t 4).toInt := p0r_94.2.2.2.1.1
        have lg_100_8 : g_100 8 = (tI M_95 t 5).toInt := p0r_94.2.2.2.1.2.1
        have tq_101 : tq t td M_95 := tq_fr ht tq_63 q_97 q_99
        refine lv_aload_n hx hb dX4_readGuard_66 rfl (lv_at hl 2 rfl) ?_
        refine ti_get (ci := 4) (k := 1) (N := 6) (T := TX4) (v := .ref (A t 0)) C hw iw_4 rfl ob_1 (by decide) (by decide) fl_X4_28 rfl (ti_Tv ((tT_fr q_96).trans ((tT_fr q_58).trans ((tT_fr q_50).trans ((tT_fr q_25).trans ((tT_fr q_12).trans ((tT_fr q_3).trans hT))))))) dX4_readGuard_67 ?_
        refine ti_get (ci := 8) (k := 0) (N := 12) (T := TX8) (v := .ref (A t 1)) C hw iw_8 rfl (ob_t ht) (by decide) (by decide) fl_X4_101 rfl rfl dX4_readGuard_70 ?_
        refine lv_iload_n hx hb dX4_readGuard_73 rfl (lv_at hl 1 rfl) ?_
        refine ti_aald (ci := 8) (k := 0) (n := 8) (t0 := 5) (Cn := RX2) (gg := (ti_men t)) (j := r_10.toNatClampNeg) C hw (ob_t ht) (by decide) (fun _ _ => rfl) rfl (vp_in_iff.mpr (by omega)) rfl dX4_readGuard_74 ?_
        refine lv_iload_n hx hb dX4_readGuard_75 rfl (lv_at hl 0 rfl) ?_
        refine ti_putI (ci := 2) (k := 9) (N := 10) (T := TX2) C hw iw_2 tyX2 tyX2_ok nmX2 rfl ob_19 (by decide) (by decide) fl_X4_139 rfl rfl rfl rfl (fn_2 A _) fs_2_9 dX4_readGuard_76 (fun H locs hw => ?_)
        obtain ⟨M_102, hM_102⟩ : ∃ z : ti_M, z = uI M_95 (ti_men t r_10.toNatClampNeg) 9 r_56 := ⟨_, rfl⟩
        have hw := hw.to hM_102.symm
        have iM_102 : cI Tc M_102 := cI_uI iM_95 hM_102 ob_19.1 trivial
        have hs_103 := rC_m9 (j := r_10.toNatClampNeg) ht (i_nt (x := r_10) rfl (by omega) (by omega)) hM_102 p0r_94
        obtain ⟨g_104, eg_104⟩ : ∃ z : Nat → Int, z = pp_su g_100 (200 + r_10.toNatClampNeg) r_56.toInt := ⟨_, rfl⟩
        rw [← eg_104] at hs_103
        have lg_104_0 : g_104 0 = (tI M_102 2 4).toInt := hs_103.2.1.1
        have lg_104_1 : g_104 1 = (tI M_102 2 6).toInt := hs_103.2.1.2.1
        have lg_104_4 : g_104 4 = (tI M_102 1 4).toInt := hs_103.2.2.1.1
        have lg_104_7 : g_104 7 = (tI M_102 t 4).toInt := hs_103.2.2.2.1.1
        have lg_104_8 : g_104 8 = (tI M_102 t 5).toInt := hs_103.2.2.2.1.2.1
        have tq_106 : tq t td M_102 := tq_m0 ht (i_nt (x := r_10) rfl (by omega) (by omega)) tq_101 hM_102 (by decide)
        have E1 : pp_g1 B n r_10.toInt g_16 = g_54 := by unfold pp_g1; rw [if_neg (by rw [gu]; omega), ← eg_29, ← eg_54]
        have E2 : pp_g3 B n r_10.toInt g_54 = g_104 := by unfold pp_g3; rw [show pp_tv g_54 = r_56.toInt from p0r_56.symm, ← eg_62]; unfold pp_g2; rw [if_neg (by omega), show r_10.toInt.toNat = r_10.toNatClampNeg from rfl, ← eg_100, ← eg_104]
        exact hQ _ _ _ _ _ hw (⟨iM_102, ((rf_I hM_102).trans ((q_96).trans ((q_58).trans ((q_50).trans ((q_25).trans ((q_12).trans q_3)))))), (f0.trans (f0_I hM_102 (f0n ob_19.1 (by decide))) (f0.trans (f0_12 q_97) (f0.trans (f0_12 q_59) (f0.trans (f0_12 q_51) (f0.trans (f0_12 q_26) (f0.trans (f0_12 q_13) (f0_12 (o2_12 q_4)))))))), ((tI_nE hM_102 (nk (by decide))).trans ((q_98).trans ((q_60).trans ((q_52).trans ((q_27).trans ((q_14).trans q_5)))))), (ot.trans (ot_m ht (i_nt (x := r_10) rfl (by omega) (by omega)) hM_102) (ot.trans (ot_12 ht q_97 q_99) (ot.trans (ot_12 ht q_59 q_61) (ot.trans (ot_12 ht q_51 q_53) (ot.trans (ot_12 ht q_26 q_28) (ot.trans (ot_12 ht q_13 q_15) (ot_12 ht (o2_12 q_4) q_6.1))))))), (by unfold pp_gd; rw [← eg_8, ← eg_16, show pp_tv g_8 = r_10.toInt from p0r_10.symm, if_neg (by omega), E1, E2]; exact hs_103), tq_106⟩) dX4_readGuard_79
      · refine lv_aload_n hx hb dX4_readGuard_55 rfl (lv_at hl 2 rfl) ?_
        refine lv_iconst (v := 5) hx hb dX4_readGuard_56 (by decide) ?_
        refine ti_callVv (ci := 4) (av := [.int 5]) C hw (x_X4_refuse l D A cy hJ M_57 iM_57 t ht 5 B n g_62 p1r_56) ⟨ml_X4_82, ym_X4_refuse, yv_X4_refuse, yi_X4_refuse, yc_X4_refuse⟩ yd_X4_refuse ob_1 (by decide) rfl rfl hl.1 (Nat.le_of_ble_eq_true rfl) ⟨by decide, by decide⟩ ⟨Nat.zero_le _, Nat.zero_le _⟩ dX4_readGuard_57 (fun M_74 H locs hp_74 hw => ?_)
        obtain ⟨iM_74, q_75, q_76, q_77, q_78, p0r_73⟩ := hp_74
        have hlr_73_5 : (5 : Int32).toInt = 5 := by decide
        simp only [hlr_73_5] at p0r_73
        obtain ⟨g_79, eg_79⟩ : ∃ z : Nat → Int, z = pp_rf 5 g_62 := ⟨_, rfl⟩
        rw [← eg_79] at p0r_73
        have lg_79_0 : g_79 0 = (tI M_74 2 4).toInt := p0r_73.2.1.1
        have lg_79_1 : g_79 1 = (tI M_74 2 6).toInt := p0r_73.2.1.2.1
        have lg_79_4 : g_79 4 = (tI M_74 1 4).toInt := p0r_73.2.2.1.1
        have lg_79_7 : g_79 7 = (tI M_74 t 4).toInt := p0r_73.2.2.2.1.1
        have lg_79_8 : g_79 8 = (tI M_74 t 5).toInt := p0r_73.2.2.2.1.2.1
        have tq_80 : tq t td M_74 := tq_fr ht tq_63 q_76 q_78
        refine lv_aload_n hx hb dX4_readGuard_60 rfl (lv_at hl 2 rfl) ?_
        refine lv_bipush (v := 25) hx hb dX4_readGuard_61 (by decide) ?_
        refine ti_callVvE (ci := 4) (av := [.int 25]) C hE hw (x_X4_take l D A cy hJ M_74 iM_74 t ht 25 B n g_79 p0r_73) ⟨ml_X4_85, ym_X4_take, yv_X4_take, yi_X4_take, yc_X4_take⟩ yd_X4_take ob_1 (by decide) rfl rfl hl.1 (Nat.le_of_ble_eq_true rfl) ⟨by decide, by decide⟩ ⟨Nat.zero_le _, Nat.zero_le _⟩ dX4_readGuard_63 (fun M_121 H locs hp_121 hw => ?_)
        obtain ⟨iM_121, q_122, q_123, q_124, q_125, p0r_120⟩ := hp_121
        have hlr_120_25 : (25 : Int32).toInt = 25 := by decide
        simp only [hlr_120_25] at p0r_120
        obtain ⟨g_126, eg_126⟩ : ∃ z : Nat → Int, z = pp_tk B n 25 g_79 := ⟨_, rfl⟩
        rw [← eg_126] at p0r_120
        have lg_126_0 : g_126 0 = (tI M_121 2 4).toInt := p0r_120.2.1.1
        have lg_126_1 : g_126 1 = (tI M_121 2 6).toInt := p0r_120.2.1.2.1
        have lg_126_4 : g_126 4 = (tI M_121 1 4).toInt := p0r_120.2.2.1.1
        have lg_126_7 : g_126 7 = (tI M_121 t 4).toInt := p0r_120.2.2.2.1.1
        have lg_126_8 : g_126 8 = (tI M_121 t 5).toInt := p0r_120.2.2.2.1.2.1
        have tq_127 : tq t td M_121 := tq_fr ht tq_80 q_123 q_125
        refine lv_aload_n hx hb dX4_readGuard_66 rfl (lv_at hl 2 rfl) ?_
        refine ti_get (ci := 4) (k := 1) (N := 6) (T := TX4) (v := .ref (A t 0)) C hw iw_4 rfl ob_1 (by decide) (by decide) fl_X4_28 rfl (ti_Tv ((tT_fr q_122).trans ((tT_fr q_75).trans ((tT_fr q_58).trans ((tT_fr q_50).trans ((tT_fr q_25).trans ((tT_fr q_12).trans ((tT_fr q_3).trans hT)))))))) dX4_readGuard_67 ?_
        refine ti_get (ci := 8) (k := 0) (N := 12) (T := TX8) (v := .ref (A t 1)) C hw iw_8 rfl (ob_t ht) (by decide) (by decide) fl_X4_101 rfl rfl dX4_readGuard_70 ?_
        refine lv_iload_n hx hb dX4_readGuard_73 rfl (lv_at hl 1 rfl) ?_
        refine ti_aald (ci := 8) (k := 0) (n := 8) (t0 := 5) (Cn := RX2) (gg := (ti_men t)) (j := r_10.toNatClampNeg) C hw (ob_t ht) (by decide) (fun _ _ => rfl) rfl (vp_in_iff.mpr (by omega)) rfl dX4_readGuard_74 ?_
        refine lv_iload_n hx hb dX4_readGuard_75 rfl (lv_at hl 0 rfl) ?_
        refine ti_putI (ci := 2) (k := 9) (N := 10) (T := TX2) C hw iw_2 tyX2 tyX2_ok nmX2 rfl ob_19 (by decide) (by decide) fl_X4_139 rfl rfl rfl rfl (fn_2 A _) fs_2_9 dX4_readGuard_76 (fun H locs hw => ?_)
        obtain ⟨M_128, hM_128⟩ : ∃ z : ti_M, z = uI M_121 (ti_men t r_10.toNatClampNeg) 9 r_56 := ⟨_, rfl⟩
        have hw := hw.to hM_128.symm
        have iM_128 : cI Tc M_128 := cI_uI iM_121 hM_128 ob_19.1 trivial
        have hs_129 := rC_m9 (j := r_10.toNatClampNeg) ht (i_nt (x := r_10) rfl (by omega) (by omega)) hM_128 p0r_120
        obtain ⟨g_130, eg_130⟩ : ∃ z : Nat → Int, z = pp_su g_126 (200 + r_10.toNatClampNeg) r_56.toInt := ⟨_, rfl⟩
        rw [← eg_130] at hs_129
        have lg_130_0 : g_130 0 = (tI M_128 2 4).toInt := hs_129.2.1.1
        have lg_130_1 : g_130 1 = (tI M_128 2 6).toInt := hs_129.2.1.2.1
        have lg_130_4 : g_130 4 = (tI M_128 1 4).toInt := hs_129.2.2.1.1
        have lg_130_7 : g_130 7 = (tI M_128 t 4).toInt := hs_129.2.2.2.1.1
        have lg_130_8 : g_130 8 = (tI M_128 t 5).toInt := hs_129.2.2.2.1.2.1
        have tq_132 : tq t td M_128 := tq_m0 ht (i_nt (x := r_10) rfl (by omega) (by omega)) tq_127 hM_128 (by decide)
        have E1 : pp_g1 B n r_10.toInt g_16 = g_54 := by unfold pp_g1; rw [if_neg (by rw [gu]; omega), ← eg_29, ← eg_54]
        have E2 : pp_g3 B n r_10.toInt g_54 = g_130 := by unfold pp_g3; rw [show pp_tv g_54 = r_56.toInt from p0r_56.symm, ← eg_62]; unfold pp_g2; rw [if_pos (by omega), show r_10.toInt.toNat = r_10.toNatClampNeg from rfl, ← eg_79, ← eg_126, ← eg_130]
        exact hQ _ _ _ _ _ hw (⟨iM_128, ((rf_I hM_128).trans ((q_122).trans ((q_75).trans ((q_58).trans ((q_50).trans ((q_25).trans ((q_12).trans q_3))))))), (f0.trans (f0_I hM_128 (f0n ob_19.1 (by decide))) (f0.trans (f0_12 q_123) (f0.trans (f0_12 q_76) (f0.trans (f0_12 q_59) (f0.trans (f0_12 q_51) (f0.trans (f0_12 q_26) (f0.trans (f0_12 q_13) (f0_12 (o2_12 q_4))))))))), ((tI_nE hM_128 (nk (by decide))).trans ((q_124).trans ((q_77).trans ((q_60).trans ((q_52).trans ((q_27).trans ((q_14).trans q_5))))))), (ot.trans (ot_m ht (i_nt (x := r_10) rfl (by omega) (by omega)) hM_128) (ot.trans (ot_12 ht q_123 q_125) (ot.trans (ot_12 ht q_76 q_78) (ot.trans (ot_12 ht q_59 q_61) (ot.trans (ot_12 ht q_51 q_53) (ot.trans (ot_12 ht q_26 q_28) (ot.trans (ot_12 ht q_13 q_15) (ot_12 ht (o2_12 q_4) q_6.1)))))))), (by unfold pp_gd; rw [← eg_8, ← eg_16, show pp_tv g_8 = r_10.toInt from p0r_10.symm, if_neg (by omega), E1, E2]; exact hs_129), tq_132⟩) dX4_readGuard_79
  · exact hQ _ _ _ _ _ hw (⟨iM_11, ((q_12).trans q_3), (f0.trans (f0_12 q_13) (f0_12 (o2_12 q_4))), ((q_14).trans q_5), (ot.trans (ot_12 ht q_13 q_15) (ot_12 ht (o2_12 q_4) q_6.1)), (by unfold pp_gd; rw [← eg_8, ← eg_16, show pp_tv g_8 = r_10.toInt from p0r_10.symm, if_pos (by omega)]; exact p1r_10), tq_17⟩) dX4_readGuard_17
end
section
variable {Tc : gC} {Tm : gM}
def pp_lp (P : Int → Bool) (F : (Nat → Int) → Nat → Int) : Nat → (Nat → Int) → Nat → Int
  | 0, s => s
  | f + 1, s => if P (s 0) = true then pp_lp P F f (F s) else s
theorem lp_step {P : Int → Bool} {F : (Nat → Int) → Nat → Int} {f f' : Nat} {s s' : Nat → Int} (h : P (s 0) = true) (e : s' = F s) (hf : f = f' + 1) : pp_lp P F f s = pp_lp P F f' s' := by
  subst e hf
  rw [pp_lp, if_pos h]
theorem lp_end {P : Int → Bool} {F : (Nat → Int) → Nat → Int} {f : Nat} {s : Nat → Int} (h : f = 0 ∨ P (s 0) = false) : pp_lp P F f s = s := by
  cases f with
  | zero => rfl
  | succ f =>
    rcases h with h | h
    · cases h
    · rw [pp_lp, if_neg (by rw [h]; decide)]
def pp_qT (k : Int) : Bool := decide (k = 40 ∨ k = 41)
def pp_qP (k : Int) : Bool := decide (k = 38 ∨ k = 39)
def pp_qN (k : Int) : Bool := decide (k = 24)
def pp_qA (k : Int) : Bool := decide (k = 22)
def pp_qO (k : Int) : Bool := decide (k = 23)
def pp_p0 (B : Nat → Int) (n : Nat) (s : Nat → Int) : Nat → Int := if s 0 = 26 then (if 9999 < s 1 then pp_rf 2 s else pp_kn B n s) else if 16 ≤ s 0 ∧ s 0 ≤ 21 then pp_kn B n s else pp_rf 1 s
def pp_pd (B : Nat → Int) (n : Nat) (F : (Nat → Int) → Nat → Int) (s : Nat → Int) : Nat → Int := pp_lp pp_qT (fun s => F (pp_kn B n s)) 64 (F s)
def pp_sm (B : Nat → Int) (n : Nat) (F : (Nat → Int) → Nat → Int) (s : Nat → Int) : Nat → Int := pp_lp pp_qP (fun s => pp_pd B n F (pp_kn B n s)) 64 (pp_pd B n F s)
def pp_c2 (B : Nat → Int) (n : Nat) (F : (Nat → Int) → Nat → Int) (s : Nat → Int) : Nat → Int := if 32 ≤ s 0 ∧ s 0 ≤ 37 then pp_sm B n F (pp_kn B n s) else s
def pp_cm (B : Nat → Int) (n : Nat) (F : (Nat → Int) → Nat → Int) (s : Nat → Int) : Nat → Int := pp_c2 B n F (pp_sm B n F s)
def pp_ng (B : Nat → Int) (n : Nat) (F : (Nat → Int) → Nat → Int) (s : Nat → Int) : Nat → Int := pp_cm B n F (pp_lp pp_qN (pp_kn B n) 65 s)
def pp_bo (B : Nat → Int) (n : Nat) (F : (Nat → Int) → Nat → Int) (s : Nat → Int) : Nat → Int := pp_lp pp_qA (fun s => pp_ng B n F (pp_kn B n s)) 64 (pp_ng B n F s)
def pp_ei (B : Nat → Int) (n : Nat) (F : (Nat → Int) → Nat → Int) (s : Nat → Int) : Nat → Int := pp_lp pp_qO (fun s => pp_bo B n F (pp_kn B n s)) 64 (pp_bo B n F s)
/-- a part of an expression, with so many brackets still to be opened -/
def pp_pt (B : Nat → Int) (n : Nat) : Nat → (Nat → Int) → Nat → Int
  | 0, s => if s 0 = 30 then pp_rf 2 s else pp_p0 B n s
  | d + 1, s => if s 0 = 30 then pp_tk B n 31 (pp_ei B n (pp_pt B n d) (pp_av B n s)) else pp_p0 B n s
theorem pe_0 {B : Nat → Int} {n : Nat} {s : Nat → Int} : pp_pt B n 0 s = if s 0 = 30 then pp_rf 2 s else pp_p0 B n s := rfl
theorem pe_1 {B : Nat → Int} {n : Nat} {s : Nat → Int} : pp_pt B n 1 s = if s 0 = 30 then pp_tk B n 31 (pp_ei B n (pp_pt B n 0) (pp_av B n s)) else pp_p0 B n s := rfl
theorem pe_2 {B : Nat → Int} {n : Nat} {s : Nat → Int} : pp_pt B n 2 s = if s 0 = 30 then pp_tk B n 31 (pp_ei B n (pp_pt B n 1) (pp_av B n s)) else pp_p0 B n s := rfl
theorem pe_3 {B : Nat → Int} {n : Nat} {s : Nat → Int} : pp_pt B n 3 s = if s 0 = 30 then pp_tk B n 31 (pp_ei B n (pp_pt B n 2) (pp_av B n s)) else pp_p0 B n s := rfl
theorem pe_4 {B : Nat → Int} {n : Nat} {s : Nat → Int} : pp_pt B n 4 s = if s 0 = 30 then pp_tk B n 31 (pp_ei B n (pp_pt B n 3) (pp_av B n s)) else pp_p0 B n s := rfl
theorem pe_5 {B : Nat → Int} {n : Nat} {s : Nat → Int} : pp_pt B n 5 s = if s 0 = 30 then pp_tk B n 31 (pp_ei B n (pp_pt B n 4) (pp_av B n s)) else pp_p0 B n s := rfl
theorem pe_6 {B : Nat → Int} {n : Nat} {s : Nat → Int} : pp_pt B n 6 s = if s 0 = 30 then pp_tk B n 31 (pp_ei B n (pp_pt B n 5) (pp_av B n s)) else pp_p0 B n s := rfl
theorem pe_7 {B : Nat → Int} {n : Nat} {s : Nat → Int} : pp_pt B n 7 s = if s 0 = 30 then pp_tk B n 31 (pp_ei B n (pp_pt B n 6) (pp_av B n s)) else pp_p0 B n s := rfl
theorem pe_8 {B : Nat → Int} {n : Nat} {s : Nat → Int} : pp_pt B n 8 s = if s 0 = 30 then pp_tk B n 31 (pp_ei B n (pp_pt B n 7) (pp_av B n s)) else pp_p0 B n s := rfl
def qa (j : Nat) (v : Int) (td : Nat → Int) : Nat → Int := if td (300 + j) < 64 then pp_su (pp_su td (400 + 64 * j + (td (300 + j)).toNat) v) (300 + j) (td (300 + j) + 1) else td
def qq_p0 (j : Nat) (s td : Nat → Int) : Nat → Int := if s 0 = 26 then (if 9999 < s 1 then td else qa j (s 1) td) else if 16 ≤ s 0 ∧ s 0 ≤ 21 then qa j (-(s 0)) td else td
def qq_lp (P : Int → Bool) (F : (Nat → Int) → Nat → Int) (G : (Nat → Int) → (Nat → Int) → Nat → Int) : Nat → (Nat → Int) → (Nat → Int) → Nat → Int
  | 0, _, td => td
  | f + 1, s, td => if P (s 0) = true then qq_lp P F G f (F s) (G s td) else td
theorem qlp_step {P : Int → Bool} {F : (Nat → Int) → Nat → Int} {G : (Nat → Int) → (Nat → Int) → Nat → Int} {f f' : Nat} {s s' td td' : Nat → Int} (h : P (s 0) = true) (e : s' = F s) (e2 : td' = G s td) (hf : f = f' + 1) : qq_lp P F G f s td = qq_lp P F G f' s' td' := by
  subst e e2 hf
  rw [qq_lp, if_pos h]
theorem qlp_end {P : Int → Bool} {F : (Nat → Int) → Nat → Int} {G : (Nat → Int) → (Nat → Int) → Nat → Int} {f : Nat} {s td : Nat → Int} (h : f = 0 ∨ P (s 0) = false) : qq_lp P F G f s td = td := by
  cases f with
  | zero => rfl
  | succ f =>
    rcases h with h | h
    · cases h
    · rw [qq_lp, if_neg (by rw [h]; decide)]
section
variable (B : Nat → Int) (n j : Nat) (F : (Nat → Int) → Nat → Int) (G : (Nat → Int) → (Nat → Int) → Nat → Int)
def qq_pd (s td : Nat → Int) : Nat → Int := qq_lp pp_qT (fun s => F (pp_kn B n s)) (fun s td => qa j (-(s 0)) (G (pp_kn B n s) td)) 64 (F s) (G s td)
def qq_sm (s td : Nat → Int) : Nat → Int := qq_lp pp_qP (fun s => pp_pd B n F (pp_kn B n s)) (fun s td => qa j (-(s 0)) (qq_pd B n j F G (pp_kn B n s) td)) 64 (pp_pd B n F s) (qq_pd B n j F G s td)
def qq_c2 (s td : Nat → Int) : Nat → Int := if 32 ≤ s 0 ∧ s 0 ≤ 37 then qa j (-(s 0)) (qq_sm B n j F G (pp_kn B n s) td) else td
def qq_cm (s td : Nat → Int) : Nat → Int := qq_c2 B n j F G (pp_sm B n F s) (qq_sm B n j F G s td)
/-- so many times not -/
def qq_na : Nat → (Nat → Int) → Nat → Int
  | 0, td => td
  | f + 1, td => qa j (-24) (qq_na f td)
def qq_ca : Nat → (Nat → Int) → Nat → Nat
  | 0, _, k => k
  | f + 1, s, k => if pp_qN (s 0) = true then qq_ca f (pp_kn B n s) (k + 1) else k
def qq_ng (s td : Nat → Int) : Nat → Int := qq_na j (qq_ca B n 65 s 0) (qq_cm B n j F G (pp_lp pp_qN (pp_kn B n) 65 s) td)
def qq_bo (s td : Nat → Int) : Nat → Int := qq_lp pp_qA (fun s => pp_ng B n F (pp_kn B n s)) (fun s td => qa j (-22) (qq_ng B n j F G (pp_kn B n s) td)) 64 (pp_ng B n F s) (qq_ng B n j F G s td)
def qq_ei (s td : Nat → Int) : Nat → Int := qq_lp pp_qO (fun s => pp_bo B n F (pp_kn B n s)) (fun s td => qa j (-23) (qq_bo B n j F G (pp_kn B n s) td)) 64 (pp_bo B n F s) (qq_bo B n j F G s td)
end
theorem ca_step {B : Nat → Int} {n f f' k k' : Nat} {s s' : Nat → Int} (h : pp_qN (s 0) = true) (e : s' = pp_kn B n s) (hf : f = f' + 1) (hk : k' = k + 1) : qq_ca B n f s k = qq_ca B n f' s' k' := by
  subst e hf hk
  rw [qq_ca, if_pos h]
theorem ca_end {B : Nat → Int} {n f k : Nat} {s : Nat → Int} (h : f = 0 ∨ pp_qN (s 0) = false) : qq_ca B n f s k = k := by
  cases f with
  | zero => rfl
  | succ f =>
    rcases h with h | h
    · cases h
    · rw [qq_ca, if_neg (by rw [h]; decide)]
def qq_pt (B : Nat → Int) (n j : Nat) : Nat → (Nat → Int) → (Nat → Int) → Nat → Int
  | 0, s, td => if s 0 = 30 then td else qq_p0 j s td
  | d + 1, s, td => if s 0 = 30 then qq_ei B n j (pp_pt B n d) (qq_pt B n j d) (pp_av B n s) td else qq_p0 j s td
theorem qe_0 {B : Nat → Int} {n j : Nat} {s td : Nat → Int} : qq_pt B n j 0 s td = if s 0 = 30 then td else qq_p0 j s td := rfl
theorem qe_1 {B : Nat → Int} {n j : Nat} {s td : Nat → Int} : qq_pt B n j 1 s td = if s 0 = 30 then qq_ei B n j (pp_pt B n 0) (qq_pt B n j 0) (pp_av B n s) td else qq_p0 j s td := rfl
theorem qe_2 {B : Nat → Int} {n j : Nat} {s td : Nat → Int} : qq_pt B n j 2 s td = if s 0 = 30 then qq_ei B n j (pp_pt B n 1) (qq_pt B n j 1) (pp_av B n s) td else qq_p0 j s td := rfl
theorem qe_3 {B : Nat → Int} {n j : Nat} {s td : Nat → Int} : qq_pt B n j 3 s td = if s 0 = 30 then qq_ei B n j (pp_pt B n 2) (qq_pt B n j 2) (pp_av B n s) td else qq_p0 j s td := rfl
theorem qe_4 {B : Nat → Int} {n j : Nat} {s td : Nat → Int} : qq_pt B n j 4 s td = if s 0 = 30 then qq_ei B n j (pp_pt B n 3) (qq_pt B n j 3) (pp_av B n s) td else qq_p0 j s td := rfl
theorem qe_5 {B : Nat → Int} {n j : Nat} {s td : Nat → Int} : qq_pt B n j 5 s td = if s 0 = 30 then qq_ei B n j (pp_pt B n 4) (qq_pt B n j 4) (pp_av B n s) td else qq_p0 j s td := rfl
theorem qe_6 {B : Nat → Int} {n j : Nat} {s td : Nat → Int} : qq_pt B n j 6 s td = if s 0 = 30 then qq_ei B n j (pp_pt B n 5) (qq_pt B n j 5) (pp_av B n s) td else qq_p0 j s td := rfl
theorem qe_7 {B : Nat → Int} {n j : Nat} {s td : Nat → Int} : qq_pt B n j 7 s td = if s 0 = 30 then qq_ei B n j (pp_pt B n 6) (qq_pt B n j 6) (pp_av B n s) td else qq_p0 j s td := rfl
theorem qe_8 {B : Nat → Int} {n j : Nat} {s td : Nat → Int} : qq_pt B n j 8 s td = if s 0 = 30 then qq_ei B n j (pp_pt B n 7) (qq_pt B n j 7) (pp_av B n s) td else qq_p0 j s td := rfl
end
section
variable {Tc : gC} {Tm : gM}
theorem px_rn {P : Int → Bool} {B B' : Nat → Int} {n : Nat} (h : ∀ i : Nat, i < n → B i = B' i) : ∀ f a : Nat, pt_rn P B n f a = pt_rn P B' n f a := by
  intro f
  induction f with
  | zero => intro a; rfl
  | succ f ih =>
    intro a
    rw [pt_rn, pt_rn]
    by_cases q : a < n
    · rw [h a q, ih]
    · rw [if_neg (fun g => q g.1), if_neg (fun g => q g.1)]
theorem px_to {P : Int → Bool} {B B' : Nat → Int} {n a : Nat} (h : ∀ i : Nat, i < n → B i = B' i) : pt_to P B n a = pt_to P B' n a := px_rn h _ _
theorem px_pk {B B' : Nat → Int} {n a : Nat} (h : ∀ i : Nat, i < n → B i = B' i) : pt_pk B n a = pt_pk B' n a := by
  unfold pt_pk
  by_cases q : a < n
  · rw [if_pos q, if_pos q, h a q]
  · rw [if_neg q, if_neg q]
theorem px_nf {B B' : Nat → Int} {n : Nat} (h : ∀ i : Nat, i < n → B i = B' i) : ∀ (f a : Nat) (v : Int), pt_nf B n f a v = pt_nf B' n f a v := by
  intro f
  induction f with
  | zero => intro a v; rfl
  | succ f ih =>
    intro a v
    rw [pt_nf, pt_nf]
    by_cases q : a < n
    · rw [h a q, ih]
    · rw [if_neg (fun g => q g.1), if_neg (fun g => q g.1)]
theorem px_ef {B B' : Nat → Int} {n : Nat} (h : ∀ i : Nat, i < n → B i = B' i) : ∀ (f a i : Nat) (v : Int), pt_ef B n f a i v = pt_ef B' n f a i v := by
  intro f
  induction f with
  | zero => intro a i v; rfl
  | succ f ih =>
    intro a i v
    rw [pt_ef, pt_ef]
    by_cases q : a < n
    · rw [h a q, ih]
    · rw [if_neg (fun g => q g.1), if_neg (fun g => q g.1)]
theorem px_P {B B' : Nat → Int} {n a : Nat} (h : ∀ i : Nat, i < n → B i = B' i) : pt_P B n a = pt_P B' n a := px_to h
theorem px_C {B B' : Nat → Int} {n a : Nat} (h : ∀ i : Nat, i < n → B i = B' i) : pt_C B n a = pt_C B' n a := by unfold pt_C; rw [px_P h, px_pk h]
theorem px_ev {B B' : Nat → Int} {n a i : Nat} {v : Int} (h : ∀ i : Nat, i < n → B i = B' i) : pt_ev B n a i v = pt_ev B' n a i v := px_ef h _ _ _ _
theorem px_nv {B B' : Nat → Int} {n a : Nat} {v : Int} (h : ∀ i : Nat, i < n → B i = B' i) : pt_nv B n a v = pt_nv B' n a v := px_nf h _ _ _
theorem px_K {B B' : Nat → Int} {n a : Nat} (h : ∀ i : Nat, i < n → B i = B' i) : pt_K B n a = pt_K B' n a := by unfold pt_K; rw [px_C h, px_P h, px_to h, px_ev h, px_pk h]
theorem px_V {B B' : Nat → Int} {n a : Nat} (h : ∀ i : Nat, i < n → B i = B' i) : pt_V B n a = pt_V B' n a := by unfold pt_V; rw [px_C h, px_P h, px_ev h, px_nv h]
theorem px_A {B B' : Nat → Int} {n a : Nat} (h : ∀ i : Nat, i < n → B i = B' i) : pt_A B n a = pt_A B' n a := by unfold pt_A; rw [px_C h, px_P h, px_to h, px_to h, px_pk h]
def rQ0 (n : Nat) (s : Nat → Int) (M : ti_M) : Prop :=
  pt_T (s 0) (s 1) (tI M 60 23).toInt (tI M 60 24).toInt ∧ (s 2 = (tI M 60 22).toInt ∧ s 3 = (tI M 60 21).toInt ∧ s 3 ≤ (n : Int)) ∧ (s 7 = (tY M 60 3 11).toInt ∧ s 8 = (tI M 60 30).toInt ∧ s 9 = (tI M 60 19).toInt) ∧ (∀ i : Nat, i < 8 → (i : Int) < s 7 → s (100 + i) = (tY M 60 4 (8 + i)).toInt ∧ s (200 + i) = (tY M 60 13 (8 + i)).toInt - 1 ∧ -1 ≤ s (200 + i)) ∧ (∀ k : Nat, 3 ≤ k → k ≤ 7 → s (300 + k) = pp_bt (tI M 60 18) k) ∧ (∀ k : Nat, k < 3 → s (309 + k) = pp_bt (tI M 60 18) (12 + k) ∧ s (312 + k) = pp_bt (tI M 60 18) (16 + k))
def rQ (B : Nat → Int) (n : Nat) (s : Nat → Int) (M : ti_M) : Prop :=
  ((∀ i : Nat, i < n → pt_rB M i = B i) ∧ pt_rn0 M = n) ∧ s 4 = (tI M 60 25).toInt ∧ (s 5 = (tI M 60 26).toInt ∧ (s 4 ≠ 0 → s 0 = 28)) ∧ (s 4 = 0 → rQ0 n s M)
/-- a fault stands -/
def fz (s : Nat → Int) : Prop := s 4 ≠ 0 ∧ s 0 = 28
/-- .. and nothing more happens -/
def fk (s' s : Nat → Int) : Prop := s' 4 = s 4 ∧ s' 5 = s 5 ∧ s' 0 = 28
theorem fk.trans {a b c : Nat → Int} (x : fk a b) (y : fk b c) : fk a c := ⟨x.1.trans y.1, x.2.1.trans y.2.1, x.2.2⟩
theorem fk.zz {a b : Nat → Int} (x : fk a b) (y : fz b) : fz a := ⟨by rw [x.1]; exact y.1, x.2.2⟩
theorem fk.refl {a : Nat → Int} (y : fz a) : fk a a := ⟨rfl, rfl, y.2⟩
theorem fk_su {s : Nat → Int} {k : Nat} {v : Int} (h : fz s) (hk : 6 ≤ k) : fk (pp_su s k v) s := ⟨su_n (by omega), su_n (by omega), by rw [su_n (by omega)]; exact h.2⟩
theorem rf_f {s : Nat → Int} {k : Int} (h : fz s) : fk (pp_rf k s) s := by
  unfold pp_rf
  rw [if_neg h.1]
  exact ⟨su_n (by decide), su_n (by decide), su_s⟩
theorem tk_f {B : Nat → Int} {n : Nat} {s : Nat → Int} {k : Int} (h : fz s) (hk : k ≠ 28) : fk (pp_tk B n k s) s := by
  unfold pp_tk
  rw [if_neg (by rw [h.2]; exact Ne.symm hk)]
  exact rf_f h
theorem nb_f {B : Nat → Int} {n : Nat} {s : Nat → Int} {lo mo : Int} (h : fz s) : fk (pp_nb B n lo mo s) s := by
  unfold pp_nb
  rw [if_neg (by rw [h.2]; decide)]
  exact rf_f h
theorem lp_f {P : Int → Bool} {F : (Nat → Int) → Nat → Int} {f : Nat} {s : Nat → Int} (h : fz s) (hP : P 28 = false) : pp_lp P F f s = s := lp_end (Or.inr (by rw [h.2]; exact hP))
theorem p0_f {B : Nat → Int} {n : Nat} {s : Nat → Int} (h : fz s) : fk (pp_p0 B n s) s := by
  unfold pp_p0
  rw [if_neg (by rw [h.2]; decide), if_neg (by rw [h.2]; decide)]
  exact rf_f h
theorem pt_f {B : Nat → Int} {n d : Nat} {s : Nat → Int} (h : fz s) : fk (pp_pt B n d s) s := by
  cases d with
  | zero => rw [pp_pt, if_neg (by rw [h.2]; decide)]; exact p0_f h
  | succ d => rw [pp_pt, if_neg (by rw [h.2]; decide)]; exact p0_f h
section
variable {B : Nat → Int} {n : Nat} {F : (Nat → Int) → Nat → Int} {s : Nat → Int}
theorem pd_f (hF : ∀ s : Nat → Int, fz s → fk (F s) s) (h : fz s) : fk (pp_pd B n F s) s := by
  unfold pp_pd
  rw [lp_f ((hF s h).zz h) (by decide)]
  exact hF s h
theorem sm_f (hF : ∀ s : Nat → Int, fz s → fk (F s) s) (h : fz s) : fk (pp_sm B n F s) s := by
  unfold pp_sm
  rw [lp_f ((pd_f hF h).zz h) (by decide)]
  exact pd_f hF h
theorem cm_f (hF : ∀ s : Nat → Int, fz s → fk (F s) s) (h : fz s) : fk (pp_cm B n F s) s := by
  unfold pp_cm pp_c2
  have q := sm_f (B := B) (n := n) hF h
  rw [if_neg (by rw [q.2.2]; decide)]
  exact q
theorem ng_f (hF : ∀ s : Nat → Int, fz s → fk (F s) s) (h : fz s) : fk (pp_ng B n F s) s := by
  unfold pp_ng
  rw [lp_f h (by decide)]
  exact cm_f hF h
theorem bo_f (hF : ∀ s : Nat → Int, fz s → fk (F s) s) (h : fz s) : fk (pp_bo B n F s) s := by
  unfold pp_bo
  rw [lp_f ((ng_f hF h).zz h) (by decide)]
  exact ng_f hF h
theorem ei_f (hF : ∀ s : Nat → Int, fz s → fk (F s) s) (h : fz s) : fk (pp_ei B n F s) s := by
  unfold pp_ei
  rw [lp_f ((bo_f hF h).zz h) (by decide)]
  exact bo_f hF h
end
theorem m2_f {s : Nat → Int} (h : fz s) : fk (pp_m2 s) s := by
  unfold pp_m2
  rw [if_neg (fun q => absurd q.1 (by rw [h.2]; decide))]
  exact fk.refl h
/-- where a fault stands the reference's memory is beside all such registers -/
theorem rQ_f {B : Nat → Int} {n : Nat} {s s' : Nat → Int} {M : ti_M} (h : rQ B n s M) (hz : s 4 ≠ 0) (hk : fk s' s) : rQ B n s' M := by
  refine ⟨h.1, hk.1.trans h.2.1, ⟨hk.2.1.trans h.2.2.1.1, fun _ => hk.2.2⟩, fun q => absurd q (by rw [hk.1]; exact hz)⟩
theorem rQ_z {B : Nat → Int} {n : Nat} {s : Nat → Int} {M : ti_M} (h : rQ B n s M) (hz : s 4 ≠ 0) : fz s := ⟨hz, h.2.2.1.2 hz⟩
theorem px_An {B : Nat → Int} {n a : Nat} (h : a ≤ n) : pt_A B n a ≤ (n : Int) := by
  have hp : pt_P B n a ≤ n := pt_to_n h
  unfold pt_A
  by_cases q : pt_C B n a = -1
  · rw [if_pos q]; omega
  · have hc := pt_pk_in (B := B) (n := n) (a := pt_P B n a) (c := pt_C B n a) rfl q
    rw [if_neg q]
    by_cases q1 : pt_L (pt_C B n a) = true
    · rw [if_pos q1]; have := pt_to_n (P := pt_L) (B := B) hp; omega
    · rw [if_neg q1]
      by_cases q2 : pt_D (pt_C B n a) = true
      · rw [if_pos q2]; have := pt_to_n (P := pt_D) (B := B) hp; omega
      · rw [if_neg q2]
        have hc1 := hc.1
        by_cases g : pt_P B n a + 1 < n
        · have := pt_s2b (pt_C B n a) (pt_pk B n (pt_P B n a + 1)); omega
        · have e : pt_pk B n (pt_P B n a + 1) = -1 := by unfold pt_pk; rw [if_neg g]
          rw [e]
          have e2 : pt_s2 (pt_C B n a) (-1) = 0 := by
            unfold pt_s2
            rw [if_neg (by omega), if_neg (by omega)]
          rw [e2]; omega
/-- behind a token -/
theorem rQ_av {B : Nat → Int} {n : Nat} {s : Nat → Int} {M N : ti_M} (h : rQ B n s M) (hz : s 4 = 0) (h0 : 0 ≤ (tI M 60 21).toInt) (hp : pr 21 24 N M) (k2 : (tI N 60 22).toInt = ((pt_P (pt_rB M) (pt_rn0 M) (tI M 60 21).toInt.toNat : Nat) : Int)) (k3 : (tI N 60 21).toInt = pt_A (pt_rB M) (pt_rn0 M) (tI M 60 21).toInt.toNat) (kT : pt_T (pt_K (pt_rB M) (pt_rn0 M) (tI M 60 21).toInt.toNat) (pt_V (pt_rB M) (pt_rn0 M) (tI M 60 21).toInt.toNat) (tI N 60 23).toInt (tI N 60 24).toInt) : rQ B n (pp_av B n s) N := by
  obtain ⟨⟨a1, a2⟩, b, c, d⟩ := h
  obtain ⟨d1, ⟨d2, d3, d3n⟩, ⟨d4, d5, d6⟩, d7, d8, d9⟩ := d hz
  rw [a2, ← d3] at k2 k3 kT
  rw [← d3] at h0
  rw [px_P a1] at k2
  rw [px_A a1] at k3
  rw [px_K a1, px_V a1] at kT
  have y : ∀ k : Nat, tY N 60 k = tY M 60 k := fun k => congrFun (congrFun hp.1 60) k
  have hn := px_An (B := B) (n := n) (a := (s 3).toNat) (by omega)
  refine ⟨⟨fun i hi => by rw [pr_B hp]; exact a1 i hi, by rw [pr_n hp (by decide)]; exact a2⟩, ?_, ⟨?_, fun q => absurd ?_ q⟩, fun _ => ⟨kT, ⟨k2.symm, k3.symm, hn⟩, ⟨?_, ?_, ?_⟩, fun i hi hl => ?_, fun k h1 h2 => ?_, fun k hk => ⟨?_, ?_⟩⟩⟩
  · rw [av_n (by decide), hp.2 25 (by decide)]; exact b
  · rw [av_n (by decide), hp.2 26 (by decide)]; exact c.1
  · rw [av_n (by decide)]; exact hz
  · rw [av_n (by decide), y]; exact d4
  · rw [av_n (by decide), hp.2 30 (by decide)]; exact d5
  · rw [av_n (by decide), hp.2 19 (by decide)]; exact d6
  · rw [av_n (by decide)] at hl
    rw [av_n (by omega), av_n (by omega), y, y]; exact d7 i hi hl
  · rw [av_n (by omega), hp.2 18 (by decide)]; exact d8 k h1 h2
  · rw [av_n (by omega), hp.2 18 (by decide)]; exact (d9 k hk).1
  · rw [av_n (by omega), hp.2 18 (by decide)]; exact (d9 k hk).2
/-- what of the memory is looked at -/
theorem rQ_keep {B : Nat → Int} {n : Nat} {s : Nat → Int} {M N : ti_M} (h : rQ B n s M) (h1 : tY N 60 1 = tY M 60 1) (hI : ∀ k : Nat, 18 ≤ k → k ≤ 30 → k ≠ 29 → tI N 60 k = tI M 60 k) (h3 : tY N 60 3 11 = tY M 60 3 11) (h4 : tY N 60 4 = tY M 60 4) (h13 : tY N 60 13 = tY M 60 13) : rQ B n s N := by
  unfold rQ rQ0 pt_rB pt_rn0 at *
  rw [h1, h3, h4, h13, hI 18 (by decide) (by decide) (by decide), hI 19 (by decide) (by decide) (by decide), hI 20 (by decide) (by decide) (by decide), hI 21 (by decide) (by decide) (by decide), hI 22 (by decide) (by decide) (by decide), hI 23 (by decide) (by decide) (by decide), hI 24 (by decide) (by decide) (by decide), hI 25 (by decide) (by decide) (by decide), hI 26 (by decide) (by decide) (by decide), hI 30 (by decide) (by decide) (by decide)]
  exact h
theorem rQ_pe {B : Nat → Int} {n : Nat} {s : Nat → Int} {M N : ti_M} (h : rQ B n s M) (p : pe N M) (hI : ∀ k, k ≠ 999 → tI N 60 k = tI M 60 k) : rQ B n s N :=
  rQ_keep h (p.1 1 (by decide) (by decide) (by decide)) (fun k _ h2 _ => hI k (by omega)) (p.2.1 11 (by decide)) (p.1 4 (by decide) (by decide) (by decide)) (p.1 13 (by decide) (by decide) (by decide))
theorem rQ_29 {B : Nat → Int} {n : Nat} {s : Nat → Int} {M N : ti_M} {v : Int32} (h : rQ B n s M) (e : N = uI M 60 29 v) : rQ B n s N :=
  rQ_keep h (tY_uIE e) (fun k _ _ h3 => tI_nE e (nk h3)) (by rw [tY_uIE e]) (tY_uIE e) (tY_uIE e)
theorem rQ_Yx {B : Nat → Int} {n k : Nat} {s : Nat → Int} {M N : ti_M} {f : Nat → Int32} (h : rQ B n s M) (e : N = uY M 60 k f) (h1 : k ≠ 1) (h3 : k ≠ 3) (h4 : k ≠ 4) (h13 : k ≠ 13) : rQ B n s N :=
  rQ_keep h (tY_nE e (nk (Ne.symm h1))) (fun k _ _ _ => tI_uYE e) (by rw [tY_nE e (nk (Ne.symm h3))]) (tY_nE e (nk (Ne.symm h4))) (tY_nE e (nk (Ne.symm h13)))
theorem rQ_3x {B : Nat → Int} {n i : Nat} {s : Nat → Int} {M N : ti_M} {v : Int32} (h : rQ B n s M) (e : N = uY M 60 3 (upd (tY M 60 3) i v)) (hi : i ≠ 11) : rQ B n s N :=
  rQ_keep h (tY_nE e (nk (by decide))) (fun k _ _ _ => tI_uYE e) (by rw [tY_uE e, pk_un (Ne.symm hi)]) (tY_nE e (nk (by decide))) (tY_nE e (nk (by decide)))
/-- what of the registers is looked at -/
theorem rQ_sub {B : Nat → Int} {n : Nat} {s s' : Nat → Int} {M : ti_M} (h : rQ B n s M) (e : ∀ j : Nat, (j < 10 ∨ (303 ≤ j ∧ j ≤ 314) ∨ (∃ i : Nat, i < 8 ∧ (i : Int) < s 7 ∧ (j = 100 + i ∨ j = 200 + i))) → s' j = s j) : rQ B n s' M := by
  obtain ⟨a, b, c, d⟩ := h
  have e4 := e 4 (Or.inl (by decide))
  refine ⟨a, e4.trans b, ?_, fun q => ?_⟩
  · rw [e4, e 5 (Or.inl (by decide)), e 0 (Or.inl (by decide))]; exact c
  · rw [e4] at q
    obtain ⟨d1, ⟨d2, d3, d3n⟩, ⟨d4, d5, d6⟩, d7, d8, d9⟩ := d q
    refine ⟨?_, ⟨?_, ?_, ?_⟩, ⟨?_, ?_, ?_⟩, fun i hi hl => ?_, fun k h1 h2 => ?_, fun k hk => ⟨?_, ?_⟩⟩
    · rw [e 0 (Or.inl (by decide)), e 1 (Or.inl (by decide))]; exact d1
    · rw [e 2 (Or.inl (by decide))]; exact d2
    · rw [e 3 (Or.inl (by decide))]; exact d3
    · rw [e 3 (Or.inl (by decide))]; exact d3n
    · rw [e 7 (Or.inl (by decide))]; exact d4
    · rw [e 8 (Or.inl (by decide))]; exact d5
    · rw [e 9 (Or.inl (by decide))]; exact d6
    · rw [e 7 (Or.inl (by decide))] at hl
      rw [e (100 + i) (Or.inr (Or.inr ⟨i, hi, hl, Or.inl rfl⟩)), e (200 + i) (Or.inr (Or.inr ⟨i, hi, hl, Or.inr rfl⟩))]
      exact d7 i hi hl
    · rw [e (300 + k) (Or.inr (Or.inl (by omega)))]; exact d8 k h1 h2
    · rw [e (309 + k) (Or.inr (Or.inl (by omega)))]; exact (d9 k hk).1
    · rw [e (312 + k) (Or.inr (Or.inl (by omega)))]; exact (d9 k hk).2
/-- a register of a man who isn't told yet -/
theorem rQ_su {B : Nat → Int} {n r : Nat} {s : Nat → Int} {M : ti_M} {v : Int} (h : rQ B n s M) (h7 : s 4 = 0 → 0 ≤ s 7 ∧ s 7 ≤ 8) (hr : r = 100 + (s 7).toNat ∨ r = 200 + (s 7).toNat) : rQ B n (pp_su s r v) M := by
  by_cases q : s 4 = 0
  · have h7 := h7 q
    refine rQ_sub h (fun j hj => su_n ?_)
    intro g
    rcases hj with hj | hj | ⟨i, hi, hl, hj⟩
    · omega
    · omega
    · omega
  · exact rQ_f h q (fk_su (rQ_z h q) (by omega))
theorem rQ_30 {B : Nat → Int} {n : Nat} {s : Nat → Int} {M N : ti_M} {v : Int32} (h : rQ B n s M) (e : N = uI M 60 30 v) : rQ B n (pp_su s 8 v.toInt) N := by
  obtain ⟨a, b, c, d⟩ := h
  have y : ∀ k : Nat, tY N 60 k = tY M 60 k := fun k => tY_uIE e
  have t : ∀ k : Nat, k ≠ 30 → tI N 60 k = tI M 60 k := fun k hk => tI_nE e (nk hk)
  refine ⟨⟨fun i hi => ?_, ?_⟩, ?_, ?_, fun q => ?_⟩
  · unfold pt_rB; rw [y 1]; exact a.1 i hi
  · unfold pt_rn0; rw [t 20 (by decide)]; exact a.2
  · rw [su_n (by omega), t 25 (by decide)]; exact b
  · rw [su_n (j := 5) (by omega), su_n (j := 4) (by omega), su_n (j := 0) (by omega), t 26 (by decide)]; exact c
  · rw [su_n (by omega)] at q; obtain ⟨d1, ⟨d2, d3, d3n⟩, ⟨d4, d5, d6⟩, d7, d8, d9⟩ := d q
    refine ⟨?_, ⟨?_, ?_, ?_⟩, ⟨?_, ?_, ?_⟩, fun i hi hl => ?_, fun k h1 h2 => ?_, fun k hk => ⟨?_, ?_⟩⟩
    · rw [su_n (by omega), su_n (by omega), t 23 (by decide), t 24 (by decide)]; exact d1
    · rw [su_n (by omega), t 22 (by decide)]; exact d2
    · rw [su_n (by omega), t 21 (by decide)]; exact d3
    · rw [su_n (by omega)]; exact d3n
    · rw [su_n (by omega), y 3]; exact d4
    · rw [su_s, tI_uE e]
    · rw [su_n (by omega), t 19 (by decide)]; exact d6
    · rw [su_n (by omega)] at hl; rw [su_n (by omega), su_n (by omega), y 4, y 13]; exact d7 i hi hl
    · rw [su_n (by omega), t 18 (by decide)]; exact d8 k h1 h2
    · rw [su_n (by omega), t 18 (by decide)]; exact (d9 k hk).1
    · rw [su_n (by omega), t 18 (by decide)]; exact (d9 k hk).2
theorem rQ_19 {B : Nat → Int} {n : Nat} {s : Nat → Int} {M N : ti_M} {v : Int32} (h : rQ B n s M) (e : N = uI M 60 19 v) : rQ B n (pp_su s 9 v.toInt) N := by
  obtain ⟨a, b, c, d⟩ := h
  have y : ∀ k : Nat, tY N 60 k = tY M 60 k := fun k => tY_uIE e
  have t : ∀ k : Nat, k ≠ 19 → tI N 60 k = tI M 60 k := fun k hk => tI_nE e (nk hk)
  refine ⟨⟨fun i hi => ?_, ?_⟩, ?_, ?_, fun q => ?_⟩
  · unfold pt_rB; rw [y 1]; exact a.1 i hi
  · unfold pt_rn0; rw [t 20 (by decide)]; exact a.2
  · rw [su_n (by omega), t 25 (by decide)]; exact b
  · rw [su_n (j := 5) (by omega), su_n (j := 4) (by omega), su_n (j := 0) (by omega), t 26 (by decide)]; exact c
  · rw [su_n (by omega)] at q; obtain ⟨d1, ⟨d2, d3, d3n⟩, ⟨d4, d5, d6⟩, d7, d8, d9⟩ := d q
    refine ⟨?_, ⟨?_, ?_, ?_⟩, ⟨?_, ?_, ?_⟩, fun i hi hl => ?_, fun k h1 h2 => ?_, fun k hk => ⟨?_, ?_⟩⟩
    · rw [su_n (by omega), su_n (by omega), t 23 (by decide), t 24 (by decide)]; exact d1
    · rw [su_n (by omega), t 22 (by decide)]; exact d2
    · rw [su_n (by omega), t 21 (by decide)]; exact d3
    · rw [su_n (by omega)]; exact d3n
    · rw [su_n (by omega), y 3]; exact d4
    · rw [su_n (by omega), t 30 (by decide)]; exact d5
    · rw [su_s, tI_uE e]
    · rw [su_n (by omega)] at hl; rw [su_n (by omega), su_n (by omega), y 4, y 13]; exact d7 i hi hl
    · rw [su_n (by omega), t 18 (by decide)]; exact d8 k h1 h2
    · rw [su_n (by omega), t 18 (by decide)]; exact (d9 k hk).1
    · rw [su_n (by omega), t 18 (by decide)]; exact (d9 k hk).2
theorem rQ_18 {B : Nat → Int} {n : Nat} {s : Nat → Int} {M N : ti_M} {z : Int32} {k0 r : Nat} (h : rQ B n s M) (e : N = uI M 60 18 z) (hb : ∀ j : Nat, j < 32 → pp_bt z j = if j = k0 then 1 else pp_bt (tI M 60 18) j) (hr : (3 ≤ k0 ∧ k0 ≤ 7 ∧ r = 300 + k0) ∨ (12 ≤ k0 ∧ k0 ≤ 14 ∧ r = 297 + k0) ∨ (16 ≤ k0 ∧ k0 ≤ 18 ∧ r = 296 + k0)) : rQ B n (pp_su s r 1) N := by
  obtain ⟨a, b, c, d⟩ := h
  have y : ∀ k : Nat, tY N 60 k = tY M 60 k := fun k => tY_uIE e
  have t : ∀ k : Nat, k ≠ 18 → tI N 60 k = tI M 60 k := fun k hk => tI_nE e (nk hk)
  refine ⟨⟨fun i hi => ?_, ?_⟩, ?_, ?_, fun q => ?_⟩
  · unfold pt_rB; rw [y 1]; exact a.1 i hi
  · unfold pt_rn0; rw [t 20 (by decide)]; exact a.2
  · rw [su_n (by omega), t 25 (by decide)]; exact b
  · rw [su_n (j := 5) (by omega), su_n (j := 4) (by omega), su_n (j := 0) (by omega), t 26 (by decide)]; exact c
  · rw [su_n (by omega)] at q; obtain ⟨d1, ⟨d2, d3, d3n⟩, ⟨d4, d5, d6⟩, d7, d8, d9⟩ := d q
    refine ⟨?_, ⟨?_, ?_, ?_⟩, ⟨?_, ?_, ?_⟩, fun i hi hl => ?_, fun k h1 h2 => ?_, fun k hk => ⟨?_, ?_⟩⟩
    · rw [su_n (by omega), su_n (by omega), t 23 (by decide), t 24 (by decide)]; exact d1
    · rw [su_n (by omega), t 22 (by decide)]; exact d2
    · rw [su_n (by omega), t 21 (by decide)]; exact d3
    · rw [su_n (by omega)]; exact d3n
    · rw [su_n (by omega), y 3]; exact d4
    · rw [su_n (by omega), t 30 (by decide)]; exact d5
    · rw [su_n (by omega), t 19 (by decide)]; exact d6
    · rw [su_n (by omega)] at hl; rw [su_n (by omega), su_n (by omega), y 4, y 13]; exact d7 i hi hl
    · rw [tI_uE e, hb (k) (by omega)]; by_cases q2 : k = k0
      · rw [if_pos q2, show 300 + k = r by omega, su_s]
      · rw [if_neg q2, su_n (by omega)]; exact d8 k h1 h2
    · rw [tI_uE e, hb (12 + k) (by omega)]; by_cases q2 : 12 + k = k0
      · rw [if_pos q2, show 309 + k = r by omega, su_s]
      · rw [if_neg q2, su_n (by omega)]; exact (d9 k hk).1
    · rw [tI_uE e, hb (16 + k) (by omega)]; by_cases q2 : 16 + k = k0
      · rw [if_pos q2, show 312 + k = r by omega, su_s]
      · rw [if_neg q2, su_n (by omega)]; exact (d9 k hk).2
theorem rQ_18n {B : Nat → Int} {n : Nat} {s : Nat → Int} {M N : ti_M} {z : Int32} {k0 : Nat} (h : rQ B n s M) (e : N = uI M 60 18 z) (hb : ∀ j : Nat, j < 32 → pp_bt z j = if j = k0 then 1 else pp_bt (tI M 60 18) j) (hr : k0 < 3 ∨ k0 = 8) : rQ B n s N := by
  obtain ⟨a, b, c, d⟩ := h
  have y : ∀ k : Nat, tY N 60 k = tY M 60 k := fun k => tY_uIE e
  have t : ∀ k : Nat, k ≠ 18 → tI N 60 k = tI M 60 k := fun k hk => tI_nE e (nk hk)
  refine ⟨⟨fun i hi => ?_, ?_⟩, ?_, ?_, fun q => ?_⟩
  · unfold pt_rB; rw [y 1]; exact a.1 i hi
  · unfold pt_rn0; rw [t 20 (by decide)]; exact a.2
  · rw [t 25 (by decide)]; exact b
  · rw [t 26 (by decide)]; exact c
  · obtain ⟨d1, ⟨d2, d3, d3n⟩, ⟨d4, d5, d6⟩, d7, d8, d9⟩ := d q
    refine ⟨?_, ⟨?_, ?_, ?_⟩, ⟨?_, ?_, ?_⟩, fun i hi hl => ?_, fun k h1 h2 => ?_, fun k hk => ⟨?_, ?_⟩⟩
    · rw [t 23 (by decide), t 24 (by decide)]; exact d1
    · rw [t 22 (by decide)]; exact d2
    · rw [t 21 (by decide)]; exact d3
    · exact d3n
    · rw [y 3]; exact d4
    · rw [t 30 (by decide)]; exact d5
    · rw [t 19 (by decide)]; exact d6
    · rw [y 4, y 13]; exact d7 i hi hl
    · rw [tI_uE e, hb (k) (by omega), if_neg (by omega)]; exact d8 k h1 h2
    · rw [tI_uE e, hb (12 + k) (by omega), if_neg (by omega)]; exact (d9 k hk).1
    · rw [tI_uE e, hb (16 + k) (by omega), if_neg (by omega)]; exact (d9 k hk).2
theorem rQ_4 {B : Nat → Int} {n : Nat} {s : Nat → Int} {M N : ti_M} {v : Int32} {x : Nat} (h : rQ B n s M) (e : N = uY M 60 4 (upd (tY M 60 4) x v)) (hx : s 4 = 0 → 8 + s 7 ≤ (x : Int)) : rQ B n s N := by
  obtain ⟨a, b, c, d⟩ := h
  have y : ∀ k : Nat, k ≠ 4 → tY N 60 k = tY M 60 k := fun k hk => tY_nE e (nk hk)
  have t : ∀ k : Nat, tI N 60 k = tI M 60 k := fun k => tI_uYE e
  refine ⟨⟨fun i hi => ?_, ?_⟩, ?_, ?_, fun q => ?_⟩
  · unfold pt_rB; rw [y 1 (by decide)]; exact a.1 i hi
  · unfold pt_rn0; rw [t 20]; exact a.2
  · rw [t 25]; exact b
  · rw [t 26]; exact c
  · obtain ⟨d1, ⟨d2, d3, d3n⟩, ⟨d4, d5, d6⟩, d7, d8, d9⟩ := d q
    refine ⟨?_, ⟨?_, ?_, ?_⟩, ⟨?_, ?_, ?_⟩, fun i hi hl => ?_, fun k h1 h2 => ?_, fun k hk => ⟨?_, ?_⟩⟩
    · rw [t 23, t 24]; exact d1
    · rw [t 22]; exact d2
    · rw [t 21]; exact d3
    · exact d3n
    · rw [y 3 (by decide)]; exact d4
    · rw [t 30]; exact d5
    · rw [t 19]; exact d6
    · rw [tY_uE e, pk_un (by have := hx q; omega), y 13 (by decide)]; exact d7 i hi hl
    · rw [t 18]; exact d8 k h1 h2
    · rw [t 18]; exact (d9 k hk).1
    · rw [t 18]; exact (d9 k hk).2
theorem rQ_13n {B : Nat → Int} {n : Nat} {s : Nat → Int} {M N : ti_M} {v : Int32} {x : Nat} (h : rQ B n s M) (e : N = uY M 60 13 (upd (tY M 60 13) x v)) (hx : s 4 = 0 → 8 + s 7 ≤ (x : Int)) : rQ B n s N := by
  obtain ⟨a, b, c, d⟩ := h
  have y : ∀ k : Nat, k ≠ 13 → tY N 60 k = tY M 60 k := fun k hk => tY_nE e (nk hk)
  have t : ∀ k : Nat, tI N 60 k = tI M 60 k := fun k => tI_uYE e
  refine ⟨⟨fun i hi => ?_, ?_⟩, ?_, ?_, fun q => ?_⟩
  · unfold pt_rB; rw [y 1 (by decide)]; exact a.1 i hi
  · unfold pt_rn0; rw [t 20]; exact a.2
  · rw [t 25]; exact b
  · rw [t 26]; exact c
  · obtain ⟨d1, ⟨d2, d3, d3n⟩, ⟨d4, d5, d6⟩, d7, d8, d9⟩ := d q
    refine ⟨?_, ⟨?_, ?_, ?_⟩, ⟨?_, ?_, ?_⟩, fun i hi hl => ?_, fun k h1 h2 => ?_, fun k hk => ⟨?_, ?_⟩⟩
    · rw [t 23, t 24]; exact d1
    · rw [t 22]; exact d2
    · rw [t 21]; exact d3
    · exact d3n
    · rw [y 3 (by decide)]; exact d4
    · rw [t 30]; exact d5
    · rw [t 19]; exact d6
    · rw [tY_uE e, pk_un (by have := hx q; omega), y 4 (by decide)]; exact d7 i hi hl
    · rw [t 18]; exact d8 k h1 h2
    · rw [t 18]; exact (d9 k hk).1
    · rw [t 18]; exact (d9 k hk).2
theorem rQ_13 {B : Nat → Int} {n : Nat} {s : Nat → Int} {M N : ti_M} {v : Int32} {x a0 : Nat} {b0 : Int} (h : rQ B n s M) (e : N = uY M 60 13 (upd (tY M 60 13) x v)) (hx : x = 8 + a0) (ha : a0 < 8) (hv : v.toInt = b0 + 1) (hb0 : -1 ≤ b0) : rQ B n (pp_su s (200 + a0) b0) N := by
  obtain ⟨a, b, c, d⟩ := h
  have y : ∀ k : Nat, k ≠ 13 → tY N 60 k = tY M 60 k := fun k hk => tY_nE e (nk hk)
  have t : ∀ k : Nat, tI N 60 k = tI M 60 k := fun k => tI_uYE e
  refine ⟨⟨fun i hi => ?_, ?_⟩, ?_, ?_, fun q => ?_⟩
  · unfold pt_rB; rw [y 1 (by decide)]; exact a.1 i hi
  · unfold pt_rn0; rw [t 20]; exact a.2
  · rw [su_n (by omega), t 25]; exact b
  · rw [su_n (j := 5) (by omega), su_n (j := 4) (by omega), su_n (j := 0) (by omega), t 26]; exact c
  · rw [su_n (by omega)] at q; obtain ⟨d1, ⟨d2, d3, d3n⟩, ⟨d4, d5, d6⟩, d7, d8, d9⟩ := d q
    refine ⟨?_, ⟨?_, ?_, ?_⟩, ⟨?_, ?_, ?_⟩, fun i hi hl => ?_, fun k h1 h2 => ?_, fun k hk => ⟨?_, ?_⟩⟩
    · rw [su_n (by omega), su_n (by omega), t 23, t 24]; exact d1
    · rw [su_n (by omega), t 22]; exact d2
    · rw [su_n (by omega), t 21]; exact d3
    · rw [su_n (by omega)]; exact d3n
    · rw [su_n (by omega), y 3 (by decide)]; exact d4
    · rw [su_n (by omega), t 30]; exact d5
    · rw [su_n (by omega), t 19]; exact d6
    · rw [su_n (by omega)] at hl
      by_cases q2 : i = a0
      · subst q2; rw [su_n (by omega), su_s, y 4 (by decide), tY_uE e, hx, pk_us]; exact ⟨(d7 i hi hl).1, by omega, hb0⟩
      · rw [su_n (by omega), su_n (by omega), y 4 (by decide), tY_uE e, pk_un (by omega)]; exact d7 i hi hl
    · rw [su_n (by omega), t 18]; exact d8 k h1 h2
    · rw [su_n (by omega), t 18]; exact (d9 k hk).1
    · rw [su_n (by omega), t 18]; exact (d9 k hk).2
theorem rQ_m7 {B : Nat → Int} {n : Nat} {s : Nat → Int} {M N : ti_M} {v : Int32} (h : rQ B n s M) (e : N = uY M 60 3 (upd (tY M 60 3) 11 v)) (hm : s 4 = 0 → 0 ≤ s 7 ∧ v.toInt = s 7 + 1 ∧ s (100 + (s 7).toNat) = (tY M 60 4 (8 + (s 7).toNat)).toInt ∧ s (200 + (s 7).toNat) = -1 ∧ (tY M 60 13 (8 + (s 7).toNat)).toInt = 0) : rQ B n (pp_su s 7 (s 7 + 1)) N := by
  obtain ⟨a, b, c, d⟩ := h
  have y : ∀ k : Nat, k ≠ 3 → tY N 60 k = tY M 60 k := fun k hk => tY_nE e (nk hk)
  have t : ∀ k : Nat, tI N 60 k = tI M 60 k := fun k => tI_uYE e
  refine ⟨⟨fun i hi => ?_, ?_⟩, ?_, ?_, fun q => ?_⟩
  · unfold pt_rB; rw [y 1 (by decide)]; exact a.1 i hi
  · unfold pt_rn0; rw [t 20]; exact a.2
  · rw [su_n (by omega), t 25]; exact b
  · rw [su_n (j := 5) (by omega), su_n (j := 4) (by omega), su_n (j := 0) (by omega), t 26]; exact c
  · rw [su_n (by omega)] at q; obtain ⟨d1, ⟨d2, d3, d3n⟩, ⟨d4, d5, d6⟩, d7, d8, d9⟩ := d q
    refine ⟨?_, ⟨?_, ?_, ?_⟩, ⟨?_, ?_, ?_⟩, fun i hi hl => ?_, fun k h1 h2 => ?_, fun k hk => ⟨?_, ?_⟩⟩
    · rw [su_n (by omega), su_n (by omega), t 23, t 24]; exact d1
    · rw [su_n (by omega), t 22]; exact d2
    · rw [su_n (by omega), t 21]; exact d3
    · rw [su_n (by omega)]; exact d3n
    · rw [su_s, tY_uE e, pk_us]; exact (hm q).2.1.symm
    · rw [su_n (by omega), t 30]; exact d5
    · rw [su_n (by omega), t 19]; exact d6
    · rw [su_s] at hl
      obtain ⟨m0, m1, m2, m3, m4⟩ := hm q
      rw [su_n (by omega), su_n (by omega), y 4 (by decide), y 13 (by decide)]
      by_cases q2 : (i : Int) < s 7
      · exact d7 i hi q2
      · rw [show (s 7).toNat = i by omega] at m2 m3 m4
        exact ⟨m2, by omega, by omega⟩
    · rw [su_n (by omega), t 18]; exact d8 k h1 h2
    · rw [su_n (by omega), t 18]; exact (d9 k hk).1
    · rw [su_n (by omega), t 18]; exact (d9 k hk).2
theorem rQ_wr {B : Nat → Int} {n : Nat} {s : Nat → Int} {M K N : ti_M} {kd x : Int32} (h : rQ B n s M) (hz : s 4 = 0) (e1 : K = uI M 60 25 kd) (e2 : N = uI K 60 26 x) (hx : x.toInt = (tI M 60 22).toInt) (hk : kd.toInt ≠ 0) : rQ B n (pp_rf kd.toInt s) N := by
  obtain ⟨a, b, c, d⟩ := h
  have d2 := (d hz).2.1.1
  unfold pp_rf
  rw [if_pos hz]
  have y : ∀ k : Nat, tY N 60 k = tY M 60 k := fun k => (tY_uIE e2).trans (tY_uIE e1)
  refine ⟨⟨fun i hi => ?_, ?_⟩, ?_, ⟨?_, fun _ => su_s⟩, fun q => absurd q ?_⟩
  · unfold pt_rB; rw [y 1]; exact a.1 i hi
  · unfold pt_rn0; rw [tI_nE e2 (nk (by decide)), tI_nE e1 (nk (by decide))]; exact a.2
  · rw [su_n (by decide), su_n (by decide), su_s, tI_nE e2 (nk (by decide)), tI_uE e1]
  · rw [su_n (by decide), su_s, tI_uE e2, hx]; exact d2
  · rw [su_n (by decide), su_n (by decide), su_s]; exact hk
def pt_si (c : Int) : Int := if c = 59 then 29 else if c = 40 then 30 else if c = 41 then 31 else if c = 60 then 32 else if c = 256 then 33 else if c = 61 then 34 else if c = 257 then 35 else if c = 258 then 36 else if c = 62 then 37 else if c = 43 then 38 else if c = 45 then 39 else if c = 42 then 40 else 41
theorem pt_sis : ∀ j : Nat, j < 13 → pt_si (pt_sg (29 + (j : Int))) = 29 + (j : Int) := by decide +kernel
theorem pt_cmp0 : ∀ j : Nat, j < 13 → ((pt_sg (29 + (j : Int)) = 60 ∨ pt_sg (29 + (j : Int)) = 62 ∨ pt_sg (29 + (j : Int)) = 61 ∨ 256 ≤ pt_sg (29 + (j : Int))) ↔ (32 ≤ 29 + (j : Int) ∧ 29 + (j : Int) ≤ 37)) := by decide +kernel
theorem pt_Tsg {k v s w : Int} (h : pt_T k v s w) (hs : s = 3) : 29 ≤ k ∧ k ≤ 41 ∧ w = pt_sg k ∧ pt_si w = k ∧ ((w = 60 ∨ w = 62 ∨ w = 61 ∨ 256 ≤ w) ↔ (32 ≤ k ∧ k ≤ 37)) := by
  obtain ⟨⟨h0, h1⟩, h2, h3, h4, h5, h6, h7⟩ := h
  have g : 29 ≤ k := by
    by_cases q1 : k < 25
    · have := (h2 q1).1; omega
    · by_cases q2 : k = 25
      · have := (h3 q2).1; omega
      · by_cases q3 : k = 26
        · have := (h4 q3).1; omega
        · by_cases q4 : k = 27
          · have := h5 q4; omega
          · by_cases q5 : k = 28
            · have := h6 q5; omega
            · omega
  have e := (h7 g).2
  have f := pt_sis (k - 29).toNat (by omega)
  have f2 := pt_cmp0 (k - 29).toNat (by omega)
  rw [show 29 + (((k - 29).toNat : Nat) : Int) = k by omega] at f f2
  rw [← e] at f f2
  exact ⟨g, h1, e, f, f2⟩
theorem pt_Tso {k v s w : Int} (h : pt_T k v s w) (hs : s ≠ 3) : k < 29 := by
  by_cases q : 29 ≤ k
  · exact absurd (h.2.2.2.2.2.2 q).1 hs
  · omega
theorem pt_Twd {k v s w : Int} (h : pt_T k v s w) (hs : s = 0) : 0 ≤ k ∧ k < 25 ∧ 0 ≤ w ∧ w < 25 ∧ w = ((pt_pm.getD k.toNat 0 : Nat) : Int) ∧ k = ((pt_iv.getD w.toNat 0 : Nat) : Int) := by
  obtain ⟨⟨h0, h1⟩, h2, h3, h4, h5, h6, h7⟩ := h
  have g : k < 25 := by
    by_cases q1 : k < 25
    · exact q1
    · by_cases q2 : k = 25
      · have := (h3 q2).1; omega
      · by_cases q3 : k = 26
        · have := (h4 q3).1; omega
        · by_cases q4 : k = 27
          · have := h5 q4; omega
          · by_cases q5 : k = 28
            · have := h6 q5; omega
            · have := (h7 (by omega)).1; omega
  have e := (h2 g).2
  have p := pt_pmb k.toNat (by omega)
  refine ⟨h0, g, by omega, by omega, e, ?_⟩
  have e3 : w.toNat = pt_pm.getD k.toNat 0 := by omega
  rw [e3, p.2]
  omega
theorem pt_Tnm {k v s w : Int} (h : pt_T k v s w) : (s = 1 → k = 25 ∧ w = v) ∧ (k = 25 → s = 1) ∧ (s = 2 → k = 26 ∧ (w = v ∨ (99999 < w ∧ 99999 < v))) ∧ (k = 26 → s = 2) ∧ (s = 4 → k = 27) ∧ (k = 27 → s = 4) := by
  obtain ⟨⟨h0, h1⟩, h2, h3, h4, h5, h6, h7⟩ := h
  have key : (s = 1 → k = 25) ∧ (s = 2 → k = 26) ∧ (s = 4 → k = 27) := by
    by_cases q1 : k < 25
    · have := (h2 q1).1; omega
    · by_cases q2 : k = 25
      · have := (h3 q2).1; omega
      · by_cases q3 : k = 26
        · have := (h4 q3).1; omega
        · by_cases q4 : k = 27
          · have := h5 q4; omega
          · by_cases q5 : k = 28
            · have := h6 q5; omega
            · have := (h7 (by omega)).1; omega
  exact ⟨fun q => ⟨key.1 q, (h3 (key.1 q)).2⟩, fun q => (h3 q).1, fun q => ⟨key.2.1 q, (h4 (key.2.1 q)).2⟩, fun q => (h4 q).1, fun q => key.2.2 q, h5⟩
section
variable {B : Nat → Int} {n : Nat} {s : Nat → Int} {M : ti_M}
theorem ff_y (h : ff M = 1) : (tI M 60 25).toInt = 0 := by
  by_cases q : (tI M 60 25).toInt = 0
  · exact q
  · rw [ff_0 q] at h; exact absurd h (by decide)
theorem rQ_g0 (h : rQ B n s M) (hf : ff M = 1) : s 4 = 0 := h.2.1.trans (ff_y hf)
theorem rQ_g1 (h : rQ B n s M) (hf : ff M = 0) : s 4 ≠ 0 := by rw [h.2.1]; exact ff_n hf
theorem rQ_28 (h : rQ B n s M) (hf : ff M = 0) : s 0 = 28 := h.2.2.1.2 (rQ_g1 h hf)
theorem rQ_T (h : rQ B n s M) (hf : ff M = 1) : pt_T (s 0) (s 1) (tI M 60 23).toInt (tI M 60 24).toInt := (h.2.2.2 (rQ_g0 h hf)).1
/-- a word is at hand, or it isn't -/
theorem rQ_w1 {x k : Int} (h : rQ B n s M) (d0 : (tI M 60 25).toInt = 0) (d1 : (tI M 60 23).toInt = 0) (d2 : (tI M 60 24).toInt = x) (hx : ((pt_iv.getD x.toNat 0 : Nat) : Int) = k) : s 0 = k ∧ s 4 = 0 := by
  have g := h.2.1.trans d0
  have e := pt_Twd (h.2.2.2 g).1 d1
  rw [d2] at e
  exact ⟨e.2.2.2.2.2.trans hx, g⟩
theorem rQ_w0 {x k : Int} (h : rQ B n s M) (hd : ¬ ((tI M 60 25).toInt = 0 ∧ (tI M 60 23).toInt = 0 ∧ (tI M 60 24).toInt = x)) (hk : 0 ≤ k ∧ k < 25) (hx : ((pt_pm.getD k.toNat 0 : Nat) : Int) = x) : s 0 ≠ k := by
  intro e
  by_cases q : s 4 = 0
  · have T := (h.2.2.2 q).1
    have w := T.2.1 (by omega)
    rw [e] at w
    exact hd ⟨by rw [← h.2.1]; exact q, w.1, w.2.trans hx⟩
  · have := h.2.2.1.2 q; omega
theorem rQ_s1 {x k : Int} (h : rQ B n s M) (d0 : (tI M 60 25).toInt = 0) (d1 : (tI M 60 23).toInt = 3) (d2 : (tI M 60 24).toInt = x) (hx : pt_si x = k) : s 0 = k ∧ s 4 = 0 := by
  have g := h.2.1.trans d0
  have e := pt_Tsg (h.2.2.2 g).1 d1
  rw [d2] at e
  exact ⟨by rw [← e.2.2.2.1]; exact hx, g⟩
theorem rQ_s0 {x k : Int} (h : rQ B n s M) (hd : ¬ ((tI M 60 25).toInt = 0 ∧ (tI M 60 23).toInt = 3 ∧ (tI M 60 24).toInt = x)) (hk : 29 ≤ k) (hx : pt_sg k = x) : s 0 ≠ k := by
  intro e
  by_cases q : s 4 = 0
  · have T := (h.2.2.2 q).1
    have w := T.2.2.2.2.2.2 (by omega)
    rw [e] at w
    exact hd ⟨by rw [← h.2.1]; exact q, w.1, w.2.trans hx⟩
  · have := h.2.2.1.2 q; omega
end
def pp_k1 (s : Nat → Int) : Nat → Int := if s 4 = 0 then (if s 8 < 64 then pp_su s 8 (s 8 + 1) else pp_rf 2 s) else s
def pp_go (B : Nat → Int) (n : Nat) (s : Nat → Int) : Nat → Int := if s 4 = 0 then pp_av B n s else s
theorem rf_4 {k : Int} {s : Nat → Int} (hk : k ≠ 0) : pp_rf k s 4 ≠ 0 := by
  unfold pp_rf
  by_cases q : s 4 = 0
  · rw [if_pos q, su_n (by decide), su_n (by decide), su_s]; exact hk
  · rw [if_neg q, su_n (by decide)]; exact q
theorem rf_0 {k : Int} {s : Nat → Int} : pp_rf k s 0 = 28 := by
  unfold pp_rf
  by_cases q : s 4 = 0
  · rw [if_pos q, su_s]
  · rw [if_neg q, su_s]
theorem rf_n {k : Int} {s : Nat → Int} {j : Nat} (hj : 6 ≤ j) : pp_rf k s j = s j := by
  unfold pp_rf
  by_cases q : s 4 = 0
  · rw [if_pos q, su_n (by omega), su_n (by omega), su_n (by omega)]
  · rw [if_neg q, su_n (by omega)]
theorem tk_n {B : Nat → Int} {n : Nat} {k : Int} {s : Nat → Int} {j : Nat} (hj : 6 ≤ j) : pp_tk B n k s j = s j := by
  unfold pp_tk
  by_cases q : s 0 = k
  · rw [if_pos q, av_n (by omega)]
  · rw [if_neg q, rf_n hj]
theorem nb_n {B : Nat → Int} {n : Nat} {lo mo : Int} {s : Nat → Int} {j : Nat} (hj : 6 ≤ j) : pp_nb B n lo mo s j = s j := by
  unfold pp_nb
  by_cases q : s 0 = 26
  · rw [if_pos q]
    by_cases q2 : s 1 < lo ∨ mo < s 1
    · rw [if_pos q2, rf_n hj]
    · rw [if_neg q2, av_n (by omega)]
  · rw [if_neg q, rf_n hj]
theorem k1_f {s : Nat → Int} (h : s 4 ≠ 0) : pp_k1 s = s := by unfold pp_k1; rw [if_neg h]
theorem go_f {B : Nat → Int} {n : Nat} {s : Nat → Int} (h : s 4 ≠ 0) : pp_go B n s = s := by unfold pp_go; rw [if_neg h]
theorem kn_kg {B : Nat → Int} {n : Nat} {s : Nat → Int} (h : s 4 = 0) : pp_go B n (pp_k1 s) = pp_kn B n s := by
  unfold pp_k1 pp_kn
  rw [if_pos h]
  by_cases q : s 8 < 64
  · rw [if_pos q, if_pos q]; unfold pp_go; rw [su_n (by decide), if_pos h]
  · rw [if_neg q, if_neg q, go_f (rf_4 (by decide))]
theorem kn_g {B : Nat → Int} {n : Nat} {s : Nat → Int} (h : s 8 ≤ 64) : pp_kn B n s 0 = 28 ∨ (pp_kn B n s 8 = s 8 + 1 ∧ pp_kn B n s 8 ≤ 64) := by
  unfold pp_kn
  by_cases q : s 8 < 64
  · rw [if_pos q]
    refine Or.inr ?_
    rw [av_n (j := 8) (by decide), su_s]
    exact ⟨rfl, by omega⟩
  · rw [if_neg q, rf_0]; exact Or.inl rfl
/-- it ends in a fault's kind, or it tells a knot at least -/
def pp_gr (F : (Nat → Int) → Nat → Int) : Prop := (∀ s : Nat → Int, s 0 = 28 → F s 0 = 28) ∧ ∀ s : Nat → Int, s 8 ≤ 64 → F s 0 = 28 ∨ (s 8 + 1 ≤ F s 8 ∧ F s 8 ≤ 64)
theorem gr_kn {B : Nat → Int} {n : Nat} {F : (Nat → Int) → Nat → Int} (h : pp_gr F) : ∀ s : Nat → Int, s 8 ≤ 64 → F (pp_kn B n s) 0 = 28 ∨ (s 8 + 1 ≤ F (pp_kn B n s) 8 ∧ F (pp_kn B n s) 8 ≤ 64) := by
  intro s hs
  rcases kn_g (B := B) (n := n) hs with q | q
  · exact Or.inl (h.1 _ q)
  · rcases h.2 _ q.2 with g | g
    · exact Or.inl g
    · exact Or.inr ⟨by omega, g.2⟩
section
variable {P : Int → Bool} {G : (Nat → Int) → Nat → Int}
theorem lp_gr (hP : P 28 = false) (hG : ∀ s : Nat → Int, s 8 ≤ 64 → G s 0 = 28 ∨ (s 8 + 1 ≤ G s 8 ∧ G s 8 ≤ 64)) : ∀ (f : Nat) (s : Nat → Int), s 8 ≤ 64 → pp_lp P G f s 0 = 28 ∨ (s 8 ≤ pp_lp P G f s 8 ∧ pp_lp P G f s 8 ≤ 64) := by
  intro f
  induction f with
  | zero => intro s h; exact Or.inr ⟨Int.le_refl _, h⟩
  | succ f ih =>
    intro s h
    rw [pp_lp]
    by_cases q : P (s 0) = true
    · rw [if_pos q]
      rcases hG s h with g | g
      · rw [lp_end (Or.inr (by rw [g]; exact hP))]; exact Or.inl g
      · rcases ih _ g.2 with g2 | g2
        · exact Or.inl g2
        · exact Or.inr ⟨by omega, g2.2⟩
    · rw [if_neg q]; exact Or.inr ⟨Int.le_refl _, h⟩
theorem lp_st (hP : P 28 = false) (hG : ∀ s : Nat → Int, s 8 ≤ 64 → G s 0 = 28 ∨ (s 8 + 1 ≤ G s 8 ∧ G s 8 ≤ 64)) : ∀ (f : Nat) (s : Nat → Int), s 8 ≤ 64 → 65 ≤ (f : Int) + s 8 → pp_lp P G f s = pp_lp P G (f + 1) s := by
  intro f
  induction f with
  | zero => intro s h h2; omega
  | succ f ih =>
    intro s h h2
    rw [pp_lp, pp_lp]
    by_cases q : P (s 0) = true
    · rw [if_pos q, if_pos q]
      rcases hG s h with g | g
      · rw [lp_end (Or.inr (by rw [g]; exact hP)), lp_end (Or.inr (by rw [g]; exact hP))]
      · exact ih _ g.2 (by omega)
    · rw [if_neg q, if_neg q]
theorem lp_nx (hP : P 28 = false) (hG : ∀ s : Nat → Int, s 8 ≤ 64 → G s 0 = 28 ∨ (s 8 + 1 ≤ G s 8 ∧ G s 8 ≤ 64)) {s s' : Nat → Int} (f : Nat) (h : P (s 0) = true) (e : s' = G s) (h8 : s 8 ≤ 64) (hf : 64 ≤ (f : Int) + s 8) : pp_lp P G (f + 1) s = pp_lp P G (f + 1) s' := by
  subst e
  rw [pp_lp, if_pos h]
  rcases hG s h8 with g | g
  · rw [lp_end (Or.inr (by rw [g]; exact hP)), lp_end (Or.inr (by rw [g]; exact hP))]
  · exact lp_st hP hG f _ g.2 (by omega)
end
section
variable {B : Nat → Int} {n : Nat} {F : (Nat → Int) → Nat → Int}
theorem gr_28 {P : Int → Bool} {G : (Nat → Int) → Nat → Int} {f : Nat} {s : Nat → Int} (hP : P 28 = false) (h : s 0 = 28) : pp_lp P G f s 0 = 28 := by rw [lp_end (Or.inr (by rw [h]; exact hP))]; exact h
theorem gr_lp {P : Int → Bool} (hP : P 28 = false) (hF : pp_gr F) : pp_gr (fun s => pp_lp P (fun s => F (pp_kn B n s)) 64 (F s)) := by
  refine ⟨fun s h => gr_28 hP (hF.1 s h), fun s h => ?_⟩
  rcases hF.2 s h with g | g
  · exact Or.inl (gr_28 hP g)
  · rcases lp_gr hP (gr_kn hF) 64 (F s) g.2 with g2 | g2
    · exact Or.inl g2
    · refine Or.inr ⟨?_, g2.2⟩
      show s 8 + 1 ≤ pp_lp P (fun s => F (pp_kn B n s)) 64 (F s) 8
      have := g2.1
      have := g.1
      omega
theorem gr_pd (hF : pp_gr F) : pp_gr (pp_pd B n F) := gr_lp (P := pp_qT) (by decide) hF
theorem gr_sm (hF : pp_gr F) : pp_gr (pp_sm B n F) := gr_lp (P := pp_qP) (by decide) (gr_pd hF)
theorem gr_cm (hF : pp_gr F) : pp_gr (pp_cm B n F) := by
  have hS := gr_sm (B := B) (n := n) hF
  refine ⟨fun s h => ?_, fun s h => ?_⟩
  · unfold pp_cm pp_c2
    have q := hS.1 s h
    rw [if_neg (by rw [q]; decide)]; exact q
  · unfold pp_cm pp_c2
    by_cases q : 32 ≤ pp_sm B n F s 0 ∧ pp_sm B n F s 0 ≤ 37
    · rw [if_pos q]
      rcases hS.2 s h with g | g
      · omega
      · rcases gr_kn (B := B) (n := n) hS _ g.2 with g2 | g2
        · exact Or.inl g2
        · exact Or.inr ⟨by omega, g2.2⟩
    · rw [if_neg q]; exact hS.2 s h
theorem gr_ng (hF : pp_gr F) : pp_gr (pp_ng B n F) := by
  have hC := gr_cm (B := B) (n := n) hF
  refine ⟨fun s h => hC.1 _ (gr_28 (by decide) h), fun s h => ?_⟩
  unfold pp_ng
  rcases lp_gr (P := pp_qN) (G := pp_kn B n) (by decide) (fun s h => (kn_g h).imp id (fun g => ⟨by omega, g.2⟩)) 65 s h with g | g
  · exact Or.inl (hC.1 _ g)
  · rcases hC.2 _ g.2 with g2 | g2
    · exact Or.inl g2
    · exact Or.inr ⟨by omega, g2.2⟩
theorem gr_bo (hF : pp_gr F) : pp_gr (pp_bo B n F) := gr_lp (P := pp_qA) (by decide) (gr_ng hF)
theorem gr_ei (hF : pp_gr F) : pp_gr (pp_ei B n F) := gr_lp (P := pp_qO) (by decide) (gr_bo hF)
theorem gr_p0 : pp_gr (pp_p0 B n) := by
  refine ⟨fun s h => ?_, fun s h => ?_⟩
  · unfold pp_p0
    rw [if_neg (by rw [h]; decide), if_neg (by rw [h]; decide)]; exact rf_0
  · have g : pp_kn B n s 0 = 28 ∨ (s 8 + 1 ≤ pp_kn B n s 8 ∧ pp_kn B n s 8 ≤ 64) := (kn_g h).imp id (fun g => ⟨by omega, g.2⟩)
    unfold pp_p0
    repeat' split
    · exact Or.inl rf_0
    · exact g
    · exact g
    · exact Or.inl rf_0
theorem gr_pt : ∀ d : Nat, pp_gr (pp_pt B n d) := by
  intro d
  induction d with
  | zero =>
    refine ⟨fun s h => ?_, fun s h => ?_⟩
    · rw [pp_pt, if_neg (by rw [h]; decide)]; exact gr_p0.1 s h
    · rw [pp_pt]
      by_cases q : s 0 = 30
      · rw [if_pos q]; exact Or.inl rf_0
      · rw [if_neg q]; exact gr_p0.2 s h
  | succ d ih =>
    refine ⟨fun s h => ?_, fun s h => ?_⟩
    · rw [pp_pt, if_neg (by rw [h]; decide)]; exact gr_p0.1 s h
    · rw [pp_pt]
      by_cases q : s 0 = 30
      · rw [if_pos q]
        unfold pp_tk
        by_cases q2 : pp_ei B n (pp_pt B n d) (pp_av B n s) 0 = 31
        · rw [if_pos q2, av_n (j := 8) (by decide)]
          rcases (gr_ei (B := B) (n := n) ih).2 (pp_av B n s) (by rw [av_n (by decide)]; exact h) with g | g
          · omega
          · rw [av_n (j := 8) (by decide)] at g; exact Or.inr g
        · rw [if_neg q2]; exact Or.inl rf_0
      · rw [if_neg q]; exact gr_p0.2 s h
theorem ng_not {s : Nat → Int} (h : s 0 = 24) (h0 : 0 ≤ s 8) (h1 : s 8 ≤ 64) : pp_ng B n F s = pp_ng B n F (pp_kn B n s) := by
  unfold pp_ng
  rw [lp_nx (P := pp_qN) (G := pp_kn B n) (by decide) (fun s h => (kn_g h).imp id (fun g => ⟨by omega, g.2⟩)) 64 (by rw [h]; decide) rfl h1 (by omega)]
theorem ng_no {s : Nat → Int} (h : s 0 ≠ 24) : pp_ng B n F s = pp_cm B n F s := by
  unfold pp_ng
  rw [lp_end (P := pp_qN) (f := 65) (s := s) (Or.inr (decide_eq_false h))]
end
end
section
variable {Tc : gC} {Tm : gM}
set_option maxHeartbeats 4000000 in
set_option maxRecDepth 100000 in
theorem x_X10_wrong (l : Launch) (D : va_G) (A : Nat → Nat → Nat) (cy : Nat → ClassId) (hJ : ti_inj ti_LM A) (M : ti_M) (hI : mI Tm M) (kd : Int32) (hk : kd.toInt ≠ 0) (B : Nat → Int) (n : Nat) (rg : Nat → Int) (hr : rQ B n rg M) : ti_Kv l yX10_wrong cX10_wrong 2 0 ti_LM D A cy M [.ref (A 60 0), .int kd] (fun M2 => rQ B n (pp_rf kd.toInt rg) M2 ∧ mI Tm M2 ∧ pr 25 26 M2 M ∧ ((tI M 60 21).toInt ≤ (tI M2 60 21).toInt) ∧ ((tI M 60 21).toInt < (tI M2 60 21).toInt ∨ (tI M2 60 23).toInt = (tI M 60 23).toInt ∨ (tI M2 60 23).toInt = 4) ∧ ((tI M 60 25).toInt = 0 ∨ (tI M2 60 25).toInt ≠ 0) ∧ ((tI M2 60 25).toInt ≠ 0)) := by
  refine ti_eV yp_X10_wrong hJ ti_LM_nd (Nat.le_of_ble_eq_true rfl) ?_
  intro p e s m args below meth c Q H0 C hQ hw ls hl
  have hx := C.1
  have hb := C.2.1
  have hl : lv_has ls 2 [(0, .ref (A 60 0)), (1, .int kd)] := hl
  have l4 : rg 4 = (tI M 60 25).toInt := hr.2.1
  refine lv_aload_n hx hb dX10_wrong_0 rfl (lv_at hl 0 rfl) ?_
  refine ti_get (ci := 10) (k := 25) (N := 67) (T := TX10) C hw iw_10 rfl ob_60 (by decide) (by decide) fl_X10_208 rfl rfl dX10_wrong_1 ?_
  refine lv_topi (fun x_1 ex_1 => ?_)
  have u_2 : (tI M 60 25).toInt = x_1.toInt := by rw [ex_1]
  refine sb_if_eq (tgt := 8) hx hb rfl dX10_wrong_4 (by decide) (fun c_4_2 => ?_) (fun c_4_2 => ?_)
  · refine lv_aload_n hx hb dX10_wrong_8 rfl (lv_at hl 0 rfl) ?_
    refine lv_iload_n hx hb dX10_wrong_9 rfl (lv_at hl 1 rfl) ?_
    refine ti_putI (ci := 10) (k := 25) (N := 67) (T := TX10) C hw iw_10 tyX10 tyX10_ok nmX10 rfl ob_60 (by decide) (by decide) fl_X10_208 rfl rfl rfl rfl (fn_10 A _) fs_10_25 dX10_wrong_10 (fun H locs hw => ?_)
    obtain ⟨M_4, hM_4⟩ : ∃ z : ti_M, z = uI M 60 25 kd := ⟨_, rfl⟩
    have hw := hw.to hM_4.symm
    have iM_4 : mI Tm M_4 := mI_uI hI hM_4 (by decide) (by decide) trivial
    have v_5 : (tI M_4 60 20).toInt = (tI M 60 20).toInt := by rw [tI_nE hM_4 (nk (by decide))]
    have v_6 : (tI M_4 60 21).toInt = (tI M 60 21).toInt := by rw [tI_nE hM_4 (nk (by decide))]
    have v_7 : (tI M_4 60 23).toInt = (tI M 60 23).toInt := by rw [tI_nE hM_4 (nk (by decide))]
    have v_8 : (tI M_4 60 24).toInt = (tI M 60 24).toInt := by rw [tI_nE hM_4 (nk (by decide))]
    have v_9 : (tI M_4 60 25).toInt = (kd : Int32).toInt := by rw [tI_uE hM_4]
    have v_10 : (tI M_4 60 29).toInt = (tI M 60 29).toInt := by rw [tI_nE hM_4 (nk (by decide))]
    have v_11 : (tI M_4 60 30).toInt = (tI M 60 30).toInt := by rw [tI_nE hM_4 (nk (by decide))]
    refine lv_aload_n hx hb dX10_wrong_13 rfl (lv_at hl 0 rfl) ?_
    refine lv_aload_n hx hb dX10_wrong_14 rfl (lv_at hl 0 rfl) ?_
    refine ti_get (ci := 10) (k := 22) (N := 67) (T := TX10) C hw iw_10 rfl ob_60 (by decide) (by decide) fl_X10_170 rfl rfl dX10_wrong_15 ?_
    refine lv_topi (fun x_13 ex_13 => ?_)
    have bx_13 : 0 ≤ x_13.toInt ∧ x_13.toInt ≤ 700 := mI_rd iM_4 ex_13
    have ux_13 : (tI M_4 60 22).toInt = x_13.toInt := by rw [ex_13]
    refine ti_putI (ci := 10) (k := 26) (N := 67) (T := TX10) C hw iw_10 tyX10 tyX10_ok nmX10 rfl ob_60 (by decide) (by decide) fl_X10_211 rfl rfl rfl rfl (fn_10 A _) fs_10_26 dX10_wrong_18 (fun H locs hw => ?_)
    obtain ⟨M_14, hM_14⟩ : ∃ z : ti_M, z = uI M_4 60 26 x_13 := ⟨_, rfl⟩
    have hw := hw.to hM_14.symm
    have iM_14 : mI Tm M_14 := mI_uI iM_4 hM_14 (by decide) (by decide) trivial
    have v_15 : (tI M_14 60 20).toInt = (tI M_4 60 20).toInt := by rw [tI_nE hM_14 (nk (by decide))]
    have v_16 : (tI M_14 60 21).toInt = (tI M_4 60 21).toInt := by rw [tI_nE hM_14 (nk (by decide))]
    have v_17 : (tI M_14 60 23).toInt = (tI M_4 60 23).toInt := by rw [tI_nE hM_14 (nk (by decide))]
    have v_18 : (tI M_14 60 24).toInt = (tI M_4 60 24).toInt := by rw [tI_nE hM_14 (nk (by decide))]
    have v_19 : (tI M_14 60 25).toInt = (tI M_4 60 25).toInt := by rw [tI_nE hM_14 (nk (by decide))]
    have v_20 : (tI M_14 60 29).toInt = (tI M_4 60 29).toInt := by rw [tI_nE hM_14 (nk (by decide))]
    have v_21 : (tI M_14 60 30).toInt = (tI M_4 60 30).toInt := by rw [tI_nE hM_14 (nk (by decide))]
    exact hQ _ _ _ _ _ hw (⟨(rQ_wr hr (by omega) hM_4 hM_14 (congrArg Int32.toInt (((ex_13.symm)).symm.trans (tI_nE hM_4 (nk (by decide))))) hk), iM_14, (pr.trans (pr_I hM_14 (by decide)) (pr_I hM_4 (by decide))), (by first | omega | decide), (by first | omega | decide), (by first | omega | decide), (by first | omega | decide)⟩) dX10_wrong_21
  · exact hQ _ _ _ _ _ hw (⟨(rQ_f hr (by omega) (rf_f (rQ_z hr (by omega)))), hI, pr.refl, (by first | omega | decide), (by first | omega | decide), (by first | omega | decide), (by first | omega | decide)⟩) dX10_wrong_7
set_option maxHeartbeats 4000000 in
set_option maxRecDepth 100000 in
theorem x_X10_isWord (l : Launch) (D : va_G) (A : Nat → Nat → Nat) (cy : Nat → ClassId) (hJ : ti_inj ti_LM A) (M : ti_M) (hI : mI Tm M)  (a : Int32) : ti_Ki l yX10_isWord cX10_isWord 2 (some .boolean) 0 ti_LM D A cy M [.ref (A 60 0), .int a] (fun r M2 => M2 = M ∧ ((r = 1 ∧ ((tI M 60 25).toInt = 0 ∧ (tI M 60 23).toInt = 0 ∧ (tI M 60 24).toInt = a.toInt)) ∨ (r = 0 ∧ ¬ ((tI M 60 25).toInt = 0 ∧ (tI M 60 23).toInt = 0 ∧ (tI M 60 24).toInt = a.toInt)))) := by
  refine ti_eI yp_X10_isWord hJ ti_LM_nd (Nat.le_of_ble_eq_true rfl) ?_
  intro p e s m args below meth c Q H0 C hQ hw ls hl
  have hx := C.1
  have hb := C.2.1
  have hl : lv_has ls 2 [(0, .ref (A 60 0)), (1, .int a)] := hl
  refine lv_aload_n hx hb dX10_isWord_0 rfl (lv_at hl 0 rfl) ?_
  refine ti_get (ci := 10) (k := 25) (N := 67) (T := TX10) C hw iw_10 rfl ob_60 (by decide) (by decide) fl_X10_208 rfl rfl dX10_isWord_1 ?_
  refine lv_topi (fun x_1 ex_1 => ?_)
  have u_2 : (tI M 60 25).toInt = x_1.toInt := by rw [ex_1]
  refine sb_if_ne (tgt := 26) hx hb rfl dX10_isWord_4 (by decide) (fun c_4_2 => ?_) (fun c_4_2 => ?_)
  · refine lv_iconst (v := 0) hx hb dX10_isWord_26 (by decide) ?_
    exact hQ _ _ _ _ _ _ hw rfl (⟨rfl, Or.inr ⟨rfl, by omega⟩⟩) dX10_isWord_27
  · refine lv_aload_n hx hb dX10_isWord_7 rfl (lv_at hl 0 rfl) ?_
    refine ti_get (ci := 10) (k := 23) (N := 67) (T := TX10) C hw iw_10 rfl ob_60 (by decide) (by decide) fl_X10_173 rfl rfl dX10_isWord_8 ?_
    refine lv_topi (fun x_4 ex_4 => ?_)
    have u_5 : (tI M 60 23).toInt = x_4.toInt := by rw [ex_4]
    refine sb_if_ne (tgt := 26) hx hb rfl dX10_isWord_11 (by decide) (fun c_11_5 => ?_) (fun c_11_5 => ?_)
    · refine lv_iconst (v := 0) hx hb dX10_isWord_26 (by decide) ?_
      exact hQ _ _ _ _ _ _ hw rfl (⟨rfl, Or.inr ⟨rfl, by omega⟩⟩) dX10_isWord_27
    · refine lv_aload_n hx hb dX10_isWord_14 rfl (lv_at hl 0 rfl) ?_
      refine ti_get (ci := 10) (k := 24) (N := 67) (T := TX10) C hw iw_10 rfl ob_60 (by decide) (by decide) fl_X10_183 rfl rfl dX10_isWord_15 ?_
      refine lv_topi (fun x_7 ex_7 => ?_)
      have u_8 : (tI M 60 24).toInt = x_7.toInt := by rw [ex_7]
      refine lv_iload_n hx hb dX10_isWord_18 rfl (lv_at hl 1 rfl) ?_
      refine sb_icmp_ne (tgt := 26) hx hb rfl rfl dX10_isWord_19 (by decide) (fun c_19_8 => ?_) (fun c_19_8 => ?_)
      · refine lv_iconst (v := 0) hx hb dX10_isWord_26 (by decide) ?_
        exact hQ _ _ _ _ _ _ hw rfl (⟨rfl, Or.inr ⟨rfl, by omega⟩⟩) dX10_isWord_27
      · refine lv_iconst (v := 1) hx hb dX10_isWord_22 (by decide) ?_
        refine lv_goto (tgt := 27) hx hb dX10_isWord_23 (by decide) ?_
        exact hQ _ _ _ _ _ _ hw rfl (⟨rfl, Or.inl ⟨rfl, by omega, by omega, by omega⟩⟩) dX10_isWord_27
set_option maxHeartbeats 4000000 in
set_option maxRecDepth 100000 in
theorem x_X10_isSign (l : Launch) (D : va_G) (A : Nat → Nat → Nat) (cy : Nat → ClassId) (hJ : ti_inj ti_LM A) (M : ti_M) (hI : mI Tm M)  (a : Int32) : ti_Ki l yX10_isSign cX10_isSign 2 (some .boolean) 0 ti_LM D A cy M [.ref (A 60 0), .int a] (fun r M2 => M2 = M ∧ ((r = 1 ∧ ((tI M 60 25).toInt = 0 ∧ (tI M 60 23).toInt = 3 ∧ (tI M 60 24).toInt = a.toInt)) ∨ (r = 0 ∧ ¬ ((tI M 60 25).toInt = 0 ∧ (tI M 60 23).toInt = 3 ∧ (tI M 60 24).toInt = a.toInt)))) := by
  refine ti_eI yp_X10_isSign hJ ti_LM_nd (Nat.le_of_ble_eq_true rfl) ?_
  intro p e s m args below meth c Q H0 C hQ hw ls hl
  have hx := C.1
  have hb := C.2.1
  have hl : lv_has ls 2 [(0, .ref (A 60 0)), (1, .int a)] := hl
  refine lv_aload_n hx hb dX10_isSign_0 rfl (lv_at hl 0 rfl) ?_
  refine ti_get (ci := 10) (k := 25) (N := 67) (T := TX10) C hw iw_10 rfl ob_60 (by decide) (by decide) fl_X10_208 rfl rfl dX10_isSign_1 ?_
  refine lv_topi (fun x_1 ex_1 => ?_)
  have u_2 : (tI M 60 25).toInt = x_1.toInt := by rw [ex_1]
  refine sb_if_ne (tgt := 27) hx hb rfl dX10_isSign_4 (by decide) (fun c_4_2 => ?_) (fun c_4_2 => ?_)
  · refine lv_iconst (v := 0) hx hb dX10_isSign_27 (by decide) ?_
    exact hQ _ _ _ _ _ _ hw rfl (⟨rfl, Or.inr ⟨rfl, by omega⟩⟩) dX10_isSign_28
  · refine lv_aload_n hx hb dX10_isSign_7 rfl (lv_at hl 0 rfl) ?_
    refine ti_get (ci := 10) (k := 23) (N := 67) (T := TX10) C hw iw_10 rfl ob_60 (by decide) (by decide) fl_X10_173 rfl rfl dX10_isSign_8 ?_
    refine lv_topi (fun x_4 ex_4 => ?_)
    have u_5 : (tI M 60 23).toInt = x_4.toInt := by rw [ex_4]
    refine lv_iconst (v := 3) hx hb dX10_isSign_11 (by decide) ?_
    refine sb_icmp_ne (tgt := 27) hx hb rfl (by decide : (3 : Int32).toInt = 3) dX10_isSign_12 (by decide) (fun c_12_5 => ?_) (fun c_12_5 => ?_)
    · refine lv_iconst (v := 0) hx hb dX10_isSign_27 (by decide) ?_
      exact hQ _ _ _ _ _ _ hw rfl (⟨rfl, Or.inr ⟨rfl, by omega⟩⟩) dX10_isSign_28
    · refine lv_aload_n hx hb dX10_isSign_15 rfl (lv_at hl 0 rfl) ?_
      refine ti_get (ci := 10) (k := 24) (N := 67) (T := TX10) C hw iw_10 rfl ob_60 (by decide) (by decide) fl_X10_183 rfl rfl dX10_isSign_16 ?_
      refine lv_topi (fun x_7 ex_7 => ?_)
      have u_8 : (tI M 60 24).toInt = x_7.toInt := by rw [ex_7]
      refine lv_iload_n hx hb dX10_isSign_19 rfl (lv_at hl 1 rfl) ?_
      refine sb_icmp_ne (tgt := 27) hx hb rfl rfl dX10_isSign_20 (by decide) (fun c_20_8 => ?_) (fun c_20_8 => ?_)
      · refine lv_iconst (v := 0) hx hb dX10_isSign_27 (by decide) ?_
        exact hQ _ _ _ _ _ _ hw rfl (⟨rfl, Or.inr ⟨rfl, by omega⟩⟩) dX10_isSign_28
      · refine lv_iconst (v := 1) hx hb dX10_isSign_23 (by decide) ?_
        refine lv_goto (tgt := 28) hx hb dX10_isSign_24 (by decide) ?_
        exact hQ _ _ _ _ _ _ hw rfl (⟨rfl, Or.inl ⟨rfl, by omega, by omega, by omega⟩⟩) dX10_isSign_28
set_option maxHeartbeats 4000000 in
set_option maxRecDepth 100000 in
theorem x_X10_goOn (l : Launch) (D : va_G) (A : Nat → Nat → Nat) (cy : Nat → ClassId) (hJ : ti_inj ti_LM A) (M : ti_M) (hI : mI Tm M)  (B : Nat → Int) (n : Nat) (rg : Nat → Int) (hr : rQ B n rg M) : ti_KvE l yX10_goOn cX10_goOn 1 6 ti_LM D A cy M [.ref (A 60 0)] (fun M2 => rQ B n (pp_go B n rg) M2 ∧ mI Tm M2 ∧ pr 21 24 M2 M ∧ ((tI M 60 21).toInt ≤ (tI M2 60 21).toInt) ∧ ((tI M 60 21).toInt < (tI M2 60 21).toInt ∨ (tI M2 60 23).toInt = (tI M 60 23).toInt ∨ (tI M2 60 23).toInt = 4) ∧ ((tI M 60 25).toInt = 0 ∨ (tI M2 60 25).toInt ≠ 0) ∧ ((tI M2 60 25).toInt = (tI M 60 25).toInt) ∧ ((tI M 60 25).toInt ≠ 0 ∨ (tI M 60 21).toInt < (tI M2 60 21).toInt ∨ (tI M2 60 23).toInt = 4)) := by
  refine ti_eVE yp_X10_goOn hJ ti_LM_nd (Nat.le_of_ble_eq_true rfl) ?_
  intro p e s m args below meth c Q H0 C hE hQ hw ls hl
  have hx := C.1
  have hb := C.2.1
  have hl : lv_has ls 1 [(0, .ref (A 60 0))] := hl
  have l4 : rg 4 = (tI M 60 25).toInt := hr.2.1
  refine lv_aload_n hx hb dX10_goOn_0 rfl (lv_at hl 0 rfl) ?_
  refine ti_get (ci := 10) (k := 25) (N := 67) (T := TX10) C hw iw_10 rfl ob_60 (by decide) (by decide) fl_X10_208 rfl rfl dX10_goOn_1 ?_
  refine lv_topi (fun x_1 ex_1 => ?_)
  have u_2 : (tI M 60 25).toInt = x_1.toInt := by rw [ex_1]
  refine sb_if_ne (tgt := 11) hx hb rfl dX10_goOn_4 (by decide) (fun c_4_2 => ?_) (fun c_4_2 => ?_)
  · exact hQ _ _ _ _ _ hw (⟨(by rw [go_f (by omega)]; exact hr), hI, pr.refl, (by first | omega | decide), (by first | omega | decide), (by first | omega | decide), (by first | omega | decide), (by first | omega | decide)⟩) dX10_goOn_11
  · refine lv_aload_n hx hb dX10_goOn_7 rfl (lv_at hl 0 rfl) ?_
    refine ti_callVvE (ci := 10) (av := []) C hE hw (x_X10_token l D A cy hJ M hI ) ⟨ml_X10_214, ym_X10_token, yv_X10_token, yi_X10_token, yc_X10_token⟩ yd_X10_token ob_60 (by decide) rfl rfl hl.1 (Nat.le_of_ble_eq_true rfl) ⟨by decide, by decide⟩ ⟨Nat.zero_le _, Nat.zero_le _⟩ dX10_goOn_8 (fun M_5 H locs hp_5 hw => ?_)
    obtain ⟨iM_5, q_8, z_6, z_7, k2M_5, k3M_5, k4M_5⟩ := hp_5
    have hs_9 := rQ_av hr (by omega) (hI.1 21).1 q_8 k2M_5 k3M_5 k4M_5
    obtain ⟨g_10, eg_10⟩ : ∃ z : Nat → Int, z = pp_av B n rg := ⟨_, rfl⟩
    rw [← eg_10] at hs_9
    have l4g_10 : g_10 4 = (tI M_5 60 25).toInt := hs_9.2.1
    have v_11 : (tI M_5 60 20).toInt = (tI M 60 20).toInt := by rw [q_8.2 20 (by decide)]
    have v_12 : 0 ≤ (tI M_5 60 21).toInt ∧ (tI M_5 60 21).toInt ≤ 700 := mI_rd (x := tI M_5 60 21) (k := 21) iM_5 rfl
    have v_13 : (tI M_5 60 25).toInt = (tI M 60 25).toInt := by rw [q_8.2 25 (by decide)]
    have v_14 : (tI M_5 60 29).toInt = (tI M 60 29).toInt := by rw [q_8.2 29 (by decide)]
    have v_15 : (tI M_5 60 30).toInt = (tI M 60 30).toInt := by rw [q_8.2 30 (by decide)]
    exact hQ _ _ _ _ _ hw (⟨(by unfold pp_go; rw [if_pos (by omega), ← eg_10]; exact hs_9), iM_5, q_8, (by first | omega | decide), (by first | omega | decide), (by first | omega | decide), (by first | omega | decide), (by first | omega | decide)⟩) dX10_goOn_11
set_option maxHeartbeats 4000000 in
set_option maxRecDepth 100000 in
theorem x_X10_numeral (l : Launch) (D : va_G) (A : Nat → Nat → Nat) (cy : Nat → ClassId) (hJ : ti_inj ti_LM A) (M : ti_M) (hI : mI Tm M) (lo mo : Int32) (hm : lo.toInt ≤ mo.toInt) (hmo : mo.toInt ≤ 99999) (B : Nat → Int) (n : Nat) (rg : Nat → Int) (hr : rQ B n rg M) : ti_KiE l yX10_numeral cX10_numeral 4 (some .int) 6 ti_LM D A cy M [.ref (A 60 0), .int lo, .int mo] (fun r M2 => rQ B n (pp_nb B n lo.toInt mo.toInt rg) M2 ∧ ((tI M2 60 25).toInt = 0 → r.toInt = rg 1) ∧ mI Tm M2 ∧ pr 21 26 M2 M ∧ ((tI M 60 21).toInt ≤ (tI M2 60 21).toInt) ∧ ((tI M 60 21).toInt < (tI M2 60 21).toInt ∨ (tI M2 60 23).toInt = (tI M 60 23).toInt ∨ (tI M2 60 23).toInt = 4) ∧ ((tI M 60 25).toInt = 0 ∨ (tI M2 60 25).toInt ≠ 0) ∧ (lo.toInt ≤ r.toInt) ∧ (r.toInt ≤ mo.toInt)) := by
  refine ti_eIE yp_X10_numeral hJ ti_LM_nd (Nat.le_of_ble_eq_true rfl) ?_
  intro p e s m args below meth c Q H0 C hE hQ hw ls hl
  have hx := C.1
  have hb := C.2.1
  have hl : lv_has ls 4 [(0, .ref (A 60 0)), (1, .int lo), (2, .int mo)] := hl
  have l4 : rg 4 = (tI M 60 25).toInt := hr.2.1
  refine lv_aload_n hx hb dX10_numeral_0 rfl (lv_at hl 0 rfl) ?_
  refine ti_get (ci := 10) (k := 25) (N := 67) (T := TX10) C hw iw_10 rfl ob_60 (by decide) (by decide) fl_X10_208 rfl rfl dX10_numeral_1 ?_
  refine lv_topi (fun x_1 ex_1 => ?_)
  have u_2 : (tI M 60 25).toInt = x_1.toInt := by rw [ex_1]
  refine sb_if_eq (tgt := 9) hx hb rfl dX10_numeral_4 (by decide) (fun c_4_2 => ?_) (fun c_4_2 => ?_)
  · refine lv_aload_n hx hb dX10_numeral_9 rfl (lv_at hl 0 rfl) ?_
    refine ti_get (ci := 10) (k := 23) (N := 67) (T := TX10) C hw iw_10 rfl ob_60 (by decide) (by decide) fl_X10_173 rfl rfl dX10_numeral_10 ?_
    refine lv_topi (fun x_4 ex_4 => ?_)
    have u_5 : (tI M 60 23).toInt = x_4.toInt := by rw [ex_4]
    refine lv_iconst (v := 2) hx hb dX10_numeral_13 (by decide) ?_
    refine sb_icmp_eq (tgt := 25) hx hb rfl (by decide : (2 : Int32).toInt = 2) dX10_numeral_14 (by decide) (fun c_14_5 => ?_) (fun c_14_5 => ?_)
    · refine lv_aload_n hx hb dX10_numeral_25 rfl (lv_at hl 0 rfl) ?_
      refine ti_get (ci := 10) (k := 24) (N := 67) (T := TX10) C hw iw_10 rfl ob_60 (by decide) (by decide) fl_X10_183 rfl rfl dX10_numeral_26 ?_
      refine lv_topi (fun x_19 ex_19 => ?_)
      have u_20 : (tI M 60 24).toInt = x_19.toInt := by rw [ex_19]
      refine lv_iload_n hx hb dX10_numeral_29 rfl (lv_at hl 1 rfl) ?_
      refine sb_icmp_lt (tgt := 41) hx hb rfl rfl dX10_numeral_30 (by decide) (fun c_30_20 => ?_) (fun c_30_20 => ?_)
      · refine lv_aload_n hx hb dX10_numeral_41 rfl (lv_at hl 0 rfl) ?_
        refine lv_iconst (v := 2) hx hb dX10_numeral_42 (by decide) ?_
        refine ti_callVv (ci := 10) (av := [.int 2]) C hw (x_X10_wrong l D A cy hJ M hI 2 (by decide) B n rg hr) ⟨ml_X10_217, ym_X10_wrong, yv_X10_wrong, yi_X10_wrong, yc_X10_wrong⟩ yd_X10_wrong ob_60 (by decide) rfl rfl hl.1 (Nat.le_of_ble_eq_true rfl) ⟨by decide, by decide⟩ ⟨Nat.zero_le _, Nat.zero_le _⟩ dX10_numeral_43 (fun M_24 H locs hp_24 hw => ?_)
        obtain ⟨hs_25, hp_26⟩ := hp_24
        obtain ⟨iM_24, q_27, p0r_23, p1r_23, p2r_23, p3r_23⟩ := hp_26
        obtain ⟨g_28, eg_28⟩ : ∃ z : Nat → Int, z = pp_rf ((2 : Int32).toInt) rg := ⟨_, rfl⟩
        rw [← eg_28] at hs_25
        have l4g_28 : g_28 4 = (tI M_24 60 25).toInt := hs_25.2.1
        simp only [show (2 : Int32).toInt = 2 by decide] at eg_28
        have v_29 : (tI M_24 60 20).toInt = (tI M 60 20).toInt := by rw [q_27.2 20 (by decide)]
        have v_30 : (tI M_24 60 21).toInt = (tI M 60 21).toInt := by rw [q_27.2 21 (by decide)]
        have v_31 : (tI M_24 60 23).toInt = (tI M 60 23).toInt := by rw [q_27.2 23 (by decide)]
        have v_32 : (tI M_24 60 24).toInt = (tI M 60 24).toInt := by rw [q_27.2 24 (by decide)]
        have v_33 : (tI M_24 60 29).toInt = (tI M 60 29).toInt := by rw [q_27.2 29 (by decide)]
        have v_34 : (tI M_24 60 30).toInt = (tI M 60 30).toInt := by rw [q_27.2 30 (by decide)]
        refine lv_aload_n hx hb dX10_numeral_46 rfl (lv_at hl 0 rfl) ?_
        refine ti_get (ci := 10) (k := 25) (N := 67) (T := TX10) C hw iw_10 rfl ob_60 (by decide) (by decide) fl_X10_208 rfl rfl dX10_numeral_47 ?_
        refine lv_topi (fun x_51 ex_51 => ?_)
        have u_52 : (tI M_24 60 25).toInt = x_51.toInt := by rw [ex_51]
        refine sb_if_eq (tgt := 55) hx hb rfl dX10_numeral_50 (by decide) (fun h => by omega) (fun c_50_52 => ?_)
        refine lv_iload_n hx hb dX10_numeral_53 rfl (lv_at hl 1 rfl) ?_
        exact hQ _ _ _ _ _ _ hw rfl (⟨(by have T := pt_Tnm (hr.2.2.2 (by omega)).1; have T2 := T.2.2.1 (by omega); unfold pp_nb; rw [if_pos T2.1, if_pos (by omega), ← eg_28]; exact hs_25), (fun q => absurd q (by omega)), iM_24, (pr_w q_27 (by decide) (by decide)), (by first | omega | decide), (by first | omega | decide), (by first | omega | decide), (by first | omega | decide), (by first | omega | decide)⟩) dX10_numeral_54
      · refine lv_aload_n hx hb dX10_numeral_33 rfl (lv_at hl 0 rfl) ?_
        refine ti_get (ci := 10) (k := 24) (N := 67) (T := TX10) C hw iw_10 rfl ob_60 (by decide) (by decide) fl_X10_183 rfl rfl dX10_numeral_34 ?_
        refine ti_top (y := x_19) (ex_19.symm) ?_
        refine lv_iload_n hx hb dX10_numeral_37 rfl (lv_at hl 2 rfl) ?_
        refine sb_icmp_le (tgt := 46) hx hb rfl rfl dX10_numeral_38 (by decide) (fun c_38_21 => ?_) (fun c_38_21 => ?_)
        · refine lv_aload_n hx hb dX10_numeral_46 rfl (lv_at hl 0 rfl) ?_
          refine ti_get (ci := 10) (k := 25) (N := 67) (T := TX10) C hw iw_10 rfl ob_60 (by decide) (by decide) fl_X10_208 rfl rfl dX10_numeral_47 ?_
          refine ti_top (y := x_1) (ex_1.symm) ?_
          refine sb_if_eq (tgt := 55) hx hb rfl dX10_numeral_50 (by decide) (fun c_50_49 => ?_) (fun h => by omega)
          refine lv_aload_n hx hb dX10_numeral_55 rfl (lv_at hl 0 rfl) ?_
          refine ti_get (ci := 10) (k := 24) (N := 67) (T := TX10) C hw iw_10 rfl ob_60 (by decide) (by decide) fl_X10_183 rfl rfl dX10_numeral_56 ?_
          refine ti_top (y := x_19) (ex_19.symm) ?_
          refine lv_istore_n (lv' := [(3, .int x_19), (0, .ref (A 60 0)), (1, .int lo), (2, .int mo)]) hx hb dX10_numeral_59 rfl hl (by decide) rfl (fun ls hl => ?_)
          refine lv_aload_n hx hb dX10_numeral_60 rfl (lv_at hl 1 rfl) ?_
          refine ti_callVvE (ci := 10) (av := []) C hE hw (x_X10_token l D A cy hJ M hI ) ⟨ml_X10_214, ym_X10_token, yv_X10_token, yi_X10_token, yc_X10_token⟩ yd_X10_token ob_60 (by decide) rfl rfl hl.1 (Nat.le_of_ble_eq_true rfl) ⟨by decide, by decide⟩ ⟨Nat.zero_le _, Nat.zero_le _⟩ dX10_numeral_61 (fun M_58 H locs hp_58 hw => ?_)
          obtain ⟨iM_58, q_61, z_59, z_60, k2M_58, k3M_58, k4M_58⟩ := hp_58
          have hs_62 := rQ_av hr (by omega) (hI.1 21).1 q_61 k2M_58 k3M_58 k4M_58
          obtain ⟨g_63, eg_63⟩ : ∃ z : Nat → Int, z = pp_av B n rg := ⟨_, rfl⟩
          rw [← eg_63] at hs_62
          have l4g_63 : g_63 4 = (tI M_58 60 25).toInt := hs_62.2.1
          have v_64 : (tI M_58 60 20).toInt = (tI M 60 20).toInt := by rw [q_61.2 20 (by decide)]
          have v_65 : 0 ≤ (tI M_58 60 21).toInt ∧ (tI M_58 60 21).toInt ≤ 700 := mI_rd (x := tI M_58 60 21) (k := 21) iM_58 rfl
          have v_66 : (tI M_58 60 25).toInt = (tI M 60 25).toInt := by rw [q_61.2 25 (by decide)]
          have v_67 : (tI M_58 60 29).toInt = (tI M 60 29).toInt := by rw [q_61.2 29 (by decide)]
          have v_68 : (tI M_58 60 30).toInt = (tI M 60 30).toInt := by rw [q_61.2 30 (by decide)]
          refine lv_iload_n hx hb dX10_numeral_64 rfl (lv_at hl 0 rfl) ?_
          exact hQ _ _ _ _ _ _ hw rfl (⟨(by have T := pt_Tnm (hr.2.2.2 (by omega)).1; have T2 := T.2.2.1 (by omega); unfold pp_nb; rw [if_pos T2.1, if_neg (by omega), ← eg_63]; exact hs_62), (fun _ => by have T2 := (pt_Tnm (hr.2.2.2 (by omega)).1).2.2.1 (by omega); omega), iM_58, (pr_w q_61 (by decide) (by decide)), (by first | omega | decide), (by first | omega | decide), (by first | omega | decide), (by first | omega | decide), (by first | omega | decide)⟩) dX10_numeral_65
        · refine lv_aload_n hx hb dX10_numeral_41 rfl (lv_at hl 0 rfl) ?_
          refine lv_iconst (v := 2) hx hb dX10_numeral_42 (by decide) ?_
          refine ti_callVv (ci := 10) (av := [.int 2]) C hw (x_X10_wrong l D A cy hJ M hI 2 (by decide) B n rg hr) ⟨ml_X10_217, ym_X10_wrong, yv_X10_wrong, yi_X10_wrong, yc_X10_wrong⟩ yd_X10_wrong ob_60 (by decide) rfl rfl hl.1 (Nat.le_of_ble_eq_true rfl) ⟨by decide, by decide⟩ ⟨Nat.zero_le _, Nat.zero_le _⟩ dX10_numeral_43 (fun M_36 H locs hp_36 hw => ?_)
          obtain ⟨hs_37, hp_38⟩ := hp_36
          obtain ⟨iM_36, q_39, p0r_35, p1r_35, p2r_35, p3r_35⟩ := hp_38
          obtain ⟨g_40, eg_40⟩ : ∃ z : Nat → Int, z = pp_rf ((2 : Int32).toInt) rg := ⟨_, rfl⟩
          rw [← eg_40] at hs_37
          have l4g_40 : g_40 4 = (tI M_36 60 25).toInt := hs_37.2.1
          simp only [show (2 : Int32).toInt = 2 by decide] at eg_40
          have v_41 : (tI M_36 60 20).toInt = (tI M 60 20).toInt := by rw [q_39.2 20 (by decide)]
          have v_42 : (tI M_36 60 21).toInt = (tI M 60 21).toInt := by rw [q_39.2 21 (by decide)]
          have v_43 : (tI M_36 60 23).toInt = (tI M 60 23).toInt := by rw [q_39.2 23 (by decide)]
          have v_44 : (tI M_36 60 24).toInt = (tI M 60 24).toInt := by rw [q_39.2 24 (by decide)]
          have v_45 : (tI M_36 60 29).toInt = (tI M 60 29).toInt := by rw [q_39.2 29 (by decide)]
          have v_46 : (tI M_36 60 30).toInt = (tI M 60 30).toInt := by rw [q_39.2 30 (by decide)]
          refine lv_aload_n hx hb dX10_numeral_46 rfl (lv_at hl 0 rfl) ?_
          refine ti_get (ci := 10) (k := 25) (N := 67) (T := TX10) C hw iw_10 rfl ob_60 (by decide) (by decide) fl_X10_208 rfl rfl dX10_numeral_47 ?_
          refine lv_topi (fun x_54 ex_54 => ?_)
          have u_55 : (tI M_36 60 25).toInt = x_54.toInt := by rw [ex_54]
          refine sb_if_eq (tgt := 55) hx hb rfl dX10_numeral_50 (by decide) (fun h => by omega) (fun c_50_55 => ?_)
          refine lv_iload_n hx hb dX10_numeral_53 rfl (lv_at hl 1 rfl) ?_
          exact hQ _ _ _ _ _ _ hw rfl (⟨(by have T := pt_Tnm (hr.2.2.2 (by omega)).1; have T2 := T.2.2.1 (by omega); unfold pp_nb; rw [if_pos T2.1, if_pos (by omega), ← eg_40]; exact hs_37), (fun q => absurd q (by omega)), iM_36, (pr_w q_39 (by decide) (by decide)), (by first | omega | decide), (by first | omega | decide), (by first | omega | decide), (by first | omega | decide), (by first | omega | decide)⟩) dX10_numeral_54
    · refine lv_aload_n hx hb dX10_numeral_17 rfl (lv_at hl 0 rfl) ?_
      refine lv_iconst (v := 1) hx hb dX10_numeral_18 (by decide) ?_
      refine ti_callVv (ci := 10) (av := [.int 1]) C hw (x_X10_wrong l D A cy hJ M hI 1 (by decide) B n rg hr) ⟨ml_X10_217, ym_X10_wrong, yv_X10_wrong, yi_X10_wrong, yc_X10_wrong⟩ yd_X10_wrong ob_60 (by decide) rfl rfl hl.1 (Nat.le_of_ble_eq_true rfl) ⟨by decide, by decide⟩ ⟨Nat.zero_le _, Nat.zero_le _⟩ dX10_numeral_19 (fun M_8 H locs hp_8 hw => ?_)
      obtain ⟨hs_9, hp_10⟩ := hp_8
      obtain ⟨iM_8, q_11, p0r_7, p1r_7, p2r_7, p3r_7⟩ := hp_10
      obtain ⟨g_12, eg_12⟩ : ∃ z : Nat → Int, z = pp_rf ((1 : Int32).toInt) rg := ⟨_, rfl⟩
      rw [← eg_12] at hs_9
      have l4g_12 : g_12 4 = (tI M_8 60 25).toInt := hs_9.2.1
      simp only [show (1 : Int32).toInt = 1 by decide] at eg_12
      have v_13 : (tI M_8 60 20).toInt = (tI M 60 20).toInt := by rw [q_11.2 20 (by decide)]
      have v_14 : (tI M_8 60 21).toInt = (tI M 60 21).toInt := by rw [q_11.2 21 (by decide)]
      have v_15 : (tI M_8 60 23).toInt = (tI M 60 23).toInt := by rw [q_11.2 23 (by decide)]
      have v_16 : (tI M_8 60 24).toInt = (tI M 60 24).toInt := by rw [q_11.2 24 (by decide)]
      have v_17 : (tI M_8 60 29).toInt = (tI M 60 29).toInt := by rw [q_11.2 29 (by decide)]
      have v_18 : (tI M_8 60 30).toInt = (tI M 60 30).toInt := by rw [q_11.2 30 (by decide)]
      refine lv_goto (tgt := 46) hx hb dX10_numeral_22 (by decide) ?_
      refine lv_aload_n hx hb dX10_numeral_46 rfl (lv_at hl 0 rfl) ?_
      refine ti_get (ci := 10) (k := 25) (N := 67) (T := TX10) C hw iw_10 rfl ob_60 (by decide) (by decide) fl_X10_208 rfl rfl dX10_numeral_47 ?_
      refine lv_topi (fun x_47 ex_47 => ?_)
      have u_48 : (tI M_8 60 25).toInt = x_47.toInt := by rw [ex_47]
      refine sb_if_eq (tgt := 55) hx hb rfl dX10_numeral_50 (by decide) (fun h => by omega) (fun c_50_48 => ?_)
      refine lv_iload_n hx hb dX10_numeral_53 rfl (lv_at hl 1 rfl) ?_
      exact hQ _ _ _ _ _ _ hw rfl (⟨(by have T := pt_Tnm (hr.2.2.2 (by omega)).1; unfold pp_nb; rw [if_neg (fun q => by have := T.2.2.2.1 q; omega), ← eg_12]; exact hs_9), (fun q => absurd q (by omega)), iM_8, (pr_w q_11 (by decide) (by decide)), (by first | omega | decide), (by first | omega | decide), (by first | omega | decide), (by first | omega | decide), (by first | omega | decide)⟩) dX10_numeral_54
  · refine lv_iload_n hx hb dX10_numeral_7 rfl (lv_at hl 1 rfl) ?_
    exact hQ _ _ _ _ _ _ hw rfl (⟨(rQ_f hr (by omega) (nb_f (rQ_z hr (by omega)))), (fun q => absurd q (by omega)), hI, pr.refl, (by first | omega | decide), (by first | omega | decide), (by first | omega | decide), (by first | omega | decide), (by first | omega | decide)⟩) dX10_numeral_8
theorem rb_4 {M : ti_M} {x z : Int32} {s : Nat} (e : tY M 60 4 x.toNatClampNeg = z) (hx : x.toInt = (s : Int)) : (tY M 60 4 s).toInt = z.toInt := by
  rw [i_cl hx] at e
  rw [e]
theorem rQ_nm {B : Nat → Int} {n : Nat} {s : Nat → Int} {M : ti_M} {x : Int32} (h : rQ B n s M) (hz : s 4 = 0) (e : s 7 = x.toInt) : ∀ i : Nat, i < 8 → (i : Int) < x.toInt → s (100 + i) = (tY M 60 4 (8 + i)).toInt := fun i h1 h2 => ((h.2.2.2 hz).2.2.2.1 i h1 (by omega)).1
set_option maxHeartbeats 4000000 in
set_option maxRecDepth 100000 in
theorem x_X10_found_8 (l : Launch) (D : va_G) (A : Nat → Nat → Nat) (cy : Nat → ClassId) (hJ : ti_inj ti_LM A) (M : ti_M) (hI : mI Tm M) (nm v : Int32) (h1 : 0 ≤ nm.toInt) (h2 : nm.toInt ≤ 8) (rg : Nat → Int) (h7 : rg 7 = nm.toInt) (hnm : ∀ i : Nat, i < 8 → (i : Int) < nm.toInt → rg (100 + i) = (tY M 60 4 (8 + i)).toInt) : ti_Ki l yX10_found cX10_found 5 (some .int) 0 ti_LM D A cy M [.ref (A 60 5), .int 8, .int nm, .int v] (fun r M2 => M2 = M ∧ -1 ≤ r.toInt ∧ r.toInt ≤ 7 ∧ r.toInt = pp_fd rg v.toInt 0) := by
  refine ti_eI yp_X10_found hJ ti_LM_nd (Nat.le_of_ble_eq_true rfl) ?_
  intro p e s m args below meth c Q H0 C hQ hw ls hl
  have hx := C.1
  have hb := C.2.1
  have hl : lv_has ls 5 [(0, .ref (A 60 5)), (1, .int 8), (2, .int nm), (3, .int v)] := hl
  refine lv_iconst (v := 0) hx hb dX10_found_0 (by decide) ?_
  refine lv_istore (lv' := [(4, .int 0), (0, .ref (A 60 5)), (1, .int 8), (2, .int nm), (3, .int v)]) hx hb dX10_found_1 hl (by decide) rfl (fun ls hl => ?_)
  have hl_3_4 : ∀ (n_5 : Nat) (x_1 : Int32) (H : Heap) (locs : List Loc) (ls : Array Slot), (8 - x_1.toInt : Int).toNat < n_5 → (0 ≤ x_1.toInt) → (x_1.toInt ≤ 8) → (pp_fd rg v.toInt 0 = pp_fd rg v.toInt (x_1.toInt).toNat) → ti_H ti_LM D A cy H0 M H locs → lv_has ls 5 [(4, .int x_1), (0, .ref (A 60 5)), (1, .int 8), (2, .int nm), (3, .int v)] → W p l e (ti_rm 0) s m args below meth c H locs 0 0 Q (F0 m 3 ls []) := by
    intro n_5
    induction n_5 with
    | zero => intro x_1 H locs ls hf_5; exact absurd hf_5 (Nat.not_lt_zero _)
    | succ n_5 ih_5 =>
      intro x_1 H locs ls hf_5 b_2 b_3 j_4 hw hl
      refine lv_iload hx hb dX10_found_3 (lv_at hl 0 rfl) ?_
      refine lv_iload_n hx hb dX10_found_5 rfl (lv_at hl 3 rfl) ?_
      refine sb_icmp_ge (tgt := 28) hx hb rfl rfl dX10_found_6 (by decide) (fun c_6_5 => ?_) (fun c_6_5 => ?_)
      · refine lv_iconst (v := (-1)) hx hb dX10_found_28 (by decide) ?_
        exact hQ _ _ _ _ _ _ hw rfl (⟨rfl, by decide, by decide, (by rw [j_4, fd_end (s := rg) (v := v.toInt) (i := x_1.toInt.toNat) (by omega)]; decide)⟩) dX10_found_29
      · refine lv_aload_n hx hb dX10_found_9 rfl (lv_at hl 1 rfl) ?_
        refine lv_iload_n hx hb dX10_found_10 rfl (lv_at hl 2 rfl) ?_
        refine lv_iload hx hb dX10_found_11 (lv_at hl 0 rfl) ?_
        refine lv_iadd hx hb dX10_found_13 ?_
        refine lv_topi (fun x_7 ex_7 => ?_)
        have tx_7 : x_7.toInt = 8 + x_1.toInt := i_add ex_7 (by decide : (8 : Int32).toInt = 8) rfl (by omega) (by omega)
        refine ti_iald (ci := 10) (k := 4) (n := 16) C hw ob_60 (by decide) (fun _ _ => rfl) (vp_in_iff.mpr (by omega)) dX10_found_14 ?_
        refine lv_topi (fun x_8 ex_8 => ?_)
        have yx_8 : tY M 60 4 x_7.toNatClampNeg = x_8 := (ex_8.symm)
        have mnx_1 : rg (100 + x_1.toInt.toNat) = x_8.toInt := (hnm x_1.toInt.toNat (by omega) (by omega)).trans (rb_4 (s := 8 + x_1.toInt.toNat) yx_8 (by omega))
        refine lv_iload_n hx hb dX10_found_15 rfl (lv_at hl 4 rfl) ?_
        refine sb_icmp_ne (tgt := 22) hx hb rfl rfl dX10_found_16 (by decide) (fun c_16_8 => ?_) (fun c_16_8 => ?_)
        · obtain ⟨x_10, ex_10⟩ : ∃ z : Int32, z = x_1 + 1 := ⟨_, rfl⟩
          have tx_10 : x_10.toInt = x_1.toInt + 1 := i_add ex_10 rfl (by decide) (by omega) (by omega)
          refine lv_iinc (v := x_10) (lv' := [(4, .int x_10), (0, .ref (A 60 5)), (1, .int 8), (2, .int nm), (3, .int v)]) hx hb dX10_found_22 hl (k := 0) rfl (by rw [ex_10]; rfl) (by decide) rfl (fun ls hl => ?_)
          refine lv_goto (tgt := 3) hx hb dX10_found_25 (by decide) ?_
          exact ih_5 x_10 _ _ _ (by omega) (by first | omega | decide) (by first | omega | decide) (by rw [show x_10.toInt.toNat = x_1.toInt.toNat + 1 by omega, ← fd_go (s := rg) (v := v.toInt) (i := x_1.toInt.toNat) (by omega) (by rw [mnx_1]; omega)]; exact j_4) hw (lv_sub hl [0, 1, 2, 3, 4] rfl)
        · refine lv_iload hx hb dX10_found_19 (lv_at hl 0 rfl) ?_
          exact hQ _ _ _ _ _ _ hw rfl (⟨rfl, by omega, by omega, (by rw [j_4, fd_at (s := rg) (v := v.toInt) (i := x_1.toInt.toNat) (by omega) (by rw [mnx_1]; omega)]; omega)⟩) dX10_found_21
  exact hl_3_4 ((8 - 0 : Int).toNat + 1) 0 _ _ _ (Nat.lt_succ_self _) (by have lt0 : (0 : Int32).toInt = 0 := (by decide); first | omega | decide) (by have lt0 : (0 : Int32).toInt = 0 := (by decide); first | omega | decide) rfl hw (lv_sub hl [0, 1, 2, 3, 4] rfl)
set_option maxHeartbeats 4000000 in
set_option maxRecDepth 100000 in
theorem x_X10_fresh (l : Launch) (D : va_G) (A : Nat → Nat → Nat) (cy : Nat → ClassId) (hJ : ti_inj ti_LM A) (M : ti_M) (hI : mI Tm M) (nn : Int32) (h1 : 0 ≤ nn.toInt) (h2 : nn.toInt ≤ 8) (B : Nat → Int) (n : Nat) (rg : Nat → Int) (hr : rQ B n rg M) (hn7 : rg 4 = 0 → rg 7 = nn.toInt) : ti_KiE l yX10_fresh cX10_fresh 5 (some .int) 6 ti_LM D A cy M [.ref (A 60 0), .ref (A 60 5), .int 8, .int nn] (fun r M2 => rQ B n (pp_tk B n 25 (pp_m2 rg)) M2 ∧ ((tI M2 60 25).toInt = 0 → r.toInt = rg 1) ∧ mI Tm M2 ∧ pr 21 26 M2 M ∧ ((tI M 60 21).toInt ≤ (tI M2 60 21).toInt) ∧ ((tI M 60 21).toInt < (tI M2 60 21).toInt ∨ (tI M2 60 23).toInt = (tI M 60 23).toInt ∨ (tI M2 60 23).toInt = 4) ∧ ((tI M 60 25).toInt = 0 ∨ (tI M2 60 25).toInt ≠ 0)) := by
  refine ti_eIE yp_X10_fresh hJ ti_LM_nd (Nat.le_of_ble_eq_true rfl) ?_
  intro p e s m args below meth c Q H0 C hE hQ hw ls hl
  have hx := C.1
  have hb := C.2.1
  have hl : lv_has ls 5 [(0, .ref (A 60 0)), (1, .ref (A 60 5)), (2, .int 8), (3, .int nn)] := hl
  have l4 : rg 4 = (tI M 60 25).toInt := hr.2.1
  refine lv_aload_n hx hb dX10_fresh_0 rfl (lv_at hl 0 rfl) ?_
  refine ti_get (ci := 10) (k := 25) (N := 67) (T := TX10) C hw iw_10 rfl ob_60 (by decide) (by decide) fl_X10_208 rfl rfl dX10_fresh_1 ?_
  refine lv_topi (fun x_1 ex_1 => ?_)
  have u_2 : (tI M 60 25).toInt = x_1.toInt := by rw [ex_1]
  refine sb_if_eq (tgt := 9) hx hb rfl dX10_fresh_4 (by decide) (fun c_4_2 => ?_) (fun c_4_2 => ?_)
  · refine lv_aload_n hx hb dX10_fresh_9 rfl (lv_at hl 0 rfl) ?_
    refine ti_get (ci := 10) (k := 23) (N := 67) (T := TX10) C hw iw_10 rfl ob_60 (by decide) (by decide) fl_X10_173 rfl rfl dX10_fresh_10 ?_
    refine lv_topi (fun x_4 ex_4 => ?_)
    have u_5 : (tI M 60 23).toInt = x_4.toInt := by rw [ex_4]
    refine lv_iconst (v := 1) hx hb dX10_fresh_13 (by decide) ?_
    refine sb_icmp_eq (tgt := 25) hx hb rfl (by decide : (1 : Int32).toInt = 1) dX10_fresh_14 (by decide) (fun c_14_5 => ?_) (fun c_14_5 => ?_)
    · refine lv_aload_n hx hb dX10_fresh_25 rfl (lv_at hl 1 rfl) ?_
      refine lv_iload_n hx hb dX10_fresh_26 rfl (lv_at hl 2 rfl) ?_
      refine lv_iload_n hx hb dX10_fresh_27 rfl (lv_at hl 3 rfl) ?_
      refine lv_aload_n hx hb dX10_fresh_28 rfl (lv_at hl 0 rfl) ?_
      refine ti_get (ci := 10) (k := 24) (N := 67) (T := TX10) C hw iw_10 rfl ob_60 (by decide) (by decide) fl_X10_183 rfl rfl dX10_fresh_29 ?_
      refine lv_topi (fun x_19 ex_19 => ?_)
      have u_20 : (tI M 60 24).toInt = x_19.toInt := by rw [ex_19]
      refine ti_callSi (av := [.ref (A 60 5), .int 8, .int nn, .int x_19]) C hw (x_X10_found_8 l D A cy hJ M hI nn x_19 (by omega) (by omega) rg (hn7 (by omega)) (rQ_nm hr (by omega) (hn7 (by omega)))) ⟨ml_X10_220, ys_X10_found, yi_X10_found, yc_X10_found⟩ yd_X10_found rfl hl.1 (Nat.le_of_ble_eq_true rfl) ⟨by decide, by decide⟩ ⟨Nat.zero_le _, Nat.zero_le _⟩ dX10_fresh_32 (fun r_21 M_22 H locs hp_22 hw => ?_)
      obtain ⟨hm, b0r_21, b1r_21, p0r_21⟩ := hp_22
      have hw := hw.to hm
      refine lv_iconst (v := (-1)) hx hb dX10_fresh_35 (by decide) ?_
      refine sb_icmp_eq (tgt := 44) hx hb rfl (by decide : ((-1) : Int32).toInt = (-1)) dX10_fresh_36 (by decide) (fun c_36_22 => ?_) (fun c_36_22 => ?_)
      · refine lv_aload_n hx hb dX10_fresh_44 rfl (lv_at hl 0 rfl) ?_
        refine ti_get (ci := 10) (k := 25) (N := 67) (T := TX10) C hw iw_10 rfl ob_60 (by decide) (by decide) fl_X10_208 rfl rfl dX10_fresh_45 ?_
        refine ti_top (y := x_1) (ex_1.symm) ?_
        refine sb_if_eq (tgt := 53) hx hb rfl dX10_fresh_48 (by decide) (fun c_48_38 => ?_) (fun h => by omega)
        refine lv_aload_n hx hb dX10_fresh_53 rfl (lv_at hl 0 rfl) ?_
        refine ti_get (ci := 10) (k := 24) (N := 67) (T := TX10) C hw iw_10 rfl ob_60 (by decide) (by decide) fl_X10_183 rfl rfl dX10_fresh_54 ?_
        refine ti_top (y := x_19) (ex_19.symm) ?_
        refine lv_istore (lv' := [(4, .int x_19), (0, .ref (A 60 0)), (1, .ref (A 60 5)), (2, .int 8), (3, .int nn)]) hx hb dX10_fresh_57 hl (by decide) rfl (fun ls hl => ?_)
        refine lv_aload_n hx hb dX10_fresh_59 rfl (lv_at hl 1 rfl) ?_
        refine ti_callVvE (ci := 10) (av := []) C hE hw (x_X10_token l D A cy hJ M hI ) ⟨ml_X10_214, ym_X10_token, yv_X10_token, yi_X10_token, yc_X10_token⟩ yd_X10_token ob_60 (by decide) rfl rfl hl.1 (Nat.le_of_ble_eq_true rfl) ⟨by decide, by decide⟩ ⟨Nat.zero_le _, Nat.zero_le _⟩ dX10_fresh_60 (fun M_44 H locs hp_44 hw => ?_)
        obtain ⟨iM_44, q_47, z_45, z_46, k2M_44, k3M_44, k4M_44⟩ := hp_44
        have hs_48 := rQ_av hr (by omega) (hI.1 21).1 q_47 k2M_44 k3M_44 k4M_44
        obtain ⟨g_49, eg_49⟩ : ∃ z : Nat → Int, z = pp_av B n rg := ⟨_, rfl⟩
        rw [← eg_49] at hs_48
        have l4g_49 : g_49 4 = (tI M_44 60 25).toInt := hs_48.2.1
        have v_50 : (tI M_44 60 20).toInt = (tI M 60 20).toInt := by rw [q_47.2 20 (by decide)]
        have v_51 : 0 ≤ (tI M_44 60 21).toInt ∧ (tI M_44 60 21).toInt ≤ 700 := mI_rd (x := tI M_44 60 21) (k := 21) iM_44 rfl
        have v_52 : (tI M_44 60 25).toInt = (tI M 60 25).toInt := by rw [q_47.2 25 (by decide)]
        have v_53 : (tI M_44 60 29).toInt = (tI M 60 29).toInt := by rw [q_47.2 29 (by decide)]
        have v_54 : (tI M_44 60 30).toInt = (tI M 60 30).toInt := by rw [q_47.2 30 (by decide)]
        refine lv_iload hx hb dX10_fresh_63 (lv_at hl 0 rfl) ?_
        exact hQ _ _ _ _ _ _ hw rfl (⟨(by have T := pt_Tnm (hr.2.2.2 (by omega)).1; have T2 := T.1 (by omega); unfold pp_m2; rw [if_neg (fun q => q.2 (by rw [show pp_fd rg (rg 1) 0 = r_21.toInt by (rw [show rg 1 = x_19.toInt by (have T2 := (pt_Tnm (hr.2.2.2 (by omega)).1).1 (by omega); omega)]; exact p0r_21.symm)]; omega))]; unfold pp_tk; rw [if_pos T2.1, ← eg_49]; exact hs_48), (fun _ => by have T2 := (pt_Tnm (hr.2.2.2 (by omega)).1).1 (by omega); omega), iM_44, (pr_w q_47 (by decide) (by decide)), (by first | omega | decide), (by first | omega | decide), (by first | omega | decide)⟩) dX10_fresh_65
      · refine lv_aload_n hx hb dX10_fresh_39 rfl (lv_at hl 0 rfl) ?_
        refine lv_iconst (v := 3) hx hb dX10_fresh_40 (by decide) ?_
        refine ti_callVv (ci := 10) (av := [.int 3]) C hw (x_X10_wrong l D A cy hJ M hI 3 (by decide) B n rg hr) ⟨ml_X10_217, ym_X10_wrong, yv_X10_wrong, yi_X10_wrong, yc_X10_wrong⟩ yd_X10_wrong ob_60 (by decide) rfl rfl hl.1 (Nat.le_of_ble_eq_true rfl) ⟨by decide, by decide⟩ ⟨Nat.zero_le _, Nat.zero_le _⟩ dX10_fresh_41 (fun M_25 H locs hp_25 hw => ?_)
        obtain ⟨hs_26, hp_27⟩ := hp_25
        obtain ⟨iM_25, q_28, p0r_24, p1r_24, p2r_24, p3r_24⟩ := hp_27
        obtain ⟨g_29, eg_29⟩ : ∃ z : Nat → Int, z = pp_rf ((3 : Int32).toInt) rg := ⟨_, rfl⟩
        rw [← eg_29] at hs_26
        have l4g_29 : g_29 4 = (tI M_25 60 25).toInt := hs_26.2.1
        simp only [show (3 : Int32).toInt = 3 by decide] at eg_29
        have v_30 : (tI M_25 60 20).toInt = (tI M 60 20).toInt := by rw [q_28.2 20 (by decide)]
        have v_31 : (tI M_25 60 21).toInt = (tI M 60 21).toInt := by rw [q_28.2 21 (by decide)]
        have v_32 : (tI M_25 60 23).toInt = (tI M 60 23).toInt := by rw [q_28.2 23 (by decide)]
        have v_33 : (tI M_25 60 24).toInt = (tI M 60 24).toInt := by rw [q_28.2 24 (by decide)]
        have v_34 : (tI M_25 60 29).toInt = (tI M 60 29).toInt := by rw [q_28.2 29 (by decide)]
        have v_35 : (tI M_25 60 30).toInt = (tI M 60 30).toInt := by rw [q_28.2 30 (by decide)]
        refine lv_aload_n hx hb dX10_fresh_44 rfl (lv_at hl 0 rfl) ?_
        refine ti_get (ci := 10) (k := 25) (N := 67) (T := TX10) C hw iw_10 rfl ob_60 (by decide) (by decide) fl_X10_208 rfl rfl dX10_fresh_45 ?_
        refine lv_topi (fun x_40 ex_40 => ?_)
        have u_41 : (tI M_25 60 25).toInt = x_40.toInt := by rw [ex_40]
        refine sb_if_eq (tgt := 53) hx hb rfl dX10_fresh_48 (by decide) (fun h => by omega) (fun c_48_41 => ?_)
        refine lv_iconst (v := 0) hx hb dX10_fresh_51 (by decide) ?_
        exact hQ _ _ _ _ _ _ hw rfl (⟨(by have T := pt_Tnm (hr.2.2.2 (by omega)).1; have T2 := T.1 (by omega); unfold pp_m2; rw [if_pos ⟨T2.1, by rw [show pp_fd rg (rg 1) 0 = r_21.toInt by (rw [show rg 1 = x_19.toInt by (have T2 := (pt_Tnm (hr.2.2.2 (by omega)).1).1 (by omega); omega)]; exact p0r_21.symm)]; omega⟩, ← eg_29]; exact rQ_f hs_26 (by rw [eg_29]; exact rf_4 (by decide)) (tk_f (rQ_z hs_26 (by rw [eg_29]; exact rf_4 (by decide))) (by decide))), (fun q => absurd q (by omega)), iM_25, (pr_w q_28 (by decide) (by decide)), (by first | omega | decide), (by first | omega | decide), (by first | omega | decide)⟩) dX10_fresh_52
    · refine lv_aload_n hx hb dX10_fresh_17 rfl (lv_at hl 0 rfl) ?_
      refine lv_iconst (v := 1) hx hb dX10_fresh_18 (by decide) ?_
      refine ti_callVv (ci := 10) (av := [.int 1]) C hw (x_X10_wrong l D A cy hJ M hI 1 (by decide) B n rg hr) ⟨ml_X10_217, ym_X10_wrong, yv_X10_wrong, yi_X10_wrong, yc_X10_wrong⟩ yd_X10_wrong ob_60 (by decide) rfl rfl hl.1 (Nat.le_of_ble_eq_true rfl) ⟨by decide, by decide⟩ ⟨Nat.zero_le _, Nat.zero_le _⟩ dX10_fresh_19 (fun M_8 H locs hp_8 hw => ?_)
      obtain ⟨hs_9, hp_10⟩ := hp_8
      obtain ⟨iM_8, q_11, p0r_7, p1r_7, p2r_7, p3r_7⟩ := hp_10
      obtain ⟨g_12, eg_12⟩ : ∃ z : Nat → Int, z = pp_rf ((1 : Int32).toInt) rg := ⟨_, rfl⟩
      rw [← eg_12] at hs_9
      have l4g_12 : g_12 4 = (tI M_8 60 25).toInt := hs_9.2.1
      simp only [show (1 : Int32).toInt = 1 by decide] at eg_12
      have v_13 : (tI M_8 60 20).toInt = (tI M 60 20).toInt := by rw [q_11.2 20 (by decide)]
      have v_14 : (tI M_8 60 21).toInt = (tI M 60 21).toInt := by rw [q_11.2 21 (by decide)]
      have v_15 : (tI M_8 60 23).toInt = (tI M 60 23).toInt := by rw [q_11.2 23 (by decide)]
      have v_16 : (tI M_8 60 24).toInt = (tI M 60 24).toInt := by rw [q_11.2 24 (by decide)]
      have v_17 : (tI M_8 60 29).toInt = (tI M 60 29).toInt := by rw [q_11.2 29 (by decide)]
      have v_18 : (tI M_8 60 30).toInt = (tI M 60 30).toInt := by rw [q_11.2 30 (by decide)]
      refine lv_goto (tgt := 44) hx hb dX10_fresh_22 (by decide) ?_
      refine lv_aload_n hx hb dX10_fresh_44 rfl (lv_at hl 0 rfl) ?_
      refine ti_get (ci := 10) (k := 25) (N := 67) (T := TX10) C hw iw_10 rfl ob_60 (by decide) (by decide) fl_X10_208 rfl rfl dX10_fresh_45 ?_
      refine lv_topi (fun x_36 ex_36 => ?_)
      have u_37 : (tI M_8 60 25).toInt = x_36.toInt := by rw [ex_36]
      refine sb_if_eq (tgt := 53) hx hb rfl dX10_fresh_48 (by decide) (fun h => by omega) (fun c_48_37 => ?_)
      refine lv_iconst (v := 0) hx hb dX10_fresh_51 (by decide) ?_
      exact hQ _ _ _ _ _ _ hw rfl (⟨(by have T := pt_Tnm (hr.2.2.2 (by omega)).1; have nq : rg 0 ≠ 25 := (fun q => by have := T.2.1 q; omega); unfold pp_m2; rw [if_neg (fun q => nq q.1)]; unfold pp_tk; rw [if_neg nq, ← eg_12]; exact hs_9), (fun q => absurd q (by omega)), iM_8, (pr_w q_11 (by decide) (by decide)), (by first | omega | decide), (by first | omega | decide), (by first | omega | decide)⟩) dX10_fresh_52
  · refine lv_iconst (v := 0) hx hb dX10_fresh_7 (by decide) ?_
    exact hQ _ _ _ _ _ _ hw rfl (⟨(rQ_f hr (by omega) ((tk_f ((m2_f (rQ_z hr (by omega))).zz (rQ_z hr (by omega))) (by decide)).trans (m2_f (rQ_z hr (by omega))))), (fun q => absurd q (by omega)), hI, pr.refl, (by first | omega | decide), (by first | omega | decide), (by first | omega | decide)⟩) dX10_fresh_8
theorem mh_7 {B : Nat → Int} {n : Nat} {s : Nat → Int} {M : ti_M} {x : Int32} (h : rQ B n s M) (hz : s 4 = 0) (e : tY M 60 3 11 = x) : s 7 = x.toInt := (h.2.2.2 hz).2.2.1.1.trans (congrArg Int32.toInt e)
set_option maxHeartbeats 4000000 in
set_option maxRecDepth 100000 in
theorem x_X10_manAtHand (l : Launch) (D : va_G) (A : Nat → Nat → Nat) (cy : Nat → ClassId) (hJ : ti_inj ti_LM A) (M : ti_M) (hI : mI Tm M)  (B : Nat → Int) (n : Nat) (rg : Nat → Int) (hr : rQ B n rg M) : ti_Ki l yX10_manAtHand cX10_manAtHand 1 (some .int) 1 ti_LM D A cy M [.ref (A 60 0)] (fun r M2 => rQ B n (pp_tm rg) M2 ∧ ((tI M2 60 25).toInt = 0 → r.toInt = pp_tv rg) ∧ mI Tm M2 ∧ pr 25 26 M2 M ∧ ((tI M 60 21).toInt ≤ (tI M2 60 21).toInt) ∧ ((tI M 60 21).toInt < (tI M2 60 21).toInt ∨ (tI M2 60 23).toInt = (tI M 60 23).toInt ∨ (tI M2 60 23).toInt = 4) ∧ ((tI M 60 25).toInt = 0 ∨ (tI M2 60 25).toInt ≠ 0) ∧ (-1 ≤ r.toInt) ∧ (r.toInt ≤ 7)) := by
  refine ti_eI yp_X10_manAtHand hJ ti_LM_nd (Nat.le_of_ble_eq_true rfl) ?_
  intro p e s m args below meth c Q H0 C hQ hw ls hl
  have hx := C.1
  have hb := C.2.1
  have hl : lv_has ls 1 [(0, .ref (A 60 0))] := hl
  have l4 : rg 4 = (tI M 60 25).toInt := hr.2.1
  refine lv_aload_n hx hb dX10_manAtHand_0 rfl (lv_at hl 0 rfl) ?_
  refine ti_get (ci := 10) (k := 25) (N := 67) (T := TX10) C hw iw_10 rfl ob_60 (by decide) (by decide) fl_X10_208 rfl rfl dX10_manAtHand_1 ?_
  refine lv_topi (fun x_1 ex_1 => ?_)
  have u_2 : (tI M 60 25).toInt = x_1.toInt := by rw [ex_1]
  refine sb_if_eq (tgt := 9) hx hb rfl dX10_manAtHand_4 (by decide) (fun c_4_2 => ?_) (fun c_4_2 => ?_)
  · refine lv_aload_n hx hb dX10_manAtHand_9 rfl (lv_at hl 0 rfl) ?_
    refine ti_get (ci := 10) (k := 23) (N := 67) (T := TX10) C hw iw_10 rfl ob_60 (by decide) (by decide) fl_X10_173 rfl rfl dX10_manAtHand_10 ?_
    refine lv_topi (fun x_4 ex_4 => ?_)
    have u_5 : (tI M 60 23).toInt = x_4.toInt := by rw [ex_4]
    refine lv_iconst (v := 1) hx hb dX10_manAtHand_13 (by decide) ?_
    refine sb_icmp_eq (tgt := 25) hx hb rfl (by decide : (1 : Int32).toInt = 1) dX10_manAtHand_14 (by decide) (fun c_14_5 => ?_) (fun c_14_5 => ?_)
    · refine lv_aload_n hx hb dX10_manAtHand_25 rfl (lv_at hl 0 rfl) ?_
      refine ti_get (ci := 10) (k := 4) (N := 67) (T := TX10) (v := .ref (A 60 5)) C hw iw_10 rfl ob_60 (by decide) (by decide) fl_X10_16 rfl rfl dX10_manAtHand_26 ?_
      refine lv_bipush (v := 8) hx hb dX10_manAtHand_29 (by decide) ?_
      refine lv_aload_n hx hb dX10_manAtHand_31 rfl (lv_at hl 0 rfl) ?_
      refine lv_iconst (v := 0) hx hb dX10_manAtHand_32 (by decide) ?_
      refine ti_callVi (ci := 10) (av := [.int 0]) C hw (s_X10_fresher_0 l D A cy hJ M hI ) ⟨ml_X10_224, ym_X10_fresher, yv_X10_fresher, yi_X10_fresher, yc_X10_fresher⟩ yd_X10_fresher ob_60 (by decide) rfl rfl hl.1 (Nat.le_of_ble_eq_true rfl) ⟨by decide, by decide⟩ ⟨Nat.zero_le _, Nat.zero_le _⟩ dX10_manAtHand_33 (fun r_19 M_20 H locs hp_20 hw => ?_)
      obtain ⟨hm, b0r_19, b1r_19, yr_19⟩ := hp_20
      have hw := hw.to hm
      have zr_19 : (tY M 60 3 11).toInt = r_19.toInt := by rw [yr_19]
      refine lv_aload_n hx hb dX10_manAtHand_36 rfl (lv_at hl 0 rfl) ?_
      refine ti_get (ci := 10) (k := 24) (N := 67) (T := TX10) C hw iw_10 rfl ob_60 (by decide) (by decide) fl_X10_183 rfl rfl dX10_manAtHand_37 ?_
      refine lv_topi (fun x_21 ex_21 => ?_)
      have u_22 : (tI M 60 24).toInt = x_21.toInt := by rw [ex_21]
      refine ti_callSi (av := [.ref (A 60 5), .int 8, .int r_19, .int x_21]) C hw (x_X10_found_8 l D A cy hJ M hI r_19 x_21 (by omega) (by omega) rg (mh_7 hr (by omega) yr_19) (rQ_nm hr (by omega) (mh_7 hr (by omega) yr_19))) ⟨ml_X10_220, ys_X10_found, yi_X10_found, yc_X10_found⟩ yd_X10_found rfl hl.1 (Nat.le_of_ble_eq_true rfl) ⟨by decide, by decide⟩ ⟨Nat.zero_le _, Nat.zero_le _⟩ dX10_manAtHand_40 (fun r_23 M_24 H locs hp_24 hw => ?_)
      obtain ⟨hm, b0r_23, b1r_23, p0r_23⟩ := hp_24
      have hw := hw.to hm
      refine lv_iconst (v := (-1)) hx hb dX10_manAtHand_43 (by decide) ?_
      refine sb_icmp_ne (tgt := 52) hx hb rfl (by decide : ((-1) : Int32).toInt = (-1)) dX10_manAtHand_44 (by decide) (fun c_44_24 => ?_) (fun c_44_24 => ?_)
      · refine lv_aload_n hx hb dX10_manAtHand_52 rfl (lv_at hl 0 rfl) ?_
        refine ti_get (ci := 10) (k := 25) (N := 67) (T := TX10) C hw iw_10 rfl ob_60 (by decide) (by decide) fl_X10_208 rfl rfl dX10_manAtHand_53 ?_
        refine ti_top (y := x_1) (ex_1.symm) ?_
        refine sb_if_eq (tgt := 63) hx hb rfl dX10_manAtHand_56 (by decide) (fun c_56_40 => ?_) (fun h => by omega)
        refine lv_aload_n hx hb dX10_manAtHand_63 rfl (lv_at hl 0 rfl) ?_
        refine ti_get (ci := 10) (k := 4) (N := 67) (T := TX10) (v := .ref (A 60 5)) C hw iw_10 rfl ob_60 (by decide) (by decide) fl_X10_16 rfl rfl dX10_manAtHand_64 ?_
        refine lv_bipush (v := 8) hx hb dX10_manAtHand_67 (by decide) ?_
        refine lv_aload_n hx hb dX10_manAtHand_69 rfl (lv_at hl 0 rfl) ?_
        refine lv_iconst (v := 0) hx hb dX10_manAtHand_70 (by decide) ?_
        refine ti_callVi (ci := 10) (av := [.int 0]) C hw (s_X10_fresher_0 l D A cy hJ M hI ) ⟨ml_X10_224, ym_X10_fresher, yv_X10_fresher, yi_X10_fresher, yc_X10_fresher⟩ yd_X10_fresher ob_60 (by decide) rfl rfl hl.1 (Nat.le_of_ble_eq_true rfl) ⟨by decide, by decide⟩ ⟨Nat.zero_le _, Nat.zero_le _⟩ dX10_manAtHand_71 (fun r_45 M_46 H locs hp_46 hw => ?_)
        obtain ⟨hm, b0r_45, b1r_45, yr_45⟩ := hp_46
        have hw := hw.to hm
        have sr_45 : r_45.toInt = (r_19 : Int32).toInt := by rw [← yr_45, (yr_19)]
        have zr_45 : (tY M 60 3 11).toInt = r_45.toInt := by rw [yr_45]
        refine lv_aload_n hx hb dX10_manAtHand_74 rfl (lv_at hl 0 rfl) ?_
        refine ti_get (ci := 10) (k := 24) (N := 67) (T := TX10) C hw iw_10 rfl ob_60 (by decide) (by decide) fl_X10_183 rfl rfl dX10_manAtHand_75 ?_
        refine ti_top (y := x_21) (ex_21.symm) ?_
        refine ti_callSi (av := [.ref (A 60 5), .int 8, .int r_45, .int x_21]) C hw (x_X10_found_8 l D A cy hJ M hI r_45 x_21 (by omega) (by omega) rg (mh_7 hr (by omega) yr_45) (rQ_nm hr (by omega) (mh_7 hr (by omega) yr_45))) ⟨ml_X10_220, ys_X10_found, yi_X10_found, yc_X10_found⟩ yd_X10_found rfl hl.1 (Nat.le_of_ble_eq_true rfl) ⟨by decide, by decide⟩ ⟨Nat.zero_le _, Nat.zero_le _⟩ dX10_manAtHand_78 (fun r_47 M_48 H locs hp_48 hw => ?_)
        obtain ⟨hm, b0r_47, b1r_47, p0r_47⟩ := hp_48
        have hw := hw.to hm
        exact hQ _ _ _ _ _ _ hw rfl (⟨(by have T := pt_Tnm (hr.2.2.2 (by omega)).1; have T2 := T.1 (by omega); unfold pp_tm; rw [if_pos T2.1, if_neg (by rw [show pp_fd rg (rg 1) 0 = r_23.toInt by (rw [show rg 1 = x_21.toInt by (have T2 := (pt_Tnm (hr.2.2.2 (by omega)).1).1 (by omega); omega)]; exact p0r_23.symm)]; omega)]; exact hr), (fun _ => by have T := pt_Tnm (hr.2.2.2 (by omega)).1; have T2 := T.1 (by omega); unfold pp_tv; rw [if_pos T2.1, show pp_fd rg (rg 1) 0 = r_47.toInt by (rw [show rg 1 = x_21.toInt by (have T2 := (pt_Tnm (hr.2.2.2 (by omega)).1).1 (by omega); omega)]; exact p0r_47.symm)] <;> omega), hI, pr.refl, (by first | omega | decide), (by first | omega | decide), (by first | omega | decide), (by first | omega | decide), (by first | omega | decide)⟩) dX10_manAtHand_81
      · refine lv_aload_n hx hb dX10_manAtHand_47 rfl (lv_at hl 0 rfl) ?_
        refine lv_iconst (v := 4) hx hb dX10_manAtHand_48 (by decide) ?_
        refine ti_callVv (ci := 10) (av := [.int 4]) C hw (x_X10_wrong l D A cy hJ M hI 4 (by decide) B n rg hr) ⟨ml_X10_217, ym_X10_wrong, yv_X10_wrong, yi_X10_wrong, yc_X10_wrong⟩ yd_X10_wrong ob_60 (by decide) rfl rfl hl.1 (Nat.le_of_ble_eq_true rfl) ⟨by decide, by decide⟩ ⟨Nat.zero_le _, Nat.zero_le _⟩ dX10_manAtHand_49 (fun M_27 H locs hp_27 hw => ?_)
        obtain ⟨hs_28, hp_29⟩ := hp_27
        obtain ⟨iM_27, q_30, p0r_26, p1r_26, p2r_26, p3r_26⟩ := hp_29
        obtain ⟨g_31, eg_31⟩ : ∃ z : Nat → Int, z = pp_rf ((4 : Int32).toInt) rg := ⟨_, rfl⟩
        rw [← eg_31] at hs_28
        have l4g_31 : g_31 4 = (tI M_27 60 25).toInt := hs_28.2.1
        simp only [show (4 : Int32).toInt = 4 by decide] at eg_31
        have v_32 : (tI M_27 60 20).toInt = (tI M 60 20).toInt := by rw [q_30.2 20 (by decide)]
        have v_33 : (tI M_27 60 21).toInt = (tI M 60 21).toInt := by rw [q_30.2 21 (by decide)]
        have v_34 : (tI M_27 60 23).toInt = (tI M 60 23).toInt := by rw [q_30.2 23 (by decide)]
        have v_35 : (tI M_27 60 24).toInt = (tI M 60 24).toInt := by rw [q_30.2 24 (by decide)]
        have v_36 : (tI M_27 60 29).toInt = (tI M 60 29).toInt := by rw [q_30.2 29 (by decide)]
        have v_37 : (tI M_27 60 30).toInt = (tI M 60 30).toInt := by rw [q_30.2 30 (by decide)]
        refine lv_aload_n hx hb dX10_manAtHand_52 rfl (lv_at hl 0 rfl) ?_
        refine ti_get (ci := 10) (k := 25) (N := 67) (T := TX10) C hw iw_10 rfl ob_60 (by decide) (by decide) fl_X10_208 rfl rfl dX10_manAtHand_53 ?_
        refine lv_topi (fun x_42 ex_42 => ?_)
        have u_43 : (tI M_27 60 25).toInt = x_42.toInt := by rw [ex_42]
        refine sb_if_eq (tgt := 63) hx hb rfl dX10_manAtHand_56 (by decide) (fun h => by omega) (fun c_56_43 => ?_)
        refine lv_iconst (v := 0) hx hb dX10_manAtHand_59 (by decide) ?_
        refine lv_goto (tgt := 81) hx hb dX10_manAtHand_60 (by decide) ?_
        exact hQ _ _ _ _ _ _ hw rfl (⟨(by have T := pt_Tnm (hr.2.2.2 (by omega)).1; have T2 := T.1 (by omega); unfold pp_tm; rw [if_pos T2.1, if_pos (by rw [show pp_fd rg (rg 1) 0 = r_23.toInt by (rw [show rg 1 = x_21.toInt by (have T2 := (pt_Tnm (hr.2.2.2 (by omega)).1).1 (by omega); omega)]; exact p0r_23.symm)]; omega), ← eg_31]; exact hs_28), (fun q => absurd q (by omega)), iM_27, q_30, (by first | omega | decide), (by first | omega | decide), (by first | omega | decide), (by first | omega | decide), (by first | omega | decide)⟩) dX10_manAtHand_81
    · refine lv_aload_n hx hb dX10_manAtHand_17 rfl (lv_at hl 0 rfl) ?_
      refine lv_iconst (v := 1) hx hb dX10_manAtHand_18 (by decide) ?_
      refine ti_callVv (ci := 10) (av := [.int 1]) C hw (x_X10_wrong l D A cy hJ M hI 1 (by decide) B n rg hr) ⟨ml_X10_217, ym_X10_wrong, yv_X10_wrong, yi_X10_wrong, yc_X10_wrong⟩ yd_X10_wrong ob_60 (by decide) rfl rfl hl.1 (Nat.le_of_ble_eq_true rfl) ⟨by decide, by decide⟩ ⟨Nat.zero_le _, Nat.zero_le _⟩ dX10_manAtHand_19 (fun M_8 H locs hp_8 hw => ?_)
      obtain ⟨hs_9, hp_10⟩ := hp_8
      obtain ⟨iM_8, q_11, p0r_7, p1r_7, p2r_7, p3r_7⟩ := hp_10
      obtain ⟨g_12, eg_12⟩ : ∃ z : Nat → Int, z = pp_rf ((1 : Int32).toInt) rg := ⟨_, rfl⟩
      rw [← eg_12] at hs_9
      have l4g_12 : g_12 4 = (tI M_8 60 25).toInt := hs_9.2.1
      simp only [show (1 : Int32).toInt = 1 by decide] at eg_12
      have v_13 : (tI M_8 60 20).toInt = (tI M 60 20).toInt := by rw [q_11.2 20 (by decide)]
      have v_14 : (tI M_8 60 21).toInt = (tI M 60 21).toInt := by rw [q_11.2 21 (by decide)]
      have v_15 : (tI M_8 60 23).toInt = (tI M 60 23).toInt := by rw [q_11.2 23 (by decide)]
      have v_16 : (tI M_8 60 24).toInt = (tI M 60 24).toInt := by rw [q_11.2 24 (by decide)]
      have v_17 : (tI M_8 60 29).toInt = (tI M 60 29).toInt := by rw [q_11.2 29 (by decide)]
      have v_18 : (tI M_8 60 30).toInt = (tI M 60 30).toInt := by rw [q_11.2 30 (by decide)]
      refine lv_goto (tgt := 52) hx hb dX10_manAtHand_22 (by decide) ?_
      refine lv_aload_n hx hb dX10_manAtHand_52 rfl (lv_at hl 0 rfl) ?_
      refine ti_get (ci := 10) (k := 25) (N := 67) (T := TX10) C hw iw_10 rfl ob_60 (by decide) (by decide) fl_X10_208 rfl rfl dX10_manAtHand_53 ?_
      refine lv_topi (fun x_38 ex_38 => ?_)
      have u_39 : (tI M_8 60 25).toInt = x_38.toInt := by rw [ex_38]
      refine sb_if_eq (tgt := 63) hx hb rfl dX10_manAtHand_56 (by decide) (fun h => by omega) (fun c_56_39 => ?_)
      refine lv_iconst (v := 0) hx hb dX10_manAtHand_59 (by decide) ?_
      refine lv_goto (tgt := 81) hx hb dX10_manAtHand_60 (by decide) ?_
      exact hQ _ _ _ _ _ _ hw rfl (⟨(by have T := pt_Tnm (hr.2.2.2 (by omega)).1; unfold pp_tm; rw [if_neg (fun q => by have := T.2.1 q; omega), ← eg_12]; exact hs_9), (fun q => absurd q (by omega)), iM_8, q_11, (by first | omega | decide), (by first | omega | decide), (by first | omega | decide), (by first | omega | decide), (by first | omega | decide)⟩) dX10_manAtHand_81
  · refine lv_iconst (v := 0) hx hb dX10_manAtHand_7 (by decide) ?_
    exact hQ _ _ _ _ _ _ hw rfl (⟨(rQ_f hr (by omega) (by unfold pp_tm; rw [if_neg (by rw [(rQ_z hr (by omega)).2]; decide)]; exact rf_f (rQ_z hr (by omega)))), (fun q => absurd q (by omega)), hI, pr.refl, (by first | omega | decide), (by first | omega | decide), (by first | omega | decide), (by first | omega | decide), (by first | omega | decide)⟩) dX10_manAtHand_8
set_option maxHeartbeats 4000000 in
set_option maxRecDepth 100000 in
theorem x_X10_knot (l : Launch) (D : va_G) (A : Nat → Nat → Nat) (cy : Nat → ClassId) (hJ : ti_inj ti_LM A) (M : ti_M) (hI : mI Tm M)  (B : Nat → Int) (n : Nat) (rg : Nat → Int) (hr : rQ B n rg M) : ti_Kv l yX10_knot cX10_knot 1 1 ti_LM D A cy M [.ref (A 60 0)] (fun M2 => rQ B n (pp_k1 rg) M2 ∧ mI Tm M2 ∧ pr 25 30 M2 M ∧ ((tI M 60 21).toInt ≤ (tI M2 60 21).toInt) ∧ ((tI M 60 21).toInt < (tI M2 60 21).toInt ∨ (tI M2 60 23).toInt = (tI M 60 23).toInt ∨ (tI M2 60 23).toInt = 4) ∧ ((tI M 60 25).toInt = 0 ∨ (tI M2 60 25).toInt ≠ 0) ∧ ((tI M2 60 29).toInt = (tI M 60 29).toInt) ∧ (((tI M 60 25).toInt ≠ 0 ∧ (tI M2 60 30).toInt = (tI M 60 30).toInt) ∨ ((tI M 60 25).toInt = 0 ∧ (((tI M2 60 25).toInt ≠ 0 ∧ (tI M2 60 30).toInt = (tI M 60 30).toInt) ∨ ((tI M2 60 25).toInt = 0 ∧ (tI M2 60 30).toInt = (tI M 60 30).toInt + 1))))) := by
  refine ti_eV yp_X10_knot hJ ti_LM_nd (Nat.le_of_ble_eq_true rfl) ?_
  intro p e s m args below meth c Q H0 C hQ hw ls hl
  have hx := C.1
  have hb := C.2.1
  have hl : lv_has ls 1 [(0, .ref (A 60 0))] := hl
  have l4 : rg 4 = (tI M 60 25).toInt := hr.2.1
  refine lv_aload_n hx hb dX10_knot_0 rfl (lv_at hl 0 rfl) ?_
  refine ti_get (ci := 10) (k := 25) (N := 67) (T := TX10) C hw iw_10 rfl ob_60 (by decide) (by decide) fl_X10_208 rfl rfl dX10_knot_1 ?_
  refine lv_topi (fun x_1 ex_1 => ?_)
  have u_2 : (tI M 60 25).toInt = x_1.toInt := by rw [ex_1]
  refine sb_if_eq (tgt := 8) hx hb rfl dX10_knot_4 (by decide) (fun c_4_2 => ?_) (fun c_4_2 => ?_)
  · refine lv_aload_n hx hb dX10_knot_8 rfl (lv_at hl 0 rfl) ?_
    refine ti_get (ci := 10) (k := 30) (N := 67) (T := TX10) C hw iw_10 rfl ob_60 (by decide) (by decide) fl_X10_273 rfl rfl dX10_knot_9 ?_
    refine lv_topi (fun x_4 ex_4 => ?_)
    have bx_4 : 0 ≤ x_4.toInt ∧ x_4.toInt ≤ 64 := mI_rd hI ex_4
    have ux_4 : (tI M 60 30).toInt = x_4.toInt := by rw [ex_4]
    refine lv_bipush (v := 64) hx hb dX10_knot_12 (by decide) ?_
    refine sb_icmp_ne (tgt := 25) hx hb rfl (by decide : (64 : Int32).toInt = 64) dX10_knot_14 (by decide) (fun c_14_4 => ?_) (fun c_14_4 => ?_)
    · refine lv_aload_n hx hb dX10_knot_25 rfl (lv_at hl 0 rfl) ?_
      refine lv_dup hx hb dX10_knot_26 rfl ?_
      refine ti_get (ci := 10) (k := 30) (N := 67) (T := TX10) C hw iw_10 rfl ob_60 (by decide) (by decide) fl_X10_273 rfl rfl dX10_knot_27 ?_
      refine ti_top (y := x_4) (ex_4.symm) ?_
      have u_18 : (tI M 60 30).toInt = (x_4 : Int32).toInt := by rw [(ex_4.symm)]
      refine lv_iconst (v := 1) hx hb dX10_knot_30 (by decide) ?_
      refine lv_iadd hx hb dX10_knot_31 ?_
      refine lv_topi (fun x_19 ex_19 => ?_)
      have tx_19 : x_19.toInt = x_4.toInt + 1 := i_add ex_19 rfl (by decide : (1 : Int32).toInt = 1) (by omega) (by omega)
      refine ti_putI (ci := 10) (k := 30) (N := 67) (T := TX10) C hw iw_10 tyX10 tyX10_ok nmX10 rfl ob_60 (by decide) (by decide) fl_X10_273 rfl rfl rfl rfl (fn_10 A _) fs_10_30 dX10_knot_32 (fun H locs hw => ?_)
      obtain ⟨M_20, hM_20⟩ : ∃ z : ti_M, z = uI M 60 30 x_19 := ⟨_, rfl⟩
      have hw := hw.to hM_20.symm
      have iM_20 : mI Tm M_20 := mI_uI hI hM_20 (by decide) (by decide) (ib_mk (lo := 0) (hi := 64) (by omega) (by omega))
      have vM_20 : (tI M_20 60 30).toInt = (x_19 : Int32).toInt := by rw [tI_uE hM_20]
      have v_21 : (tI M_20 60 20).toInt = (tI M 60 20).toInt := by rw [tI_nE hM_20 (nk (by decide))]
      have v_22 : (tI M_20 60 21).toInt = (tI M 60 21).toInt := by rw [tI_nE hM_20 (nk (by decide))]
      have v_23 : (tI M_20 60 23).toInt = (tI M 60 23).toInt := by rw [tI_nE hM_20 (nk (by decide))]
      have v_24 : (tI M_20 60 24).toInt = (tI M 60 24).toInt := by rw [tI_nE hM_20 (nk (by decide))]
      have v_25 : (tI M_20 60 25).toInt = (tI M 60 25).toInt := by rw [tI_nE hM_20 (nk (by decide))]
      have v_26 : (tI M_20 60 29).toInt = (tI M 60 29).toInt := by rw [tI_nE hM_20 (nk (by decide))]
      have v_27 : (tI M_20 60 30).toInt = (x_19 : Int32).toInt := by rw [tI_uE hM_20]
      have hs_28 := rQ_30 hr hM_20
      obtain ⟨g_29, eg_29⟩ : ∃ z : Nat → Int, z = pp_su rg 8 x_19.toInt := ⟨_, rfl⟩
      rw [← eg_29] at hs_28
      have l4g_29 : g_29 4 = (tI M_20 60 25).toInt := hs_28.2.1
      exact hQ _ _ _ _ _ hw (⟨(by have h8 : rg 8 = (tI M 60 30).toInt := (hr.2.2.2 (by omega)).2.2.1.2.1; unfold pp_k1; rw [if_pos (by omega), if_pos (by omega), show rg 8 + 1 = x_19.toInt by omega, ← eg_29]; exact hs_28), iM_20, (pr_I hM_20 (by decide)), (by first | omega | decide), (by first | omega | decide), (by first | omega | decide), (by first | omega | decide), (by first | omega | decide)⟩) dX10_knot_35
    · refine lv_aload_n hx hb dX10_knot_17 rfl (lv_at hl 0 rfl) ?_
      refine lv_iconst (v := 2) hx hb dX10_knot_18 (by decide) ?_
      refine ti_callVv (ci := 10) (av := [.int 2]) C hw (x_X10_wrong l D A cy hJ M hI 2 (by decide) B n rg hr) ⟨ml_X10_217, ym_X10_wrong, yv_X10_wrong, yi_X10_wrong, yc_X10_wrong⟩ yd_X10_wrong ob_60 (by decide) rfl rfl hl.1 (Nat.le_of_ble_eq_true rfl) ⟨by decide, by decide⟩ ⟨Nat.zero_le _, Nat.zero_le _⟩ dX10_knot_19 (fun M_7 H locs hp_7 hw => ?_)
      obtain ⟨hs_8, hp_9⟩ := hp_7
      obtain ⟨iM_7, q_10, p0r_6, p1r_6, p2r_6, p3r_6⟩ := hp_9
      obtain ⟨g_11, eg_11⟩ : ∃ z : Nat → Int, z = pp_rf ((2 : Int32).toInt) rg := ⟨_, rfl⟩
      rw [← eg_11] at hs_8
      have l4g_11 : g_11 4 = (tI M_7 60 25).toInt := hs_8.2.1
      simp only [show (2 : Int32).toInt = 2 by decide] at eg_11
      have v_12 : (tI M_7 60 20).toInt = (tI M 60 20).toInt := by rw [q_10.2 20 (by decide)]
      have v_13 : (tI M_7 60 21).toInt = (tI M 60 21).toInt := by rw [q_10.2 21 (by decide)]
      have v_14 : (tI M_7 60 23).toInt = (tI M 60 23).toInt := by rw [q_10.2 23 (by decide)]
      have v_15 : (tI M_7 60 24).toInt = (tI M 60 24).toInt := by rw [q_10.2 24 (by decide)]
      have v_16 : (tI M_7 60 29).toInt = (tI M 60 29).toInt := by rw [q_10.2 29 (by decide)]
      have v_17 : (tI M_7 60 30).toInt = (tI M 60 30).toInt := by rw [q_10.2 30 (by decide)]
      refine lv_goto (tgt := 35) hx hb dX10_knot_22 (by decide) ?_
      exact hQ _ _ _ _ _ hw (⟨(by have h8 : rg 8 = (tI M 60 30).toInt := (hr.2.2.2 (by omega)).2.2.1.2.1; unfold pp_k1; rw [if_pos (by omega), if_neg (by omega), ← eg_11]; exact hs_8), iM_7, (pr_w q_10 (by decide) (by decide)), (by first | omega | decide), (by first | omega | decide), (by first | omega | decide), (by first | omega | decide), (by first | omega | decide)⟩) dX10_knot_35
  · exact hQ _ _ _ _ _ hw (⟨(by rw [k1_f (by omega)]; exact hr), hI, pr.refl, (by first | omega | decide), (by first | omega | decide), (by first | omega | decide), (by first | omega | decide), (by first | omega | decide)⟩) dX10_knot_7
end
section
variable {Tc : gC} {Tm : gM}
/-- a sign of the reference, as the class has it -/
def bq_sc (v : Int) : Int := if v = 43 then 38 else if v = 45 then 39 else if v = 42 then 40 else if v = 47 then 41 else if v = 60 then 32 else if v = 256 then 33 else if v = 61 then 34 else if v = 257 then 35 else if v = 258 then 36 else if v = 62 then 37 else if v = 261 then 22 else if v = 260 then 24 else 23
/-- a knot of the reference, as the class has it -/
def bq_kc (so v : Int) : Int := if so = 2 then -(bq_sc v) else if so = 0 then v else -(16 + v)
theorem sc_sg : ∀ k : Nat, k < 13 → 3 ≤ k → bq_sc (pt_sg (29 + (k : Int))) = 29 + (k : Int) := by decide +kernel
theorem sg_n6 : ∀ k : Nat, k < 13 → pt_sg (29 + (k : Int)) ≠ 260 := by decide +kernel
theorem sg_260 {k : Int} (h1 : 29 ≤ k) (h2 : k ≤ 41) : pt_sg k ≠ 260 := by
  have h := sg_n6 (k - 29).toNat (by omega)
  rw [show (29 : Int) + (((k - 29).toNat : Nat) : Int) = k by omega] at h; exact h
theorem ff_q {N M : ti_M} (h : ff N ≤ ff M) (q : (tI N 60 25).toInt = 0) : (tI M 60 25).toInt = 0 := by
  by_cases z : (tI M 60 25).toInt = 0
  · exact z
  · rw [ff_1 q, ff_0 z] at h; omega
theorem nf_ge {B : Nat → Int} {n : Nat} : ∀ (f a : Nat) (v : Int), 0 ≤ v → 0 ≤ pt_nf B n f a v := by
  intro f
  induction f with
  | zero => intro a v h; exact h
  | succ f ih =>
    intro a v h
    rw [pt_nf]
    split
    · rename_i c
      have d : 48 ≤ B a := (of_decide_eq_true c.2).1
      exact ih _ _ (by omega)
    · exact h
theorem wf_25 {v : Int} : ∀ f : Nat, f ≤ 25 → pt_wf v f ≤ 25 := by
  intro f
  induction f with
  | zero => intro _; rw [pt_wf]; decide
  | succ f ih =>
    intro h
    rw [pt_wf]
    split
    · omega
    · exact ih (by omega)
/-- a number is at least 0 -/
theorem kv_0 {B : Nat → Int} {n a : Nat} (h : pt_K B n a = 26) : 0 ≤ pt_V B n a := by
  unfold pt_K at h
  unfold pt_V
  split
  · decide
  · rename_i c1
    rw [if_neg c1] at h
    split
    · rename_i c2
      rw [if_pos c2] at h
      exfalso
      split at h
      · omega
      · have e : pt_wk (pt_ev B n (pt_P B n a) 0 0) 0 ≤ 25 := wf_25 _ (by decide)
        omega
    · split
      · exact nf_ge _ _ _ (by decide)
      · decide
theorem av_v {B : Nat → Int} {n : Nat} {s : Nat → Int} (h : pp_av B n s 0 = 26) : 0 ≤ pp_av B n s 1 := kv_0 h
/-- a number at hand is at least 0 -/
def vs (M : ti_M) : Prop := (tI M 60 25).toInt = 0 → (tI M 60 23).toInt = 2 → 0 ≤ (tI M 60 24).toInt
theorem vs_av {B : Nat → Int} {n : Nat} {s : Nat → Int} {M : ti_M} (h : rQ B n s M) (hv : s 0 = 26 → 0 ≤ s 1) : vs M := fun q q2 => by
  have T := (pt_Tnm (h.2.2.2 (h.2.1.trans q)).1).2.2.1 q2
  have := hv T.1
  omega
theorem vs_fr {N M : ti_M} (h : vs M) (hf : ff N ≤ ff M) (e1 : tI N 60 23 = tI M 60 23) (e2 : tI N 60 24 = tI M 60 24) : vs N := fun q q2 => by
  rw [e1] at q2
  rw [e2]; exact h (ff_q hf q) q2
/-- the law lj, begun at a: its knots so far, and how deep its pile is -/
def qE (a d lj : Nat) (td : Nat → Int) (M : ti_M) : Prop := (tI M 60 25).toInt = 0 → ((tY M 60 3 18).toInt = a + td (300 + lj) ∧ 0 ≤ td (300 + lj)) ∧ ud M a (td (300 + lj)).toNat = some d ∧ ∀ n : Nat, (n : Int) < td (300 + lj) → td (400 + 64 * lj + n) = bq_kc (tY M 60 16 (64 + (a + n))).toInt (tY M 60 17 (64 + (a + n))).toInt ∧ ((tY M 60 16 (64 + (a + n))).toInt = 0 → 0 ≤ (tY M 60 17 (64 + (a + n))).toInt)
theorem qE_fr {a d lj : Nat} {td : Nat → Int} {N M : ti_M} (h : qE a d lj td M) (e : N.2.1 = M.2.1) (hf : ff N ≤ ff M) : qE a d lj td N := fun q => by
  have y := h (ff_q hf q)
  have e2 : ∀ k, tY N 60 k = tY M 60 k := fun k => tY_fr e
  unfold ud at y ⊢
  simp only [e2]
  exact y
theorem qE_f {a d lj : Nat} {td : Nat → Int} {M : ti_M} (h : ff M = 0) : qE a d lj td M := fun q => absurd q (ff_n h)
/-- what puts leaves, exactly -/
def pu (pz v : Int32) (N M : ti_M) : Prop := tI N 60 25 = tI M 60 25 ∧ ((tI M 60 25).toInt = 0 → ∃ i : Nat, (i : Int) = 64 + (tY M 60 3 18).toInt ∧ tY N 60 16 = upd (tY M 60 16) i pz ∧ tY N 60 17 = upd (tY M 60 17) i v ∧ (tY N 60 3 18).toInt = (tY M 60 3 18).toInt + 1 ∧ (tY N 60 3 18).toInt ≤ 64)
theorem qE_pu {a d d2 lj : Nat} {td : Nat → Int} {N M : ti_M} {s v : Int32} {x : Int} (hj : lj < 3) (h : qE a d lj td M) (p : pu s v N M) (hx : (tI N 60 25).toInt = 0 → x = bq_kc s.toInt v.toInt ∧ (s.toInt = 0 → 0 ≤ v.toInt))
    (hs : (tI N 60 25).toInt = 0 → (s.toInt = 2 ∧ v.toInt = 260 ∧ 1 ≤ d ∧ d2 = d) ∨ (s.toInt = 2 ∧ v.toInt ≠ 260 ∧ 2 ≤ d ∧ d2 = d - 1) ∨ (s.toInt ≠ 2 ∧ (s.toInt = 0 ∨ (0 ≤ v.toInt ∧ v.toInt ≤ 5)) ∧ d2 = d + 1)) : qE a d2 lj (qa lj x td) N := fun q => by
  have q0 : (tI M 60 25).toInt = 0 := by rw [← p.1]; exact q
  obtain ⟨⟨y1, y2⟩, y3, y4⟩ := h q0
  obtain ⟨i, ei, e6, e7, e3, e64⟩ := p.2 q0
  have hx := hx q
  obtain ⟨L, hL⟩ : ∃ L : Nat, td (300 + lj) = L := ⟨(td (300 + lj)).toNat, by omega⟩
  have hi : i = 64 + (a + L) := by omega
  subst hi
  have eq : qa lj x td = pp_su (pp_su td (400 + 64 * lj + L) x) (300 + lj) (L + 1) := by
    unfold qa
    rw [if_pos (by omega), hL, show ((L : Nat) : Int).toNat = L by omega]
  rw [eq, su_s]
  rw [hL] at y1 y3 y4
  refine ⟨⟨by omega, by omega⟩, ?_, fun n hn => ?_⟩
  · rw [show ((L : Int) + 1).toNat = L + 1 by omega]
    rw [show ((L : Nat) : Int).toNat = L by omega] at y3
    unfold ud at *
    rw [e6, e7]
    simp only [dp]
    have ex : dp (fun i => upd (tY M 60 16) (64 + (a + L)) s (64 + i)) (fun i => upd (tY M 60 17) (64 + (a + L)) v (64 + i)) a L = dp (fun i => tY M 60 16 (64 + i)) (fun i => tY M 60 17 (64 + i)) a L := dp_ext L (fun x hx => ⟨pk_un (by omega), pk_un (by omega)⟩)
    rw [ex, y3, Option.bind_some]
    simp only [pk_us]
    rcases hs q with ⟨q1, q2, q3, q4⟩ | ⟨q1, q2, q3, q4⟩ | ⟨q1, q2, q4⟩
    · rw [if_pos q1, if_pos q2, if_pos (by omega), q4]
    · rw [if_pos q1, if_neg q2, if_pos (by omega), q4]
    · rw [if_neg q1, if_pos q2, q4]
  · rw [su_n (by omega), e6, e7]
    by_cases r : n = L
    · subst r
      rw [su_s, pk_us, pk_us]; exact hx
    · rw [su_n (by omega), pk_un (by omega), pk_un (by omega)]; exact y4 n (by omega)
section
variable {P : Int → Bool} {F : (Nat → Int) → Nat → Int} {G : (Nat → Int) → (Nat → Int) → Nat → Int}
theorem qlp_st (hP : P 28 = false) (hF : ∀ s : Nat → Int, s 8 ≤ 64 → F s 0 = 28 ∨ (s 8 + 1 ≤ F s 8 ∧ F s 8 ≤ 64)) : ∀ (f : Nat) (s td : Nat → Int), s 8 ≤ 64 → 65 ≤ (f : Int) + s 8 → qq_lp P F G f s td = qq_lp P F G (f + 1) s td := by
  intro f
  induction f with
  | zero => intro s td h8 h; omega
  | succ f ih =>
    intro s td h8 h
    rw [qq_lp, qq_lp]
    split
    · rcases hF s h8 with g | g
      · rw [qlp_end (Or.inr (by rw [g]; exact hP)), qlp_end (Or.inr (by rw [g]; exact hP))]
      · exact ih (F s) (G s td) g.2 (by omega)
    · rfl
theorem qlp_nx (hP : P 28 = false) (hF : ∀ s : Nat → Int, s 8 ≤ 64 → F s 0 = 28 ∨ (s 8 + 1 ≤ F s 8 ∧ F s 8 ≤ 64)) {s s' td td' : Nat → Int} (f : Nat) (h : P (s 0) = true) (e : s' = F s) (e2 : td' = G s td) (h8 : s 8 ≤ 64) (hf : 64 ≤ (f : Int) + s 8) : qq_lp P F G (f + 1) s td = qq_lp P F G (f + 1) s' td' := by
  subst e e2
  rw [qq_lp, if_pos h]
  rcases hF s h8 with g | g
  · rw [qlp_end (Or.inr (by rw [g]; exact hP)), qlp_end (Or.inr (by rw [g]; exact hP))]
  · exact qlp_st hP hF f (F s) (G s td) g.2 (by omega)
end
section
variable {B : Nat → Int} {n j : Nat} {F : (Nat → Int) → Nat → Int} {G : (Nat → Int) → (Nat → Int) → Nat → Int} {s td : Nat → Int}
theorem qng_no (h : s 0 ≠ 24) : qq_ng B n j F G s td = qq_cm B n j F G s td := by
  unfold qq_ng
  rw [ca_end (Or.inr (decide_eq_false h)), lp_end (Or.inr (decide_eq_false h))]
  rfl
theorem ca_add : ∀ (f : Nat) (s : Nat → Int) (k : Nat), qq_ca B n f s (k + 1) = qq_ca B n f s k + 1 := by
  intro f
  induction f with
  | zero => intro s k; rfl
  | succ f ih =>
    intro s k
    rw [qq_ca, qq_ca]
    split
    · exact ih _ _
    · rfl
theorem ca_st : ∀ (f : Nat) (s : Nat → Int) (k : Nat), s 8 ≤ 64 → 65 ≤ (f : Int) + s 8 → qq_ca B n f s k = qq_ca B n (f + 1) s k := by
  intro f
  induction f with
  | zero => intro s k h8 h; omega
  | succ f ih =>
    intro s k h8 h
    rw [qq_ca, qq_ca]
    split
    · rcases kn_g (B := B) (n := n) h8 with g | g
      · rw [ca_end (Or.inr (decide_eq_false (by rw [g]; decide))), ca_end (Or.inr (decide_eq_false (by rw [g]; decide)))]
      · exact ih _ _ g.2 (by omega)
    · rfl
theorem qng_not (h : s 0 = 24) (h0 : 0 ≤ s 8) (h8 : s 8 ≤ 64) : qq_ng B n j F G s td = qa j (-24) (qq_ng B n j F G (pp_kn B n s) td) := by
  have hG : ∀ s : Nat → Int, s 8 ≤ 64 → pp_kn B n s 0 = 28 ∨ (s 8 + 1 ≤ pp_kn B n s 8 ∧ pp_kn B n s 8 ≤ 64) := fun s h => by
    rcases kn_g (B := B) (n := n) h with g | g
    · exact Or.inl g
    · exact Or.inr ⟨by omega, g.2⟩
  have e1 : pp_lp pp_qN (pp_kn B n) 65 s = pp_lp pp_qN (pp_kn B n) 65 (pp_kn B n s) := lp_nx (by decide) hG 64 (decide_eq_true h) rfl h8 (by omega)
  have e2 : qq_ca B n 65 s 0 = qq_ca B n 65 (pp_kn B n s) 0 + 1 := by
    rw [qq_ca, if_pos (show pp_qN (s 0) = true from decide_eq_true h), ca_add]
    rcases kn_g (B := B) (n := n) h8 with g | g
    · rw [ca_end (Or.inr (decide_eq_false (by rw [g]; decide))), ca_end (Or.inr (decide_eq_false (by rw [g]; decide)))]
    · rw [ca_st 64 _ _ g.2 (by omega)]
  unfold qq_ng
  rw [e1, e2]
  rfl
end
theorem qe_s {B : Nat → Int} {n lj j : Nat} {s td : Nat → Int} (h : 1 ≤ j) : qq_pt B n lj j s td = if s 0 = 30 then qq_ei B n lj (pp_pt B n (j - 1)) (qq_pt B n lj (j - 1)) (pp_av B n s) td else qq_p0 lj s td := by
  cases j with
  | zero => omega
  | succ j => rfl
theorem qe_n {B : Nat → Int} {n lj j : Nat} {s td : Nat → Int} (h : s 0 ≠ 30) : qq_pt B n lj j s td = qq_p0 lj s td := by
  cases j with
  | zero => rw [qq_pt, if_neg h]
  | succ j => rw [qq_pt, if_neg h]
set_option maxHeartbeats 4000000 in
set_option maxRecDepth 100000 in
theorem x_X10_puts (l : Launch) (D : va_G) (A : Nat → Nat → Nat) (cy : Nat → ClassId) (hJ : ti_inj ti_LM A) (M : ti_M) (hI : mI Tm M) (a d d2 : Nat) (pz v : Int32) (hu : us M a d) (h63 : (tI M 60 25).toInt ≠ 0 ∨ (tY M 60 3 18).toInt ≤ 63) (hs : (tI M 60 25).toInt ≠ 0 ∨ ((pz.toInt = 2 ∧ v.toInt = 260 ∧ 1 ≤ d ∧ d2 = d) ∨ (pz.toInt = 2 ∧ 2 ≤ d ∧ d2 = d - 1) ∨ (pz.toInt ≠ 2 ∧ (pz.toInt = 0 ∨ (0 ≤ v.toInt ∧ v.toInt ≤ 5)) ∧ d2 = d + 1))) : ti_Kv l yX10_puts cX10_puts 3 1 ti_LM D A cy M [.ref (A 60 0), .int pz, .int v] (fun M2 => pu pz v M2 M ∧ mI Tm M2 ∧ pe M2 M ∧ us M2 a d2 ∧ (∀ k, k ≠ 999 → tI M2 60 k = tI M 60 k) ∧ ((tI M2 60 25).toInt ≠ 0 ∨ (tY M2 60 3 18).toInt = (tY M 60 3 18).toInt + 1)) := by
  refine ti_eV yp_X10_puts hJ ti_LM_nd (Nat.le_of_ble_eq_true rfl) ?_
  intro p e s m args below meth c Q H0 C hQ hw ls hl
  have hx := C.1
  have hb := C.2.1
  have hl : lv_has ls 3 [(0, .ref (A 60 0)), (1, .int pz), (2, .int v)] := hl
  refine lv_aload_n hx hb dX10_puts_0 rfl (lv_at hl 0 rfl) ?_
  refine ti_get (ci := 10) (k := 25) (N := 67) (T := TX10) C hw iw_10 rfl ob_60 (by decide) (by decide) fl_X10_208 rfl rfl dX10_puts_1 ?_
  refine lv_topi (fun x_1 ex_1 => ?_)
  have u_2 : (tI M 60 25).toInt = x_1.toInt := by rw [ex_1]
  refine sb_if_eq (tgt := 8) hx hb rfl dX10_puts_4 (by decide) (fun c_4_2 => ?_) (fun c_4_2 => ?_)
  · refine lv_aload_n hx hb dX10_puts_8 rfl (lv_at hl 0 rfl) ?_
    refine ti_get (ci := 10) (k := 16) (N := 67) (T := TX10) (v := .ref (A 60 17)) C hw iw_10 rfl ob_60 (by decide) (by decide) fl_X10_52 rfl rfl dX10_puts_9 ?_
    refine lv_bipush (v := 64) hx hb dX10_puts_12 (by decide) ?_
    refine lv_aload_n hx hb dX10_puts_14 rfl (lv_at hl 0 rfl) ?_
    refine lv_bipush (v := 7) hx hb dX10_puts_15 (by decide) ?_
    refine ti_callVi (ci := 10) (av := [.int 7]) C hw (s_X10_fresher_7 l D A cy hJ M hI ) ⟨ml_X10_224, ym_X10_fresher, yv_X10_fresher, yi_X10_fresher, yc_X10_fresher⟩ yd_X10_fresher ob_60 (by decide) rfl rfl hl.1 (Nat.le_of_ble_eq_true rfl) ⟨by decide, by decide⟩ ⟨Nat.zero_le _, Nat.zero_le _⟩ dX10_puts_17 (fun r_4 M_5 H locs hp_5 hw => ?_)
    obtain ⟨hm, b0r_4, b1r_4, yr_4⟩ := hp_5
    have hw := hw.to hm
    have zr_4 : (tY M 60 3 18).toInt = r_4.toInt := by rw [yr_4]
    refine lv_iadd hx hb dX10_puts_20 ?_
    refine lv_topi (fun x_6 ex_6 => ?_)
    have tx_6 : x_6.toInt = 64 + r_4.toInt := i_add ex_6 (by decide : (64 : Int32).toInt = 64) rfl (by omega) (by omega)
    refine lv_iload_n hx hb dX10_puts_21 rfl (lv_at hl 1 rfl) ?_
    refine ti_iast (ci := 10) (k := 16) (n := 128) C hw ob_60 (by decide) (fun _ _ => rfl) (vp_in_iff.mpr (by omega)) dX10_puts_22 (fun H locs hw => ?_)
    obtain ⟨M_7, hM_7⟩ : ∃ z : ti_M, z = uY M 60 16 (upd (tY M 60 16) (x_6 : Int32).toNatClampNeg pz) := ⟨_, rfl⟩
    have hw := hw.to hM_7.symm
    have iM_7 : mI Tm M_7 := mI_up (i := x_6.toNatClampNeg) hI hM_7 trivial
    have v_8 : (tI M_7 60 25).toInt = (tI M 60 25).toInt := by rw [tI_uYE hM_7]
    refine lv_aload_n hx hb dX10_puts_23 rfl (lv_at hl 0 rfl) ?_
    refine ti_get (ci := 10) (k := 17) (N := 67) (T := TX10) (v := .ref (A 60 18)) C hw iw_10 rfl ob_60 (by decide) (by decide) fl_X10_55 rfl rfl dX10_puts_24 ?_
    refine lv_bipush (v := 64) hx hb dX10_puts_27 (by decide) ?_
    refine lv_aload_n hx hb dX10_puts_29 rfl (lv_at hl 0 rfl) ?_
    refine lv_bipush (v := 7) hx hb dX10_puts_30 (by decide) ?_
    refine ti_callVi (ci := 10) (av := [.int 7]) C hw (s_X10_fresher_7 l D A cy hJ M_7 iM_7 ) ⟨ml_X10_224, ym_X10_fresher, yv_X10_fresher, yi_X10_fresher, yc_X10_fresher⟩ yd_X10_fresher ob_60 (by decide) rfl rfl hl.1 (Nat.le_of_ble_eq_true rfl) ⟨by decide, by decide⟩ ⟨Nat.zero_le _, Nat.zero_le _⟩ dX10_puts_32 (fun r_9 M_10 H locs hp_10 hw => ?_)
    obtain ⟨hm, b0r_9, b1r_9, yr_9⟩ := hp_10
    have hw := hw.to hm
    have sr_9 : r_9.toInt = (r_4 : Int32).toInt := by rw [← yr_9, ((cg (tY_nE hM_7 (nk (by decide))) 18).trans yr_4)]
    have zr_9 : (tY M_7 60 3 18).toInt = r_9.toInt := by rw [yr_9]
    refine lv_iadd hx hb dX10_puts_35 ?_
    refine lv_topi (fun x_11 ex_11 => ?_)
    have tx_11 : x_11.toInt = 64 + r_9.toInt := i_add ex_11 (by decide : (64 : Int32).toInt = 64) rfl (by omega) (by omega)
    refine lv_iload_n hx hb dX10_puts_36 rfl (lv_at hl 2 rfl) ?_
    refine ti_iast (ci := 10) (k := 17) (n := 128) C hw ob_60 (by decide) (fun _ _ => rfl) (vp_in_iff.mpr (by omega)) dX10_puts_37 (fun H locs hw => ?_)
    obtain ⟨M_12, hM_12⟩ : ∃ z : ti_M, z = uY M_7 60 17 (upd (tY M_7 60 17) (x_11 : Int32).toNatClampNeg v) := ⟨_, rfl⟩
    have hw := hw.to hM_12.symm
    have iM_12 : mI Tm M_12 := mI_up (i := x_11.toNatClampNeg) iM_7 hM_12 trivial
    have v_13 : (tI M_12 60 25).toInt = (tI M_7 60 25).toInt := by rw [tI_uYE hM_12]
    refine lv_aload_n hx hb dX10_puts_38 rfl (lv_at hl 0 rfl) ?_
    refine lv_bipush (v := 7) hx hb dX10_puts_39 (by decide) ?_
    refine lv_aload_n hx hb dX10_puts_41 rfl (lv_at hl 0 rfl) ?_
    refine lv_bipush (v := 7) hx hb dX10_puts_42 (by decide) ?_
    refine ti_callVi (ci := 10) (av := [.int 7]) C hw (s_X10_fresher_7 l D A cy hJ M_12 iM_12 ) ⟨ml_X10_224, ym_X10_fresher, yv_X10_fresher, yi_X10_fresher, yc_X10_fresher⟩ yd_X10_fresher ob_60 (by decide) rfl rfl hl.1 (Nat.le_of_ble_eq_true rfl) ⟨by decide, by decide⟩ ⟨Nat.zero_le _, Nat.zero_le _⟩ dX10_puts_44 (fun r_14 M_15 H locs hp_15 hw => ?_)
    obtain ⟨hm, b0r_14, b1r_14, yr_14⟩ := hp_15
    have hw := hw.to hm
    have sr_14 : r_14.toInt = (r_4 : Int32).toInt := by rw [← yr_14, ((cg (tY_nE hM_12 (nk (by decide))) 18).trans ((cg (tY_nE hM_7 (nk (by decide))) 18).trans yr_4))]
    have zr_14 : (tY M_12 60 3 18).toInt = r_14.toInt := by rw [yr_14]
    refine lv_iconst (v := 1) hx hb dX10_puts_47 (by decide) ?_
    refine lv_iadd hx hb dX10_puts_48 ?_
    refine lv_topi (fun x_16 ex_16 => ?_)
    have tx_16 : x_16.toInt = r_14.toInt + 1 := i_add ex_16 rfl (by decide : (1 : Int32).toInt = 1) (by omega) (by omega)
    refine ti_callVv (ci := 10) (av := [.int 7, .int x_16]) C hw (s_X10_reads_7 l D A cy hJ M_12 iM_12 x_16 (by first | omega | decide) (by first | omega | decide)) ⟨ml_X10_244, ym_X10_reads, yv_X10_reads, yi_X10_reads, yc_X10_reads⟩ yd_X10_reads ob_60 (by decide) rfl rfl hl.1 (Nat.le_of_ble_eq_true rfl) ⟨by decide, by decide⟩ ⟨Nat.zero_le _, Nat.zero_le _⟩ dX10_puts_49 (fun M_18 H locs hp_18 hw => ?_)
    obtain ⟨iM_18, hM_18⟩ := hp_18
    have v_19 : (tI M_18 60 25).toInt = (tI M_12 60 25).toInt := by rw [tI_uYE hM_18]
    have e6 : tY M_18 60 16 = upd (tY M 60 16) (x_6 : Int32).toNatClampNeg pz := by rw [tY_nE hM_18 (nk (by decide)), tY_nE hM_12 (nk (by decide)), tY_uE hM_7]
    have e7 : tY M_18 60 17 = upd (tY M 60 17) (x_11 : Int32).toNatClampNeg v := by rw [tY_nE hM_18 (nk (by decide)), tY_uE hM_12, tY_nE hM_7 (nk (by decide))]
    have e3 : tY M_18 60 3 18 = x_16 := by rw [tY_uE hM_18, pk_us]
    have eo : ∀ k, k ≠ 3 → k ≠ 16 → k ≠ 17 → tY M_18 60 k = tY M 60 k := fun k a b c => (tY_nE hM_18 (nk a)).trans ((tY_nE hM_12 (nk c)).trans (tY_nE hM_7 (nk b)))
    have et : ∀ k, tI M_18 60 k = tI M 60 k := fun k => (tI_uYE hM_18).trans ((tI_uYE hM_12).trans (tI_uYE hM_7))
    have en : ∀ i, i ≠ 18 → tY M_18 60 3 i = tY M 60 3 i := fun i hi => by rw [tY_uE hM_18, pk_un hi, tY_nE hM_12 (nk (by decide)), tY_nE hM_7 (nk (by decide))]
    have ei : (((x_6 : Int32).toNatClampNeg : Nat) : Int) = 64 + (tY M 60 3 18).toInt := by show ((x_6.toInt.toNat : Nat) : Int) = _; rw [(yr_4)]; omega
    have ej : (x_11 : Int32).toNatClampNeg = (x_6 : Int32).toNatClampNeg := by show x_11.toInt.toNat = x_6.toInt.toNat; omega
    exact hQ _ _ _ _ _ hw (⟨⟨et 25, fun _ => ⟨(x_6 : Int32).toNatClampNeg, ei, e6, e7.trans (by rw [ej]), by rw [e3, (yr_4)]; omega, by rw [e3]; omega⟩⟩, iM_18, ⟨eo, en, fun i hi => ⟨by rw [e6, pk_un (by omega)], by rw [e7, pk_un (by omega)]⟩, by rw [e3, (yr_4)]; omega, fun k _ => et k⟩, us_put hu (by rw [et]) (by rw [(yr_4)]; omega) e6 e7 ei ej e3 (by rw [(yr_4)]; omega) (hs.resolve_left (by omega)), fun k _ => et k, by rw [et, e3, (yr_4)]; omega⟩) dX10_puts_52
  · exact hQ _ _ _ _ _ hw (⟨⟨rfl, fun q => absurd q (by omega)⟩, hI, pe.refl, Or.inl (by omega), fun _ _ => rfl, by omega⟩) dX10_puts_7
end

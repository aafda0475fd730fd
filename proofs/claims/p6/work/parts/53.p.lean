section
variable {Tc : gC} {Tm : gM}
def pt_rB (M : ti_M) : Nat → Int := fun i => (tY M 60 1 i).toInt
def pt_rn0 (M : ti_M) : Nat := (tI M 60 20).toInt.toNat
theorem pr_B {a b : Nat} {N M : ti_M} (h : pr a b N M) : pt_rB N = pt_rB M := by
  have e : tY N 60 1 = tY M 60 1 := congrFun (congrFun h.1 60) 1
  unfold pt_rB
  rw [e]
theorem pr_n {a b : Nat} {N M : ti_M} (h : pr a b N M) (ha : 20 < a) : pt_rn0 N = pt_rn0 M := by unfold pt_rn0; rw [h.2 20 (Or.inl ha)]
theorem hr_pk {a b : Nat} {N M : ti_M} {r : Int32} (h : pr a b N M) (ha : 20 < a) (hI : mI Tm N) (e : r = hr N) : r.toInt = pt_pk (pt_rB M) (pt_rn0 M) (tI N 60 21).toInt.toNat := by
  have h3 : 0 ≤ (tI N 60 21).toInt ∧ (tI N 60 21).toInt ≤ 700 := mI_rd (x := tI N 60 21) (k := 21) hI rfl
  have h2 : 0 ≤ (tI N 60 20).toInt ∧ (tI N 60 20).toInt ≤ 700 := mI_rd (x := tI N 60 20) (k := 20) hI rfl
  rw [e, ← pr_B h, ← pr_n h ha]
  unfold hr pt_pk pt_rB pt_rn0
  by_cases q : (tI N 60 21).toInt < (tI N 60 20).toInt
  · rw [if_pos q, if_pos (by omega)]; rfl
  · rw [if_neg q, if_neg (by omega)]; rfl
theorem pt_Ts3 {k v s w : Int} (h0 : 29 ≤ k ∧ k ≤ 41) (hs : s = 3) (hw : w = pt_sg k) : pt_T k v s w := ⟨by omega, fun g => by omega, fun g => by omega, fun g => by omega, fun g => by omega, fun g => by omega, fun _ => ⟨hs, hw⟩⟩
set_option maxHeartbeats 4000000 in
theorem pt_Ts {c d s w : Int} (h1 : (s = 3 ∧ (c = 59 ∨ c = 40 ∨ c = 41 ∨ c = 43 ∨ c = 45 ∨ c = 42 ∨ c = 47 ∨ c = 60 ∨ c = 61 ∨ c = 62)) ∨ (s = 5 ∧ ¬ (c = 59 ∨ c = 40 ∨ c = 41 ∨ c = 43 ∨ c = 45 ∨ c = 42 ∨ c = 47 ∨ c = 60 ∨ c = 61 ∨ c = 62))) (h2 : (c = 60 ∧ d = 61 ∧ w = 256) ∨ (c = 60 ∧ d = 62 ∧ w = 257) ∨ (c = 62 ∧ d = 61 ∧ w = 258) ∨ (¬ (c = 60 ∧ (d = 61 ∨ d = 62)) ∧ ¬ (c = 62 ∧ d = 61) ∧ w = c)) (v : Int) : pt_T (pt_sk c d) v s w := by
  rcases h1 with ⟨hs, hn⟩ | ⟨hs, hn⟩
  · rcases hn with rfl | rfl | rfl | rfl | rfl | rfl | rfl | rfl | rfl | rfl
    · exact pt_Ts3 (k := 29) (by omega) hs (by rw [show pt_sg 29 = 59 by decide]; omega)
    · exact pt_Ts3 (k := 30) (by omega) hs (by rw [show pt_sg 30 = 40 by decide]; omega)
    · exact pt_Ts3 (k := 31) (by omega) hs (by rw [show pt_sg 31 = 41 by decide]; omega)
    · exact pt_Ts3 (k := 38) (by omega) hs (by rw [show pt_sg 38 = 43 by decide]; omega)
    · exact pt_Ts3 (k := 39) (by omega) hs (by rw [show pt_sg 39 = 45 by decide]; omega)
    · exact pt_Ts3 (k := 40) (by omega) hs (by rw [show pt_sg 40 = 42 by decide]; omega)
    · exact pt_Ts3 (k := 41) (by omega) hs (by rw [show pt_sg 41 = 47 by decide]; omega)
    · by_cases d1 : d = 61
      · subst d1; exact pt_Ts3 (k := 33) (by omega) hs (by rw [show pt_sg 33 = 256 by decide]; omega)
      · by_cases d2 : d = 62
        · subst d2; exact pt_Ts3 (k := 35) (by omega) hs (by rw [show pt_sg 35 = 257 by decide]; omega)
        · have hk : pt_sk 60 d = 32 := by simp [pt_sk, d1, d2]
          rw [hk]
          exact pt_Ts3 (k := 32) (by omega) hs (by rw [show pt_sg 32 = 60 by decide]; omega)
    · exact pt_Ts3 (k := 34) (by omega) hs (by rw [show pt_sg 34 = 61 by decide]; omega)
    · by_cases d1 : d = 61
      · subst d1; exact pt_Ts3 (k := 36) (by omega) hs (by rw [show pt_sg 36 = 258 by decide]; omega)
      · have hk : pt_sk 62 d = 37 := by simp [pt_sk, d1]
        rw [hk]
        exact pt_Ts3 (k := 37) (by omega) hs (by rw [show pt_sg 37 = 62 by decide]; omega)
  · have hk : pt_sk c d = 28 := by
      have n1 : ¬ c = 59 := by omega
      have n2 : ¬ c = 40 := by omega
      have n3 : ¬ c = 41 := by omega
      have n4 : ¬ c = 43 := by omega
      have n5 : ¬ c = 45 := by omega
      have n6 : ¬ c = 42 := by omega
      have n7 : ¬ c = 47 := by omega
      have n8 : ¬ c = 61 := by omega
      have n9 : ¬ c = 60 := by omega
      have n10 : ¬ c = 62 := by omega
      unfold pt_sk
      rw [if_neg n1, if_neg n2, if_neg n3, if_neg n4, if_neg n5, if_neg n6, if_neg n7, if_neg n8, if_neg n9, if_neg n10]
    rw [hk]
    exact pt_Tc (Or.inr (Or.inr (Or.inr ⟨rfl, hs⟩)))
theorem pt_hst {B : Nat → Int} {p a k : Nat} {x y z z1 : Int32} (hk : k < 6) (hal : pt_al B p a) (ex : x.toInt = pt_h B p a k) (e1 : z1 = x <<< ((5 : Int32) &&& 31)) (ey : y.toInt = pt_dg B p a k) (e : z = z1 ||| y) : z.toInt = pt_h B p a (k + 1) := by
  have hb := pt_hb hal
  have hd := pt_dgb hal k
  have b : 0 ≤ pt_h B p a k ∧ pt_h B p a k < 33554432 := by
    rcases (show k = 0 ∨ k = 1 ∨ k = 2 ∨ k = 3 ∨ k = 4 ∨ k = 5 by omega) with rfl | rfl | rfl | rfl | rfl | rfl <;> omega
  have h1 := i_sh5 e1 (by omega) (by omega)
  have h2 := i_orx 5 e (by omega) (by omega) x.toInt.toNat (by omega) (by omega)
  rw [pt_h, h2, h1, ex, ey]
theorem pt_rcx {x z : Int32} {s i : Nat} (e : z = tx_mb.getD x.toNatClampNeg 0 &&& 255) (hx : x.toInt = ((s + i : Nat) : Int)) : z.toInt = pt_rc (s + i) := by
  rw [i_cl hx] at e
  rw [e]
  rfl
theorem pt_rbx {M : ti_M} {x z : Int32} {s : Nat} (e : tY M 60 1 x.toNatClampNeg = z) (hx : x.toInt = (s : Int)) : z.toInt = pt_rB M s := by
  rw [i_cl hx] at e
  rw [← e]
  rfl
theorem pt_no {B : Nat → Int} {p a w i : Nat} (hw : w < 25) (hi : i ≤ pt_ln.getD w 0) (h : (pt_rc (pt_st.getD w 0 + i) = 32 ∧ p + i ≠ a) ∨ (pt_rc (pt_st.getD w 0 + i) ≠ 32 ∧ (p + i = a ∨ B (p + i) ≠ pt_rc (pt_st.getD w 0 + i)))) : ¬ pt_mt B p a w := by
  have g := pt_s1 w hw
  rintro ⟨m1, m2⟩
  by_cases q : i = pt_ln.getD w 0
  · rw [← q] at g m1
    rcases h with ⟨_, h⟩ | ⟨h, _⟩
    · exact h m1
    · exact h g.2.1
  · have q2 := pt_s2' w hw i (by omega) (by omega)
    rcases h with ⟨h, _⟩ | ⟨_, h | h⟩
    · exact q2.1 h
    · omega
    · exact h (m2 i (by omega))
theorem pt_is {B : Nat → Int} {p a w i : Nat} (hw : w < 25) (hi : i ≤ pt_ln.getD w 0) (hc : pt_rc (pt_st.getD w 0 + i) = 32) (hp : p + i = a) (he : ∀ j : Nat, j < i → B (p + j) = pt_rc (pt_st.getD w 0 + j)) : pt_mt B p a w := by
  have g := pt_s1 w hw
  have q : i = pt_ln.getD w 0 := by
    by_cases q : i = pt_ln.getD w 0
    · exact q
    · exact absurd hc (pt_s2' w hw i (by omega) (by omega)).1
  subst q
  exact ⟨hp, he⟩
theorem pt_lt {w i : Nat} (hw : w < 25) (hi : i ≤ pt_ln.getD w 0) (hc : ¬ pt_rc (pt_st.getD w 0 + i) = 32) : i + 1 ≤ pt_ln.getD w 0 := by
  have g := pt_s1 w hw
  by_cases q : i = pt_ln.getD w 0
  · rw [q] at hc; exact absurd g.2.1 hc
  · omega
theorem pt_eq {w i : Nat} (hw : w < 25) (hi : i ≤ pt_ln.getD w 0) (hc : pt_rc (pt_st.getD w 0 + i) = 32) : i = pt_ln.getD w 0 := by
  have g := pt_s1 w hw
  by_cases q : i = pt_ln.getD w 0
  · exact q
  · exact absurd hc (pt_s2' w hw i (by omega) (by omega)).1
set_option maxHeartbeats 4000000 in
set_option maxRecDepth 100000 in
theorem x_X10_sign (l : Launch) (D : va_G) (A : Nat → Nat → Nat) (cy : Nat → ClassId) (hJ : ti_inj ti_LM A) (M : ti_M) (hI : mI Tm M) (a : Int32) (h1 : 0 ≤ a.toInt) (h2 : a.toInt ≤ 255) (h3 : (tI M 60 21).toInt < (tI M 60 20).toInt) : ti_Kv l yX10_sign cX10_sign 2 1 ti_LM D A cy M [.ref (A 60 0), .int a] (fun M2 => mI Tm M2 ∧ pr 21 24 M2 M ∧ tI M2 60 22 = tI M 60 22 ∧ (tI M2 60 21).toInt = (tI M 60 21).toInt + 1 + pt_s2 a.toInt (pt_pk (pt_rB M) (pt_rn0 M) ((tI M 60 21).toInt.toNat + 1)) ∧ ∀ v : Int, pt_T (pt_sk a.toInt (pt_pk (pt_rB M) (pt_rn0 M) ((tI M 60 21).toInt.toNat + 1))) v (tI M2 60 23).toInt (tI M2 60 24).toInt) := by
  refine ti_eV yp_X10_sign hJ ti_LM_nd (Nat.le_of_ble_eq_true rfl) ?_
  intro p e s m args below meth c Q H0 C hQ hw ls hl
  have hx := C.1
  have hb := C.2.1
  have hl : lv_has ls 2 [(0, .ref (A 60 0)), (1, .int a)] := hl
  have hz : 0 ≤ (tI M 60 20).toInt ∧ (tI M 60 20).toInt ≤ 700 := hI.1 20
  have hat : 0 ≤ (tI M 60 21).toInt ∧ (tI M 60 21).toInt ≤ 700 := hI.1 21
  refine lv_aload_n hx hb dX10_sign_0 rfl (lv_at hl 0 rfl) ?_
  refine lv_dup hx hb dX10_sign_1 rfl ?_
  refine ti_get (ci := 10) (k := 21) (N := 67) (T := TX10) C hw iw_10 rfl ob_60 (by decide) (by decide) fl_X10_160 rfl rfl dX10_sign_2 ?_
  refine lv_topi (fun x_1 ex_1 => ?_)
  have bx_1 : 0 ≤ x_1.toInt ∧ x_1.toInt ≤ 700 := mI_rd hI ex_1
  have ux_1 : (tI M 60 21).toInt = x_1.toInt := by rw [ex_1]
  refine lv_iconst (v := 1) hx hb dX10_sign_5 (by decide) ?_
  refine lv_iadd hx hb dX10_sign_6 ?_
  refine lv_topi (fun x_2 ex_2 => ?_)
  have tx_2 : x_2.toInt = x_1.toInt + 1 := i_add ex_2 rfl (by decide : (1 : Int32).toInt = 1) (by omega) (by omega)
  refine ti_putI (ci := 10) (k := 21) (N := 67) (T := TX10) C hw iw_10 tyX10 tyX10_ok nmX10 rfl ob_60 (by decide) (by decide) fl_X10_160 rfl rfl rfl rfl (fn_10 A _) fs_10_21 dX10_sign_7 (fun H locs hw => ?_)
  obtain ⟨M_3, hM_3⟩ : ∃ z : ti_M, z = uI M 60 21 x_2 := ⟨_, rfl⟩
  have hw := hw.to hM_3.symm
  have iM_3 : mI Tm M_3 := mI_uI hI hM_3 (by decide) (by decide) (ib_mk (lo := 0) (hi := 700) (by omega) (by omega))
  have vM_3 : (tI M_3 60 21).toInt = (x_2 : Int32).toInt := by rw [tI_uE hM_3]
  have v_4 : (tI M_3 60 20).toInt = (tI M 60 20).toInt := by rw [tI_nE hM_3 (nk (by decide))]
  have v_5 : (tI M_3 60 21).toInt = (x_2 : Int32).toInt := by rw [tI_uE hM_3]
  have v_6 : (tI M_3 60 23).toInt = (tI M 60 23).toInt := by rw [tI_nE hM_3 (nk (by decide))]
  have v_7 : (tI M_3 60 24).toInt = (tI M 60 24).toInt := by rw [tI_nE hM_3 (nk (by decide))]
  refine lv_aload_n hx hb dX10_sign_10 rfl (lv_at hl 0 rfl) ?_
  refine lv_iload_n hx hb dX10_sign_11 rfl (lv_at hl 1 rfl) ?_
  refine lv_bipush (v := 59) hx hb dX10_sign_12 (by decide) ?_
  have hj_106_237 : ∀ (M_227 : ti_M) (x_230 : Int32) (H : Heap) (locs : List Loc) (ls : Array Slot), (mI Tm M_227) → (pr 21 24 M_227 M) → (tI M_227 60 22 = tI M 60 22) → (3 ≤ x_230.toInt) → (x_230.toInt ≤ 5) → (tI M_227 60 23 = x_230) → ((tI M_227 60 21).toInt = (tI M 60 21).toInt + 1) → (((tI M_227 60 23).toInt = 3 ∧ (a.toInt = 59 ∨ a.toInt = 40 ∨ a.toInt = 41 ∨ a.toInt = 43 ∨ a.toInt = 45 ∨ a.toInt = 42 ∨ a.toInt = 47 ∨ a.toInt = 60 ∨ a.toInt = 61 ∨ a.toInt = 62)) ∨ ((tI M_227 60 23).toInt = 5 ∧ ¬ (a.toInt = 59 ∨ a.toInt = 40 ∨ a.toInt = 41 ∨ a.toInt = 43 ∨ a.toInt = 45 ∨ a.toInt = 42 ∨ a.toInt = 47 ∨ a.toInt = 60 ∨ a.toInt = 61 ∨ a.toInt = 62))) → ((tI M_227 60 24).toInt < 256 ∨ (tI M_227 60 21).toInt < (tI M_227 60 20).toInt) → ((a.toInt = 60 ∧ (pt_pk (pt_rB M) (pt_rn0 M) ((tI M 60 21).toInt.toNat + 1)) = 61 ∧ (tI M_227 60 24).toInt = 256) ∨ (¬ (a.toInt = 60 ∧ (pt_pk (pt_rB M) (pt_rn0 M) ((tI M 60 21).toInt.toNat + 1)) = 61) ∧ (tI M_227 60 24).toInt = a.toInt)) → ti_H ti_LM D A cy H0 M_227 H locs → lv_has ls 2 [(0, .ref (A 60 0)), (1, .int a)] → W p l e (ti_rm 1) s m args below meth c H locs 0 0 Q (F0 m 106 ls []) := by
    intro M_227 x_230 H locs ls iM_227 f_228 f_229 b_231 b_232 f_233 j_234 j_235 j_236 j_237 hw hl
    have v_403 : (tI M_227 60 20).toInt = (tI M 60 20).toInt := by rw [f_228.2 20 (by decide)]
    have v_404 : 0 ≤ (tI M_227 60 21).toInt ∧ (tI M_227 60 21).toInt ≤ 700 := mI_rd (x := tI M_227 60 21) (k := 21) iM_227 rfl
    refine lv_iload_n hx hb dX10_sign_106 rfl (lv_at hl 1 rfl) ?_
    refine lv_bipush (v := 60) hx hb dX10_sign_107 (by decide) ?_
    have hj_128_421 : ∀ (M_414 : ti_M) (H : Heap) (locs : List Loc) (ls : Array Slot), (mI Tm M_414) → (pr 21 24 M_414 M) → (tI M_414 60 22 = tI M 60 22) → (tI M_414 60 23 = x_230) → ((tI M_414 60 21).toInt = (tI M 60 21).toInt + 1) → (((tI M_414 60 23).toInt = 3 ∧ (a.toInt = 59 ∨ a.toInt = 40 ∨ a.toInt = 41 ∨ a.toInt = 43 ∨ a.toInt = 45 ∨ a.toInt = 42 ∨ a.toInt = 47 ∨ a.toInt = 60 ∨ a.toInt = 61 ∨ a.toInt = 62)) ∨ ((tI M_414 60 23).toInt = 5 ∧ ¬ (a.toInt = 59 ∨ a.toInt = 40 ∨ a.toInt = 41 ∨ a.toInt = 43 ∨ a.toInt = 45 ∨ a.toInt = 42 ∨ a.toInt = 47 ∨ a.toInt = 60 ∨ a.toInt = 61 ∨ a.toInt = 62))) → ((tI M_414 60 24).toInt < 256 ∨ (tI M_414 60 21).toInt < (tI M_414 60 20).toInt) → ((a.toInt = 60 ∧ (pt_pk (pt_rB M) (pt_rn0 M) ((tI M 60 21).toInt.toNat + 1)) = 61 ∧ (tI M_414 60 24).toInt = 256) ∨ (a.toInt = 60 ∧ (pt_pk (pt_rB M) (pt_rn0 M) ((tI M 60 21).toInt.toNat + 1)) = 62 ∧ (tI M_414 60 24).toInt = 257) ∨ (¬ (a.toInt = 60 ∧ ((pt_pk (pt_rB M) (pt_rn0 M) ((tI M 60 21).toInt.toNat + 1)) = 61 ∨ (pt_pk (pt_rB M) (pt_rn0 M) ((tI M 60 21).toInt.toNat + 1)) = 62)) ∧ (tI M_414 60 24).toInt = a.toInt)) → ti_H ti_LM D A cy H0 M_414 H locs → lv_has ls 2 [(0, .ref (A 60 0)), (1, .int a)] → W p l e (ti_rm 1) s m args below meth c H locs 0 0 Q (F0 m 128 ls []) := by
      intro M_414 H locs ls iM_414 f_415 f_416 f_417 j_418 j_419 j_420 j_421 hw hl
      have v_434 : (tI M_414 60 20).toInt = (tI M 60 20).toInt := by rw [f_415.2 20 (by decide)]
      have v_435 : 0 ≤ (tI M_414 60 21).toInt ∧ (tI M_414 60 21).toInt ≤ 700 := mI_rd (x := tI M_414 60 21) (k := 21) iM_414 rfl
      refine lv_iload_n hx hb dX10_sign_128 rfl (lv_at hl 1 rfl) ?_
      refine lv_bipush (v := 62) hx hb dX10_sign_129 (by decide) ?_
      have hj_150_452 : ∀ (M_445 : ti_M) (H : Heap) (locs : List Loc) (ls : Array Slot), (mI Tm M_445) → (pr 21 24 M_445 M) → (tI M_445 60 22 = tI M 60 22) → (tI M_445 60 23 = x_230) → ((tI M_445 60 21).toInt = (tI M 60 21).toInt + 1) → (((tI M_445 60 23).toInt = 3 ∧ (a.toInt = 59 ∨ a.toInt = 40 ∨ a.toInt = 41 ∨ a.toInt = 43 ∨ a.toInt = 45 ∨ a.toInt = 42 ∨ a.toInt = 47 ∨ a.toInt = 60 ∨ a.toInt = 61 ∨ a.toInt = 62)) ∨ ((tI M_445 60 23).toInt = 5 ∧ ¬ (a.toInt = 59 ∨ a.toInt = 40 ∨ a.toInt = 41 ∨ a.toInt = 43 ∨ a.toInt = 45 ∨ a.toInt = 42 ∨ a.toInt = 47 ∨ a.toInt = 60 ∨ a.toInt = 61 ∨ a.toInt = 62))) → ((tI M_445 60 24).toInt < 256 ∨ (tI M_445 60 21).toInt < (tI M_445 60 20).toInt) → ((a.toInt = 60 ∧ (pt_pk (pt_rB M) (pt_rn0 M) ((tI M 60 21).toInt.toNat + 1)) = 61 ∧ (tI M_445 60 24).toInt = 256) ∨ (a.toInt = 60 ∧ (pt_pk (pt_rB M) (pt_rn0 M) ((tI M 60 21).toInt.toNat + 1)) = 62 ∧ (tI M_445 60 24).toInt = 257) ∨ (a.toInt = 62 ∧ (pt_pk (pt_rB M) (pt_rn0 M) ((tI M 60 21).toInt.toNat + 1)) = 61 ∧ (tI M_445 60 24).toInt = 258) ∨ (¬ (a.toInt = 60 ∧ ((pt_pk (pt_rB M) (pt_rn0 M) ((tI M 60 21).toInt.toNat + 1)) = 61 ∨ (pt_pk (pt_rB M) (pt_rn0 M) ((tI M 60 21).toInt.toNat + 1)) = 62)) ∧ ¬ (a.toInt = 62 ∧ (pt_pk (pt_rB M) (pt_rn0 M) ((tI M 60 21).toInt.toNat + 1)) = 61) ∧ (tI M_445 60 24).toInt = a.toInt)) → ti_H ti_LM D A cy H0 M_445 H locs → lv_has ls 2 [(0, .ref (A 60 0)), (1, .int a)] → W p l e (ti_rm 1) s m args below meth c H locs 0 0 Q (F0 m 150 ls []) := by
        intro M_445 H locs ls iM_445 f_446 f_447 f_448 j_449 j_450 j_451 j_452 hw hl
        have v_465 : (tI M_445 60 20).toInt = (tI M 60 20).toInt := by rw [f_446.2 20 (by decide)]
        have v_466 : 0 ≤ (tI M_445 60 21).toInt ∧ (tI M_445 60 21).toInt ≤ 700 := mI_rd (x := tI M_445 60 21) (k := 21) iM_445 rfl
        refine lv_aload_n hx hb dX10_sign_150 rfl (lv_at hl 0 rfl) ?_
        refine ti_get (ci := 10) (k := 24) (N := 67) (T := TX10) C hw iw_10 rfl ob_60 (by decide) (by decide) fl_X10_183 rfl rfl dX10_sign_151 ?_
        refine lv_topi (fun x_467 ex_467 => ?_)
        have u_468 : (tI M_445 60 24).toInt = x_467.toInt := by rw [ex_467]
        refine lv_sipush (v := 256) hx hb dX10_sign_154 (by decide) ?_
        refine sb_icmp_lt (tgt := 170) hx hb rfl (by decide : (256 : Int32).toInt = 256) dX10_sign_157 (by decide) (fun c_157_468 => ?_) (fun c_157_468 => ?_)
        · exact hQ _ _ _ _ _ hw (⟨iM_445, f_446, (f_447), (by unfold pt_s2; (repeat' split) <;> omega), pt_Ts (by omega) (by omega)⟩) dX10_sign_170
        · refine lv_aload_n hx hb dX10_sign_160 rfl (lv_at hl 0 rfl) ?_
          refine lv_dup hx hb dX10_sign_161 rfl ?_
          refine ti_get (ci := 10) (k := 21) (N := 67) (T := TX10) C hw iw_10 rfl ob_60 (by decide) (by decide) fl_X10_160 rfl rfl dX10_sign_162 ?_
          refine lv_topi (fun x_470 ex_470 => ?_)
          have bx_470 : 0 ≤ x_470.toInt ∧ x_470.toInt ≤ 700 := mI_rd iM_445 ex_470
          have ux_470 : (tI M_445 60 21).toInt = x_470.toInt := by rw [ex_470]
          refine lv_iconst (v := 1) hx hb dX10_sign_165 (by decide) ?_
          refine lv_iadd hx hb dX10_sign_166 ?_
          refine lv_topi (fun x_471 ex_471 => ?_)
          have tx_471 : x_471.toInt = x_470.toInt + 1 := i_add ex_471 rfl (by decide : (1 : Int32).toInt = 1) (by omega) (by omega)
          refine ti_putI (ci := 10) (k := 21) (N := 67) (T := TX10) C hw iw_10 tyX10 tyX10_ok nmX10 rfl ob_60 (by decide) (by decide) fl_X10_160 rfl rfl rfl rfl (fn_10 A _) fs_10_21 dX10_sign_167 (fun H locs hw => ?_)
          obtain ⟨M_472, hM_472⟩ : ∃ z : ti_M, z = uI M_445 60 21 x_471 := ⟨_, rfl⟩
          have hw := hw.to hM_472.symm
          have iM_472 : mI Tm M_472 := mI_uI iM_445 hM_472 (by decide) (by decide) (ib_mk (lo := 0) (hi := 700) (by omega) (by omega))
          have vM_472 : (tI M_472 60 21).toInt = (x_471 : Int32).toInt := by rw [tI_uE hM_472]
          have v_473 : (tI M_472 60 20).toInt = (tI M_445 60 20).toInt := by rw [tI_nE hM_472 (nk (by decide))]
          have v_474 : (tI M_472 60 21).toInt = (x_471 : Int32).toInt := by rw [tI_uE hM_472]
          have v_475 : (tI M_472 60 23).toInt = (tI M_445 60 23).toInt := by rw [tI_nE hM_472 (nk (by decide))]
          have v_476 : (tI M_472 60 24).toInt = (tI M_445 60 24).toInt := by rw [tI_nE hM_472 (nk (by decide))]
          exact hQ _ _ _ _ _ hw (⟨iM_472, (pr.trans (pr_I hM_472 (by decide)) f_446), ((tI_nE hM_472 (nk (by decide))).trans f_447), (by unfold pt_s2; (repeat' split) <;> omega), pt_Ts (by omega) (by omega)⟩) dX10_sign_170
      refine sb_icmp_ne (tgt := 150) hx hb rfl (by decide : (62 : Int32).toInt = 62) dX10_sign_131 (by decide) (fun c_131_435 => ?_) (fun c_131_435 => ?_)
      · have u_453 : 0 ≤ (tI M_414 60 20).toInt ∧ (tI M_414 60 20).toInt ≤ 700 := mI_rd (x := tI M_414 60 20) (k := 20) iM_414 rfl
        have u_454 : 0 ≤ (tI M_414 60 21).toInt ∧ (tI M_414 60 21).toInt ≤ 700 := mI_rd (x := tI M_414 60 21) (k := 21) iM_414 rfl
        have u_455 : (tI M_414 60 23).toInt = (x_230 : Int32).toInt := by rw [(f_417)]
        exact hj_150_452 M_414 _ _ _ iM_414 f_415 (f_416) (f_417) (by first | omega | decide) (by first | omega | decide) (by first | omega | decide) (by first | omega | decide) hw (lv_sub hl [0, 1] rfl)
      · refine lv_aload_n hx hb dX10_sign_134 rfl (lv_at hl 0 rfl) ?_
        refine ti_callVi (ci := 10) (av := []) C hw (s_X10_here l D A cy hJ M_414 iM_414 ) ⟨ml_X10_166, ym_X10_here, yv_X10_here, yi_X10_here, yc_X10_here⟩ yd_X10_here ob_60 (by decide) rfl rfl hl.1 (Nat.le_of_ble_eq_true rfl) ⟨by decide, by decide⟩ ⟨Nat.zero_le _, Nat.zero_le _⟩ dX10_sign_135 (fun r_437 M_438 H locs hp_438 hw => ?_)
        obtain ⟨hm, b0r_437, b1r_437, p0r_437, p1r_437⟩ := hp_438
        have hw := hw.to hm
        have hhr_437 : (hr M_414).toInt = r_437.toInt := by rw [← p1r_437]
        have kr_437 := hr_pk (a := 21) (b := 24) (M := M) f_415 (by decide) iM_414 p1r_437
        have kdr_437 : r_437.toInt = (pt_pk (pt_rB M) (pt_rn0 M) ((tI M 60 21).toInt.toNat + 1)) := by rw [kr_437, show (tI M_414 60 21).toInt.toNat = (tI M 60 21).toInt.toNat + 1 by omega]
        refine lv_bipush (v := 61) hx hb dX10_sign_138 (by decide) ?_
        refine sb_icmp_ne (tgt := 150) hx hb rfl (by decide : (61 : Int32).toInt = 61) dX10_sign_140 (by decide) (fun c_140_438 => ?_) (fun c_140_438 => ?_)
        · have u_456 : 0 ≤ (tI M_414 60 20).toInt ∧ (tI M_414 60 20).toInt ≤ 700 := mI_rd (x := tI M_414 60 20) (k := 20) iM_414 rfl
          have u_457 : 0 ≤ (tI M_414 60 21).toInt ∧ (tI M_414 60 21).toInt ≤ 700 := mI_rd (x := tI M_414 60 21) (k := 21) iM_414 rfl
          have u_458 : (tI M_414 60 23).toInt = (x_230 : Int32).toInt := by rw [(f_417)]
          exact hj_150_452 M_414 _ _ _ iM_414 f_415 (f_416) (f_417) (by first | omega | decide) (by first | omega | decide) (by first | omega | decide) (by first | omega | decide) hw (lv_sub hl [0, 1] rfl)
        · refine lv_aload_n hx hb dX10_sign_143 rfl (lv_at hl 0 rfl) ?_
          refine lv_sipush (v := 258) hx hb dX10_sign_144 (by decide) ?_
          refine ti_putI (ci := 10) (k := 24) (N := 67) (T := TX10) C hw iw_10 tyX10 tyX10_ok nmX10 rfl ob_60 (by decide) (by decide) fl_X10_183 rfl rfl rfl rfl (fn_10 A _) fs_10_24 dX10_sign_147 (fun H locs hw => ?_)
          obtain ⟨M_440, hM_440⟩ : ∃ z : ti_M, z = uI M_414 60 24 258 := ⟨_, rfl⟩
          have hw := hw.to hM_440.symm
          have iM_440 : mI Tm M_440 := mI_va iM_414 hM_440 (fun h => absurd ((f_417).symm.trans h) (nz0 (by omega)))
          have v_441 : (tI M_440 60 20).toInt = (tI M_414 60 20).toInt := by rw [tI_nE hM_440 (nk (by decide))]
          have v_442 : (tI M_440 60 21).toInt = (tI M_414 60 21).toInt := by rw [tI_nE hM_440 (nk (by decide))]
          have v_443 : (tI M_440 60 23).toInt = (tI M_414 60 23).toInt := by rw [tI_nE hM_440 (nk (by decide))]
          have v_444 : (tI M_440 60 24).toInt = 258 := by rw [tI_uE hM_440]; decide
          have u_459 : (tI M_440 60 20).toInt = (tI M_414 60 20).toInt := by rw [(tI_nE hM_440 (nk (by decide)))]
          have u_460 : 0 ≤ (tI M_440 60 20).toInt ∧ (tI M_440 60 20).toInt ≤ 700 := mI_rd (x := tI M_440 60 20) (k := 20) iM_440 rfl
          have u_461 : (tI M_440 60 21).toInt = (tI M_414 60 21).toInt := by rw [(tI_nE hM_440 (nk (by decide)))]
          have u_462 : 0 ≤ (tI M_440 60 21).toInt ∧ (tI M_440 60 21).toInt ≤ 700 := mI_rd (x := tI M_440 60 21) (k := 21) iM_440 rfl
          have u_463 : (tI M_440 60 23).toInt = (x_230 : Int32).toInt := by rw [((tI_nE hM_440 (nk (by decide))).trans f_417)]
          have u_464 : (tI M_440 60 24).toInt = (258 : Int32).toInt := by rw [(tI_uE hM_440)]
          exact hj_150_452 M_440 _ _ _ iM_440 (pr.trans (pr_I hM_440 (by decide)) f_415) ((tI_nE hM_440 (nk (by decide))).trans f_416) ((tI_nE hM_440 (nk (by decide))).trans f_417) (by first | omega | decide) (by first | omega | decide) (by first | omega | decide) (by first | omega | decide) hw (lv_sub hl [0, 1] rfl)
    refine sb_icmp_ne (tgt := 128) hx hb rfl (by decide : (60 : Int32).toInt = 60) dX10_sign_109 (by decide) (fun c_109_404 => ?_) (fun c_109_404 => ?_)
    · have u_422 : 0 ≤ (tI M_227 60 20).toInt ∧ (tI M_227 60 20).toInt ≤ 700 := mI_rd (x := tI M_227 60 20) (k := 20) iM_227 rfl
      have u_423 : 0 ≤ (tI M_227 60 21).toInt ∧ (tI M_227 60 21).toInt ≤ 700 := mI_rd (x := tI M_227 60 21) (k := 21) iM_227 rfl
      have u_424 : (tI M_227 60 23).toInt = (x_230 : Int32).toInt := by rw [(f_233)]
      exact hj_128_421 M_227 _ _ _ iM_227 f_228 (f_229) (f_233) (by first | omega | decide) (by first | omega | decide) (by first | omega | decide) (by first | omega | decide) hw (lv_sub hl [0, 1] rfl)
    · refine lv_aload_n hx hb dX10_sign_112 rfl (lv_at hl 0 rfl) ?_
      refine ti_callVi (ci := 10) (av := []) C hw (s_X10_here l D A cy hJ M_227 iM_227 ) ⟨ml_X10_166, ym_X10_here, yv_X10_here, yi_X10_here, yc_X10_here⟩ yd_X10_here ob_60 (by decide) rfl rfl hl.1 (Nat.le_of_ble_eq_true rfl) ⟨by decide, by decide⟩ ⟨Nat.zero_le _, Nat.zero_le _⟩ dX10_sign_113 (fun r_406 M_407 H locs hp_407 hw => ?_)
      obtain ⟨hm, b0r_406, b1r_406, p0r_406, p1r_406⟩ := hp_407
      have hw := hw.to hm
      have hhr_406 : (hr M_227).toInt = r_406.toInt := by rw [← p1r_406]
      have kr_406 := hr_pk (a := 21) (b := 24) (M := M) f_228 (by decide) iM_227 p1r_406
      have kdr_406 : r_406.toInt = (pt_pk (pt_rB M) (pt_rn0 M) ((tI M 60 21).toInt.toNat + 1)) := by rw [kr_406, show (tI M_227 60 21).toInt.toNat = (tI M 60 21).toInt.toNat + 1 by omega]
      refine lv_bipush (v := 62) hx hb dX10_sign_116 (by decide) ?_
      refine sb_icmp_ne (tgt := 128) hx hb rfl (by decide : (62 : Int32).toInt = 62) dX10_sign_118 (by decide) (fun c_118_407 => ?_) (fun c_118_407 => ?_)
      · have u_425 : 0 ≤ (tI M_227 60 20).toInt ∧ (tI M_227 60 20).toInt ≤ 700 := mI_rd (x := tI M_227 60 20) (k := 20) iM_227 rfl
        have u_426 : 0 ≤ (tI M_227 60 21).toInt ∧ (tI M_227 60 21).toInt ≤ 700 := mI_rd (x := tI M_227 60 21) (k := 21) iM_227 rfl
        have u_427 : (tI M_227 60 23).toInt = (x_230 : Int32).toInt := by rw [(f_233)]
        exact hj_128_421 M_227 _ _ _ iM_227 f_228 (f_229) (f_233) (by first | omega | decide) (by first | omega | decide) (by first | omega | decide) (by first | omega | decide) hw (lv_sub hl [0, 1] rfl)
      · refine lv_aload_n hx hb dX10_sign_121 rfl (lv_at hl 0 rfl) ?_
        refine lv_sipush (v := 257) hx hb dX10_sign_122 (by decide) ?_
        refine ti_putI (ci := 10) (k := 24) (N := 67) (T := TX10) C hw iw_10 tyX10 tyX10_ok nmX10 rfl ob_60 (by decide) (by decide) fl_X10_183 rfl rfl rfl rfl (fn_10 A _) fs_10_24 dX10_sign_125 (fun H locs hw => ?_)
        obtain ⟨M_409, hM_409⟩ : ∃ z : ti_M, z = uI M_227 60 24 257 := ⟨_, rfl⟩
        have hw := hw.to hM_409.symm
        have iM_409 : mI Tm M_409 := mI_va iM_227 hM_409 (fun h => absurd ((f_233).symm.trans h) (nz0 (by omega)))
        have v_410 : (tI M_409 60 20).toInt = (tI M_227 60 20).toInt := by rw [tI_nE hM_409 (nk (by decide))]
        have v_411 : (tI M_409 60 21).toInt = (tI M_227 60 21).toInt := by rw [tI_nE hM_409 (nk (by decide))]
        have v_412 : (tI M_409 60 23).toInt = (tI M_227 60 23).toInt := by rw [tI_nE hM_409 (nk (by decide))]
        have v_413 : (tI M_409 60 24).toInt = 257 := by rw [tI_uE hM_409]; decide
        have u_428 : (tI M_409 60 20).toInt = (tI M_227 60 20).toInt := by rw [(tI_nE hM_409 (nk (by decide)))]
        have u_429 : 0 ≤ (tI M_409 60 20).toInt ∧ (tI M_409 60 20).toInt ≤ 700 := mI_rd (x := tI M_409 60 20) (k := 20) iM_409 rfl
        have u_430 : (tI M_409 60 21).toInt = (tI M_227 60 21).toInt := by rw [(tI_nE hM_409 (nk (by decide)))]
        have u_431 : 0 ≤ (tI M_409 60 21).toInt ∧ (tI M_409 60 21).toInt ≤ 700 := mI_rd (x := tI M_409 60 21) (k := 21) iM_409 rfl
        have u_432 : (tI M_409 60 23).toInt = (x_230 : Int32).toInt := by rw [((tI_nE hM_409 (nk (by decide))).trans f_233)]
        have u_433 : (tI M_409 60 24).toInt = (257 : Int32).toInt := by rw [(tI_uE hM_409)]
        exact hj_128_421 M_409 _ _ _ iM_409 (pr.trans (pr_I hM_409 (by decide)) f_228) ((tI_nE hM_409 (nk (by decide))).trans f_229) ((tI_nE hM_409 (nk (by decide))).trans f_233) (by first | omega | decide) (by first | omega | decide) (by first | omega | decide) (by first | omega | decide) hw (lv_sub hl [0, 1] rfl)
  refine sb_icmp_eq (tgt := 71) hx hb rfl (by decide : (59 : Int32).toInt = 59) dX10_sign_14 (by decide) (fun c_14_7 => ?_) (fun c_14_7 => ?_)
  · refine lv_iconst (v := 3) hx hb dX10_sign_71 (by decide) ?_
    refine lv_goto (tgt := 76) hx hb dX10_sign_72 (by decide) ?_
    refine ti_putI (ci := 10) (k := 23) (N := 67) (T := TX10) C hw iw_10 tyX10 tyX10_ok nmX10 rfl ob_60 (by decide) (by decide) fl_X10_173 rfl rfl rfl rfl (fn_10 A _) fs_10_23 dX10_sign_76 (fun H locs hw => ?_)
    obtain ⟨M_18, hM_18⟩ : ∃ z : ti_M, z = uI M_3 60 23 3 := ⟨_, rfl⟩
    have hw := hw.to hM_18.symm
    have iM_18 : mI Tm M_18 := mI_so iM_3 hM_18 (fun h => absurd h (by decide))
    have v_19 : (tI M_18 60 20).toInt = (tI M_3 60 20).toInt := by rw [tI_nE hM_18 (nk (by decide))]
    have v_20 : (tI M_18 60 21).toInt = (tI M_3 60 21).toInt := by rw [tI_nE hM_18 (nk (by decide))]
    have v_21 : (tI M_18 60 23).toInt = 3 := by rw [tI_uE hM_18]; decide
    have v_22 : (tI M_18 60 24).toInt = (tI M_3 60 24).toInt := by rw [tI_nE hM_18 (nk (by decide))]
    refine lv_aload_n hx hb dX10_sign_79 rfl (lv_at hl 0 rfl) ?_
    refine lv_iload_n hx hb dX10_sign_80 rfl (lv_at hl 1 rfl) ?_
    refine ti_putI (ci := 10) (k := 24) (N := 67) (T := TX10) C hw iw_10 tyX10 tyX10_ok nmX10 rfl ob_60 (by decide) (by decide) fl_X10_183 rfl rfl rfl rfl (fn_10 A _) fs_10_24 dX10_sign_81 (fun H locs hw => ?_)
    obtain ⟨M_23, hM_23⟩ : ∃ z : ti_M, z = uI M_18 60 24 a := ⟨_, rfl⟩
    have hw := hw.to hM_23.symm
    have iM_23 : mI Tm M_23 := mI_va iM_18 hM_23 (fun h => absurd ((tI_uE hM_18).symm.trans h) (by decide))
    have v_24 : (tI M_23 60 20).toInt = (tI M_18 60 20).toInt := by rw [tI_nE hM_23 (nk (by decide))]
    have v_25 : (tI M_23 60 21).toInt = (tI M_18 60 21).toInt := by rw [tI_nE hM_23 (nk (by decide))]
    have v_26 : (tI M_23 60 23).toInt = (tI M_18 60 23).toInt := by rw [tI_nE hM_23 (nk (by decide))]
    have v_27 : (tI M_23 60 24).toInt = (a : Int32).toInt := by rw [tI_uE hM_23]
    refine lv_iload_n hx hb dX10_sign_84 rfl (lv_at hl 1 rfl) ?_
    refine lv_bipush (v := 60) hx hb dX10_sign_85 (by decide) ?_
    refine sb_icmp_ne (tgt := 106) hx hb rfl (by decide : (60 : Int32).toInt = 60) dX10_sign_87 (by decide) (fun c_87_27 => ?_) (fun c_87_27 => ?_)
    · have u_238 : (tI M_23 60 20).toInt = (tI M 60 20).toInt := by rw [((tI_nE hM_23 (nk (by decide))).trans ((tI_nE hM_18 (nk (by decide))).trans (tI_nE hM_3 (nk (by decide)))))]
      have u_239 : 0 ≤ (tI M_23 60 20).toInt ∧ (tI M_23 60 20).toInt ≤ 700 := mI_rd (x := tI M_23 60 20) (k := 20) iM_23 rfl
      have u_240 : (tI M_23 60 21).toInt = (x_2 : Int32).toInt := by rw [((tI_nE hM_23 (nk (by decide))).trans ((tI_nE hM_18 (nk (by decide))).trans (tI_uE hM_3)))]
      have u_241 : (tI M_23 60 23).toInt = (3 : Int32).toInt := by rw [((tI_nE hM_23 (nk (by decide))).trans (tI_uE hM_18))]
      have u_242 : (tI M_23 60 24).toInt = (a : Int32).toInt := by rw [(tI_uE hM_23)]
      exact hj_106_237 M_23 3 _ _ _ iM_23 (pr.trans (pr_I hM_23 (by decide)) (pr.trans (pr_I hM_18 (by decide)) (pr_I hM_3 (by decide)))) ((tI_nE hM_23 (nk (by decide))).trans ((tI_nE hM_18 (nk (by decide))).trans (tI_nE hM_3 (nk (by decide))))) (by have lt0 : (3 : Int32).toInt = 3 := (by decide); first | omega | decide) (by have lt0 : (3 : Int32).toInt = 3 := (by decide); first | omega | decide) ((tI_nE hM_23 (nk (by decide))).trans (tI_uE hM_18)) (by have lt0 : (3 : Int32).toInt = 3 := (by decide); first | omega | decide) (by have lt0 : (3 : Int32).toInt = 3 := (by decide); first | omega | decide) (by have lt0 : (3 : Int32).toInt = 3 := (by decide); first | omega | decide) (by have lt0 : (3 : Int32).toInt = 3 := (by decide); first | omega | decide) hw (lv_sub hl [0, 1] rfl)
    · refine lv_aload_n hx hb dX10_sign_90 rfl (lv_at hl 0 rfl) ?_
      refine ti_callVi (ci := 10) (av := []) C hw (s_X10_here l D A cy hJ M_23 iM_23 ) ⟨ml_X10_166, ym_X10_here, yv_X10_here, yi_X10_here, yc_X10_here⟩ yd_X10_here ob_60 (by decide) rfl rfl hl.1 (Nat.le_of_ble_eq_true rfl) ⟨by decide, by decide⟩ ⟨Nat.zero_le _, Nat.zero_le _⟩ dX10_sign_91 (fun r_139 M_140 H locs hp_140 hw => ?_)
      obtain ⟨hm, b0r_139, b1r_139, p0r_139, p1r_139⟩ := hp_140
      have hw := hw.to hm
      have hhr_139 : (hr M_23).toInt = r_139.toInt := by rw [← p1r_139]
      have kr_139 := hr_pk (a := 21) (b := 24) (M := M) (pr.trans (pr_I hM_23 (by decide)) (pr.trans (pr_I hM_18 (by decide)) (pr_I hM_3 (by decide)))) (by decide) iM_23 p1r_139
      have kdr_139 : r_139.toInt = (pt_pk (pt_rB M) (pt_rn0 M) ((tI M 60 21).toInt.toNat + 1)) := by rw [kr_139, show (tI M_23 60 21).toInt.toNat = (tI M 60 21).toInt.toNat + 1 by omega]
      refine lv_bipush (v := 61) hx hb dX10_sign_94 (by decide) ?_
      refine sb_icmp_ne (tgt := 106) hx hb rfl (by decide : (61 : Int32).toInt = 61) dX10_sign_96 (by decide) (fun c_96_140 => ?_) (fun c_96_140 => ?_)
      · have u_293 : (tI M_23 60 20).toInt = (tI M 60 20).toInt := by rw [((tI_nE hM_23 (nk (by decide))).trans ((tI_nE hM_18 (nk (by decide))).trans (tI_nE hM_3 (nk (by decide)))))]
        have u_294 : 0 ≤ (tI M_23 60 20).toInt ∧ (tI M_23 60 20).toInt ≤ 700 := mI_rd (x := tI M_23 60 20) (k := 20) iM_23 rfl
        have u_295 : (tI M_23 60 21).toInt = (x_2 : Int32).toInt := by rw [((tI_nE hM_23 (nk (by decide))).trans ((tI_nE hM_18 (nk (by decide))).trans (tI_uE hM_3)))]
        have u_296 : (tI M_23 60 23).toInt = (3 : Int32).toInt := by rw [((tI_nE hM_23 (nk (by decide))).trans (tI_uE hM_18))]
        have u_297 : (tI M_23 60 24).toInt = (a : Int32).toInt := by rw [(tI_uE hM_23)]
        exact hj_106_237 M_23 3 _ _ _ iM_23 (pr.trans (pr_I hM_23 (by decide)) (pr.trans (pr_I hM_18 (by decide)) (pr_I hM_3 (by decide)))) ((tI_nE hM_23 (nk (by decide))).trans ((tI_nE hM_18 (nk (by decide))).trans (tI_nE hM_3 (nk (by decide))))) (by have lt0 : (3 : Int32).toInt = 3 := (by decide); first | omega | decide) (by have lt0 : (3 : Int32).toInt = 3 := (by decide); first | omega | decide) ((tI_nE hM_23 (nk (by decide))).trans (tI_uE hM_18)) (by have lt0 : (3 : Int32).toInt = 3 := (by decide); first | omega | decide) (by have lt0 : (3 : Int32).toInt = 3 := (by decide); first | omega | decide) (by have lt0 : (3 : Int32).toInt = 3 := (by decide); first | omega | decide) (by have lt0 : (3 : Int32).toInt = 3 := (by decide); first | omega | decide) hw (lv_sub hl [0, 1] rfl)
      · refine lv_aload_n hx hb dX10_sign_99 rfl (lv_at hl 0 rfl) ?_
        refine lv_sipush (v := 256) hx hb dX10_sign_100 (by decide) ?_
        refine ti_putI (ci := 10) (k := 24) (N := 67) (T := TX10) C hw iw_10 tyX10 tyX10_ok nmX10 rfl ob_60 (by decide) (by decide) fl_X10_183 rfl rfl rfl rfl (fn_10 A _) fs_10_24 dX10_sign_103 (fun H locs hw => ?_)
        obtain ⟨M_172, hM_172⟩ : ∃ z : ti_M, z = uI M_23 60 24 256 := ⟨_, rfl⟩
        have hw := hw.to hM_172.symm
        have iM_172 : mI Tm M_172 := mI_va iM_23 hM_172 (fun h => absurd (((tI_nE hM_23 (nk (by decide))).trans (tI_uE hM_18)).symm.trans h) (by decide))
        have v_173 : (tI M_172 60 20).toInt = (tI M_23 60 20).toInt := by rw [tI_nE hM_172 (nk (by decide))]
        have v_174 : (tI M_172 60 21).toInt = (tI M_23 60 21).toInt := by rw [tI_nE hM_172 (nk (by decide))]
        have v_175 : (tI M_172 60 23).toInt = (tI M_23 60 23).toInt := by rw [tI_nE hM_172 (nk (by decide))]
        have v_176 : (tI M_172 60 24).toInt = 256 := by rw [tI_uE hM_172]; decide
        have u_348 : (tI M_172 60 20).toInt = (tI M 60 20).toInt := by rw [((tI_nE hM_172 (nk (by decide))).trans ((tI_nE hM_23 (nk (by decide))).trans ((tI_nE hM_18 (nk (by decide))).trans (tI_nE hM_3 (nk (by decide))))))]
        have u_349 : 0 ≤ (tI M_172 60 20).toInt ∧ (tI M_172 60 20).toInt ≤ 700 := mI_rd (x := tI M_172 60 20) (k := 20) iM_172 rfl
        have u_350 : (tI M_172 60 21).toInt = (x_2 : Int32).toInt := by rw [((tI_nE hM_172 (nk (by decide))).trans ((tI_nE hM_23 (nk (by decide))).trans ((tI_nE hM_18 (nk (by decide))).trans (tI_uE hM_3))))]
        have u_351 : (tI M_172 60 23).toInt = (3 : Int32).toInt := by rw [((tI_nE hM_172 (nk (by decide))).trans ((tI_nE hM_23 (nk (by decide))).trans (tI_uE hM_18)))]
        have u_352 : (tI M_172 60 24).toInt = (256 : Int32).toInt := by rw [(tI_uE hM_172)]
        exact hj_106_237 M_172 3 _ _ _ iM_172 (pr.trans (pr_I hM_172 (by decide)) (pr.trans (pr_I hM_23 (by decide)) (pr.trans (pr_I hM_18 (by decide)) (pr_I hM_3 (by decide))))) ((tI_nE hM_172 (nk (by decide))).trans ((tI_nE hM_23 (nk (by decide))).trans ((tI_nE hM_18 (nk (by decide))).trans (tI_nE hM_3 (nk (by decide)))))) (by have lt0 : (3 : Int32).toInt = 3 := (by decide); first | omega | decide) (by have lt0 : (3 : Int32).toInt = 3 := (by decide); first | omega | decide) ((tI_nE hM_172 (nk (by decide))).trans ((tI_nE hM_23 (nk (by decide))).trans (tI_uE hM_18))) (by have lt0 : (3 : Int32).toInt = 3 := (by decide); first | omega | decide) (by have lt0 : (3 : Int32).toInt = 3 := (by decide); first | omega | decide) (by have lt0 : (3 : Int32).toInt = 3 := (by decide); first | omega | decide) (by have lt0 : (3 : Int32).toInt = 3 := (by decide); first | omega | decide) hw (lv_sub hl [0, 1] rfl)
  · refine lv_iload_n hx hb dX10_sign_17 rfl (lv_at hl 1 rfl) ?_
    refine lv_bipush (v := 40) hx hb dX10_sign_18 (by decide) ?_
    refine sb_icmp_eq (tgt := 71) hx hb rfl (by decide : (40 : Int32).toInt = 40) dX10_sign_20 (by decide) (fun c_20_8 => ?_) (fun c_20_8 => ?_)
    · refine lv_iconst (v := 3) hx hb dX10_sign_71 (by decide) ?_
      refine lv_goto (tgt := 76) hx hb dX10_sign_72 (by decide) ?_
      refine ti_putI (ci := 10) (k := 23) (N := 67) (T := TX10) C hw iw_10 tyX10 tyX10_ok nmX10 rfl ob_60 (by decide) (by decide) fl_X10_173 rfl rfl rfl rfl (fn_10 A _) fs_10_23 dX10_sign_76 (fun H locs hw => ?_)
      obtain ⟨M_29, hM_29⟩ : ∃ z : ti_M, z = uI M_3 60 23 3 := ⟨_, rfl⟩
      have hw := hw.to hM_29.symm
      have iM_29 : mI Tm M_29 := mI_so iM_3 hM_29 (fun h => absurd h (by decide))
      have v_30 : (tI M_29 60 20).toInt = (tI M_3 60 20).toInt := by rw [tI_nE hM_29 (nk (by decide))]
      have v_31 : (tI M_29 60 21).toInt = (tI M_3 60 21).toInt := by rw [tI_nE hM_29 (nk (by decide))]
      have v_32 : (tI M_29 60 23).toInt = 3 := by rw [tI_uE hM_29]; decide
      have v_33 : (tI M_29 60 24).toInt = (tI M_3 60 24).toInt := by rw [tI_nE hM_29 (nk (by decide))]
      refine lv_aload_n hx hb dX10_sign_79 rfl (lv_at hl 0 rfl) ?_
      refine lv_iload_n hx hb dX10_sign_80 rfl (lv_at hl 1 rfl) ?_
      refine ti_putI (ci := 10) (k := 24) (N := 67) (T := TX10) C hw iw_10 tyX10 tyX10_ok nmX10 rfl ob_60 (by decide) (by decide) fl_X10_183 rfl rfl rfl rfl (fn_10 A _) fs_10_24 dX10_sign_81 (fun H locs hw => ?_)
      obtain ⟨M_34, hM_34⟩ : ∃ z : ti_M, z = uI M_29 60 24 a := ⟨_, rfl⟩
      have hw := hw.to hM_34.symm
      have iM_34 : mI Tm M_34 := mI_va iM_29 hM_34 (fun h => absurd ((tI_uE hM_29).symm.trans h) (by decide))
      have v_35 : (tI M_34 60 20).toInt = (tI M_29 60 20).toInt := by rw [tI_nE hM_34 (nk (by decide))]
      have v_36 : (tI M_34 60 21).toInt = (tI M_29 60 21).toInt := by rw [tI_nE hM_34 (nk (by decide))]
      have v_37 : (tI M_34 60 23).toInt = (tI M_29 60 23).toInt := by rw [tI_nE hM_34 (nk (by decide))]
      have v_38 : (tI M_34 60 24).toInt = (a : Int32).toInt := by rw [tI_uE hM_34]
      refine lv_iload_n hx hb dX10_sign_84 rfl (lv_at hl 1 rfl) ?_
      refine lv_bipush (v := 60) hx hb dX10_sign_85 (by decide) ?_
      refine sb_icmp_ne (tgt := 106) hx hb rfl (by decide : (60 : Int32).toInt = 60) dX10_sign_87 (by decide) (fun c_87_38 => ?_) (fun c_87_38 => ?_)
      · have u_243 : (tI M_34 60 20).toInt = (tI M 60 20).toInt := by rw [((tI_nE hM_34 (nk (by decide))).trans ((tI_nE hM_29 (nk (by decide))).trans (tI_nE hM_3 (nk (by decide)))))]
        have u_244 : 0 ≤ (tI M_34 60 20).toInt ∧ (tI M_34 60 20).toInt ≤ 700 := mI_rd (x := tI M_34 60 20) (k := 20) iM_34 rfl
        have u_245 : (tI M_34 60 21).toInt = (x_2 : Int32).toInt := by rw [((tI_nE hM_34 (nk (by decide))).trans ((tI_nE hM_29 (nk (by decide))).trans (tI_uE hM_3)))]
        have u_246 : (tI M_34 60 23).toInt = (3 : Int32).toInt := by rw [((tI_nE hM_34 (nk (by decide))).trans (tI_uE hM_29))]
        have u_247 : (tI M_34 60 24).toInt = (a : Int32).toInt := by rw [(tI_uE hM_34)]
        exact hj_106_237 M_34 3 _ _ _ iM_34 (pr.trans (pr_I hM_34 (by decide)) (pr.trans (pr_I hM_29 (by decide)) (pr_I hM_3 (by decide)))) ((tI_nE hM_34 (nk (by decide))).trans ((tI_nE hM_29 (nk (by decide))).trans (tI_nE hM_3 (nk (by decide))))) (by have lt0 : (3 : Int32).toInt = 3 := (by decide); first | omega | decide) (by have lt0 : (3 : Int32).toInt = 3 := (by decide); first | omega | decide) ((tI_nE hM_34 (nk (by decide))).trans (tI_uE hM_29)) (by have lt0 : (3 : Int32).toInt = 3 := (by decide); first | omega | decide) (by have lt0 : (3 : Int32).toInt = 3 := (by decide); first | omega | decide) (by have lt0 : (3 : Int32).toInt = 3 := (by decide); first | omega | decide) (by have lt0 : (3 : Int32).toInt = 3 := (by decide); first | omega | decide) hw (lv_sub hl [0, 1] rfl)
      · refine lv_aload_n hx hb dX10_sign_90 rfl (lv_at hl 0 rfl) ?_
        refine ti_callVi (ci := 10) (av := []) C hw (s_X10_here l D A cy hJ M_34 iM_34 ) ⟨ml_X10_166, ym_X10_here, yv_X10_here, yi_X10_here, yc_X10_here⟩ yd_X10_here ob_60 (by decide) rfl rfl hl.1 (Nat.le_of_ble_eq_true rfl) ⟨by decide, by decide⟩ ⟨Nat.zero_le _, Nat.zero_le _⟩ dX10_sign_91 (fun r_142 M_143 H locs hp_143 hw => ?_)
        obtain ⟨hm, b0r_142, b1r_142, p0r_142, p1r_142⟩ := hp_143
        have hw := hw.to hm
        have hhr_142 : (hr M_34).toInt = r_142.toInt := by rw [← p1r_142]
        have kr_142 := hr_pk (a := 21) (b := 24) (M := M) (pr.trans (pr_I hM_34 (by decide)) (pr.trans (pr_I hM_29 (by decide)) (pr_I hM_3 (by decide)))) (by decide) iM_34 p1r_142
        have kdr_142 : r_142.toInt = (pt_pk (pt_rB M) (pt_rn0 M) ((tI M 60 21).toInt.toNat + 1)) := by rw [kr_142, show (tI M_34 60 21).toInt.toNat = (tI M 60 21).toInt.toNat + 1 by omega]
        refine lv_bipush (v := 61) hx hb dX10_sign_94 (by decide) ?_
        refine sb_icmp_ne (tgt := 106) hx hb rfl (by decide : (61 : Int32).toInt = 61) dX10_sign_96 (by decide) (fun c_96_143 => ?_) (fun c_96_143 => ?_)
        · have u_298 : (tI M_34 60 20).toInt = (tI M 60 20).toInt := by rw [((tI_nE hM_34 (nk (by decide))).trans ((tI_nE hM_29 (nk (by decide))).trans (tI_nE hM_3 (nk (by decide)))))]
          have u_299 : 0 ≤ (tI M_34 60 20).toInt ∧ (tI M_34 60 20).toInt ≤ 700 := mI_rd (x := tI M_34 60 20) (k := 20) iM_34 rfl
          have u_300 : (tI M_34 60 21).toInt = (x_2 : Int32).toInt := by rw [((tI_nE hM_34 (nk (by decide))).trans ((tI_nE hM_29 (nk (by decide))).trans (tI_uE hM_3)))]
          have u_301 : (tI M_34 60 23).toInt = (3 : Int32).toInt := by rw [((tI_nE hM_34 (nk (by decide))).trans (tI_uE hM_29))]
          have u_302 : (tI M_34 60 24).toInt = (a : Int32).toInt := by rw [(tI_uE hM_34)]
          exact hj_106_237 M_34 3 _ _ _ iM_34 (pr.trans (pr_I hM_34 (by decide)) (pr.trans (pr_I hM_29 (by decide)) (pr_I hM_3 (by decide)))) ((tI_nE hM_34 (nk (by decide))).trans ((tI_nE hM_29 (nk (by decide))).trans (tI_nE hM_3 (nk (by decide))))) (by have lt0 : (3 : Int32).toInt = 3 := (by decide); first | omega | decide) (by have lt0 : (3 : Int32).toInt = 3 := (by decide); first | omega | decide) ((tI_nE hM_34 (nk (by decide))).trans (tI_uE hM_29)) (by have lt0 : (3 : Int32).toInt = 3 := (by decide); first | omega | decide) (by have lt0 : (3 : Int32).toInt = 3 := (by decide); first | omega | decide) (by have lt0 : (3 : Int32).toInt = 3 := (by decide); first | omega | decide) (by have lt0 : (3 : Int32).toInt = 3 := (by decide); first | omega | decide) hw (lv_sub hl [0, 1] rfl)
        · refine lv_aload_n hx hb dX10_sign_99 rfl (lv_at hl 0 rfl) ?_
          refine lv_sipush (v := 256) hx hb dX10_sign_100 (by decide) ?_
          refine ti_putI (ci := 10) (k := 24) (N := 67) (T := TX10) C hw iw_10 tyX10 tyX10_ok nmX10 rfl ob_60 (by decide) (by decide) fl_X10_183 rfl rfl rfl rfl (fn_10 A _) fs_10_24 dX10_sign_103 (fun H locs hw => ?_)
          obtain ⟨M_177, hM_177⟩ : ∃ z : ti_M, z = uI M_34 60 24 256 := ⟨_, rfl⟩
          have hw := hw.to hM_177.symm
          have iM_177 : mI Tm M_177 := mI_va iM_34 hM_177 (fun h => absurd (((tI_nE hM_34 (nk (by decide))).trans (tI_uE hM_29)).symm.trans h) (by decide))
          have v_178 : (tI M_177 60 20).toInt = (tI M_34 60 20).toInt := by rw [tI_nE hM_177 (nk (by decide))]
          have v_179 : (tI M_177 60 21).toInt = (tI M_34 60 21).toInt := by rw [tI_nE hM_177 (nk (by decide))]
          have v_180 : (tI M_177 60 23).toInt = (tI M_34 60 23).toInt := by rw [tI_nE hM_177 (nk (by decide))]
          have v_181 : (tI M_177 60 24).toInt = 256 := by rw [tI_uE hM_177]; decide
          have u_353 : (tI M_177 60 20).toInt = (tI M 60 20).toInt := by rw [((tI_nE hM_177 (nk (by decide))).trans ((tI_nE hM_34 (nk (by decide))).trans ((tI_nE hM_29 (nk (by decide))).trans (tI_nE hM_3 (nk (by decide))))))]
          have u_354 : 0 ≤ (tI M_177 60 20).toInt ∧ (tI M_177 60 20).toInt ≤ 700 := mI_rd (x := tI M_177 60 20) (k := 20) iM_177 rfl
          have u_355 : (tI M_177 60 21).toInt = (x_2 : Int32).toInt := by rw [((tI_nE hM_177 (nk (by decide))).trans ((tI_nE hM_34 (nk (by decide))).trans ((tI_nE hM_29 (nk (by decide))).trans (tI_uE hM_3))))]
          have u_356 : (tI M_177 60 23).toInt = (3 : Int32).toInt := by rw [((tI_nE hM_177 (nk (by decide))).trans ((tI_nE hM_34 (nk (by decide))).trans (tI_uE hM_29)))]
          have u_357 : (tI M_177 60 24).toInt = (256 : Int32).toInt := by rw [(tI_uE hM_177)]
          exact hj_106_237 M_177 3 _ _ _ iM_177 (pr.trans (pr_I hM_177 (by decide)) (pr.trans (pr_I hM_34 (by decide)) (pr.trans (pr_I hM_29 (by decide)) (pr_I hM_3 (by decide))))) ((tI_nE hM_177 (nk (by decide))).trans ((tI_nE hM_34 (nk (by decide))).trans ((tI_nE hM_29 (nk (by decide))).trans (tI_nE hM_3 (nk (by decide)))))) (by have lt0 : (3 : Int32).toInt = 3 := (by decide); first | omega | decide) (by have lt0 : (3 : Int32).toInt = 3 := (by decide); first | omega | decide) ((tI_nE hM_177 (nk (by decide))).trans ((tI_nE hM_34 (nk (by decide))).trans (tI_uE hM_29))) (by have lt0 : (3 : Int32).toInt = 3 := (by decide); first | omega | decide) (by have lt0 : (3 : Int32).toInt = 3 := (by decide); first | omega | decide) (by have lt0 : (3 : Int32).toInt = 3 := (by decide); first | omega | decide) (by have lt0 : (3 : Int32).toInt = 3 := (by decide); first | omega | decide) hw (lv_sub hl [0, 1] rfl)
    · refine lv_iload_n hx hb dX10_sign_23 rfl (lv_at hl 1 rfl) ?_
      refine lv_bipush (v := 41) hx hb dX10_sign_24 (by decide) ?_
      refine sb_icmp_eq (tgt := 71) hx hb rfl (by decide : (41 : Int32).toInt = 41) dX10_sign_26 (by decide) (fun c_26_9 => ?_) (fun c_26_9 => ?_)
      · refine lv_iconst (v := 3) hx hb dX10_sign_71 (by decide) ?_
        refine lv_goto (tgt := 76) hx hb dX10_sign_72 (by decide) ?_
        refine ti_putI (ci := 10) (k := 23) (N := 67) (T := TX10) C hw iw_10 tyX10 tyX10_ok nmX10 rfl ob_60 (by decide) (by decide) fl_X10_173 rfl rfl rfl rfl (fn_10 A _) fs_10_23 dX10_sign_76 (fun H locs hw => ?_)
        obtain ⟨M_40, hM_40⟩ : ∃ z : ti_M, z = uI M_3 60 23 3 := ⟨_, rfl⟩
        have hw := hw.to hM_40.symm
        have iM_40 : mI Tm M_40 := mI_so iM_3 hM_40 (fun h => absurd h (by decide))
        have v_41 : (tI M_40 60 20).toInt = (tI M_3 60 20).toInt := by rw [tI_nE hM_40 (nk (by decide))]
        have v_42 : (tI M_40 60 21).toInt = (tI M_3 60 21).toInt := by rw [tI_nE hM_40 (nk (by decide))]
        have v_43 : (tI M_40 60 23).toInt = 3 := by rw [tI_uE hM_40]; decide
        have v_44 : (tI M_40 60 24).toInt = (tI M_3 60 24).toInt := by rw [tI_nE hM_40 (nk (by decide))]
        refine lv_aload_n hx hb dX10_sign_79 rfl (lv_at hl 0 rfl) ?_
        refine lv_iload_n hx hb dX10_sign_80 rfl (lv_at hl 1 rfl) ?_
        refine ti_putI (ci := 10) (k := 24) (N := 67) (T := TX10) C hw iw_10 tyX10 tyX10_ok nmX10 rfl ob_60 (by decide) (by decide) fl_X10_183 rfl rfl rfl rfl (fn_10 A _) fs_10_24 dX10_sign_81 (fun H locs hw => ?_)
        obtain ⟨M_45, hM_45⟩ : ∃ z : ti_M, z = uI M_40 60 24 a := ⟨_, rfl⟩
        have hw := hw.to hM_45.symm
        have iM_45 : mI Tm M_45 := mI_va iM_40 hM_45 (fun h => absurd ((tI_uE hM_40).symm.trans h) (by decide))
        have v_46 : (tI M_45 60 20).toInt = (tI M_40 60 20).toInt := by rw [tI_nE hM_45 (nk (by decide))]
        have v_47 : (tI M_45 60 21).toInt = (tI M_40 60 21).toInt := by rw [tI_nE hM_45 (nk (by decide))]
        have v_48 : (tI M_45 60 23).toInt = (tI M_40 60 23).toInt := by rw [tI_nE hM_45 (nk (by decide))]
        have v_49 : (tI M_45 60 24).toInt = (a : Int32).toInt := by rw [tI_uE hM_45]
        refine lv_iload_n hx hb dX10_sign_84 rfl (lv_at hl 1 rfl) ?_
        refine lv_bipush (v := 60) hx hb dX10_sign_85 (by decide) ?_
        refine sb_icmp_ne (tgt := 106) hx hb rfl (by decide : (60 : Int32).toInt = 60) dX10_sign_87 (by decide) (fun c_87_49 => ?_) (fun c_87_49 => ?_)
        · have u_248 : (tI M_45 60 20).toInt = (tI M 60 20).toInt := by rw [((tI_nE hM_45 (nk (by decide))).trans ((tI_nE hM_40 (nk (by decide))).trans (tI_nE hM_3 (nk (by decide)))))]
          have u_249 : 0 ≤ (tI M_45 60 20).toInt ∧ (tI M_45 60 20).toInt ≤ 700 := mI_rd (x := tI M_45 60 20) (k := 20) iM_45 rfl
          have u_250 : (tI M_45 60 21).toInt = (x_2 : Int32).toInt := by rw [((tI_nE hM_45 (nk (by decide))).trans ((tI_nE hM_40 (nk (by decide))).trans (tI_uE hM_3)))]
          have u_251 : (tI M_45 60 23).toInt = (3 : Int32).toInt := by rw [((tI_nE hM_45 (nk (by decide))).trans (tI_uE hM_40))]
          have u_252 : (tI M_45 60 24).toInt = (a : Int32).toInt := by rw [(tI_uE hM_45)]
          exact hj_106_237 M_45 3 _ _ _ iM_45 (pr.trans (pr_I hM_45 (by decide)) (pr.trans (pr_I hM_40 (by decide)) (pr_I hM_3 (by decide)))) ((tI_nE hM_45 (nk (by decide))).trans ((tI_nE hM_40 (nk (by decide))).trans (tI_nE hM_3 (nk (by decide))))) (by have lt0 : (3 : Int32).toInt = 3 := (by decide); first | omega | decide) (by have lt0 : (3 : Int32).toInt = 3 := (by decide); first | omega | decide) ((tI_nE hM_45 (nk (by decide))).trans (tI_uE hM_40)) (by have lt0 : (3 : Int32).toInt = 3 := (by decide); first | omega | decide) (by have lt0 : (3 : Int32).toInt = 3 := (by decide); first | omega | decide) (by have lt0 : (3 : Int32).toInt = 3 := (by decide); first | omega | decide) (by have lt0 : (3 : Int32).toInt = 3 := (by decide); first | omega | decide) hw (lv_sub hl [0, 1] rfl)
        · refine lv_aload_n hx hb dX10_sign_90 rfl (lv_at hl 0 rfl) ?_
          refine ti_callVi (ci := 10) (av := []) C hw (s_X10_here l D A cy hJ M_45 iM_45 ) ⟨ml_X10_166, ym_X10_here, yv_X10_here, yi_X10_here, yc_X10_here⟩ yd_X10_here ob_60 (by decide) rfl rfl hl.1 (Nat.le_of_ble_eq_true rfl) ⟨by decide, by decide⟩ ⟨Nat.zero_le _, Nat.zero_le _⟩ dX10_sign_91 (fun r_145 M_146 H locs hp_146 hw => ?_)
          obtain ⟨hm, b0r_145, b1r_145, p0r_145, p1r_145⟩ := hp_146
          have hw := hw.to hm
          have hhr_145 : (hr M_45).toInt = r_145.toInt := by rw [← p1r_145]
          have kr_145 := hr_pk (a := 21) (b := 24) (M := M) (pr.trans (pr_I hM_45 (by decide)) (pr.trans (pr_I hM_40 (by decide)) (pr_I hM_3 (by decide)))) (by decide) iM_45 p1r_145
          have kdr_145 : r_145.toInt = (pt_pk (pt_rB M) (pt_rn0 M) ((tI M 60 21).toInt.toNat + 1)) := by rw [kr_145, show (tI M_45 60 21).toInt.toNat = (tI M 60 21).toInt.toNat + 1 by omega]
          refine lv_bipush (v := 61) hx hb dX10_sign_94 (by decide) ?_
          refine sb_icmp_ne (tgt := 106) hx hb rfl (by decide : (61 : Int32).toInt = 61) dX10_sign_96 (by decide) (fun c_96_146 => ?_) (fun c_96_146 => ?_)
          · have u_303 : (tI M_45 60 20).toInt = (tI M 60 20).toInt := by rw [((tI_nE hM_45 (nk (by decide))).trans ((tI_nE hM_40 (nk (by decide))).trans (tI_nE hM_3 (nk (by decide)))))]
            have u_304 : 0 ≤ (tI M_45 60 20).toInt ∧ (tI M_45 60 20).toInt ≤ 700 := mI_rd (x := tI M_45 60 20) (k := 20) iM_45 rfl
            have u_305 : (tI M_45 60 21).toInt = (x_2 : Int32).toInt := by rw [((tI_nE hM_45 (nk (by decide))).trans ((tI_nE hM_40 (nk (by decide))).trans (tI_uE hM_3)))]
            have u_306 : (tI M_45 60 23).toInt = (3 : Int32).toInt := by rw [((tI_nE hM_45 (nk (by decide))).trans (tI_uE hM_40))]
            have u_307 : (tI M_45 60 24).toInt = (a : Int32).toInt := by rw [(tI_uE hM_45)]
            exact hj_106_237 M_45 3 _ _ _ iM_45 (pr.trans (pr_I hM_45 (by decide)) (pr.trans (pr_I hM_40 (by decide)) (pr_I hM_3 (by decide)))) ((tI_nE hM_45 (nk (by decide))).trans ((tI_nE hM_40 (nk (by decide))).trans (tI_nE hM_3 (nk (by decide))))) (by have lt0 : (3 : Int32).toInt = 3 := (by decide); first | omega | decide) (by have lt0 : (3 : Int32).toInt = 3 := (by decide); first | omega | decide) ((tI_nE hM_45 (nk (by decide))).trans (tI_uE hM_40)) (by have lt0 : (3 : Int32).toInt = 3 := (by decide); first | omega | decide) (by have lt0 : (3 : Int32).toInt = 3 := (by decide); first | omega | decide) (by have lt0 : (3 : Int32).toInt = 3 := (by decide); first | omega | decide) (by have lt0 : (3 : Int32).toInt = 3 := (by decide); first | omega | decide) hw (lv_sub hl [0, 1] rfl)
          · refine lv_aload_n hx hb dX10_sign_99 rfl (lv_at hl 0 rfl) ?_
            refine lv_sipush (v := 256) hx hb dX10_sign_100 (by decide) ?_
            refine ti_putI (ci := 10) (k := 24) (N := 67) (T := TX10) C hw iw_10 tyX10 tyX10_ok nmX10 rfl ob_60 (by decide) (by decide) fl_X10_183 rfl rfl rfl rfl (fn_10 A _) fs_10_24 dX10_sign_103 (fun H locs hw => ?_)
            obtain ⟨M_182, hM_182⟩ : ∃ z : ti_M, z = uI M_45 60 24 256 := ⟨_, rfl⟩
            have hw := hw.to hM_182.symm
            have iM_182 : mI Tm M_182 := mI_va iM_45 hM_182 (fun h => absurd (((tI_nE hM_45 (nk (by decide))).trans (tI_uE hM_40)).symm.trans h) (by decide))
            have v_183 : (tI M_182 60 20).toInt = (tI M_45 60 20).toInt := by rw [tI_nE hM_182 (nk (by decide))]
            have v_184 : (tI M_182 60 21).toInt = (tI M_45 60 21).toInt := by rw [tI_nE hM_182 (nk (by decide))]
            have v_185 : (tI M_182 60 23).toInt = (tI M_45 60 23).toInt := by rw [tI_nE hM_182 (nk (by decide))]
            have v_186 : (tI M_182 60 24).toInt = 256 := by rw [tI_uE hM_182]; decide
            have u_358 : (tI M_182 60 20).toInt = (tI M 60 20).toInt := by rw [((tI_nE hM_182 (nk (by decide))).trans ((tI_nE hM_45 (nk (by decide))).trans ((tI_nE hM_40 (nk (by decide))).trans (tI_nE hM_3 (nk (by decide))))))]
            have u_359 : 0 ≤ (tI M_182 60 20).toInt ∧ (tI M_182 60 20).toInt ≤ 700 := mI_rd (x := tI M_182 60 20) (k := 20) iM_182 rfl
            have u_360 : (tI M_182 60 21).toInt = (x_2 : Int32).toInt := by rw [((tI_nE hM_182 (nk (by decide))).trans ((tI_nE hM_45 (nk (by decide))).trans ((tI_nE hM_40 (nk (by decide))).trans (tI_uE hM_3))))]
            have u_361 : (tI M_182 60 23).toInt = (3 : Int32).toInt := by rw [((tI_nE hM_182 (nk (by decide))).trans ((tI_nE hM_45 (nk (by decide))).trans (tI_uE hM_40)))]
            have u_362 : (tI M_182 60 24).toInt = (256 : Int32).toInt := by rw [(tI_uE hM_182)]
            exact hj_106_237 M_182 3 _ _ _ iM_182 (pr.trans (pr_I hM_182 (by decide)) (pr.trans (pr_I hM_45 (by decide)) (pr.trans (pr_I hM_40 (by decide)) (pr_I hM_3 (by decide))))) ((tI_nE hM_182 (nk (by decide))).trans ((tI_nE hM_45 (nk (by decide))).trans ((tI_nE hM_40 (nk (by decide))).trans (tI_nE hM_3 (nk (by decide)))))) (by have lt0 : (3 : Int32).toInt = 3 := (by decide); first | omega | decide) (by have lt0 : (3 : Int32).toInt = 3 := (by decide); first | omega | decide) ((tI_nE hM_182 (nk (by decide))).trans ((tI_nE hM_45 (nk (by decide))).trans (tI_uE hM_40))) (by have lt0 : (3 : Int32).toInt = 3 := (by decide); first | omega | decide) (by have lt0 : (3 : Int32).toInt = 3 := (by decide); first | omega | decide) (by have lt0 : (3 : Int32).toInt = 3 := (by decide); first | omega | decide) (by have lt0 : (3 : Int32).toInt = 3 := (by decide); first | omega | decide) hw (lv_sub hl [0, 1] rfl)
      · refine lv_iload_n hx hb dX10_sign_29 rfl (lv_at hl 1 rfl) ?_
        refine lv_bipush (v := 43) hx hb dX10_sign_30 (by decide) ?_
        refine sb_icmp_eq (tgt := 71) hx hb rfl (by decide : (43 : Int32).toInt = 43) dX10_sign_32 (by decide) (fun c_32_10 => ?_) (fun c_32_10 => ?_)
        · refine lv_iconst (v := 3) hx hb dX10_sign_71 (by decide) ?_
          refine lv_goto (tgt := 76) hx hb dX10_sign_72 (by decide) ?_
          refine ti_putI (ci := 10) (k := 23) (N := 67) (T := TX10) C hw iw_10 tyX10 tyX10_ok nmX10 rfl ob_60 (by decide) (by decide) fl_X10_173 rfl rfl rfl rfl (fn_10 A _) fs_10_23 dX10_sign_76 (fun H locs hw => ?_)
          obtain ⟨M_51, hM_51⟩ : ∃ z : ti_M, z = uI M_3 60 23 3 := ⟨_, rfl⟩
          have hw := hw.to hM_51.symm
          have iM_51 : mI Tm M_51 := mI_so iM_3 hM_51 (fun h => absurd h (by decide))
          have v_52 : (tI M_51 60 20).toInt = (tI M_3 60 20).toInt := by rw [tI_nE hM_51 (nk (by decide))]
          have v_53 : (tI M_51 60 21).toInt = (tI M_3 60 21).toInt := by rw [tI_nE hM_51 (nk (by decide))]
          have v_54 : (tI M_51 60 23).toInt = 3 := by rw [tI_uE hM_51]; decide
          have v_55 : (tI M_51 60 24).toInt = (tI M_3 60 24).toInt := by rw [tI_nE hM_51 (nk (by decide))]
          refine lv_aload_n hx hb dX10_sign_79 rfl (lv_at hl 0 rfl) ?_
          refine lv_iload_n hx hb dX10_sign_80 rfl (lv_at hl 1 rfl) ?_
          refine ti_putI (ci := 10) (k := 24) (N := 67) (T := TX10) C hw iw_10 tyX10 tyX10_ok nmX10 rfl ob_60 (by decide) (by decide) fl_X10_183 rfl rfl rfl rfl (fn_10 A _) fs_10_24 dX10_sign_81 (fun H locs hw => ?_)
          obtain ⟨M_56, hM_56⟩ : ∃ z : ti_M, z = uI M_51 60 24 a := ⟨_, rfl⟩
          have hw := hw.to hM_56.symm
          have iM_56 : mI Tm M_56 := mI_va iM_51 hM_56 (fun h => absurd ((tI_uE hM_51).symm.trans h) (by decide))
          have v_57 : (tI M_56 60 20).toInt = (tI M_51 60 20).toInt := by rw [tI_nE hM_56 (nk (by decide))]
          have v_58 : (tI M_56 60 21).toInt = (tI M_51 60 21).toInt := by rw [tI_nE hM_56 (nk (by decide))]
          have v_59 : (tI M_56 60 23).toInt = (tI M_51 60 23).toInt := by rw [tI_nE hM_56 (nk (by decide))]
          have v_60 : (tI M_56 60 24).toInt = (a : Int32).toInt := by rw [tI_uE hM_56]
          refine lv_iload_n hx hb dX10_sign_84 rfl (lv_at hl 1 rfl) ?_
          refine lv_bipush (v := 60) hx hb dX10_sign_85 (by decide) ?_
          refine sb_icmp_ne (tgt := 106) hx hb rfl (by decide : (60 : Int32).toInt = 60) dX10_sign_87 (by decide) (fun c_87_60 => ?_) (fun c_87_60 => ?_)
          · have u_253 : (tI M_56 60 20).toInt = (tI M 60 20).toInt := by rw [((tI_nE hM_56 (nk (by decide))).trans ((tI_nE hM_51 (nk (by decide))).trans (tI_nE hM_3 (nk (by decide)))))]
            have u_254 : 0 ≤ (tI M_56 60 20).toInt ∧ (tI M_56 60 20).toInt ≤ 700 := mI_rd (x := tI M_56 60 20) (k := 20) iM_56 rfl
            have u_255 : (tI M_56 60 21).toInt = (x_2 : Int32).toInt := by rw [((tI_nE hM_56 (nk (by decide))).trans ((tI_nE hM_51 (nk (by decide))).trans (tI_uE hM_3)))]
            have u_256 : (tI M_56 60 23).toInt = (3 : Int32).toInt := by rw [((tI_nE hM_56 (nk (by decide))).trans (tI_uE hM_51))]
            have u_257 : (tI M_56 60 24).toInt = (a : Int32).toInt := by rw [(tI_uE hM_56)]
            exact hj_106_237 M_56 3 _ _ _ iM_56 (pr.trans (pr_I hM_56 (by decide)) (pr.trans (pr_I hM_51 (by decide)) (pr_I hM_3 (by decide)))) ((tI_nE hM_56 (nk (by decide))).trans ((tI_nE hM_51 (nk (by decide))).trans (tI_nE hM_3 (nk (by decide))))) (by have lt0 : (3 : Int32).toInt = 3 := (by decide); first | omega | decide) (by have lt0 : (3 : Int32).toInt = 3 := (by decide); first | omega | decide) ((tI_nE hM_56 (nk (by decide))).trans (tI_uE hM_51)) (by have lt0 : (3 : Int32).toInt = 3 := (by decide); first | omega | decide) (by have lt0 : (3 : Int32).toInt = 3 := (by decide); first | omega | decide) (by have lt0 : (3 : Int32).toInt = 3 := (by decide); first | omega | decide) (by have lt0 : (3 : Int32).toInt = 3 := (by decide); first | omega | decide) hw (lv_sub hl [0, 1] rfl)
          · refine lv_aload_n hx hb dX10_sign_90 rfl (lv_at hl 0 rfl) ?_
            refine ti_callVi (ci := 10) (av := []) C hw (s_X10_here l D A cy hJ M_56 iM_56 ) ⟨ml_X10_166, ym_X10_here, yv_X10_here, yi_X10_here, yc_X10_here⟩ yd_X10_here ob_60 (by decide) rfl rfl hl.1 (Nat.le_of_ble_eq_true rfl) ⟨by decide, by decide⟩ ⟨Nat.zero_le _, Nat.zero_le _⟩ dX10_sign_91 (fun r_148 M_149 H locs hp_149 hw => ?_)
            obtain ⟨hm, b0r_148, b1r_148, p0r_148, p1r_148⟩ := hp_149
            have hw := hw.to hm
            have hhr_148 : (hr M_56).toInt = r_148.toInt := by rw [← p1r_148]
            have kr_148 := hr_pk (a := 21) (b := 24) (M := M) (pr.trans (pr_I hM_56 (by decide)) (pr.trans (pr_I hM_51 (by decide)) (pr_I hM_3 (by decide)))) (by decide) iM_56 p1r_148
            have kdr_148 : r_148.toInt = (pt_pk (pt_rB M) (pt_rn0 M) ((tI M 60 21).toInt.toNat + 1)) := by rw [kr_148, show (tI M_56 60 21).toInt.toNat = (tI M 60 21).toInt.toNat + 1 by omega]
            refine lv_bipush (v := 61) hx hb dX10_sign_94 (by decide) ?_
            refine sb_icmp_ne (tgt := 106) hx hb rfl (by decide : (61 : Int32).toInt = 61) dX10_sign_96 (by decide) (fun c_96_149 => ?_) (fun c_96_149 => ?_)
            · have u_308 : (tI M_56 60 20).toInt = (tI M 60 20).toInt := by rw [((tI_nE hM_56 (nk (by decide))).trans ((tI_nE hM_51 (nk (by decide))).trans (tI_nE hM_3 (nk (by decide)))))]
              have u_309 : 0 ≤ (tI M_56 60 20).toInt ∧ (tI M_56 60 20).toInt ≤ 700 := mI_rd (x := tI M_56 60 20) (k := 20) iM_56 rfl
              have u_310 : (tI M_56 60 21).toInt = (x_2 : Int32).toInt := by rw [((tI_nE hM_56 (nk (by decide))).trans ((tI_nE hM_51 (nk (by decide))).trans (tI_uE hM_3)))]
              have u_311 : (tI M_56 60 23).toInt = (3 : Int32).toInt := by rw [((tI_nE hM_56 (nk (by decide))).trans (tI_uE hM_51))]
              have u_312 : (tI M_56 60 24).toInt = (a : Int32).toInt := by rw [(tI_uE hM_56)]
              exact hj_106_237 M_56 3 _ _ _ iM_56 (pr.trans (pr_I hM_56 (by decide)) (pr.trans (pr_I hM_51 (by decide)) (pr_I hM_3 (by decide)))) ((tI_nE hM_56 (nk (by decide))).trans ((tI_nE hM_51 (nk (by decide))).trans (tI_nE hM_3 (nk (by decide))))) (by have lt0 : (3 : Int32).toInt = 3 := (by decide); first | omega | decide) (by have lt0 : (3 : Int32).toInt = 3 := (by decide); first | omega | decide) ((tI_nE hM_56 (nk (by decide))).trans (tI_uE hM_51)) (by have lt0 : (3 : Int32).toInt = 3 := (by decide); first | omega | decide) (by have lt0 : (3 : Int32).toInt = 3 := (by decide); first | omega | decide) (by have lt0 : (3 : Int32).toInt = 3 := (by decide); first | omega | decide) (by have lt0 : (3 : Int32).toInt = 3 := (by decide); first | omega | decide) hw (lv_sub hl [0, 1] rfl)
            · refine lv_aload_n hx hb dX10_sign_99 rfl (lv_at hl 0 rfl) ?_
              refine lv_sipush (v := 256) hx hb dX10_sign_100 (by decide) ?_
              refine ti_putI (ci := 10) (k := 24) (N := 67) (T := TX10) C hw iw_10 tyX10 tyX10_ok nmX10 rfl ob_60 (by decide) (by decide) fl_X10_183 rfl rfl rfl rfl (fn_10 A _) fs_10_24 dX10_sign_103 (fun H locs hw => ?_)
              obtain ⟨M_187, hM_187⟩ : ∃ z : ti_M, z = uI M_56 60 24 256 := ⟨_, rfl⟩
              have hw := hw.to hM_187.symm
              have iM_187 : mI Tm M_187 := mI_va iM_56 hM_187 (fun h => absurd (((tI_nE hM_56 (nk (by decide))).trans (tI_uE hM_51)).symm.trans h) (by decide))
              have v_188 : (tI M_187 60 20).toInt = (tI M_56 60 20).toInt := by rw [tI_nE hM_187 (nk (by decide))]
              have v_189 : (tI M_187 60 21).toInt = (tI M_56 60 21).toInt := by rw [tI_nE hM_187 (nk (by decide))]
              have v_190 : (tI M_187 60 23).toInt = (tI M_56 60 23).toInt := by rw [tI_nE hM_187 (nk (by decide))]
              have v_191 : (tI M_187 60 24).toInt = 256 := by rw [tI_uE hM_187]; decide
              have u_363 : (tI M_187 60 20).toInt = (tI M 60 20).toInt := by rw [((tI_nE hM_187 (nk (by decide))).trans ((tI_nE hM_56 (nk (by decide))).trans ((tI_nE hM_51 (nk (by decide))).trans (tI_nE hM_3 (nk (by decide))))))]
              have u_364 : 0 ≤ (tI M_187 60 20).toInt ∧ (tI M_187 60 20).toInt ≤ 700 := mI_rd (x := tI M_187 60 20) (k := 20) iM_187 rfl
              have u_365 : (tI M_187 60 21).toInt = (x_2 : Int32).toInt := by rw [((tI_nE hM_187 (nk (by decide))).trans ((tI_nE hM_56 (nk (by decide))).trans ((tI_nE hM_51 (nk (by decide))).trans (tI_uE hM_3))))]
              have u_366 : (tI M_187 60 23).toInt = (3 : Int32).toInt := by rw [((tI_nE hM_187 (nk (by decide))).trans ((tI_nE hM_56 (nk (by decide))).trans (tI_uE hM_51)))]
              have u_367 : (tI M_187 60 24).toInt = (256 : Int32).toInt := by rw [(tI_uE hM_187)]
              exact hj_106_237 M_187 3 _ _ _ iM_187 (pr.trans (pr_I hM_187 (by decide)) (pr.trans (pr_I hM_56 (by decide)) (pr.trans (pr_I hM_51 (by decide)) (pr_I hM_3 (by decide))))) ((tI_nE hM_187 (nk (by decide))).trans ((tI_nE hM_56 (nk (by decide))).trans ((tI_nE hM_51 (nk (by decide))).trans (tI_nE hM_3 (nk (by decide)))))) (by have lt0 : (3 : Int32).toInt = 3 := (by decide); first | omega | decide) (by have lt0 : (3 : Int32).toInt = 3 := (by decide); first | omega | decide) ((tI_nE hM_187 (nk (by decide))).trans ((tI_nE hM_56 (nk (by decide))).trans (tI_uE hM_51))) (by have lt0 : (3 : Int32).toInt = 3 := (by decide); first | omega | decide) (by have lt0 : (3 : Int32).toInt = 3 := (by decide); first | omega | decide) (by have lt0 : (3 : Int32).toInt = 3 := (by decide); first | omega | decide) (by have lt0 : (3 : Int32).toInt = 3 := (by decide); first | omega | decide) hw (lv_sub hl [0, 1] rfl)
        · refine lv_iload_n hx hb dX10_sign_35 rfl (lv_at hl 1 rfl) ?_
          refine lv_bipush (v := 45) hx hb dX10_sign_36 (by decide) ?_
          refine sb_icmp_eq (tgt := 71) hx hb rfl (by decide : (45 : Int32).toInt = 45) dX10_sign_38 (by decide) (fun c_38_11 => ?_) (fun c_38_11 => ?_)
          · refine lv_iconst (v := 3) hx hb dX10_sign_71 (by decide) ?_
            refine lv_goto (tgt := 76) hx hb dX10_sign_72 (by decide) ?_
            refine ti_putI (ci := 10) (k := 23) (N := 67) (T := TX10) C hw iw_10 tyX10 tyX10_ok nmX10 rfl ob_60 (by decide) (by decide) fl_X10_173 rfl rfl rfl rfl (fn_10 A _) fs_10_23 dX10_sign_76 (fun H locs hw => ?_)
            obtain ⟨M_62, hM_62⟩ : ∃ z : ti_M, z = uI M_3 60 23 3 := ⟨_, rfl⟩
            have hw := hw.to hM_62.symm
            have iM_62 : mI Tm M_62 := mI_so iM_3 hM_62 (fun h => absurd h (by decide))
            have v_63 : (tI M_62 60 20).toInt = (tI M_3 60 20).toInt := by rw [tI_nE hM_62 (nk (by decide))]
            have v_64 : (tI M_62 60 21).toInt = (tI M_3 60 21).toInt := by rw [tI_nE hM_62 (nk (by decide))]
            have v_65 : (tI M_62 60 23).toInt = 3 := by rw [tI_uE hM_62]; decide
            have v_66 : (tI M_62 60 24).toInt = (tI M_3 60 24).toInt := by rw [tI_nE hM_62 (nk (by decide))]
            refine lv_aload_n hx hb dX10_sign_79 rfl (lv_at hl 0 rfl) ?_
            refine lv_iload_n hx hb dX10_sign_80 rfl (lv_at hl 1 rfl) ?_
            refine ti_putI (ci := 10) (k := 24) (N := 67) (T := TX10) C hw iw_10 tyX10 tyX10_ok nmX10 rfl ob_60 (by decide) (by decide) fl_X10_183 rfl rfl rfl rfl (fn_10 A _) fs_10_24 dX10_sign_81 (fun H locs hw => ?_)
            obtain ⟨M_67, hM_67⟩ : ∃ z : ti_M, z = uI M_62 60 24 a := ⟨_, rfl⟩
            have hw := hw.to hM_67.symm
            have iM_67 : mI Tm M_67 := mI_va iM_62 hM_67 (fun h => absurd ((tI_uE hM_62).symm.trans h) (by decide))
            have v_68 : (tI M_67 60 20).toInt = (tI M_62 60 20).toInt := by rw [tI_nE hM_67 (nk (by decide))]
            have v_69 : (tI M_67 60 21).toInt = (tI M_62 60 21).toInt := by rw [tI_nE hM_67 (nk (by decide))]
            have v_70 : (tI M_67 60 23).toInt = (tI M_62 60 23).toInt := by rw [tI_nE hM_67 (nk (by decide))]
            have v_71 : (tI M_67 60 24).toInt = (a : Int32).toInt := by rw [tI_uE hM_67]
            refine lv_iload_n hx hb dX10_sign_84 rfl (lv_at hl 1 rfl) ?_
            refine lv_bipush (v := 60) hx hb dX10_sign_85 (by decide) ?_
            refine sb_icmp_ne (tgt := 106) hx hb rfl (by decide : (60 : Int32).toInt = 60) dX10_sign_87 (by decide) (fun c_87_71 => ?_) (fun c_87_71 => ?_)
            · have u_258 : (tI M_67 60 20).toInt = (tI M 60 20).toInt := by rw [((tI_nE hM_67 (nk (by decide))).trans ((tI_nE hM_62 (nk (by decide))).trans (tI_nE hM_3 (nk (by decide)))))]
              have u_259 : 0 ≤ (tI M_67 60 20).toInt ∧ (tI M_67 60 20).toInt ≤ 700 := mI_rd (x := tI M_67 60 20) (k := 20) iM_67 rfl
              have u_260 : (tI M_67 60 21).toInt = (x_2 : Int32).toInt := by rw [((tI_nE hM_67 (nk (by decide))).trans ((tI_nE hM_62 (nk (by decide))).trans (tI_uE hM_3)))]
              have u_261 : (tI M_67 60 23).toInt = (3 : Int32).toInt := by rw [((tI_nE hM_67 (nk (by decide))).trans (tI_uE hM_62))]
              have u_262 : (tI M_67 60 24).toInt = (a : Int32).toInt := by rw [(tI_uE hM_67)]
              exact hj_106_237 M_67 3 _ _ _ iM_67 (pr.trans (pr_I hM_67 (by decide)) (pr.trans (pr_I hM_62 (by decide)) (pr_I hM_3 (by decide)))) ((tI_nE hM_67 (nk (by decide))).trans ((tI_nE hM_62 (nk (by decide))).trans (tI_nE hM_3 (nk (by decide))))) (by have lt0 : (3 : Int32).toInt = 3 := (by decide); first | omega | decide) (by have lt0 : (3 : Int32).toInt = 3 := (by decide); first | omega | decide) ((tI_nE hM_67 (nk (by decide))).trans (tI_uE hM_62)) (by have lt0 : (3 : Int32).toInt = 3 := (by decide); first | omega | decide) (by have lt0 : (3 : Int32).toInt = 3 := (by decide); first | omega | decide) (by have lt0 : (3 : Int32).toInt = 3 := (by decide); first | omega | decide) (by have lt0 : (3 : Int32).toInt = 3 := (by decide); first | omega | decide) hw (lv_sub hl [0, 1] rfl)
            · refine lv_aload_n hx hb dX10_sign_90 rfl (lv_at hl 0 rfl) ?_
              refine ti_callVi (ci := 10) (av := []) C hw (s_X10_here l D A cy hJ M_67 iM_67 ) ⟨ml_X10_166, ym_X10_here, yv_X10_here, yi_X10_here, yc_X10_here⟩ yd_X10_here ob_60 (by decide) rfl rfl hl.1 (Nat.le_of_ble_eq_true rfl) ⟨by decide, by decide⟩ ⟨Nat.zero_le _, Nat.zero_le _⟩ dX10_sign_91 (fun r_151 M_152 H locs hp_152 hw => ?_)
              obtain ⟨hm, b0r_151, b1r_151, p0r_151, p1r_151⟩ := hp_152
              have hw := hw.to hm
              have hhr_151 : (hr M_67).toInt = r_151.toInt := by rw [← p1r_151]
              have kr_151 := hr_pk (a := 21) (b := 24) (M := M) (pr.trans (pr_I hM_67 (by decide)) (pr.trans (pr_I hM_62 (by decide)) (pr_I hM_3 (by decide)))) (by decide) iM_67 p1r_151
              have kdr_151 : r_151.toInt = (pt_pk (pt_rB M) (pt_rn0 M) ((tI M 60 21).toInt.toNat + 1)) := by rw [kr_151, show (tI M_67 60 21).toInt.toNat = (tI M 60 21).toInt.toNat + 1 by omega]
              refine lv_bipush (v := 61) hx hb dX10_sign_94 (by decide) ?_
              refine sb_icmp_ne (tgt := 106) hx hb rfl (by decide : (61 : Int32).toInt = 61) dX10_sign_96 (by decide) (fun c_96_152 => ?_) (fun c_96_152 => ?_)
              · have u_313 : (tI M_67 60 20).toInt = (tI M 60 20).toInt := by rw [((tI_nE hM_67 (nk (by decide))).trans ((tI_nE hM_62 (nk (by decide))).trans (tI_nE hM_3 (nk (by decide)))))]
                have u_314 : 0 ≤ (tI M_67 60 20).toInt ∧ (tI M_67 60 20).toInt ≤ 700 := mI_rd (x := tI M_67 60 20) (k := 20) iM_67 rfl
                have u_315 : (tI M_67 60 21).toInt = (x_2 : Int32).toInt := by rw [((tI_nE hM_67 (nk (by decide))).trans ((tI_nE hM_62 (nk (by decide))).trans (tI_uE hM_3)))]
                have u_316 : (tI M_67 60 23).toInt = (3 : Int32).toInt := by rw [((tI_nE hM_67 (nk (by decide))).trans (tI_uE hM_62))]
                have u_317 : (tI M_67 60 24).toInt = (a : Int32).toInt := by rw [(tI_uE hM_67)]
                exact hj_106_237 M_67 3 _ _ _ iM_67 (pr.trans (pr_I hM_67 (by decide)) (pr.trans (pr_I hM_62 (by decide)) (pr_I hM_3 (by decide)))) ((tI_nE hM_67 (nk (by decide))).trans ((tI_nE hM_62 (nk (by decide))).trans (tI_nE hM_3 (nk (by decide))))) (by have lt0 : (3 : Int32).toInt = 3 := (by decide); first | omega | decide) (by have lt0 : (3 : Int32).toInt = 3 := (by decide); first | omega | decide) ((tI_nE hM_67 (nk (by decide))).trans (tI_uE hM_62)) (by have lt0 : (3 : Int32).toInt = 3 := (by decide); first | omega | decide) (by have lt0 : (3 : Int32).toInt = 3 := (by decide); first | omega | decide) (by have lt0 : (3 : Int32).toInt = 3 := (by decide); first | omega | decide) (by have lt0 : (3 : Int32).toInt = 3 := (by decide); first | omega | decide) hw (lv_sub hl [0, 1] rfl)
              · refine lv_aload_n hx hb dX10_sign_99 rfl (lv_at hl 0 rfl) ?_
                refine lv_sipush (v := 256) hx hb dX10_sign_100 (by decide) ?_
                refine ti_putI (ci := 10) (k := 24) (N := 67) (T := TX10) C hw iw_10 tyX10 tyX10_ok nmX10 rfl ob_60 (by decide) (by decide) fl_X10_183 rfl rfl rfl rfl (fn_10 A _) fs_10_24 dX10_sign_103 (fun H locs hw => ?_)
                obtain ⟨M_192, hM_192⟩ : ∃ z : ti_M, z = uI M_67 60 24 256 := ⟨_, rfl⟩
                have hw := hw.to hM_192.symm
                have iM_192 : mI Tm M_192 := mI_va iM_67 hM_192 (fun h => absurd (((tI_nE hM_67 (nk (by decide))).trans (tI_uE hM_62)).symm.trans h) (by decide))
                have v_193 : (tI M_192 60 20).toInt = (tI M_67 60 20).toInt := by rw [tI_nE hM_192 (nk (by decide))]
                have v_194 : (tI M_192 60 21).toInt = (tI M_67 60 21).toInt := by rw [tI_nE hM_192 (nk (by decide))]
                have v_195 : (tI M_192 60 23).toInt = (tI M_67 60 23).toInt := by rw [tI_nE hM_192 (nk (by decide))]
                have v_196 : (tI M_192 60 24).toInt = 256 := by rw [tI_uE hM_192]; decide
                have u_368 : (tI M_192 60 20).toInt = (tI M 60 20).toInt := by rw [((tI_nE hM_192 (nk (by decide))).trans ((tI_nE hM_67 (nk (by decide))).trans ((tI_nE hM_62 (nk (by decide))).trans (tI_nE hM_3 (nk (by decide))))))]
                have u_369 : 0 ≤ (tI M_192 60 20).toInt ∧ (tI M_192 60 20).toInt ≤ 700 := mI_rd (x := tI M_192 60 20) (k := 20) iM_192 rfl
                have u_370 : (tI M_192 60 21).toInt = (x_2 : Int32).toInt := by rw [((tI_nE hM_192 (nk (by decide))).trans ((tI_nE hM_67 (nk (by decide))).trans ((tI_nE hM_62 (nk (by decide))).trans (tI_uE hM_3))))]
                have u_371 : (tI M_192 60 23).toInt = (3 : Int32).toInt := by rw [((tI_nE hM_192 (nk (by decide))).trans ((tI_nE hM_67 (nk (by decide))).trans (tI_uE hM_62)))]
                have u_372 : (tI M_192 60 24).toInt = (256 : Int32).toInt := by rw [(tI_uE hM_192)]
                exact hj_106_237 M_192 3 _ _ _ iM_192 (pr.trans (pr_I hM_192 (by decide)) (pr.trans (pr_I hM_67 (by decide)) (pr.trans (pr_I hM_62 (by decide)) (pr_I hM_3 (by decide))))) ((tI_nE hM_192 (nk (by decide))).trans ((tI_nE hM_67 (nk (by decide))).trans ((tI_nE hM_62 (nk (by decide))).trans (tI_nE hM_3 (nk (by decide)))))) (by have lt0 : (3 : Int32).toInt = 3 := (by decide); first | omega | decide) (by have lt0 : (3 : Int32).toInt = 3 := (by decide); first | omega | decide) ((tI_nE hM_192 (nk (by decide))).trans ((tI_nE hM_67 (nk (by decide))).trans (tI_uE hM_62))) (by have lt0 : (3 : Int32).toInt = 3 := (by decide); first | omega | decide) (by have lt0 : (3 : Int32).toInt = 3 := (by decide); first | omega | decide) (by have lt0 : (3 : Int32).toInt = 3 := (by decide); first | omega | decide) (by have lt0 : (3 : Int32).toInt = 3 := (by decide); first | omega | decide) hw (lv_sub hl [0, 1] rfl)
          · refine lv_iload_n hx hb dX10_sign_41 rfl (lv_at hl 1 rfl) ?_
            refine lv_bipush (v := 42) hx hb dX10_sign_42 (by decide) ?_
            refine sb_icmp_eq (tgt := 71) hx hb rfl (by decide : (42 : Int32).toInt = 42) dX10_sign_44 (by decide) (fun c_44_12 => ?_) (fun c_44_12 => ?_)
            · refine lv_iconst (v := 3) hx hb dX10_sign_71 (by decide) ?_
              refine lv_goto (tgt := 76) hx hb dX10_sign_72 (by decide) ?_
              refine ti_putI (ci := 10) (k := 23) (N := 67) (T := TX10) C hw iw_10 tyX10 tyX10_ok nmX10 rfl ob_60 (by decide) (by decide) fl_X10_173 rfl rfl rfl rfl (fn_10 A _) fs_10_23 dX10_sign_76 (fun H locs hw => ?_)
              obtain ⟨M_73, hM_73⟩ : ∃ z : ti_M, z = uI M_3 60 23 3 := ⟨_, rfl⟩
              have hw := hw.to hM_73.symm
              have iM_73 : mI Tm M_73 := mI_so iM_3 hM_73 (fun h => absurd h (by decide))
              have v_74 : (tI M_73 60 20).toInt = (tI M_3 60 20).toInt := by rw [tI_nE hM_73 (nk (by decide))]
              have v_75 : (tI M_73 60 21).toInt = (tI M_3 60 21).toInt := by rw [tI_nE hM_73 (nk (by decide))]
              have v_76 : (tI M_73 60 23).toInt = 3 := by rw [tI_uE hM_73]; decide
              have v_77 : (tI M_73 60 24).toInt = (tI M_3 60 24).toInt := by rw [tI_nE hM_73 (nk (by decide))]
              refine lv_aload_n hx hb dX10_sign_79 rfl (lv_at hl 0 rfl) ?_
              refine lv_iload_n hx hb dX10_sign_80 rfl (lv_at hl 1 rfl) ?_
              refine ti_putI (ci := 10) (k := 24) (N := 67) (T := TX10) C hw iw_10 tyX10 tyX10_ok nmX10 rfl ob_60 (by decide) (by decide) fl_X10_183 rfl rfl rfl rfl (fn_10 A _) fs_10_24 dX10_sign_81 (fun H locs hw => ?_)
              obtain ⟨M_78, hM_78⟩ : ∃ z : ti_M, z = uI M_73 60 24 a := ⟨_, rfl⟩
              have hw := hw.to hM_78.symm
              have iM_78 : mI Tm M_78 := mI_va iM_73 hM_78 (fun h => absurd ((tI_uE hM_73).symm.trans h) (by decide))
              have v_79 : (tI M_78 60 20).toInt = (tI M_73 60 20).toInt := by rw [tI_nE hM_78 (nk (by decide))]
              have v_80 : (tI M_78 60 21).toInt = (tI M_73 60 21).toInt := by rw [tI_nE hM_78 (nk (by decide))]
              have v_81 : (tI M_78 60 23).toInt = (tI M_73 60 23).toInt := by rw [tI_nE hM_78 (nk (by decide))]
              have v_82 : (tI M_78 60 24).toInt = (a : Int32).toInt := by rw [tI_uE hM_78]
              refine lv_iload_n hx hb dX10_sign_84 rfl (lv_at hl 1 rfl) ?_
              refine lv_bipush (v := 60) hx hb dX10_sign_85 (by decide) ?_
              refine sb_icmp_ne (tgt := 106) hx hb rfl (by decide : (60 : Int32).toInt = 60) dX10_sign_87 (by decide) (fun c_87_82 => ?_) (fun c_87_82 => ?_)
              · have u_263 : (tI M_78 60 20).toInt = (tI M 60 20).toInt := by rw [((tI_nE hM_78 (nk (by decide))).trans ((tI_nE hM_73 (nk (by decide))).trans (tI_nE hM_3 (nk (by decide)))))]
                have u_264 : 0 ≤ (tI M_78 60 20).toInt ∧ (tI M_78 60 20).toInt ≤ 700 := mI_rd (x := tI M_78 60 20) (k := 20) iM_78 rfl
                have u_265 : (tI M_78 60 21).toInt = (x_2 : Int32).toInt := by rw [((tI_nE hM_78 (nk (by decide))).trans ((tI_nE hM_73 (nk (by decide))).trans (tI_uE hM_3)))]
                have u_266 : (tI M_78 60 23).toInt = (3 : Int32).toInt := by rw [((tI_nE hM_78 (nk (by decide))).trans (tI_uE hM_73))]
                have u_267 : (tI M_78 60 24).toInt = (a : Int32).toInt := by rw [(tI_uE hM_78)]
                exact hj_106_237 M_78 3 _ _ _ iM_78 (pr.trans (pr_I hM_78 (by decide)) (pr.trans (pr_I hM_73 (by decide)) (pr_I hM_3 (by decide)))) ((tI_nE hM_78 (nk (by decide))).trans ((tI_nE hM_73 (nk (by decide))).trans (tI_nE hM_3 (nk (by decide))))) (by have lt0 : (3 : Int32).toInt = 3 := (by decide); first | omega | decide) (by have lt0 : (3 : Int32).toInt = 3 := (by decide); first | omega | decide) ((tI_nE hM_78 (nk (by decide))).trans (tI_uE hM_73)) (by have lt0 : (3 : Int32).toInt = 3 := (by decide); first | omega | decide) (by have lt0 : (3 : Int32).toInt = 3 := (by decide); first | omega | decide) (by have lt0 : (3 : Int32).toInt = 3 := (by decide); first | omega | decide) (by have lt0 : (3 : Int32).toInt = 3 := (by decide); first | omega | decide) hw (lv_sub hl [0, 1] rfl)
              · refine lv_aload_n hx hb dX10_sign_90 rfl (lv_at hl 0 rfl) ?_
                refine ti_callVi (ci := 10) (av := []) C hw (s_X10_here l D A cy hJ M_78 iM_78 ) ⟨ml_X10_166, ym_X10_here, yv_X10_here, yi_X10_here, yc_X10_here⟩ yd_X10_here ob_60 (by decide) rfl rfl hl.1 (Nat.le_of_ble_eq_true rfl) ⟨by decide, by decide⟩ ⟨Nat.zero_le _, Nat.zero_le _⟩ dX10_sign_91 (fun r_154 M_155 H locs hp_155 hw => ?_)
                obtain ⟨hm, b0r_154, b1r_154, p0r_154, p1r_154⟩ := hp_155
                have hw := hw.to hm
                have hhr_154 : (hr M_78).toInt = r_154.toInt := by rw [← p1r_154]
                have kr_154 := hr_pk (a := 21) (b := 24) (M := M) (pr.trans (pr_I hM_78 (by decide)) (pr.trans (pr_I hM_73 (by decide)) (pr_I hM_3 (by decide)))) (by decide) iM_78 p1r_154
                have kdr_154 : r_154.toInt = (pt_pk (pt_rB M) (pt_rn0 M) ((tI M 60 21).toInt.toNat + 1)) := by rw [kr_154, show (tI M_78 60 21).toInt.toNat = (tI M 60 21).toInt.toNat + 1 by omega]
                refine lv_bipush (v := 61) hx hb dX10_sign_94 (by decide) ?_
                refine sb_icmp_ne (tgt := 106) hx hb rfl (by decide : (61 : Int32).toInt = 61) dX10_sign_96 (by decide) (fun c_96_155 => ?_) (fun c_96_155 => ?_)
                · have u_318 : (tI M_78 60 20).toInt = (tI M 60 20).toInt := by rw [((tI_nE hM_78 (nk (by decide))).trans ((tI_nE hM_73 (nk (by decide))).trans (tI_nE hM_3 (nk (by decide)))))]
                  have u_319 : 0 ≤ (tI M_78 60 20).toInt ∧ (tI M_78 60 20).toInt ≤ 700 := mI_rd (x := tI M_78 60 20) (k := 20) iM_78 rfl
                  have u_320 : (tI M_78 60 21).toInt = (x_2 : Int32).toInt := by rw [((tI_nE hM_78 (nk (by decide))).trans ((tI_nE hM_73 (nk (by decide))).trans (tI_uE hM_3)))]
                  have u_321 : (tI M_78 60 23).toInt = (3 : Int32).toInt := by rw [((tI_nE hM_78 (nk (by decide))).trans (tI_uE hM_73))]
                  have u_322 : (tI M_78 60 24).toInt = (a : Int32).toInt := by rw [(tI_uE hM_78)]
                  exact hj_106_237 M_78 3 _ _ _ iM_78 (pr.trans (pr_I hM_78 (by decide)) (pr.trans (pr_I hM_73 (by decide)) (pr_I hM_3 (by decide)))) ((tI_nE hM_78 (nk (by decide))).trans ((tI_nE hM_73 (nk (by decide))).trans (tI_nE hM_3 (nk (by decide))))) (by have lt0 : (3 : Int32).toInt = 3 := (by decide); first | omega | decide) (by have lt0 : (3 : Int32).toInt = 3 := (by decide); first | omega | decide) ((tI_nE hM_78 (nk (by decide))).trans (tI_uE hM_73)) (by have lt0 : (3 : Int32).toInt = 3 := (by decide); first | omega | decide) (by have lt0 : (3 : Int32).toInt = 3 := (by decide); first | omega | decide) (by have lt0 : (3 : Int32).toInt = 3 := (by decide); first | omega | decide) (by have lt0 : (3 : Int32).toInt = 3 := (by decide); first | omega | decide) hw (lv_sub hl [0, 1] rfl)
                · refine lv_aload_n hx hb dX10_sign_99 rfl (lv_at hl 0 rfl) ?_
                  refine lv_sipush (v := 256) hx hb dX10_sign_100 (by decide) ?_
                  refine ti_putI (ci := 10) (k := 24) (N := 67) (T := TX10) C hw iw_10 tyX10 tyX10_ok nmX10 rfl ob_60 (by decide) (by decide) fl_X10_183 rfl rfl rfl rfl (fn_10 A _) fs_10_24 dX10_sign_103 (fun H locs hw => ?_)
                  obtain ⟨M_197, hM_197⟩ : ∃ z : ti_M, z = uI M_78 60 24 256 := ⟨_, rfl⟩
                  have hw := hw.to hM_197.symm
                  have iM_197 : mI Tm M_197 := mI_va iM_78 hM_197 (fun h => absurd (((tI_nE hM_78 (nk (by decide))).trans (tI_uE hM_73)).symm.trans h) (by decide))
                  have v_198 : (tI M_197 60 20).toInt = (tI M_78 60 20).toInt := by rw [tI_nE hM_197 (nk (by decide))]
                  have v_199 : (tI M_197 60 21).toInt = (tI M_78 60 21).toInt := by rw [tI_nE hM_197 (nk (by decide))]
                  have v_200 : (tI M_197 60 23).toInt = (tI M_78 60 23).toInt := by rw [tI_nE hM_197 (nk (by decide))]
                  have v_201 : (tI M_197 60 24).toInt = 256 := by rw [tI_uE hM_197]; decide
                  have u_373 : (tI M_197 60 20).toInt = (tI M 60 20).toInt := by rw [((tI_nE hM_197 (nk (by decide))).trans ((tI_nE hM_78 (nk (by decide))).trans ((tI_nE hM_73 (nk (by decide))).trans (tI_nE hM_3 (nk (by decide))))))]
                  have u_374 : 0 ≤ (tI M_197 60 20).toInt ∧ (tI M_197 60 20).toInt ≤ 700 := mI_rd (x := tI M_197 60 20) (k := 20) iM_197 rfl
                  have u_375 : (tI M_197 60 21).toInt = (x_2 : Int32).toInt := by rw [((tI_nE hM_197 (nk (by decide))).trans ((tI_nE hM_78 (nk (by decide))).trans ((tI_nE hM_73 (nk (by decide))).trans (tI_uE hM_3))))]
                  have u_376 : (tI M_197 60 23).toInt = (3 : Int32).toInt := by rw [((tI_nE hM_197 (nk (by decide))).trans ((tI_nE hM_78 (nk (by decide))).trans (tI_uE hM_73)))]
                  have u_377 : (tI M_197 60 24).toInt = (256 : Int32).toInt := by rw [(tI_uE hM_197)]
                  exact hj_106_237 M_197 3 _ _ _ iM_197 (pr.trans (pr_I hM_197 (by decide)) (pr.trans (pr_I hM_78 (by decide)) (pr.trans (pr_I hM_73 (by decide)) (pr_I hM_3 (by decide))))) ((tI_nE hM_197 (nk (by decide))).trans ((tI_nE hM_78 (nk (by decide))).trans ((tI_nE hM_73 (nk (by decide))).trans (tI_nE hM_3 (nk (by decide)))))) (by have lt0 : (3 : Int32).toInt = 3 := (by decide); first | omega | decide) (by have lt0 : (3 : Int32).toInt = 3 := (by decide); first | omega | decide) ((tI_nE hM_197 (nk (by decide))).trans ((tI_nE hM_78 (nk (by decide))).trans (tI_uE hM_73))) (by have lt0 : (3 : Int32).toInt = 3 := (by decide); first | omega | decide) (by have lt0 : (3 : Int32).toInt = 3 := (by decide); first | omega | decide) (by have lt0 : (3 : Int32).toInt = 3 := (by decide); first | omega | decide) (by have lt0 : (3 : Int32).toInt = 3 := (by decide); first | omega | decide) hw (lv_sub hl [0, 1] rfl)
            · refine lv_iload_n hx hb dX10_sign_47 rfl (lv_at hl 1 rfl) ?_
              refine lv_bipush (v := 47) hx hb dX10_sign_48 (by decide) ?_
              refine sb_icmp_eq (tgt := 71) hx hb rfl (by decide : (47 : Int32).toInt = 47) dX10_sign_50 (by decide) (fun c_50_13 => ?_) (fun c_50_13 => ?_)
              · refine lv_iconst (v := 3) hx hb dX10_sign_71 (by decide) ?_
                refine lv_goto (tgt := 76) hx hb dX10_sign_72 (by decide) ?_
                refine ti_putI (ci := 10) (k := 23) (N := 67) (T := TX10) C hw iw_10 tyX10 tyX10_ok nmX10 rfl ob_60 (by decide) (by decide) fl_X10_173 rfl rfl rfl rfl (fn_10 A _) fs_10_23 dX10_sign_76 (fun H locs hw => ?_)
                obtain ⟨M_84, hM_84⟩ : ∃ z : ti_M, z = uI M_3 60 23 3 := ⟨_, rfl⟩
                have hw := hw.to hM_84.symm
                have iM_84 : mI Tm M_84 := mI_so iM_3 hM_84 (fun h => absurd h (by decide))
                have v_85 : (tI M_84 60 20).toInt = (tI M_3 60 20).toInt := by rw [tI_nE hM_84 (nk (by decide))]
                have v_86 : (tI M_84 60 21).toInt = (tI M_3 60 21).toInt := by rw [tI_nE hM_84 (nk (by decide))]
                have v_87 : (tI M_84 60 23).toInt = 3 := by rw [tI_uE hM_84]; decide
                have v_88 : (tI M_84 60 24).toInt = (tI M_3 60 24).toInt := by rw [tI_nE hM_84 (nk (by decide))]
                refine lv_aload_n hx hb dX10_sign_79 rfl (lv_at hl 0 rfl) ?_
                refine lv_iload_n hx hb dX10_sign_80 rfl (lv_at hl 1 rfl) ?_
                refine ti_putI (ci := 10) (k := 24) (N := 67) (T := TX10) C hw iw_10 tyX10 tyX10_ok nmX10 rfl ob_60 (by decide) (by decide) fl_X10_183 rfl rfl rfl rfl (fn_10 A _) fs_10_24 dX10_sign_81 (fun H locs hw => ?_)
                obtain ⟨M_89, hM_89⟩ : ∃ z : ti_M, z = uI M_84 60 24 a := ⟨_, rfl⟩
                have hw := hw.to hM_89.symm
                have iM_89 : mI Tm M_89 := mI_va iM_84 hM_89 (fun h => absurd ((tI_uE hM_84).symm.trans h) (by decide))
                have v_90 : (tI M_89 60 20).toInt = (tI M_84 60 20).toInt := by rw [tI_nE hM_89 (nk (by decide))]
                have v_91 : (tI M_89 60 21).toInt = (tI M_84 60 21).toInt := by rw [tI_nE hM_89 (nk (by decide))]
                have v_92 : (tI M_89 60 23).toInt = (tI M_84 60 23).toInt := by rw [tI_nE hM_89 (nk (by decide))]
                have v_93 : (tI M_89 60 24).toInt = (a : Int32).toInt := by rw [tI_uE hM_89]
                refine lv_iload_n hx hb dX10_sign_84 rfl (lv_at hl 1 rfl) ?_
                refine lv_bipush (v := 60) hx hb dX10_sign_85 (by decide) ?_
                refine sb_icmp_ne (tgt := 106) hx hb rfl (by decide : (60 : Int32).toInt = 60) dX10_sign_87 (by decide) (fun c_87_93 => ?_) (fun c_87_93 => ?_)
                · have u_268 : (tI M_89 60 20).toInt = (tI M 60 20).toInt := by rw [((tI_nE hM_89 (nk (by decide))).trans ((tI_nE hM_84 (nk (by decide))).trans (tI_nE hM_3 (nk (by decide)))))]
                  have u_269 : 0 ≤ (tI M_89 60 20).toInt ∧ (tI M_89 60 20).toInt ≤ 700 := mI_rd (x := tI M_89 60 20) (k := 20) iM_89 rfl
                  have u_270 : (tI M_89 60 21).toInt = (x_2 : Int32).toInt := by rw [((tI_nE hM_89 (nk (by decide))).trans ((tI_nE hM_84 (nk (by decide))).trans (tI_uE hM_3)))]
                  have u_271 : (tI M_89 60 23).toInt = (3 : Int32).toInt := by rw [((tI_nE hM_89 (nk (by decide))).trans (tI_uE hM_84))]
                  have u_272 : (tI M_89 60 24).toInt = (a : Int32).toInt := by rw [(tI_uE hM_89)]
                  exact hj_106_237 M_89 3 _ _ _ iM_89 (pr.trans (pr_I hM_89 (by decide)) (pr.trans (pr_I hM_84 (by decide)) (pr_I hM_3 (by decide)))) ((tI_nE hM_89 (nk (by decide))).trans ((tI_nE hM_84 (nk (by decide))).trans (tI_nE hM_3 (nk (by decide))))) (by have lt0 : (3 : Int32).toInt = 3 := (by decide); first | omega | decide) (by have lt0 : (3 : Int32).toInt = 3 := (by decide); first | omega | decide) ((tI_nE hM_89 (nk (by decide))).trans (tI_uE hM_84)) (by have lt0 : (3 : Int32).toInt = 3 := (by decide); first | omega | decide) (by have lt0 : (3 : Int32).toInt = 3 := (by decide); first | omega | decide) (by have lt0 : (3 : Int32).toInt = 3 := (by decide); first | omega | decide) (by have lt0 : (3 : Int32).toInt = 3 := (by decide); first | omega | decide) hw (lv_sub hl [0, 1] rfl)
                · refine lv_aload_n hx hb dX10_sign_90 rfl (lv_at hl 0 rfl) ?_
                  refine ti_callVi (ci := 10) (av := []) C hw (s_X10_here l D A cy hJ M_89 iM_89 ) ⟨ml_X10_166, ym_X10_here, yv_X10_here, yi_X10_here, yc_X10_here⟩ yd_X10_here ob_60 (by decide) rfl rfl hl.1 (Nat.le_of_ble_eq_true rfl) ⟨by decide, by decide⟩ ⟨Nat.zero_le _, Nat.zero_le _⟩ dX10_sign_91 (fun r_157 M_158 H locs hp_158 hw => ?_)
                  obtain ⟨hm, b0r_157, b1r_157, p0r_157, p1r_157⟩ := hp_158
                  have hw := hw.to hm
                  have hhr_157 : (hr M_89).toInt = r_157.toInt := by rw [← p1r_157]
                  have kr_157 := hr_pk (a := 21) (b := 24) (M := M) (pr.trans (pr_I hM_89 (by decide)) (pr.trans (pr_I hM_84 (by decide)) (pr_I hM_3 (by decide)))) (by decide) iM_89 p1r_157
                  have kdr_157 : r_157.toInt = (pt_pk (pt_rB M) (pt_rn0 M) ((tI M 60 21).toInt.toNat + 1)) := by rw [kr_157, show (tI M_89 60 21).toInt.toNat = (tI M 60 21).toInt.toNat + 1 by omega]
                  refine lv_bipush (v := 61) hx hb dX10_sign_94 (by decide) ?_
                  refine sb_icmp_ne (tgt := 106) hx hb rfl (by decide : (61 : Int32).toInt = 61) dX10_sign_96 (by decide) (fun c_96_158 => ?_) (fun c_96_158 => ?_)
                  · have u_323 : (tI M_89 60 20).toInt = (tI M 60 20).toInt := by rw [((tI_nE hM_89 (nk (by decide))).trans ((tI_nE hM_84 (nk (by decide))).trans (tI_nE hM_3 (nk (by decide)))))]
                    have u_324 : 0 ≤ (tI M_89 60 20).toInt ∧ (tI M_89 60 20).toInt ≤ 700 := mI_rd (x := tI M_89 60 20) (k := 20) iM_89 rfl
                    have u_325 : (tI M_89 60 21).toInt = (x_2 : Int32).toInt := by rw [((tI_nE hM_89 (nk (by decide))).trans ((tI_nE hM_84 (nk (by decide))).trans (tI_uE hM_3)))]
                    have u_326 : (tI M_89 60 23).toInt = (3 : Int32).toInt := by rw [((tI_nE hM_89 (nk (by decide))).trans (tI_uE hM_84))]
                    have u_327 : (tI M_89 60 24).toInt = (a : Int32).toInt := by rw [(tI_uE hM_89)]
                    exact hj_106_237 M_89 3 _ _ _ iM_89 (pr.trans (pr_I hM_89 (by decide)) (pr.trans (pr_I hM_84 (by decide)) (pr_I hM_3 (by decide)))) ((tI_nE hM_89 (nk (by decide))).trans ((tI_nE hM_84 (nk (by decide))).trans (tI_nE hM_3 (nk (by decide))))) (by have lt0 : (3 : Int32).toInt = 3 := (by decide); first | omega | decide) (by have lt0 : (3 : Int32).toInt = 3 := (by decide); first | omega | decide) ((tI_nE hM_89 (nk (by decide))).trans (tI_uE hM_84)) (by have lt0 : (3 : Int32).toInt = 3 := (by decide); first | omega | decide) (by have lt0 : (3 : Int32).toInt = 3 := (by decide); first | omega | decide) (by have lt0 : (3 : Int32).toInt = 3 := (by decide); first | omega | decide) (by have lt0 : (3 : Int32).toInt = 3 := (by decide); first | omega | decide) hw (lv_sub hl [0, 1] rfl)
                  · refine lv_aload_n hx hb dX10_sign_99 rfl (lv_at hl 0 rfl) ?_
                    refine lv_sipush (v := 256) hx hb dX10_sign_100 (by decide) ?_
                    refine ti_putI (ci := 10) (k := 24) (N := 67) (T := TX10) C hw iw_10 tyX10 tyX10_ok nmX10 rfl ob_60 (by decide) (by decide) fl_X10_183 rfl rfl rfl rfl (fn_10 A _) fs_10_24 dX10_sign_103 (fun H locs hw => ?_)
                    obtain ⟨M_202, hM_202⟩ : ∃ z : ti_M, z = uI M_89 60 24 256 := ⟨_, rfl⟩
                    have hw := hw.to hM_202.symm
                    have iM_202 : mI Tm M_202 := mI_va iM_89 hM_202 (fun h => absurd (((tI_nE hM_89 (nk (by decide))).trans (tI_uE hM_84)).symm.trans h) (by decide))
                    have v_203 : (tI M_202 60 20).toInt = (tI M_89 60 20).toInt := by rw [tI_nE hM_202 (nk (by decide))]
                    have v_204 : (tI M_202 60 21).toInt = (tI M_89 60 21).toInt := by rw [tI_nE hM_202 (nk (by decide))]
                    have v_205 : (tI M_202 60 23).toInt = (tI M_89 60 23).toInt := by rw [tI_nE hM_202 (nk (by decide))]
                    have v_206 : (tI M_202 60 24).toInt = 256 := by rw [tI_uE hM_202]; decide
                    have u_378 : (tI M_202 60 20).toInt = (tI M 60 20).toInt := by rw [((tI_nE hM_202 (nk (by decide))).trans ((tI_nE hM_89 (nk (by decide))).trans ((tI_nE hM_84 (nk (by decide))).trans (tI_nE hM_3 (nk (by decide))))))]
                    have u_379 : 0 ≤ (tI M_202 60 20).toInt ∧ (tI M_202 60 20).toInt ≤ 700 := mI_rd (x := tI M_202 60 20) (k := 20) iM_202 rfl
                    have u_380 : (tI M_202 60 21).toInt = (x_2 : Int32).toInt := by rw [((tI_nE hM_202 (nk (by decide))).trans ((tI_nE hM_89 (nk (by decide))).trans ((tI_nE hM_84 (nk (by decide))).trans (tI_uE hM_3))))]
                    have u_381 : (tI M_202 60 23).toInt = (3 : Int32).toInt := by rw [((tI_nE hM_202 (nk (by decide))).trans ((tI_nE hM_89 (nk (by decide))).trans (tI_uE hM_84)))]
                    have u_382 : (tI M_202 60 24).toInt = (256 : Int32).toInt := by rw [(tI_uE hM_202)]
                    exact hj_106_237 M_202 3 _ _ _ iM_202 (pr.trans (pr_I hM_202 (by decide)) (pr.trans (pr_I hM_89 (by decide)) (pr.trans (pr_I hM_84 (by decide)) (pr_I hM_3 (by decide))))) ((tI_nE hM_202 (nk (by decide))).trans ((tI_nE hM_89 (nk (by decide))).trans ((tI_nE hM_84 (nk (by decide))).trans (tI_nE hM_3 (nk (by decide)))))) (by have lt0 : (3 : Int32).toInt = 3 := (by decide); first | omega | decide) (by have lt0 : (3 : Int32).toInt = 3 := (by decide); first | omega | decide) ((tI_nE hM_202 (nk (by decide))).trans ((tI_nE hM_89 (nk (by decide))).trans (tI_uE hM_84))) (by have lt0 : (3 : Int32).toInt = 3 := (by decide); first | omega | decide) (by have lt0 : (3 : Int32).toInt = 3 := (by decide); first | omega | decide) (by have lt0 : (3 : Int32).toInt = 3 := (by decide); first | omega | decide) (by have lt0 : (3 : Int32).toInt = 3 := (by decide); first | omega | decide) hw (lv_sub hl [0, 1] rfl)
              · refine lv_iload_n hx hb dX10_sign_53 rfl (lv_at hl 1 rfl) ?_
                refine lv_bipush (v := 60) hx hb dX10_sign_54 (by decide) ?_
                refine sb_icmp_eq (tgt := 71) hx hb rfl (by decide : (60 : Int32).toInt = 60) dX10_sign_56 (by decide) (fun c_56_14 => ?_) (fun c_56_14 => ?_)
                · refine lv_iconst (v := 3) hx hb dX10_sign_71 (by decide) ?_
                  refine lv_goto (tgt := 76) hx hb dX10_sign_72 (by decide) ?_
                  refine ti_putI (ci := 10) (k := 23) (N := 67) (T := TX10) C hw iw_10 tyX10 tyX10_ok nmX10 rfl ob_60 (by decide) (by decide) fl_X10_173 rfl rfl rfl rfl (fn_10 A _) fs_10_23 dX10_sign_76 (fun H locs hw => ?_)
                  obtain ⟨M_95, hM_95⟩ : ∃ z : ti_M, z = uI M_3 60 23 3 := ⟨_, rfl⟩
                  have hw := hw.to hM_95.symm
                  have iM_95 : mI Tm M_95 := mI_so iM_3 hM_95 (fun h => absurd h (by decide))
                  have v_96 : (tI M_95 60 20).toInt = (tI M_3 60 20).toInt := by rw [tI_nE hM_95 (nk (by decide))]
                  have v_97 : (tI M_95 60 21).toInt = (tI M_3 60 21).toInt := by rw [tI_nE hM_95 (nk (by decide))]
                  have v_98 : (tI M_95 60 23).toInt = 3 := by rw [tI_uE hM_95]; decide
                  have v_99 : (tI M_95 60 24).toInt = (tI M_3 60 24).toInt := by rw [tI_nE hM_95 (nk (by decide))]
                  refine lv_aload_n hx hb dX10_sign_79 rfl (lv_at hl 0 rfl) ?_
                  refine lv_iload_n hx hb dX10_sign_80 rfl (lv_at hl 1 rfl) ?_
                  refine ti_putI (ci := 10) (k := 24) (N := 67) (T := TX10) C hw iw_10 tyX10 tyX10_ok nmX10 rfl ob_60 (by decide) (by decide) fl_X10_183 rfl rfl rfl rfl (fn_10 A _) fs_10_24 dX10_sign_81 (fun H locs hw => ?_)
                  obtain ⟨M_100, hM_100⟩ : ∃ z : ti_M, z = uI M_95 60 24 a := ⟨_, rfl⟩
                  have hw := hw.to hM_100.symm
                  have iM_100 : mI Tm M_100 := mI_va iM_95 hM_100 (fun h => absurd ((tI_uE hM_95).symm.trans h) (by decide))
                  have v_101 : (tI M_100 60 20).toInt = (tI M_95 60 20).toInt := by rw [tI_nE hM_100 (nk (by decide))]
                  have v_102 : (tI M_100 60 21).toInt = (tI M_95 60 21).toInt := by rw [tI_nE hM_100 (nk (by decide))]
                  have v_103 : (tI M_100 60 23).toInt = (tI M_95 60 23).toInt := by rw [tI_nE hM_100 (nk (by decide))]
                  have v_104 : (tI M_100 60 24).toInt = (a : Int32).toInt := by rw [tI_uE hM_100]
                  refine lv_iload_n hx hb dX10_sign_84 rfl (lv_at hl 1 rfl) ?_
                  refine lv_bipush (v := 60) hx hb dX10_sign_85 (by decide) ?_
                  refine sb_icmp_ne (tgt := 106) hx hb rfl (by decide : (60 : Int32).toInt = 60) dX10_sign_87 (by decide) (fun c_87_104 => ?_) (fun c_87_104 => ?_)
                  · have u_273 : (tI M_100 60 20).toInt = (tI M 60 20).toInt := by rw [((tI_nE hM_100 (nk (by decide))).trans ((tI_nE hM_95 (nk (by decide))).trans (tI_nE hM_3 (nk (by decide)))))]
                    have u_274 : 0 ≤ (tI M_100 60 20).toInt ∧ (tI M_100 60 20).toInt ≤ 700 := mI_rd (x := tI M_100 60 20) (k := 20) iM_100 rfl
                    have u_275 : (tI M_100 60 21).toInt = (x_2 : Int32).toInt := by rw [((tI_nE hM_100 (nk (by decide))).trans ((tI_nE hM_95 (nk (by decide))).trans (tI_uE hM_3)))]
                    have u_276 : (tI M_100 60 23).toInt = (3 : Int32).toInt := by rw [((tI_nE hM_100 (nk (by decide))).trans (tI_uE hM_95))]
                    have u_277 : (tI M_100 60 24).toInt = (a : Int32).toInt := by rw [(tI_uE hM_100)]
                    exact hj_106_237 M_100 3 _ _ _ iM_100 (pr.trans (pr_I hM_100 (by decide)) (pr.trans (pr_I hM_95 (by decide)) (pr_I hM_3 (by decide)))) ((tI_nE hM_100 (nk (by decide))).trans ((tI_nE hM_95 (nk (by decide))).trans (tI_nE hM_3 (nk (by decide))))) (by have lt0 : (3 : Int32).toInt = 3 := (by decide); first | omega | decide) (by have lt0 : (3 : Int32).toInt = 3 := (by decide); first | omega | decide) ((tI_nE hM_100 (nk (by decide))).trans (tI_uE hM_95)) (by have lt0 : (3 : Int32).toInt = 3 := (by decide); first | omega | decide) (by have lt0 : (3 : Int32).toInt = 3 := (by decide); first | omega | decide) (by have lt0 : (3 : Int32).toInt = 3 := (by decide); first | omega | decide) (by have lt0 : (3 : Int32).toInt = 3 := (by decide); first | omega | decide) hw (lv_sub hl [0, 1] rfl)
                  · refine lv_aload_n hx hb dX10_sign_90 rfl (lv_at hl 0 rfl) ?_
                    refine ti_callVi (ci := 10) (av := []) C hw (s_X10_here l D A cy hJ M_100 iM_100 ) ⟨ml_X10_166, ym_X10_here, yv_X10_here, yi_X10_here, yc_X10_here⟩ yd_X10_here ob_60 (by decide) rfl rfl hl.1 (Nat.le_of_ble_eq_true rfl) ⟨by decide, by decide⟩ ⟨Nat.zero_le _, Nat.zero_le _⟩ dX10_sign_91 (fun r_160 M_161 H locs hp_161 hw => ?_)
                    obtain ⟨hm, b0r_160, b1r_160, p0r_160, p1r_160⟩ := hp_161
                    have hw := hw.to hm
                    have hhr_160 : (hr M_100).toInt = r_160.toInt := by rw [← p1r_160]
                    have kr_160 := hr_pk (a := 21) (b := 24) (M := M) (pr.trans (pr_I hM_100 (by decide)) (pr.trans (pr_I hM_95 (by decide)) (pr_I hM_3 (by decide)))) (by decide) iM_100 p1r_160
                    have kdr_160 : r_160.toInt = (pt_pk (pt_rB M) (pt_rn0 M) ((tI M 60 21).toInt.toNat + 1)) := by rw [kr_160, show (tI M_100 60 21).toInt.toNat = (tI M 60 21).toInt.toNat + 1 by omega]
                    refine lv_bipush (v := 61) hx hb dX10_sign_94 (by decide) ?_
                    refine sb_icmp_ne (tgt := 106) hx hb rfl (by decide : (61 : Int32).toInt = 61) dX10_sign_96 (by decide) (fun c_96_161 => ?_) (fun c_96_161 => ?_)
                    · have u_328 : (tI M_100 60 20).toInt = (tI M 60 20).toInt := by rw [((tI_nE hM_100 (nk (by decide))).trans ((tI_nE hM_95 (nk (by decide))).trans (tI_nE hM_3 (nk (by decide)))))]
                      have u_329 : 0 ≤ (tI M_100 60 20).toInt ∧ (tI M_100 60 20).toInt ≤ 700 := mI_rd (x := tI M_100 60 20) (k := 20) iM_100 rfl
                      have u_330 : (tI M_100 60 21).toInt = (x_2 : Int32).toInt := by rw [((tI_nE hM_100 (nk (by decide))).trans ((tI_nE hM_95 (nk (by decide))).trans (tI_uE hM_3)))]
                      have u_331 : (tI M_100 60 23).toInt = (3 : Int32).toInt := by rw [((tI_nE hM_100 (nk (by decide))).trans (tI_uE hM_95))]
                      have u_332 : (tI M_100 60 24).toInt = (a : Int32).toInt := by rw [(tI_uE hM_100)]
                      exact hj_106_237 M_100 3 _ _ _ iM_100 (pr.trans (pr_I hM_100 (by decide)) (pr.trans (pr_I hM_95 (by decide)) (pr_I hM_3 (by decide)))) ((tI_nE hM_100 (nk (by decide))).trans ((tI_nE hM_95 (nk (by decide))).trans (tI_nE hM_3 (nk (by decide))))) (by have lt0 : (3 : Int32).toInt = 3 := (by decide); first | omega | decide) (by have lt0 : (3 : Int32).toInt = 3 := (by decide); first | omega | decide) ((tI_nE hM_100 (nk (by decide))).trans (tI_uE hM_95)) (by have lt0 : (3 : Int32).toInt = 3 := (by decide); first | omega | decide) (by have lt0 : (3 : Int32).toInt = 3 := (by decide); first | omega | decide) (by have lt0 : (3 : Int32).toInt = 3 := (by decide); first | omega | decide) (by have lt0 : (3 : Int32).toInt = 3 := (by decide); first | omega | decide) hw (lv_sub hl [0, 1] rfl)
                    · refine lv_aload_n hx hb dX10_sign_99 rfl (lv_at hl 0 rfl) ?_
                      refine lv_sipush (v := 256) hx hb dX10_sign_100 (by decide) ?_
                      refine ti_putI (ci := 10) (k := 24) (N := 67) (T := TX10) C hw iw_10 tyX10 tyX10_ok nmX10 rfl ob_60 (by decide) (by decide) fl_X10_183 rfl rfl rfl rfl (fn_10 A _) fs_10_24 dX10_sign_103 (fun H locs hw => ?_)
                      obtain ⟨M_207, hM_207⟩ : ∃ z : ti_M, z = uI M_100 60 24 256 := ⟨_, rfl⟩
                      have hw := hw.to hM_207.symm
                      have iM_207 : mI Tm M_207 := mI_va iM_100 hM_207 (fun h => absurd (((tI_nE hM_100 (nk (by decide))).trans (tI_uE hM_95)).symm.trans h) (by decide))
                      have v_208 : (tI M_207 60 20).toInt = (tI M_100 60 20).toInt := by rw [tI_nE hM_207 (nk (by decide))]
                      have v_209 : (tI M_207 60 21).toInt = (tI M_100 60 21).toInt := by rw [tI_nE hM_207 (nk (by decide))]
                      have v_210 : (tI M_207 60 23).toInt = (tI M_100 60 23).toInt := by rw [tI_nE hM_207 (nk (by decide))]
                      have v_211 : (tI M_207 60 24).toInt = 256 := by rw [tI_uE hM_207]; decide
                      have u_383 : (tI M_207 60 20).toInt = (tI M 60 20).toInt := by rw [((tI_nE hM_207 (nk (by decide))).trans ((tI_nE hM_100 (nk (by decide))).trans ((tI_nE hM_95 (nk (by decide))).trans (tI_nE hM_3 (nk (by decide))))))]
                      have u_384 : 0 ≤ (tI M_207 60 20).toInt ∧ (tI M_207 60 20).toInt ≤ 700 := mI_rd (x := tI M_207 60 20) (k := 20) iM_207 rfl
                      have u_385 : (tI M_207 60 21).toInt = (x_2 : Int32).toInt := by rw [((tI_nE hM_207 (nk (by decide))).trans ((tI_nE hM_100 (nk (by decide))).trans ((tI_nE hM_95 (nk (by decide))).trans (tI_uE hM_3))))]
                      have u_386 : (tI M_207 60 23).toInt = (3 : Int32).toInt := by rw [((tI_nE hM_207 (nk (by decide))).trans ((tI_nE hM_100 (nk (by decide))).trans (tI_uE hM_95)))]
                      have u_387 : (tI M_207 60 24).toInt = (256 : Int32).toInt := by rw [(tI_uE hM_207)]
                      exact hj_106_237 M_207 3 _ _ _ iM_207 (pr.trans (pr_I hM_207 (by decide)) (pr.trans (pr_I hM_100 (by decide)) (pr.trans (pr_I hM_95 (by decide)) (pr_I hM_3 (by decide))))) ((tI_nE hM_207 (nk (by decide))).trans ((tI_nE hM_100 (nk (by decide))).trans ((tI_nE hM_95 (nk (by decide))).trans (tI_nE hM_3 (nk (by decide)))))) (by have lt0 : (3 : Int32).toInt = 3 := (by decide); first | omega | decide) (by have lt0 : (3 : Int32).toInt = 3 := (by decide); first | omega | decide) ((tI_nE hM_207 (nk (by decide))).trans ((tI_nE hM_100 (nk (by decide))).trans (tI_uE hM_95))) (by have lt0 : (3 : Int32).toInt = 3 := (by decide); first | omega | decide) (by have lt0 : (3 : Int32).toInt = 3 := (by decide); first | omega | decide) (by have lt0 : (3 : Int32).toInt = 3 := (by decide); first | omega | decide) (by have lt0 : (3 : Int32).toInt = 3 := (by decide); first | omega | decide) hw (lv_sub hl [0, 1] rfl)
                · refine lv_iload_n hx hb dX10_sign_59 rfl (lv_at hl 1 rfl) ?_
                  refine lv_bipush (v := 61) hx hb dX10_sign_60 (by decide) ?_
                  refine sb_icmp_eq (tgt := 71) hx hb rfl (by decide : (61 : Int32).toInt = 61) dX10_sign_62 (by decide) (fun c_62_15 => ?_) (fun c_62_15 => ?_)
                  · refine lv_iconst (v := 3) hx hb dX10_sign_71 (by decide) ?_
                    refine lv_goto (tgt := 76) hx hb dX10_sign_72 (by decide) ?_
                    refine ti_putI (ci := 10) (k := 23) (N := 67) (T := TX10) C hw iw_10 tyX10 tyX10_ok nmX10 rfl ob_60 (by decide) (by decide) fl_X10_173 rfl rfl rfl rfl (fn_10 A _) fs_10_23 dX10_sign_76 (fun H locs hw => ?_)
                    obtain ⟨M_106, hM_106⟩ : ∃ z : ti_M, z = uI M_3 60 23 3 := ⟨_, rfl⟩
                    have hw := hw.to hM_106.symm
                    have iM_106 : mI Tm M_106 := mI_so iM_3 hM_106 (fun h => absurd h (by decide))
                    have v_107 : (tI M_106 60 20).toInt = (tI M_3 60 20).toInt := by rw [tI_nE hM_106 (nk (by decide))]
                    have v_108 : (tI M_106 60 21).toInt = (tI M_3 60 21).toInt := by rw [tI_nE hM_106 (nk (by decide))]
                    have v_109 : (tI M_106 60 23).toInt = 3 := by rw [tI_uE hM_106]; decide
                    have v_110 : (tI M_106 60 24).toInt = (tI M_3 60 24).toInt := by rw [tI_nE hM_106 (nk (by decide))]
                    refine lv_aload_n hx hb dX10_sign_79 rfl (lv_at hl 0 rfl) ?_
                    refine lv_iload_n hx hb dX10_sign_80 rfl (lv_at hl 1 rfl) ?_
                    refine ti_putI (ci := 10) (k := 24) (N := 67) (T := TX10) C hw iw_10 tyX10 tyX10_ok nmX10 rfl ob_60 (by decide) (by decide) fl_X10_183 rfl rfl rfl rfl (fn_10 A _) fs_10_24 dX10_sign_81 (fun H locs hw => ?_)
                    obtain ⟨M_111, hM_111⟩ : ∃ z : ti_M, z = uI M_106 60 24 a := ⟨_, rfl⟩
                    have hw := hw.to hM_111.symm
                    have iM_111 : mI Tm M_111 := mI_va iM_106 hM_111 (fun h => absurd ((tI_uE hM_106).symm.trans h) (by decide))
                    have v_112 : (tI M_111 60 20).toInt = (tI M_106 60 20).toInt := by rw [tI_nE hM_111 (nk (by decide))]
                    have v_113 : (tI M_111 60 21).toInt = (tI M_106 60 21).toInt := by rw [tI_nE hM_111 (nk (by decide))]
                    have v_114 : (tI M_111 60 23).toInt = (tI M_106 60 23).toInt := by rw [tI_nE hM_111 (nk (by decide))]
                    have v_115 : (tI M_111 60 24).toInt = (a : Int32).toInt := by rw [tI_uE hM_111]
                    refine lv_iload_n hx hb dX10_sign_84 rfl (lv_at hl 1 rfl) ?_
                    refine lv_bipush (v := 60) hx hb dX10_sign_85 (by decide) ?_
                    refine sb_icmp_ne (tgt := 106) hx hb rfl (by decide : (60 : Int32).toInt = 60) dX10_sign_87 (by decide) (fun c_87_115 => ?_) (fun c_87_115 => ?_)
                    · have u_278 : (tI M_111 60 20).toInt = (tI M 60 20).toInt := by rw [((tI_nE hM_111 (nk (by decide))).trans ((tI_nE hM_106 (nk (by decide))).trans (tI_nE hM_3 (nk (by decide)))))]
                      have u_279 : 0 ≤ (tI M_111 60 20).toInt ∧ (tI M_111 60 20).toInt ≤ 700 := mI_rd (x := tI M_111 60 20) (k := 20) iM_111 rfl
                      have u_280 : (tI M_111 60 21).toInt = (x_2 : Int32).toInt := by rw [((tI_nE hM_111 (nk (by decide))).trans ((tI_nE hM_106 (nk (by decide))).trans (tI_uE hM_3)))]
                      have u_281 : (tI M_111 60 23).toInt = (3 : Int32).toInt := by rw [((tI_nE hM_111 (nk (by decide))).trans (tI_uE hM_106))]
                      have u_282 : (tI M_111 60 24).toInt = (a : Int32).toInt := by rw [(tI_uE hM_111)]
                      exact hj_106_237 M_111 3 _ _ _ iM_111 (pr.trans (pr_I hM_111 (by decide)) (pr.trans (pr_I hM_106 (by decide)) (pr_I hM_3 (by decide)))) ((tI_nE hM_111 (nk (by decide))).trans ((tI_nE hM_106 (nk (by decide))).trans (tI_nE hM_3 (nk (by decide))))) (by have lt0 : (3 : Int32).toInt = 3 := (by decide); first | omega | decide) (by have lt0 : (3 : Int32).toInt = 3 := (by decide); first | omega | decide) ((tI_nE hM_111 (nk (by decide))).trans (tI_uE hM_106)) (by have lt0 : (3 : Int32).toInt = 3 := (by decide); first | omega | decide) (by have lt0 : (3 : Int32).toInt = 3 := (by decide); first | omega | decide) (by have lt0 : (3 : Int32).toInt = 3 := (by decide); first | omega | decide) (by have lt0 : (3 : Int32).toInt = 3 := (by decide); first | omega | decide) hw (lv_sub hl [0, 1] rfl)
                    · refine lv_aload_n hx hb dX10_sign_90 rfl (lv_at hl 0 rfl) ?_
                      refine ti_callVi (ci := 10) (av := []) C hw (s_X10_here l D A cy hJ M_111 iM_111 ) ⟨ml_X10_166, ym_X10_here, yv_X10_here, yi_X10_here, yc_X10_here⟩ yd_X10_here ob_60 (by decide) rfl rfl hl.1 (Nat.le_of_ble_eq_true rfl) ⟨by decide, by decide⟩ ⟨Nat.zero_le _, Nat.zero_le _⟩ dX10_sign_91 (fun r_163 M_164 H locs hp_164 hw => ?_)
                      obtain ⟨hm, b0r_163, b1r_163, p0r_163, p1r_163⟩ := hp_164
                      have hw := hw.to hm
                      have hhr_163 : (hr M_111).toInt = r_163.toInt := by rw [← p1r_163]
                      have kr_163 := hr_pk (a := 21) (b := 24) (M := M) (pr.trans (pr_I hM_111 (by decide)) (pr.trans (pr_I hM_106 (by decide)) (pr_I hM_3 (by decide)))) (by decide) iM_111 p1r_163
                      have kdr_163 : r_163.toInt = (pt_pk (pt_rB M) (pt_rn0 M) ((tI M 60 21).toInt.toNat + 1)) := by rw [kr_163, show (tI M_111 60 21).toInt.toNat = (tI M 60 21).toInt.toNat + 1 by omega]
                      refine lv_bipush (v := 61) hx hb dX10_sign_94 (by decide) ?_
                      refine sb_icmp_ne (tgt := 106) hx hb rfl (by decide : (61 : Int32).toInt = 61) dX10_sign_96 (by decide) (fun c_96_164 => ?_) (fun c_96_164 => ?_)
                      · have u_333 : (tI M_111 60 20).toInt = (tI M 60 20).toInt := by rw [((tI_nE hM_111 (nk (by decide))).trans ((tI_nE hM_106 (nk (by decide))).trans (tI_nE hM_3 (nk (by decide)))))]
                        have u_334 : 0 ≤ (tI M_111 60 20).toInt ∧ (tI M_111 60 20).toInt ≤ 700 := mI_rd (x := tI M_111 60 20) (k := 20) iM_111 rfl
                        have u_335 : (tI M_111 60 21).toInt = (x_2 : Int32).toInt := by rw [((tI_nE hM_111 (nk (by decide))).trans ((tI_nE hM_106 (nk (by decide))).trans (tI_uE hM_3)))]
                        have u_336 : (tI M_111 60 23).toInt = (3 : Int32).toInt := by rw [((tI_nE hM_111 (nk (by decide))).trans (tI_uE hM_106))]
                        have u_337 : (tI M_111 60 24).toInt = (a : Int32).toInt := by rw [(tI_uE hM_111)]
                        exact hj_106_237 M_111 3 _ _ _ iM_111 (pr.trans (pr_I hM_111 (by decide)) (pr.trans (pr_I hM_106 (by decide)) (pr_I hM_3 (by decide)))) ((tI_nE hM_111 (nk (by decide))).trans ((tI_nE hM_106 (nk (by decide))).trans (tI_nE hM_3 (nk (by decide))))) (by have lt0 : (3 : Int32).toInt = 3 := (by decide); first | omega | decide) (by have lt0 : (3 : Int32).toInt = 3 := (by decide); first | omega | decide) ((tI_nE hM_111 (nk (by decide))).trans (tI_uE hM_106)) (by have lt0 : (3 : Int32).toInt = 3 := (by decide); first | omega | decide) (by have lt0 : (3 : Int32).toInt = 3 := (by decide); first | omega | decide) (by have lt0 : (3 : Int32).toInt = 3 := (by decide); first | omega | decide) (by have lt0 : (3 : Int32).toInt = 3 := (by decide); first | omega | decide) hw (lv_sub hl [0, 1] rfl)
                      · refine lv_aload_n hx hb dX10_sign_99 rfl (lv_at hl 0 rfl) ?_
                        refine lv_sipush (v := 256) hx hb dX10_sign_100 (by decide) ?_
                        refine ti_putI (ci := 10) (k := 24) (N := 67) (T := TX10) C hw iw_10 tyX10 tyX10_ok nmX10 rfl ob_60 (by decide) (by decide) fl_X10_183 rfl rfl rfl rfl (fn_10 A _) fs_10_24 dX10_sign_103 (fun H locs hw => ?_)
                        obtain ⟨M_212, hM_212⟩ : ∃ z : ti_M, z = uI M_111 60 24 256 := ⟨_, rfl⟩
                        have hw := hw.to hM_212.symm
                        have iM_212 : mI Tm M_212 := mI_va iM_111 hM_212 (fun h => absurd (((tI_nE hM_111 (nk (by decide))).trans (tI_uE hM_106)).symm.trans h) (by decide))
                        have v_213 : (tI M_212 60 20).toInt = (tI M_111 60 20).toInt := by rw [tI_nE hM_212 (nk (by decide))]
                        have v_214 : (tI M_212 60 21).toInt = (tI M_111 60 21).toInt := by rw [tI_nE hM_212 (nk (by decide))]
                        have v_215 : (tI M_212 60 23).toInt = (tI M_111 60 23).toInt := by rw [tI_nE hM_212 (nk (by decide))]
                        have v_216 : (tI M_212 60 24).toInt = 256 := by rw [tI_uE hM_212]; decide
                        have u_388 : (tI M_212 60 20).toInt = (tI M 60 20).toInt := by rw [((tI_nE hM_212 (nk (by decide))).trans ((tI_nE hM_111 (nk (by decide))).trans ((tI_nE hM_106 (nk (by decide))).trans (tI_nE hM_3 (nk (by decide))))))]
                        have u_389 : 0 ≤ (tI M_212 60 20).toInt ∧ (tI M_212 60 20).toInt ≤ 700 := mI_rd (x := tI M_212 60 20) (k := 20) iM_212 rfl
                        have u_390 : (tI M_212 60 21).toInt = (x_2 : Int32).toInt := by rw [((tI_nE hM_212 (nk (by decide))).trans ((tI_nE hM_111 (nk (by decide))).trans ((tI_nE hM_106 (nk (by decide))).trans (tI_uE hM_3))))]
                        have u_391 : (tI M_212 60 23).toInt = (3 : Int32).toInt := by rw [((tI_nE hM_212 (nk (by decide))).trans ((tI_nE hM_111 (nk (by decide))).trans (tI_uE hM_106)))]
                        have u_392 : (tI M_212 60 24).toInt = (256 : Int32).toInt := by rw [(tI_uE hM_212)]
                        exact hj_106_237 M_212 3 _ _ _ iM_212 (pr.trans (pr_I hM_212 (by decide)) (pr.trans (pr_I hM_111 (by decide)) (pr.trans (pr_I hM_106 (by decide)) (pr_I hM_3 (by decide))))) ((tI_nE hM_212 (nk (by decide))).trans ((tI_nE hM_111 (nk (by decide))).trans ((tI_nE hM_106 (nk (by decide))).trans (tI_nE hM_3 (nk (by decide)))))) (by have lt0 : (3 : Int32).toInt = 3 := (by decide); first | omega | decide) (by have lt0 : (3 : Int32).toInt = 3 := (by decide); first | omega | decide) ((tI_nE hM_212 (nk (by decide))).trans ((tI_nE hM_111 (nk (by decide))).trans (tI_uE hM_106))) (by have lt0 : (3 : Int32).toInt = 3 := (by decide); first | omega | decide) (by have lt0 : (3 : Int32).toInt = 3 := (by decide); first | omega | decide) (by have lt0 : (3 : Int32).toInt = 3 := (by decide); first | omega | decide) (by have lt0 : (3 : Int32).toInt = 3 := (by decide); first | omega | decide) hw (lv_sub hl [0, 1] rfl)
                  · refine lv_iload_n hx hb dX10_sign_65 rfl (lv_at hl 1 rfl) ?_
                    refine lv_bipush (v := 62) hx hb dX10_sign_66 (by decide) ?_
                    refine sb_icmp_ne (tgt := 75) hx hb rfl (by decide : (62 : Int32).toInt = 62) dX10_sign_68 (by decide) (fun c_68_16 => ?_) (fun c_68_16 => ?_)
                    · refine lv_iconst (v := 5) hx hb dX10_sign_75 (by decide) ?_
                      refine ti_putI (ci := 10) (k := 23) (N := 67) (T := TX10) C hw iw_10 tyX10 tyX10_ok nmX10 rfl ob_60 (by decide) (by decide) fl_X10_173 rfl rfl rfl rfl (fn_10 A _) fs_10_23 dX10_sign_76 (fun H locs hw => ?_)
                      obtain ⟨M_128, hM_128⟩ : ∃ z : ti_M, z = uI M_3 60 23 5 := ⟨_, rfl⟩
                      have hw := hw.to hM_128.symm
                      have iM_128 : mI Tm M_128 := mI_so iM_3 hM_128 (fun h => absurd h (by decide))
                      have v_129 : (tI M_128 60 20).toInt = (tI M_3 60 20).toInt := by rw [tI_nE hM_128 (nk (by decide))]
                      have v_130 : (tI M_128 60 21).toInt = (tI M_3 60 21).toInt := by rw [tI_nE hM_128 (nk (by decide))]
                      have v_131 : (tI M_128 60 23).toInt = 5 := by rw [tI_uE hM_128]; decide
                      have v_132 : (tI M_128 60 24).toInt = (tI M_3 60 24).toInt := by rw [tI_nE hM_128 (nk (by decide))]
                      refine lv_aload_n hx hb dX10_sign_79 rfl (lv_at hl 0 rfl) ?_
                      refine lv_iload_n hx hb dX10_sign_80 rfl (lv_at hl 1 rfl) ?_
                      refine ti_putI (ci := 10) (k := 24) (N := 67) (T := TX10) C hw iw_10 tyX10 tyX10_ok nmX10 rfl ob_60 (by decide) (by decide) fl_X10_183 rfl rfl rfl rfl (fn_10 A _) fs_10_24 dX10_sign_81 (fun H locs hw => ?_)
                      obtain ⟨M_133, hM_133⟩ : ∃ z : ti_M, z = uI M_128 60 24 a := ⟨_, rfl⟩
                      have hw := hw.to hM_133.symm
                      have iM_133 : mI Tm M_133 := mI_va iM_128 hM_133 (fun h => absurd ((tI_uE hM_128).symm.trans h) (by decide))
                      have v_134 : (tI M_133 60 20).toInt = (tI M_128 60 20).toInt := by rw [tI_nE hM_133 (nk (by decide))]
                      have v_135 : (tI M_133 60 21).toInt = (tI M_128 60 21).toInt := by rw [tI_nE hM_133 (nk (by decide))]
                      have v_136 : (tI M_133 60 23).toInt = (tI M_128 60 23).toInt := by rw [tI_nE hM_133 (nk (by decide))]
                      have v_137 : (tI M_133 60 24).toInt = (a : Int32).toInt := by rw [tI_uE hM_133]
                      refine lv_iload_n hx hb dX10_sign_84 rfl (lv_at hl 1 rfl) ?_
                      refine lv_bipush (v := 60) hx hb dX10_sign_85 (by decide) ?_
                      refine sb_icmp_ne (tgt := 106) hx hb rfl (by decide : (60 : Int32).toInt = 60) dX10_sign_87 (by decide) (fun c_87_137 => ?_) (fun c_87_137 => ?_)
                      · have u_288 : (tI M_133 60 20).toInt = (tI M 60 20).toInt := by rw [((tI_nE hM_133 (nk (by decide))).trans ((tI_nE hM_128 (nk (by decide))).trans (tI_nE hM_3 (nk (by decide)))))]
                        have u_289 : 0 ≤ (tI M_133 60 20).toInt ∧ (tI M_133 60 20).toInt ≤ 700 := mI_rd (x := tI M_133 60 20) (k := 20) iM_133 rfl
                        have u_290 : (tI M_133 60 21).toInt = (x_2 : Int32).toInt := by rw [((tI_nE hM_133 (nk (by decide))).trans ((tI_nE hM_128 (nk (by decide))).trans (tI_uE hM_3)))]
                        have u_291 : (tI M_133 60 23).toInt = (5 : Int32).toInt := by rw [((tI_nE hM_133 (nk (by decide))).trans (tI_uE hM_128))]
                        have u_292 : (tI M_133 60 24).toInt = (a : Int32).toInt := by rw [(tI_uE hM_133)]
                        exact hj_106_237 M_133 5 _ _ _ iM_133 (pr.trans (pr_I hM_133 (by decide)) (pr.trans (pr_I hM_128 (by decide)) (pr_I hM_3 (by decide)))) ((tI_nE hM_133 (nk (by decide))).trans ((tI_nE hM_128 (nk (by decide))).trans (tI_nE hM_3 (nk (by decide))))) (by have lt0 : (5 : Int32).toInt = 5 := (by decide); first | omega | decide) (by have lt0 : (5 : Int32).toInt = 5 := (by decide); first | omega | decide) ((tI_nE hM_133 (nk (by decide))).trans (tI_uE hM_128)) (by have lt0 : (5 : Int32).toInt = 5 := (by decide); first | omega | decide) (by have lt0 : (5 : Int32).toInt = 5 := (by decide); first | omega | decide) (by have lt0 : (5 : Int32).toInt = 5 := (by decide); first | omega | decide) (by have lt0 : (5 : Int32).toInt = 5 := (by decide); first | omega | decide) hw (lv_sub hl [0, 1] rfl)
                      · refine lv_aload_n hx hb dX10_sign_90 rfl (lv_at hl 0 rfl) ?_
                        refine ti_callVi (ci := 10) (av := []) C hw (s_X10_here l D A cy hJ M_133 iM_133 ) ⟨ml_X10_166, ym_X10_here, yv_X10_here, yi_X10_here, yc_X10_here⟩ yd_X10_here ob_60 (by decide) rfl rfl hl.1 (Nat.le_of_ble_eq_true rfl) ⟨by decide, by decide⟩ ⟨Nat.zero_le _, Nat.zero_le _⟩ dX10_sign_91 (fun r_169 M_170 H locs hp_170 hw => ?_)
                        obtain ⟨hm, b0r_169, b1r_169, p0r_169, p1r_169⟩ := hp_170
                        have hw := hw.to hm
                        have hhr_169 : (hr M_133).toInt = r_169.toInt := by rw [← p1r_169]
                        have kr_169 := hr_pk (a := 21) (b := 24) (M := M) (pr.trans (pr_I hM_133 (by decide)) (pr.trans (pr_I hM_128 (by decide)) (pr_I hM_3 (by decide)))) (by decide) iM_133 p1r_169
                        have kdr_169 : r_169.toInt = (pt_pk (pt_rB M) (pt_rn0 M) ((tI M 60 21).toInt.toNat + 1)) := by rw [kr_169, show (tI M_133 60 21).toInt.toNat = (tI M 60 21).toInt.toNat + 1 by omega]
                        refine lv_bipush (v := 61) hx hb dX10_sign_94 (by decide) ?_
                        refine sb_icmp_ne (tgt := 106) hx hb rfl (by decide : (61 : Int32).toInt = 61) dX10_sign_96 (by decide) (fun c_96_170 => ?_) (fun c_96_170 => ?_)
                        · have u_343 : (tI M_133 60 20).toInt = (tI M 60 20).toInt := by rw [((tI_nE hM_133 (nk (by decide))).trans ((tI_nE hM_128 (nk (by decide))).trans (tI_nE hM_3 (nk (by decide)))))]
                          have u_344 : 0 ≤ (tI M_133 60 20).toInt ∧ (tI M_133 60 20).toInt ≤ 700 := mI_rd (x := tI M_133 60 20) (k := 20) iM_133 rfl
                          have u_345 : (tI M_133 60 21).toInt = (x_2 : Int32).toInt := by rw [((tI_nE hM_133 (nk (by decide))).trans ((tI_nE hM_128 (nk (by decide))).trans (tI_uE hM_3)))]
                          have u_346 : (tI M_133 60 23).toInt = (5 : Int32).toInt := by rw [((tI_nE hM_133 (nk (by decide))).trans (tI_uE hM_128))]
                          have u_347 : (tI M_133 60 24).toInt = (a : Int32).toInt := by rw [(tI_uE hM_133)]
                          exact hj_106_237 M_133 5 _ _ _ iM_133 (pr.trans (pr_I hM_133 (by decide)) (pr.trans (pr_I hM_128 (by decide)) (pr_I hM_3 (by decide)))) ((tI_nE hM_133 (nk (by decide))).trans ((tI_nE hM_128 (nk (by decide))).trans (tI_nE hM_3 (nk (by decide))))) (by have lt0 : (5 : Int32).toInt = 5 := (by decide); first | omega | decide) (by have lt0 : (5 : Int32).toInt = 5 := (by decide); first | omega | decide) ((tI_nE hM_133 (nk (by decide))).trans (tI_uE hM_128)) (by have lt0 : (5 : Int32).toInt = 5 := (by decide); first | omega | decide) (by have lt0 : (5 : Int32).toInt = 5 := (by decide); first | omega | decide) (by have lt0 : (5 : Int32).toInt = 5 := (by decide); first | omega | decide) (by have lt0 : (5 : Int32).toInt = 5 := (by decide); first | omega | decide) hw (lv_sub hl [0, 1] rfl)
                        · refine lv_aload_n hx hb dX10_sign_99 rfl (lv_at hl 0 rfl) ?_
                          refine lv_sipush (v := 256) hx hb dX10_sign_100 (by decide) ?_
                          refine ti_putI (ci := 10) (k := 24) (N := 67) (T := TX10) C hw iw_10 tyX10 tyX10_ok nmX10 rfl ob_60 (by decide) (by decide) fl_X10_183 rfl rfl rfl rfl (fn_10 A _) fs_10_24 dX10_sign_103 (fun H locs hw => ?_)
                          obtain ⟨M_222, hM_222⟩ : ∃ z : ti_M, z = uI M_133 60 24 256 := ⟨_, rfl⟩
                          have hw := hw.to hM_222.symm
                          have iM_222 : mI Tm M_222 := mI_va iM_133 hM_222 (fun h => absurd (((tI_nE hM_133 (nk (by decide))).trans (tI_uE hM_128)).symm.trans h) (by decide))
                          have v_223 : (tI M_222 60 20).toInt = (tI M_133 60 20).toInt := by rw [tI_nE hM_222 (nk (by decide))]
                          have v_224 : (tI M_222 60 21).toInt = (tI M_133 60 21).toInt := by rw [tI_nE hM_222 (nk (by decide))]
                          have v_225 : (tI M_222 60 23).toInt = (tI M_133 60 23).toInt := by rw [tI_nE hM_222 (nk (by decide))]
                          have v_226 : (tI M_222 60 24).toInt = 256 := by rw [tI_uE hM_222]; decide
                          have u_398 : (tI M_222 60 20).toInt = (tI M 60 20).toInt := by rw [((tI_nE hM_222 (nk (by decide))).trans ((tI_nE hM_133 (nk (by decide))).trans ((tI_nE hM_128 (nk (by decide))).trans (tI_nE hM_3 (nk (by decide))))))]
                          have u_399 : 0 ≤ (tI M_222 60 20).toInt ∧ (tI M_222 60 20).toInt ≤ 700 := mI_rd (x := tI M_222 60 20) (k := 20) iM_222 rfl
                          have u_400 : (tI M_222 60 21).toInt = (x_2 : Int32).toInt := by rw [((tI_nE hM_222 (nk (by decide))).trans ((tI_nE hM_133 (nk (by decide))).trans ((tI_nE hM_128 (nk (by decide))).trans (tI_uE hM_3))))]
                          have u_401 : (tI M_222 60 23).toInt = (5 : Int32).toInt := by rw [((tI_nE hM_222 (nk (by decide))).trans ((tI_nE hM_133 (nk (by decide))).trans (tI_uE hM_128)))]
                          have u_402 : (tI M_222 60 24).toInt = (256 : Int32).toInt := by rw [(tI_uE hM_222)]
                          exact hj_106_237 M_222 5 _ _ _ iM_222 (pr.trans (pr_I hM_222 (by decide)) (pr.trans (pr_I hM_133 (by decide)) (pr.trans (pr_I hM_128 (by decide)) (pr_I hM_3 (by decide))))) ((tI_nE hM_222 (nk (by decide))).trans ((tI_nE hM_133 (nk (by decide))).trans ((tI_nE hM_128 (nk (by decide))).trans (tI_nE hM_3 (nk (by decide)))))) (by have lt0 : (5 : Int32).toInt = 5 := (by decide); first | omega | decide) (by have lt0 : (5 : Int32).toInt = 5 := (by decide); first | omega | decide) ((tI_nE hM_222 (nk (by decide))).trans ((tI_nE hM_133 (nk (by decide))).trans (tI_uE hM_128))) (by have lt0 : (5 : Int32).toInt = 5 := (by decide); first | omega | decide) (by have lt0 : (5 : Int32).toInt = 5 := (by decide); first | omega | decide) (by have lt0 : (5 : Int32).toInt = 5 := (by decide); first | omega | decide) (by have lt0 : (5 : Int32).toInt = 5 := (by decide); first | omega | decide) hw (lv_sub hl [0, 1] rfl)
                    · refine lv_iconst (v := 3) hx hb dX10_sign_71 (by decide) ?_
                      refine lv_goto (tgt := 76) hx hb dX10_sign_72 (by decide) ?_
                      refine ti_putI (ci := 10) (k := 23) (N := 67) (T := TX10) C hw iw_10 tyX10 tyX10_ok nmX10 rfl ob_60 (by decide) (by decide) fl_X10_173 rfl rfl rfl rfl (fn_10 A _) fs_10_23 dX10_sign_76 (fun H locs hw => ?_)
                      obtain ⟨M_117, hM_117⟩ : ∃ z : ti_M, z = uI M_3 60 23 3 := ⟨_, rfl⟩
                      have hw := hw.to hM_117.symm
                      have iM_117 : mI Tm M_117 := mI_so iM_3 hM_117 (fun h => absurd h (by decide))
                      have v_118 : (tI M_117 60 20).toInt = (tI M_3 60 20).toInt := by rw [tI_nE hM_117 (nk (by decide))]
                      have v_119 : (tI M_117 60 21).toInt = (tI M_3 60 21).toInt := by rw [tI_nE hM_117 (nk (by decide))]
                      have v_120 : (tI M_117 60 23).toInt = 3 := by rw [tI_uE hM_117]; decide
                      have v_121 : (tI M_117 60 24).toInt = (tI M_3 60 24).toInt := by rw [tI_nE hM_117 (nk (by decide))]
                      refine lv_aload_n hx hb dX10_sign_79 rfl (lv_at hl 0 rfl) ?_
                      refine lv_iload_n hx hb dX10_sign_80 rfl (lv_at hl 1 rfl) ?_
                      refine ti_putI (ci := 10) (k := 24) (N := 67) (T := TX10) C hw iw_10 tyX10 tyX10_ok nmX10 rfl ob_60 (by decide) (by decide) fl_X10_183 rfl rfl rfl rfl (fn_10 A _) fs_10_24 dX10_sign_81 (fun H locs hw => ?_)
                      obtain ⟨M_122, hM_122⟩ : ∃ z : ti_M, z = uI M_117 60 24 a := ⟨_, rfl⟩
                      have hw := hw.to hM_122.symm
                      have iM_122 : mI Tm M_122 := mI_va iM_117 hM_122 (fun h => absurd ((tI_uE hM_117).symm.trans h) (by decide))
                      have v_123 : (tI M_122 60 20).toInt = (tI M_117 60 20).toInt := by rw [tI_nE hM_122 (nk (by decide))]
                      have v_124 : (tI M_122 60 21).toInt = (tI M_117 60 21).toInt := by rw [tI_nE hM_122 (nk (by decide))]
                      have v_125 : (tI M_122 60 23).toInt = (tI M_117 60 23).toInt := by rw [tI_nE hM_122 (nk (by decide))]
                      have v_126 : (tI M_122 60 24).toInt = (a : Int32).toInt := by rw [tI_uE hM_122]
                      refine lv_iload_n hx hb dX10_sign_84 rfl (lv_at hl 1 rfl) ?_
                      refine lv_bipush (v := 60) hx hb dX10_sign_85 (by decide) ?_
                      refine sb_icmp_ne (tgt := 106) hx hb rfl (by decide : (60 : Int32).toInt = 60) dX10_sign_87 (by decide) (fun c_87_126 => ?_) (fun c_87_126 => ?_)
                      · have u_283 : (tI M_122 60 20).toInt = (tI M 60 20).toInt := by rw [((tI_nE hM_122 (nk (by decide))).trans ((tI_nE hM_117 (nk (by decide))).trans (tI_nE hM_3 (nk (by decide)))))]
                        have u_284 : 0 ≤ (tI M_122 60 20).toInt ∧ (tI M_122 60 20).toInt ≤ 700 := mI_rd (x := tI M_122 60 20) (k := 20) iM_122 rfl
                        have u_285 : (tI M_122 60 21).toInt = (x_2 : Int32).toInt := by rw [((tI_nE hM_122 (nk (by decide))).trans ((tI_nE hM_117 (nk (by decide))).trans (tI_uE hM_3)))]
                        have u_286 : (tI M_122 60 23).toInt = (3 : Int32).toInt := by rw [((tI_nE hM_122 (nk (by decide))).trans (tI_uE hM_117))]
                        have u_287 : (tI M_122 60 24).toInt = (a : Int32).toInt := by rw [(tI_uE hM_122)]
                        exact hj_106_237 M_122 3 _ _ _ iM_122 (pr.trans (pr_I hM_122 (by decide)) (pr.trans (pr_I hM_117 (by decide)) (pr_I hM_3 (by decide)))) ((tI_nE hM_122 (nk (by decide))).trans ((tI_nE hM_117 (nk (by decide))).trans (tI_nE hM_3 (nk (by decide))))) (by have lt0 : (3 : Int32).toInt = 3 := (by decide); first | omega | decide) (by have lt0 : (3 : Int32).toInt = 3 := (by decide); first | omega | decide) ((tI_nE hM_122 (nk (by decide))).trans (tI_uE hM_117)) (by have lt0 : (3 : Int32).toInt = 3 := (by decide); first | omega | decide) (by have lt0 : (3 : Int32).toInt = 3 := (by decide); first | omega | decide) (by have lt0 : (3 : Int32).toInt = 3 := (by decide); first | omega | decide) (by have lt0 : (3 : Int32).toInt = 3 := (by decide); first | omega | decide) hw (lv_sub hl [0, 1] rfl)
                      · refine lv_aload_n hx hb dX10_sign_90 rfl (lv_at hl 0 rfl) ?_
                        refine ti_callVi (ci := 10) (av := []) C hw (s_X10_here l D A cy hJ M_122 iM_122 ) ⟨ml_X10_166, ym_X10_here, yv_X10_here, yi_X10_here, yc_X10_here⟩ yd_X10_here ob_60 (by decide) rfl rfl hl.1 (Nat.le_of_ble_eq_true rfl) ⟨by decide, by decide⟩ ⟨Nat.zero_le _, Nat.zero_le _⟩ dX10_sign_91 (fun r_166 M_167 H locs hp_167 hw => ?_)
                        obtain ⟨hm, b0r_166, b1r_166, p0r_166, p1r_166⟩ := hp_167
                        have hw := hw.to hm
                        have hhr_166 : (hr M_122).toInt = r_166.toInt := by rw [← p1r_166]
                        have kr_166 := hr_pk (a := 21) (b := 24) (M := M) (pr.trans (pr_I hM_122 (by decide)) (pr.trans (pr_I hM_117 (by decide)) (pr_I hM_3 (by decide)))) (by decide) iM_122 p1r_166
                        have kdr_166 : r_166.toInt = (pt_pk (pt_rB M) (pt_rn0 M) ((tI M 60 21).toInt.toNat + 1)) := by rw [kr_166, show (tI M_122 60 21).toInt.toNat = (tI M 60 21).toInt.toNat + 1 by omega]
                        refine lv_bipush (v := 61) hx hb dX10_sign_94 (by decide) ?_
                        refine sb_icmp_ne (tgt := 106) hx hb rfl (by decide : (61 : Int32).toInt = 61) dX10_sign_96 (by decide) (fun c_96_167 => ?_) (fun c_96_167 => ?_)
                        · have u_338 : (tI M_122 60 20).toInt = (tI M 60 20).toInt := by rw [((tI_nE hM_122 (nk (by decide))).trans ((tI_nE hM_117 (nk (by decide))).trans (tI_nE hM_3 (nk (by decide)))))]
                          have u_339 : 0 ≤ (tI M_122 60 20).toInt ∧ (tI M_122 60 20).toInt ≤ 700 := mI_rd (x := tI M_122 60 20) (k := 20) iM_122 rfl
                          have u_340 : (tI M_122 60 21).toInt = (x_2 : Int32).toInt := by rw [((tI_nE hM_122 (nk (by decide))).trans ((tI_nE hM_117 (nk (by decide))).trans (tI_uE hM_3)))]
                          have u_341 : (tI M_122 60 23).toInt = (3 : Int32).toInt := by rw [((tI_nE hM_122 (nk (by decide))).trans (tI_uE hM_117))]
                          have u_342 : (tI M_122 60 24).toInt = (a : Int32).toInt := by rw [(tI_uE hM_122)]
                          exact hj_106_237 M_122 3 _ _ _ iM_122 (pr.trans (pr_I hM_122 (by decide)) (pr.trans (pr_I hM_117 (by decide)) (pr_I hM_3 (by decide)))) ((tI_nE hM_122 (nk (by decide))).trans ((tI_nE hM_117 (nk (by decide))).trans (tI_nE hM_3 (nk (by decide))))) (by have lt0 : (3 : Int32).toInt = 3 := (by decide); first | omega | decide) (by have lt0 : (3 : Int32).toInt = 3 := (by decide); first | omega | decide) ((tI_nE hM_122 (nk (by decide))).trans (tI_uE hM_117)) (by have lt0 : (3 : Int32).toInt = 3 := (by decide); first | omega | decide) (by have lt0 : (3 : Int32).toInt = 3 := (by decide); first | omega | decide) (by have lt0 : (3 : Int32).toInt = 3 := (by decide); first | omega | decide) (by have lt0 : (3 : Int32).toInt = 3 := (by decide); first | omega | decide) hw (lv_sub hl [0, 1] rfl)
                        · refine lv_aload_n hx hb dX10_sign_99 rfl (lv_at hl 0 rfl) ?_
                          refine lv_sipush (v := 256) hx hb dX10_sign_100 (by decide) ?_
                          refine ti_putI (ci := 10) (k := 24) (N := 67) (T := TX10) C hw iw_10 tyX10 tyX10_ok nmX10 rfl ob_60 (by decide) (by decide) fl_X10_183 rfl rfl rfl rfl (fn_10 A _) fs_10_24 dX10_sign_103 (fun H locs hw => ?_)
                          obtain ⟨M_217, hM_217⟩ : ∃ z : ti_M, z = uI M_122 60 24 256 := ⟨_, rfl⟩
                          have hw := hw.to hM_217.symm
                          have iM_217 : mI Tm M_217 := mI_va iM_122 hM_217 (fun h => absurd (((tI_nE hM_122 (nk (by decide))).trans (tI_uE hM_117)).symm.trans h) (by decide))
                          have v_218 : (tI M_217 60 20).toInt = (tI M_122 60 20).toInt := by rw [tI_nE hM_217 (nk (by decide))]
                          have v_219 : (tI M_217 60 21).toInt = (tI M_122 60 21).toInt := by rw [tI_nE hM_217 (nk (by decide))]
                          have v_220 : (tI M_217 60 23).toInt = (tI M_122 60 23).toInt := by rw [tI_nE hM_217 (nk (by decide))]
                          have v_221 : (tI M_217 60 24).toInt = 256 := by rw [tI_uE hM_217]; decide
                          have u_393 : (tI M_217 60 20).toInt = (tI M 60 20).toInt := by rw [((tI_nE hM_217 (nk (by decide))).trans ((tI_nE hM_122 (nk (by decide))).trans ((tI_nE hM_117 (nk (by decide))).trans (tI_nE hM_3 (nk (by decide))))))]
                          have u_394 : 0 ≤ (tI M_217 60 20).toInt ∧ (tI M_217 60 20).toInt ≤ 700 := mI_rd (x := tI M_217 60 20) (k := 20) iM_217 rfl
                          have u_395 : (tI M_217 60 21).toInt = (x_2 : Int32).toInt := by rw [((tI_nE hM_217 (nk (by decide))).trans ((tI_nE hM_122 (nk (by decide))).trans ((tI_nE hM_117 (nk (by decide))).trans (tI_uE hM_3))))]
                          have u_396 : (tI M_217 60 23).toInt = (3 : Int32).toInt := by rw [((tI_nE hM_217 (nk (by decide))).trans ((tI_nE hM_122 (nk (by decide))).trans (tI_uE hM_117)))]
                          have u_397 : (tI M_217 60 24).toInt = (256 : Int32).toInt := by rw [(tI_uE hM_217)]
                          exact hj_106_237 M_217 3 _ _ _ iM_217 (pr.trans (pr_I hM_217 (by decide)) (pr.trans (pr_I hM_122 (by decide)) (pr.trans (pr_I hM_117 (by decide)) (pr_I hM_3 (by decide))))) ((tI_nE hM_217 (nk (by decide))).trans ((tI_nE hM_122 (nk (by decide))).trans ((tI_nE hM_117 (nk (by decide))).trans (tI_nE hM_3 (nk (by decide)))))) (by have lt0 : (3 : Int32).toInt = 3 := (by decide); first | omega | decide) (by have lt0 : (3 : Int32).toInt = 3 := (by decide); first | omega | decide) ((tI_nE hM_217 (nk (by decide))).trans ((tI_nE hM_122 (nk (by decide))).trans (tI_uE hM_117))) (by have lt0 : (3 : Int32).toInt = 3 := (by decide); first | omega | decide) (by have lt0 : (3 : Int32).toInt = 3 := (by decide); first | omega | decide) (by have lt0 : (3 : Int32).toInt = 3 := (by decide); first | omega | decide) (by have lt0 : (3 : Int32).toInt = 3 := (by decide); first | omega | decide) hw (lv_sub hl [0, 1] rfl)
set_option maxHeartbeats 4000000 in
set_option maxRecDepth 100000 in
theorem x_X10_name (l : Launch) (D : va_G) (A : Nat → Nat → Nat) (cy : Nat → ClassId) (hJ : ti_inj ti_LM A) (M : ti_M) (hI : mI Tm M) (hs : tI M 60 23 = 1) (hal : pt_al (pt_rB M) (tI M 60 22).toInt.toNat (tI M 60 21).toInt.toNat) : ti_Kv l yX10_name cX10_name 2 0 ti_LM D A cy M [.ref (A 60 0)] (fun M2 => mI Tm M2 ∧ pr 24 24 M2 M ∧ (tI M2 60 24).toInt = pt_h (pt_rB M) (tI M 60 22).toInt.toNat (tI M 60 21).toInt.toNat 6) := by
  refine ti_eV yp_X10_name hJ ti_LM_nd (Nat.le_of_ble_eq_true rfl) ?_
  intro p e s m args below meth c Q H0 C hQ hw ls hl
  have hx := C.1
  have hb := C.2.1
  have hl : lv_has ls 2 [(0, .ref (A 60 0))] := hl
  have hpl : 0 ≤ (tI M 60 22).toInt ∧ (tI M 60 22).toInt ≤ 700 := hI.1 22
  have hat : 0 ≤ (tI M 60 21).toInt ∧ (tI M 60 21).toInt ≤ 700 := hI.1 21
  refine lv_aload_n hx hb dX10_name_0 rfl (lv_at hl 0 rfl) ?_
  refine lv_iconst (v := 0) hx hb dX10_name_1 (by decide) ?_
  refine ti_putI (ci := 10) (k := 24) (N := 67) (T := TX10) C hw iw_10 tyX10 tyX10_ok nmX10 rfl ob_60 (by decide) (by decide) fl_X10_183 rfl rfl rfl rfl (fn_10 A _) fs_10_24 dX10_name_2 (fun H locs hw => ?_)
  obtain ⟨M_1, hM_1⟩ : ∃ z : ti_M, z = uI M 60 24 0 := ⟨_, rfl⟩
  have hw := hw.to hM_1.symm
  have iM_1 : mI Tm M_1 := mI_va hI hM_1 (fun h => absurd ((hs).symm.trans h) (by decide))
  have v_2 : (tI M_1 60 21).toInt = (tI M 60 21).toInt := by rw [tI_nE hM_1 (nk (by decide))]
  have v_3 : (tI M_1 60 22).toInt = (tI M 60 22).toInt := by rw [tI_nE hM_1 (nk (by decide))]
  refine lv_iconst (v := 0) hx hb dX10_name_5 (by decide) ?_
  refine lv_istore_n (lv' := [(1, .int 0), (0, .ref (A 60 0))]) hx hb dX10_name_6 rfl hl (by decide) rfl (fun ls hl => ?_)
  have hl_7_10 : ∀ (n_11 : Nat) (x_4 : Int32) (M_7 : ti_M) (H : Heap) (locs : List Loc) (ls : Array Slot), (6 - x_4.toInt : Int).toNat < n_11 → (0 ≤ x_4.toInt) → (x_4.toInt ≤ 6) → (mI Tm M_7) → (pr 24 24 M_7 M) → (tI M_7 60 23 = 1) → ((tI M_7 60 24).toInt = pt_h (pt_rB M) (tI M 60 22).toInt.toNat (tI M 60 21).toInt.toNat (x_4.toInt).toNat) → ti_H ti_LM D A cy H0 M_7 H locs → lv_has ls 2 [(1, .int x_4), (0, .ref (A 60 0))] → W p l e (ti_rm 0) s m args below meth c H locs 0 0 Q (F0 m 7 ls []) := by
    intro n_11
    induction n_11 with
    | zero => intro x_4 M_7 H locs ls hf_11; exact absurd hf_11 (Nat.not_lt_zero _)
    | succ n_11 ih_11 =>
      intro x_4 M_7 H locs ls hf_11 b_5 b_6 iM_7 f_8 f_9 j_10 hw hl
      have v_12 : (tI M_7 60 21).toInt = (tI M 60 21).toInt := by rw [f_8.2 21 (by decide)]
      have v_13 : (tI M_7 60 22).toInt = (tI M 60 22).toInt := by rw [f_8.2 22 (by decide)]
      refine lv_iload_n hx hb dX10_name_7 rfl (lv_at hl 0 rfl) ?_
      refine lv_bipush (v := 6) hx hb dX10_name_8 (by decide) ?_
      refine sb_icmp_ge (tgt := 63) hx hb rfl (by decide : (6 : Int32).toInt = 6) dX10_name_10 (by decide) (fun c_10_13 => ?_) (fun c_10_13 => ?_)
      · exact hQ _ _ _ _ _ hw (⟨iM_7, f_8, (by have q := j_10; rw [show x_4.toInt.toNat = 6 by omega] at q; exact q)⟩) dX10_name_63
      · refine lv_aload_n hx hb dX10_name_13 rfl (lv_at hl 1 rfl) ?_
        refine lv_aload_n hx hb dX10_name_14 rfl (lv_at hl 1 rfl) ?_
        refine ti_get (ci := 10) (k := 24) (N := 67) (T := TX10) C hw iw_10 rfl ob_60 (by decide) (by decide) fl_X10_183 rfl rfl dX10_name_15 ?_
        refine lv_topi (fun x_15 ex_15 => ?_)
        refine lv_iconst (v := 5) hx hb dX10_name_18 (by decide) ?_
        refine lv_ishl hx hb dX10_name_19 ?_
        refine lv_topi (fun x_16 ex_16 => ?_)
        have vpx_16 : x_15.toInt = pt_h (pt_rB M) (tI M 60 22).toInt.toNat (tI M 60 21).toInt.toNat x_4.toInt.toNat := by rw [← j_10, ← (ex_15.symm)]
        refine lv_aload_n hx hb dX10_name_20 rfl (lv_at hl 1 rfl) ?_
        refine ti_get (ci := 10) (k := 22) (N := 67) (T := TX10) C hw iw_10 rfl ob_60 (by decide) (by decide) fl_X10_170 rfl rfl dX10_name_21 ?_
        refine lv_topi (fun x_17 ex_17 => ?_)
        have bx_17 : 0 ≤ x_17.toInt ∧ x_17.toInt ≤ 700 := mI_rd iM_7 ex_17
        have ux_17 : (tI M_7 60 22).toInt = x_17.toInt := by rw [ex_17]
        refine lv_iload_n hx hb dX10_name_24 rfl (lv_at hl 0 rfl) ?_
        refine lv_iadd hx hb dX10_name_25 ?_
        refine lv_topi (fun x_18 ex_18 => ?_)
        have tx_18 : x_18.toInt = x_17.toInt + x_4.toInt := i_add ex_18 rfl rfl (by omega) (by omega)
        refine lv_aload_n hx hb dX10_name_26 rfl (lv_at hl 1 rfl) ?_
        refine ti_get (ci := 10) (k := 21) (N := 67) (T := TX10) C hw iw_10 rfl ob_60 (by decide) (by decide) fl_X10_160 rfl rfl dX10_name_27 ?_
        refine lv_topi (fun x_19 ex_19 => ?_)
        have bx_19 : 0 ≤ x_19.toInt ∧ x_19.toInt ≤ 700 := mI_rd iM_7 ex_19
        have ux_19 : (tI M_7 60 21).toInt = x_19.toInt := by rw [ex_19]
        refine sb_icmp_ge (tgt := 52) hx hb rfl rfl dX10_name_30 (by decide) (fun c_30_19 => ?_) (fun c_30_19 => ?_)
        · refine lv_iconst (v := 0) hx hb dX10_name_52 (by decide) ?_
          refine lv_ior hx hb dX10_name_53 ?_
          refine lv_topi (fun x_31 ex_31 => ?_)
          refine ti_putI (ci := 10) (k := 24) (N := 67) (T := TX10) C hw iw_10 tyX10 tyX10_ok nmX10 rfl ob_60 (by decide) (by decide) fl_X10_183 rfl rfl rfl rfl (fn_10 A _) fs_10_24 dX10_name_54 (fun H locs hw => ?_)
          obtain ⟨M_32, hM_32⟩ : ∃ z : ti_M, z = uI M_7 60 24 x_31 := ⟨_, rfl⟩
          have hw := hw.to hM_32.symm
          have iM_32 : mI Tm M_32 := mI_va iM_7 hM_32 (fun h => absurd ((f_9).symm.trans h) (by decide))
          have v_33 : (tI M_32 60 21).toInt = (tI M_7 60 21).toInt := by rw [tI_nE hM_32 (nk (by decide))]
          have v_34 : (tI M_32 60 22).toInt = (tI M_7 60 22).toInt := by rw [tI_nE hM_32 (nk (by decide))]
          obtain ⟨x_35, ex_35⟩ : ∃ z : Int32, z = x_4 + 1 := ⟨_, rfl⟩
          have tx_35 : x_35.toInt = x_4.toInt + 1 := i_add ex_35 rfl (by decide) (by omega) (by omega)
          refine lv_iinc (v := x_35) (lv' := [(1, .int x_35), (0, .ref (A 60 0))]) hx hb dX10_name_57 hl (k := 0) rfl (by rw [ex_35]; rfl) (by decide) rfl (fun ls hl => ?_)
          refine lv_goto (tgt := 7) hx hb dX10_name_60 (by decide) ?_
          exact ih_11 x_35 M_32 _ _ _ (by omega) (by first | omega | decide) (by first | omega | decide) iM_32 (pr.trans (pr_I hM_32 (by decide)) f_8) ((tI_nE hM_32 (nk (by decide))).trans f_9) (by rw [show x_35.toInt.toNat = x_4.toInt.toNat + 1 by omega, (tI_uE hM_32)]; exact pt_hst (by omega) hal vpx_16 ex_16 (by rw [show (0 : Int32).toInt = 0 by decide]; unfold pt_dg; rw [if_neg (by omega)]) ex_31) hw (lv_sub hl [0, 1] rfl)
        · refine lv_aload_n hx hb dX10_name_33 rfl (lv_at hl 1 rfl) ?_
          refine ti_get (ci := 10) (k := 1) (N := 67) (T := TX10) (v := .ref (A 60 2)) C hw iw_10 rfl ob_60 (by decide) (by decide) fl_X10_7 rfl rfl dX10_name_34 ?_
          refine lv_aload_n hx hb dX10_name_37 rfl (lv_at hl 1 rfl) ?_
          refine ti_get (ci := 10) (k := 22) (N := 67) (T := TX10) C hw iw_10 rfl ob_60 (by decide) (by decide) fl_X10_170 rfl rfl dX10_name_38 ?_
          refine ti_top (y := x_17) (ex_17.symm) ?_
          have u_21 : (tI M_7 60 22).toInt = (x_17 : Int32).toInt := by rw [(ex_17.symm)]
          refine lv_iload_n hx hb dX10_name_41 rfl (lv_at hl 0 rfl) ?_
          refine lv_iadd hx hb dX10_name_42 ?_
          refine lv_topi (fun x_22 ex_22 => ?_)
          have tx_22 : x_22.toInt = x_17.toInt + x_4.toInt := i_add ex_22 rfl rfl (by omega) (by omega)
          refine ti_iald (ci := 10) (k := 1) (n := 700) C hw ob_60 (by decide) (fun _ _ => rfl) (vp_in_iff.mpr (by omega)) dX10_name_43 ?_
          refine lv_topi (fun x_23 ex_23 => ?_)
          have yx_23 : tY M_7 60 1 x_22.toNatClampNeg = x_23 := (ex_23.symm)
          have bx_23 : 0 ≤ x_23.toInt ∧ x_23.toInt ≤ 255 := mI_ry (k := 1) (i := x_22.toNatClampNeg) iM_7 yx_23.symm
          have wx_23 : tY M 60 1 x_22.toNatClampNeg = x_23 := ((cg (tY_fr f_8.1) x_22.toNatClampNeg)).symm.trans yx_23
          refine lv_bipush (v := 97) hx hb dX10_name_44 (by decide) ?_
          refine lv_isub hx hb dX10_name_46 ?_
          refine lv_topi (fun x_24 ex_24 => ?_)
          have tx_24 : x_24.toInt = x_23.toInt - 97 := i_sub ex_24 rfl (by decide : (97 : Int32).toInt = 97) (by omega) (by omega)
          refine lv_iconst (v := 1) hx hb dX10_name_47 (by decide) ?_
          refine lv_iadd hx hb dX10_name_48 ?_
          refine lv_topi (fun x_25 ex_25 => ?_)
          have tx_25 : x_25.toInt = x_24.toInt + 1 := i_add ex_25 rfl (by decide : (1 : Int32).toInt = 1) (by omega) (by omega)
          refine lv_goto (tgt := 53) hx hb dX10_name_49 (by decide) ?_
          refine lv_ior hx hb dX10_name_53 ?_
          refine lv_topi (fun x_26 ex_26 => ?_)
          refine ti_putI (ci := 10) (k := 24) (N := 67) (T := TX10) C hw iw_10 tyX10 tyX10_ok nmX10 rfl ob_60 (by decide) (by decide) fl_X10_183 rfl rfl rfl rfl (fn_10 A _) fs_10_24 dX10_name_54 (fun H locs hw => ?_)
          obtain ⟨M_27, hM_27⟩ : ∃ z : ti_M, z = uI M_7 60 24 x_26 := ⟨_, rfl⟩
          have hw := hw.to hM_27.symm
          have iM_27 : mI Tm M_27 := mI_va iM_7 hM_27 (fun h => absurd ((f_9).symm.trans h) (by decide))
          have v_28 : (tI M_27 60 21).toInt = (tI M_7 60 21).toInt := by rw [tI_nE hM_27 (nk (by decide))]
          have v_29 : (tI M_27 60 22).toInt = (tI M_7 60 22).toInt := by rw [tI_nE hM_27 (nk (by decide))]
          obtain ⟨x_30, ex_30⟩ : ∃ z : Int32, z = x_4 + 1 := ⟨_, rfl⟩
          have tx_30 : x_30.toInt = x_4.toInt + 1 := i_add ex_30 rfl (by decide) (by omega) (by omega)
          refine lv_iinc (v := x_30) (lv' := [(1, .int x_30), (0, .ref (A 60 0))]) hx hb dX10_name_57 hl (k := 0) rfl (by rw [ex_30]; rfl) (by decide) rfl (fun ls hl => ?_)
          refine lv_goto (tgt := 7) hx hb dX10_name_60 (by decide) ?_
          exact ih_11 x_30 M_27 _ _ _ (by omega) (by first | omega | decide) (by first | omega | decide) iM_27 (pr.trans (pr_I hM_27 (by decide)) f_8) ((tI_nE hM_27 (nk (by decide))).trans f_9) (by rw [show x_30.toInt.toNat = x_4.toInt.toNat + 1 by omega, (tI_uE hM_27)]; exact pt_hst (by omega) hal vpx_16 ex_16 (by unfold pt_dg; rw [if_pos (by omega), ← pt_rbx (s := (tI M 60 22).toInt.toNat + x_4.toInt.toNat) (M := M) ((congrFun (congrFun (congrFun f_8.1 60) 1) _).symm.trans yx_23) (by omega)]; omega) ex_26) hw (lv_sub hl [0, 1] rfl)
  exact hl_7_10 ((6 - 0 : Int).toNat + 1) 0 M_1 _ _ _ (Nat.lt_succ_self _) (by have lt0 : (0 : Int32).toInt = 0 := (by decide); first | omega | decide) (by have lt0 : (0 : Int32).toInt = 0 := (by decide); first | omega | decide) iM_1 (pr_I hM_1 (by decide)) ((tI_nE hM_1 (nk (by decide))).trans hs) (by rw [(tI_uE hM_1), show (0 : Int32).toInt = 0 by decide]; rfl) hw (lv_sub hl [0, 1] rfl)
end
section
variable {Tc : gC} {Tm : gM}
theorem pt_n25 {n k : Int} (h : k = ((pt_st.getD n.toNat 0 : Nat) : Int)) (h0 : 0 ≤ n) (h1 : n ≤ 25) (hk : k < 125) : n < 25 := by
  by_cases q : n = 25
  · subst q
    rw [show (25 : Int).toNat = 25 by decide, pt_s25] at h
    omega
  · omega
theorem pt_m25 {n k : Int} (h : k = ((pt_st.getD n.toNat 0 : Nat) : Int)) (h0 : 0 ≤ n) (h1 : n ≤ 25) (hk : 125 ≤ k) : n = 25 := by
  by_cases q : n = 25
  · exact q
  · have g := pt_s1 n.toNat (by omega)
    omega
theorem pt_nx {n k : Nat} (hn : n < 25) (h1 : pt_st.getD n 0 ≤ k) (h2 : k ≤ pt_st.getD n 0 + pt_ln.getD n 0) (hc : pt_rc k = 32) : k + 1 = pt_st.getD (n + 1) 0 := by
  have g := pt_s1 n hn
  have q := pt_eq (w := n) (i := k - pt_st.getD n 0) hn (by omega) (by rw [Nat.add_sub_cancel' h1]; exact hc)
  omega
theorem pt_ny {n k : Nat} (hn : n < 25) (h1 : pt_st.getD n 0 ≤ k) (h2 : k ≤ pt_st.getD n 0 + pt_ln.getD n 0) (hc : ¬ pt_rc k = 32) : k + 1 ≤ pt_st.getD n 0 + pt_ln.getD n 0 := by
  have q := pt_lt (w := n) (i := k - pt_st.getD n 0) hn (by omega) (by rw [Nat.add_sub_cancel' h1]; exact hc)
  omega
theorem pt_rcy {x z : Int32} (e : z = tx_mb.getD x.toNatClampNeg 0 &&& 255) : z.toInt = pt_rc x.toInt.toNat := by
  rw [e]
  rfl
set_option maxHeartbeats 4000000 in
set_option maxRecDepth 100000 in
theorem x_X10_word (l : Launch) (D : va_G) (A : Nat → Nat → Nat) (cy : Nat → ClassId) (hJ : ti_inj ti_LM A) (M : ti_M) (hI : mI Tm M) (hpa : (tI M 60 22).toInt ≤ (tI M 60 21).toInt) : ti_KiE l yX10_word cX10_word 4 (some .int) 4 ti_LM D A cy M [.ref (A 60 0)] (fun r M2 => M2 = M ∧ -1 ≤ r.toInt ∧ r.toInt ≤ 24 ∧ ((r.toInt = -1 ∧ ∀ w : Nat, w < 25 → ¬ pt_mt (pt_rB M) (tI M 60 22).toInt.toNat (tI M 60 21).toInt.toNat w) ∨ (0 ≤ r.toInt ∧ pt_mt (pt_rB M) (tI M 60 22).toInt.toNat (tI M 60 21).toInt.toNat r.toInt.toNat))) := by
  refine ti_eIE yp_X10_word hJ ti_LM_nd (Nat.le_of_ble_eq_true rfl) ?_
  intro p e s m args below meth c Q H0 C hE hQ hw ls hl
  have hx := C.1
  have hb := C.2.1
  have hl : lv_has ls 4 [(0, .ref (A 60 0))] := hl
  obtain ⟨⟨a1, v1, hR1, hs1⟩, ⟨a2, v2, hR2, hs2⟩, hg1⟩ := id hE
  have hpl : 0 ≤ (tI M 60 22).toInt ∧ (tI M 60 22).toInt ≤ 700 := hI.1 22
  have hat : 0 ≤ (tI M 60 21).toInt ∧ (tI M 60 21).toInt ≤ 700 := hI.1 21
  refine lv_iconst (v := 0) hx hb dX10_word_0 (by decide) ?_
  refine lv_istore_n (lv' := [(1, .int 0), (0, .ref (A 60 0))]) hx hb dX10_word_1 rfl hl (by decide) rfl (fun ls hl => ?_)
  refine lv_iconst (v := 0) hx hb dX10_word_2 (by decide) ?_
  refine lv_istore_n (lv' := [(2, .int 0), (1, .int 0), (0, .ref (A 60 0))]) hx hb dX10_word_3 rfl hl (by decide) rfl (fun ls hl => ?_)
  have hl_4_8 : ∀ (n_9 : Nat) (x_1 : Int32) (x_4 : Int32) (H : Heap) (locs : List Loc) (ls : Array Slot), (125 - x_1.toInt : Int).toNat < n_9 → (0 ≤ x_1.toInt) → (x_1.toInt ≤ 125) → (0 ≤ x_4.toInt) → (x_4.toInt ≤ 25) → (x_1.toInt = ((pt_st.getD (x_4.toInt).toNat 0 : Nat) : Int)) → (∀ w : Nat, w < (x_4.toInt).toNat → ¬ pt_mt (pt_rB M) (tI M 60 22).toInt.toNat (tI M 60 21).toInt.toNat w) → ti_H ti_LM D A cy H0 M H locs → lv_has ls 4 [(2, .int x_1), (1, .int x_4), (0, .ref (A 60 0))] → W p l e (ti_rm 4) s m args below meth c H locs 0 0 Q (F0 m 4 ls []) := by
    intro n_9
    induction n_9 with
    | zero => intro x_1 x_4 H locs ls hf_9; exact absurd hf_9 (Nat.not_lt_zero _)
    | succ n_9 ih_9 =>
      intro x_1 x_4 H locs ls hf_9 b_2 b_3 b_5 b_6 j_7 j_8 hw hl
      refine lv_iload_n hx hb dX10_word_4 rfl (lv_at hl 0 rfl) ?_
      refine va_ldcS hx hb C.2.2.2.1 hR2 dX10_word_5 ?_
      refine ti_length C hs2 hg1 hw ml_X10_199 hl.1 (Nat.le_of_ble_eq_true rfl) ⟨by decide, by decide⟩ ⟨Nat.zero_le _, Nat.zero_le _⟩ dX10_word_7 (fun H locs hw => ?_)
      refine sb_icmp_ge (tgt := 123) hx hb rfl (by decide : (125 : Int32).toInt = 125) dX10_word_10 (by decide) (fun c_10_9 => ?_) (fun c_10_9 => ?_)
      · refine lv_iconst (v := (-1)) hx hb dX10_word_123 (by decide) ?_
        exact hQ _ _ _ _ _ _ hw rfl (⟨rfl, by decide, by decide, Or.inl ⟨by decide, (by have q := pt_m25 j_7 (by omega) (by omega) (by omega); have q2 := j_8; rw [q] at q2; exact q2)⟩⟩) dX10_word_124
      · have hn25 := pt_n25 j_7 (by omega) (by omega) (by omega)
        have g1 := pt_s1 x_4.toInt.toNat (by omega)
        refine lv_iconst (v := 0) hx hb dX10_word_13 (by decide) ?_
        refine lv_istore_n (lv' := [(3, .int 0), (2, .int x_1), (1, .int x_4), (0, .ref (A 60 0))]) hx hb dX10_word_14 rfl hl (by decide) rfl (fun ls hl => ?_)
        have hl_15_16 : ∀ (n_17 : Nat) (x_11 : Int32) (H : Heap) (locs : List Loc) (ls : Array Slot), (125 - x_11.toInt : Int).toNat < n_17 → (0 ≤ x_11.toInt) → (x_11.toInt ≤ 124) → (x_11.toInt ≤ ((pt_ln.getD (x_4.toInt).toNat 0 : Nat) : Int)) → (∀ j : Nat, j < (x_11.toInt).toNat → pt_rB M ((tI M 60 22).toInt.toNat + j) = pt_rc (pt_st.getD (x_4.toInt).toNat 0 + j)) → (x_11.toInt + (tI M 60 22).toInt ≤ (tI M 60 21).toInt) → ti_H ti_LM D A cy H0 M H locs → lv_has ls 4 [(3, .int x_11), (2, .int x_1), (1, .int x_4), (0, .ref (A 60 0))] → W p l e (ti_rm 4) s m args below meth c H locs 0 0 Q (F0 m 15 ls []) := by
          intro n_17
          induction n_17 with
          | zero => intro x_11 H locs ls hf_17; exact absurd hf_17 (Nat.not_lt_zero _)
          | succ n_17 ih_17 =>
            intro x_11 H locs ls hf_17 b_12 b_13 j_14 j_15 j_16 hw hl
            refine va_ldcS hx hb C.2.2.2.1 hR2 dX10_word_15 ?_
            refine lv_iload_n hx hb dX10_word_17 rfl (lv_at hl 1 rfl) ?_
            refine lv_iload_n hx hb dX10_word_18 rfl (lv_at hl 0 rfl) ?_
            refine lv_iadd hx hb dX10_word_19 ?_
            refine lv_topi (fun x_18 ex_18 => ?_)
            have tx_18 : x_18.toInt = x_1.toInt + x_11.toInt := i_add ex_18 rfl rfl (by omega) (by omega)
            refine ti_charAt (n := 125) C hs2 hg1 hw ml_X10_204 hl.1 (Nat.le_of_ble_eq_true rfl) ⟨by decide, by decide⟩ ⟨Nat.zero_le _, Nat.zero_le _⟩ (by decide) (by omega) (by omega) dX10_word_20 (fun H locs hw => ?_)
            refine lv_topi (fun x_20 ex_20 => ?_)
            have bx_20 := i_and 8 ex_20 (by decide) (by decide)
            have rcx_20 : x_20.toInt = pt_rc (pt_st.getD x_4.toInt.toNat 0 + x_11.toInt.toNat) := pt_rcx (s := pt_st.getD x_4.toInt.toNat 0) (i := x_11.toInt.toNat) ex_20 (by omega)
            refine lv_bipush (v := 32) hx hb dX10_word_23 (by decide) ?_
            have hl_97_63 : ∀ (n_64 : Nat) (x_58 : Int32) (H : Heap) (locs : List Loc) (ls : Array Slot), (125 - x_58.toInt : Int).toNat < n_64 → (0 ≤ x_58.toInt) → (x_58.toInt ≤ 125) → (((pt_st.getD (x_4.toInt).toNat 0 : Nat) : Int) ≤ x_58.toInt) → (x_58.toInt ≤ ((pt_st.getD (x_4.toInt).toNat 0 + pt_ln.getD (x_4.toInt).toNat 0 : Nat) : Int)) → (¬ pt_mt (pt_rB M) (tI M 60 22).toInt.toNat (tI M 60 21).toInt.toNat (x_4.toInt).toNat) → ti_H ti_LM D A cy H0 M H locs → lv_has ls 4 [(3, .int x_11), (2, .int x_58), (1, .int x_4), (0, .ref (A 60 0))] → W p l e (ti_rm 4) s m args below meth c H locs 0 0 Q (F0 m 97 ls []) := by
              intro n_64
              induction n_64 with
              | zero => intro x_58 H locs ls hf_64; exact absurd hf_64 (Nat.not_lt_zero _)
              | succ n_64 ih_64 =>
                intro x_58 H locs ls hf_64 b_59 b_60 j_61 j_62 j_63 hw hl
                refine va_ldcS hx hb C.2.2.2.1 hR2 dX10_word_97 ?_
                refine lv_iload_n hx hb dX10_word_99 rfl (lv_at hl 1 rfl) ?_
                refine ti_charAt (n := 125) C hs2 hg1 hw ml_X10_204 hl.1 (Nat.le_of_ble_eq_true rfl) ⟨by decide, by decide⟩ ⟨Nat.zero_le _, Nat.zero_le _⟩ (by decide) (by omega) (by omega) dX10_word_100 (fun H locs hw => ?_)
                refine lv_topi (fun x_66 ex_66 => ?_)
                have bx_66 := i_and 8 ex_66 (by decide) (by decide)
                have ryx_66 := pt_rcy ex_66
                refine lv_bipush (v := 32) hx hb dX10_word_103 (by decide) ?_
                refine sb_icmp_eq (tgt := 114) hx hb rfl (by decide : (32 : Int32).toInt = 32) dX10_word_105 (by decide) (fun c_105_66 => ?_) (fun c_105_66 => ?_)
                · obtain ⟨x_69, ex_69⟩ : ∃ z : Int32, z = x_58 + 1 := ⟨_, rfl⟩
                  have tx_69 : x_69.toInt = x_58.toInt + 1 := i_add ex_69 rfl (by decide) (by omega) (by omega)
                  refine lv_iinc (v := x_69) (lv' := [(2, .int x_69), (3, .int x_11), (1, .int x_4), (0, .ref (A 60 0))]) hx hb dX10_word_114 hl (k := 1) rfl (by rw [ex_69]; rfl) (by decide) rfl (fun ls hl => ?_)
                  obtain ⟨x_70, ex_70⟩ : ∃ z : Int32, z = x_4 + 1 := ⟨_, rfl⟩
                  have tx_70 : x_70.toInt = x_4.toInt + 1 := i_add ex_70 rfl (by decide) (by omega) (by omega)
                  refine lv_iinc (v := x_70) (lv' := [(1, .int x_70), (2, .int x_69), (3, .int x_11), (0, .ref (A 60 0))]) hx hb dX10_word_117 hl (k := 2) rfl (by rw [ex_70]; rfl) (by decide) rfl (fun ls hl => ?_)
                  refine lv_goto (tgt := 4) hx hb dX10_word_120 (by decide) ?_
                  exact ih_9 x_69 x_70 _ _ _ (by omega) (by first | omega | decide) (by first | omega | decide) (by first | omega | decide) (by first | omega | decide) (by have q := pt_nx (n := x_4.toInt.toNat) (k := x_58.toInt.toNat) (by omega) (by omega) (by omega) (by rw [← ryx_66]; omega); rw [show x_70.toInt.toNat = x_4.toInt.toNat + 1 by omega, ← q]; omega) (fun w h => (Nat.lt_or_eq_of_le (show w ≤ x_4.toInt.toNat by omega)).elim (fun q => j_8 w q) (fun q => by rw [q]; exact j_63)) hw (lv_sub hl [1, 0, 3] rfl)
                · obtain ⟨x_68, ex_68⟩ : ∃ z : Int32, z = x_58 + 1 := ⟨_, rfl⟩
                  have tx_68 : x_68.toInt = x_58.toInt + 1 := i_add ex_68 rfl (by decide) (by omega) (by omega)
                  refine lv_iinc (v := x_68) (lv' := [(2, .int x_68), (3, .int x_11), (1, .int x_4), (0, .ref (A 60 0))]) hx hb dX10_word_108 hl (k := 1) rfl (by rw [ex_68]; rfl) (by decide) rfl (fun ls hl => ?_)
                  refine lv_goto (tgt := 97) hx hb dX10_word_111 (by decide) ?_
                  exact ih_64 x_68 _ _ _ (by omega) (by first | omega | decide) (by first | omega | decide) (by first | omega | decide) (by have q := pt_ny (n := x_4.toInt.toNat) (k := x_58.toInt.toNat) (by omega) (by omega) (by omega) (by rw [← ryx_66]; omega); omega) j_63 hw (lv_sub hl [1, 0, 2, 3] rfl)
            refine sb_icmp_eq (tgt := 69) hx hb rfl (by decide : (32 : Int32).toInt = 32) dX10_word_25 (by decide) (fun c_25_20 => ?_) (fun c_25_20 => ?_)
            · refine va_ldcS hx hb C.2.2.2.1 hR2 dX10_word_69 ?_
              refine lv_iload_n hx hb dX10_word_71 rfl (lv_at hl 1 rfl) ?_
              refine lv_iload_n hx hb dX10_word_72 rfl (lv_at hl 0 rfl) ?_
              refine lv_iadd hx hb dX10_word_73 ?_
              refine lv_topi (fun x_34 ex_34 => ?_)
              have tx_34 : x_34.toInt = x_1.toInt + x_11.toInt := i_add ex_34 rfl rfl (by omega) (by omega)
              refine ti_charAt (n := 125) C hs2 hg1 hw ml_X10_204 hl.1 (Nat.le_of_ble_eq_true rfl) ⟨by decide, by decide⟩ ⟨Nat.zero_le _, Nat.zero_le _⟩ (by decide) (by omega) (by omega) dX10_word_74 (fun H locs hw => ?_)
              refine lv_topi (fun x_36 ex_36 => ?_)
              have bx_36 := i_and 8 ex_36 (by decide) (by decide)
              have rcx_36 : x_36.toInt = pt_rc (pt_st.getD x_4.toInt.toNat 0 + x_11.toInt.toNat) := pt_rcx (s := pt_st.getD x_4.toInt.toNat 0) (i := x_11.toInt.toNat) ex_36 (by omega)
              refine lv_bipush (v := 32) hx hb dX10_word_77 (by decide) ?_
              refine sb_icmp_ne (tgt := 97) hx hb rfl (by decide : (32 : Int32).toInt = 32) dX10_word_79 (by decide) (fun c_79_36 => ?_) (fun c_79_36 => ?_)
              · exact hl_97_63 ((125 - x_1.toInt : Int).toNat + 1) x_1 _ _ _ (Nat.lt_succ_self _) (by first | omega | decide) (by first | omega | decide) (by first | omega | decide) (by omega) (pt_no (i := x_11.toInt.toNat) (by omega) (by omega) (by first | exact Or.inl ⟨by omega, by omega⟩ | exact Or.inr ⟨by omega, Or.inl (by omega)⟩ | exact Or.inr ⟨by omega, Or.inr (by omega)⟩)) hw (lv_sub hl [0, 1, 2, 3] rfl)
              · refine lv_aload_n hx hb dX10_word_82 rfl (lv_at hl 3 rfl) ?_
                refine ti_get (ci := 10) (k := 22) (N := 67) (T := TX10) C hw iw_10 rfl ob_60 (by decide) (by decide) fl_X10_170 rfl rfl dX10_word_83 ?_
                refine lv_topi (fun x_46 ex_46 => ?_)
                have bx_46 : 0 ≤ x_46.toInt ∧ x_46.toInt ≤ 700 := mI_rd hI ex_46
                have ux_46 : (tI M 60 22).toInt = x_46.toInt := by rw [ex_46]
                refine lv_iload_n hx hb dX10_word_86 rfl (lv_at hl 0 rfl) ?_
                refine lv_iadd hx hb dX10_word_87 ?_
                refine lv_topi (fun x_47 ex_47 => ?_)
                have tx_47 : x_47.toInt = x_46.toInt + x_11.toInt := i_add ex_47 rfl rfl (by omega) (by omega)
                refine lv_aload_n hx hb dX10_word_88 rfl (lv_at hl 3 rfl) ?_
                refine ti_get (ci := 10) (k := 21) (N := 67) (T := TX10) C hw iw_10 rfl ob_60 (by decide) (by decide) fl_X10_160 rfl rfl dX10_word_89 ?_
                refine lv_topi (fun x_48 ex_48 => ?_)
                have bx_48 : 0 ≤ x_48.toInt ∧ x_48.toInt ≤ 700 := mI_rd hI ex_48
                have ux_48 : (tI M 60 21).toInt = x_48.toInt := by rw [ex_48]
                refine sb_icmp_ne (tgt := 97) hx hb rfl rfl dX10_word_92 (by decide) (fun c_92_48 => ?_) (fun c_92_48 => ?_)
                · exact hl_97_63 ((125 - x_1.toInt : Int).toNat + 1) x_1 _ _ _ (Nat.lt_succ_self _) (by first | omega | decide) (by first | omega | decide) (by first | omega | decide) (by omega) (pt_no (i := x_11.toInt.toNat) (by omega) (by omega) (by first | exact Or.inl ⟨by omega, by omega⟩ | exact Or.inr ⟨by omega, Or.inl (by omega)⟩ | exact Or.inr ⟨by omega, Or.inr (by omega)⟩)) hw (lv_sub hl [0, 1, 2, 3] rfl)
                · refine lv_iload_n hx hb dX10_word_95 rfl (lv_at hl 2 rfl) ?_
                  exact hQ _ _ _ _ _ _ hw rfl (⟨rfl, by omega, by omega, Or.inr ⟨by omega, pt_is (i := x_11.toInt.toNat) (by omega) (by omega) (by rw [← rcx_36]; omega) (by omega) j_15⟩⟩) dX10_word_96
            · refine lv_aload_n hx hb dX10_word_28 rfl (lv_at hl 3 rfl) ?_
              refine ti_get (ci := 10) (k := 22) (N := 67) (T := TX10) C hw iw_10 rfl ob_60 (by decide) (by decide) fl_X10_170 rfl rfl dX10_word_29 ?_
              refine lv_topi (fun x_22 ex_22 => ?_)
              have bx_22 : 0 ≤ x_22.toInt ∧ x_22.toInt ≤ 700 := mI_rd hI ex_22
              have ux_22 : (tI M 60 22).toInt = x_22.toInt := by rw [ex_22]
              refine lv_iload_n hx hb dX10_word_32 rfl (lv_at hl 0 rfl) ?_
              refine lv_iadd hx hb dX10_word_33 ?_
              refine lv_topi (fun x_23 ex_23 => ?_)
              have tx_23 : x_23.toInt = x_22.toInt + x_11.toInt := i_add ex_23 rfl rfl (by omega) (by omega)
              refine lv_aload_n hx hb dX10_word_34 rfl (lv_at hl 3 rfl) ?_
              refine ti_get (ci := 10) (k := 21) (N := 67) (T := TX10) C hw iw_10 rfl ob_60 (by decide) (by decide) fl_X10_160 rfl rfl dX10_word_35 ?_
              refine lv_topi (fun x_24 ex_24 => ?_)
              have bx_24 : 0 ≤ x_24.toInt ∧ x_24.toInt ≤ 700 := mI_rd hI ex_24
              have ux_24 : (tI M 60 21).toInt = x_24.toInt := by rw [ex_24]
              refine sb_icmp_ge (tgt := 69) hx hb rfl rfl dX10_word_38 (by decide) (fun c_38_24 => ?_) (fun c_38_24 => ?_)
              · refine va_ldcS hx hb C.2.2.2.1 hR2 dX10_word_69 ?_
                refine lv_iload_n hx hb dX10_word_71 rfl (lv_at hl 1 rfl) ?_
                refine lv_iload_n hx hb dX10_word_72 rfl (lv_at hl 0 rfl) ?_
                refine lv_iadd hx hb dX10_word_73 ?_
                refine lv_topi (fun x_38 ex_38 => ?_)
                have tx_38 : x_38.toInt = x_1.toInt + x_11.toInt := i_add ex_38 rfl rfl (by omega) (by omega)
                refine ti_charAt (n := 125) C hs2 hg1 hw ml_X10_204 hl.1 (Nat.le_of_ble_eq_true rfl) ⟨by decide, by decide⟩ ⟨Nat.zero_le _, Nat.zero_le _⟩ (by decide) (by omega) (by omega) dX10_word_74 (fun H locs hw => ?_)
                refine lv_topi (fun x_40 ex_40 => ?_)
                have bx_40 := i_and 8 ex_40 (by decide) (by decide)
                have rcx_40 : x_40.toInt = pt_rc (pt_st.getD x_4.toInt.toNat 0 + x_11.toInt.toNat) := pt_rcx (s := pt_st.getD x_4.toInt.toNat 0) (i := x_11.toInt.toNat) ex_40 (by omega)
                refine lv_bipush (v := 32) hx hb dX10_word_77 (by decide) ?_
                refine sb_icmp_ne (tgt := 97) hx hb rfl (by decide : (32 : Int32).toInt = 32) dX10_word_79 (by decide) (fun c_79_40 => ?_) (fun c_79_40 => ?_)
                · exact hl_97_63 ((125 - x_1.toInt : Int).toNat + 1) x_1 _ _ _ (Nat.lt_succ_self _) (by first | omega | decide) (by first | omega | decide) (by first | omega | decide) (by omega) (pt_no (i := x_11.toInt.toNat) (by omega) (by omega) (by first | exact Or.inl ⟨by omega, by omega⟩ | exact Or.inr ⟨by omega, Or.inl (by omega)⟩ | exact Or.inr ⟨by omega, Or.inr (by omega)⟩)) hw (lv_sub hl [0, 1, 2, 3] rfl)
                · refine lv_aload_n hx hb dX10_word_82 rfl (lv_at hl 3 rfl) ?_
                  refine ti_get (ci := 10) (k := 22) (N := 67) (T := TX10) C hw iw_10 rfl ob_60 (by decide) (by decide) fl_X10_170 rfl rfl dX10_word_83 ?_
                  refine ti_top (y := x_22) (ex_22.symm) ?_
                  have u_50 : (tI M 60 22).toInt = (x_22 : Int32).toInt := by rw [(ex_22.symm)]
                  refine lv_iload_n hx hb dX10_word_86 rfl (lv_at hl 0 rfl) ?_
                  refine lv_iadd hx hb dX10_word_87 ?_
                  refine lv_topi (fun x_51 ex_51 => ?_)
                  have tx_51 : x_51.toInt = x_22.toInt + x_11.toInt := i_add ex_51 rfl rfl (by omega) (by omega)
                  refine lv_aload_n hx hb dX10_word_88 rfl (lv_at hl 3 rfl) ?_
                  refine ti_get (ci := 10) (k := 21) (N := 67) (T := TX10) C hw iw_10 rfl ob_60 (by decide) (by decide) fl_X10_160 rfl rfl dX10_word_89 ?_
                  refine ti_top (y := x_24) (ex_24.symm) ?_
                  have u_52 : (tI M 60 21).toInt = (x_24 : Int32).toInt := by rw [(ex_24.symm)]
                  refine sb_icmp_ne (tgt := 97) hx hb rfl rfl dX10_word_92 (by decide) (fun c_92_52 => ?_) (fun c_92_52 => ?_)
                  · exact hl_97_63 ((125 - x_1.toInt : Int).toNat + 1) x_1 _ _ _ (Nat.lt_succ_self _) (by first | omega | decide) (by first | omega | decide) (by first | omega | decide) (by omega) (pt_no (i := x_11.toInt.toNat) (by omega) (by omega) (by first | exact Or.inl ⟨by omega, by omega⟩ | exact Or.inr ⟨by omega, Or.inl (by omega)⟩ | exact Or.inr ⟨by omega, Or.inr (by omega)⟩)) hw (lv_sub hl [0, 1, 2, 3] rfl)
                  · refine lv_iload_n hx hb dX10_word_95 rfl (lv_at hl 2 rfl) ?_
                    exact hQ _ _ _ _ _ _ hw rfl (⟨rfl, by omega, by omega, Or.inr ⟨by omega, pt_is (i := x_11.toInt.toNat) (by omega) (by omega) (by rw [← rcx_40]; omega) (by omega) j_15⟩⟩) dX10_word_96
              · refine lv_aload_n hx hb dX10_word_41 rfl (lv_at hl 3 rfl) ?_
                refine ti_get (ci := 10) (k := 1) (N := 67) (T := TX10) (v := .ref (A 60 2)) C hw iw_10 rfl ob_60 (by decide) (by decide) fl_X10_7 rfl rfl dX10_word_42 ?_
                refine lv_aload_n hx hb dX10_word_45 rfl (lv_at hl 3 rfl) ?_
                refine ti_get (ci := 10) (k := 22) (N := 67) (T := TX10) C hw iw_10 rfl ob_60 (by decide) (by decide) fl_X10_170 rfl rfl dX10_word_46 ?_
                refine ti_top (y := x_22) (ex_22.symm) ?_
                have u_26 : (tI M 60 22).toInt = (x_22 : Int32).toInt := by rw [(ex_22.symm)]
                refine lv_iload_n hx hb dX10_word_49 rfl (lv_at hl 0 rfl) ?_
                refine lv_iadd hx hb dX10_word_50 ?_
                refine lv_topi (fun x_27 ex_27 => ?_)
                have tx_27 : x_27.toInt = x_22.toInt + x_11.toInt := i_add ex_27 rfl rfl (by omega) (by omega)
                refine ti_iald (ci := 10) (k := 1) (n := 700) C hw ob_60 (by decide) (fun _ _ => rfl) (vp_in_iff.mpr (by omega)) dX10_word_51 ?_
                refine lv_topi (fun x_28 ex_28 => ?_)
                have yx_28 : tY M 60 1 x_27.toNatClampNeg = x_28 := (ex_28.symm)
                have bx_28 : 0 ≤ x_28.toInt ∧ x_28.toInt ≤ 255 := mI_ry (k := 1) (i := x_27.toNatClampNeg) hI yx_28.symm
                have elx_28 : x_28.toInt = pt_rB M ((tI M 60 22).toInt.toNat + x_11.toInt.toNat) := pt_rbx (s := (tI M 60 22).toInt.toNat + x_11.toInt.toNat) yx_28 (by omega)
                refine va_ldcS hx hb C.2.2.2.1 hR2 dX10_word_52 ?_
                refine lv_iload_n hx hb dX10_word_54 rfl (lv_at hl 1 rfl) ?_
                refine lv_iload_n hx hb dX10_word_55 rfl (lv_at hl 0 rfl) ?_
                refine lv_iadd hx hb dX10_word_56 ?_
                refine lv_topi (fun x_29 ex_29 => ?_)
                have tx_29 : x_29.toInt = x_1.toInt + x_11.toInt := i_add ex_29 rfl rfl (by omega) (by omega)
                refine ti_charAt (n := 125) C hs2 hg1 hw ml_X10_204 hl.1 (Nat.le_of_ble_eq_true rfl) ⟨by decide, by decide⟩ ⟨Nat.zero_le _, Nat.zero_le _⟩ (by decide) (by omega) (by omega) dX10_word_57 (fun H locs hw => ?_)
                refine lv_topi (fun x_31 ex_31 => ?_)
                have bx_31 := i_and 8 ex_31 (by decide) (by decide)
                have rcx_31 : x_31.toInt = pt_rc (pt_st.getD x_4.toInt.toNat 0 + x_11.toInt.toNat) := pt_rcx (s := pt_st.getD x_4.toInt.toNat 0) (i := x_11.toInt.toNat) ex_31 (by omega)
                refine sb_icmp_ne (tgt := 69) hx hb rfl rfl dX10_word_60 (by decide) (fun c_60_31 => ?_) (fun c_60_31 => ?_)
                · refine va_ldcS hx hb C.2.2.2.1 hR2 dX10_word_69 ?_
                  refine lv_iload_n hx hb dX10_word_71 rfl (lv_at hl 1 rfl) ?_
                  refine lv_iload_n hx hb dX10_word_72 rfl (lv_at hl 0 rfl) ?_
                  refine lv_iadd hx hb dX10_word_73 ?_
                  refine lv_topi (fun x_42 ex_42 => ?_)
                  have tx_42 : x_42.toInt = x_1.toInt + x_11.toInt := i_add ex_42 rfl rfl (by omega) (by omega)
                  refine ti_charAt (n := 125) C hs2 hg1 hw ml_X10_204 hl.1 (Nat.le_of_ble_eq_true rfl) ⟨by decide, by decide⟩ ⟨Nat.zero_le _, Nat.zero_le _⟩ (by decide) (by omega) (by omega) dX10_word_74 (fun H locs hw => ?_)
                  refine lv_topi (fun x_44 ex_44 => ?_)
                  have bx_44 := i_and 8 ex_44 (by decide) (by decide)
                  have rcx_44 : x_44.toInt = pt_rc (pt_st.getD x_4.toInt.toNat 0 + x_11.toInt.toNat) := pt_rcx (s := pt_st.getD x_4.toInt.toNat 0) (i := x_11.toInt.toNat) ex_44 (by omega)
                  refine lv_bipush (v := 32) hx hb dX10_word_77 (by decide) ?_
                  refine sb_icmp_ne (tgt := 97) hx hb rfl (by decide : (32 : Int32).toInt = 32) dX10_word_79 (by decide) (fun c_79_44 => ?_) (fun c_79_44 => ?_)
                  · exact hl_97_63 ((125 - x_1.toInt : Int).toNat + 1) x_1 _ _ _ (Nat.lt_succ_self _) (by first | omega | decide) (by first | omega | decide) (by first | omega | decide) (by omega) (pt_no (i := x_11.toInt.toNat) (by omega) (by omega) (by first | exact Or.inl ⟨by omega, by omega⟩ | exact Or.inr ⟨by omega, Or.inl (by omega)⟩ | exact Or.inr ⟨by omega, Or.inr (by omega)⟩)) hw (lv_sub hl [0, 1, 2, 3] rfl)
                  · refine lv_aload_n hx hb dX10_word_82 rfl (lv_at hl 3 rfl) ?_
                    refine ti_get (ci := 10) (k := 22) (N := 67) (T := TX10) C hw iw_10 rfl ob_60 (by decide) (by decide) fl_X10_170 rfl rfl dX10_word_83 ?_
                    refine ti_top (y := x_22) (ex_22.symm) ?_
                    have u_54 : (tI M 60 22).toInt = (x_22 : Int32).toInt := by rw [(ex_22.symm)]
                    refine lv_iload_n hx hb dX10_word_86 rfl (lv_at hl 0 rfl) ?_
                    refine lv_iadd hx hb dX10_word_87 ?_
                    refine lv_topi (fun x_55 ex_55 => ?_)
                    have tx_55 : x_55.toInt = x_22.toInt + x_11.toInt := i_add ex_55 rfl rfl (by omega) (by omega)
                    refine lv_aload_n hx hb dX10_word_88 rfl (lv_at hl 3 rfl) ?_
                    refine ti_get (ci := 10) (k := 21) (N := 67) (T := TX10) C hw iw_10 rfl ob_60 (by decide) (by decide) fl_X10_160 rfl rfl dX10_word_89 ?_
                    refine ti_top (y := x_24) (ex_24.symm) ?_
                    have u_56 : (tI M 60 21).toInt = (x_24 : Int32).toInt := by rw [(ex_24.symm)]
                    refine sb_icmp_ne (tgt := 97) hx hb rfl rfl dX10_word_92 (by decide) (fun c_92_56 => ?_) (fun c_92_56 => ?_)
                    · exact hl_97_63 ((125 - x_1.toInt : Int).toNat + 1) x_1 _ _ _ (Nat.lt_succ_self _) (by first | omega | decide) (by first | omega | decide) (by first | omega | decide) (by omega) (pt_no (i := x_11.toInt.toNat) (by omega) (by omega) (by first | exact Or.inl ⟨by omega, by omega⟩ | exact Or.inr ⟨by omega, Or.inl (by omega)⟩ | exact Or.inr ⟨by omega, Or.inr (by omega)⟩)) hw (lv_sub hl [0, 1, 2, 3] rfl)
                    · refine lv_iload_n hx hb dX10_word_95 rfl (lv_at hl 2 rfl) ?_
                      exact hQ _ _ _ _ _ _ hw rfl (⟨rfl, by omega, by omega, Or.inr ⟨by omega, pt_is (i := x_11.toInt.toNat) (by omega) (by omega) (by rw [← rcx_44]; omega) (by omega) j_15⟩⟩) dX10_word_96
                · obtain ⟨x_33, ex_33⟩ : ∃ z : Int32, z = x_11 + 1 := ⟨_, rfl⟩
                  have tx_33 : x_33.toInt = x_11.toInt + 1 := i_add ex_33 rfl (by decide) (by omega) (by omega)
                  refine lv_iinc (v := x_33) (lv' := [(3, .int x_33), (2, .int x_1), (1, .int x_4), (0, .ref (A 60 0))]) hx hb dX10_word_63 hl (k := 0) rfl (by rw [ex_33]; rfl) (by decide) rfl (fun ls hl => ?_)
                  refine lv_goto (tgt := 15) hx hb dX10_word_66 (by decide) ?_
                  exact ih_17 x_33 _ _ _ (by omega) (by first | omega | decide) (by first | omega | decide) (by have q := pt_lt (w := x_4.toInt.toNat) (i := x_11.toInt.toNat) (by omega) (by omega) (by rw [← rcx_20]; omega); omega) (fun j h => (Nat.lt_or_eq_of_le (show j ≤ x_11.toInt.toNat by omega)).elim (fun q => j_15 j q) (fun q => by rw [q, ← elx_28, ← rcx_31]; exact c_60_31)) (by first | omega | decide) hw (lv_sub hl [0, 1, 2, 3] rfl)
        exact hl_15_16 ((125 - 0 : Int).toNat + 1) 0 _ _ _ (Nat.lt_succ_self _) (by have lt0 : (0 : Int32).toInt = 0 := (by decide); first | omega | decide) (by have lt0 : (0 : Int32).toInt = 0 := (by decide); first | omega | decide) (by rw [show (0 : Int32).toInt = 0 by decide]; exact Int.natCast_nonneg _) (fun j h => absurd h (by rw [show (0 : Int32).toInt = 0 by decide]; exact Nat.not_lt_zero _)) (by have lt0 : (0 : Int32).toInt = 0 := (by decide); first | omega | decide) hw (lv_sub hl [0, 1, 2, 3] rfl)
  exact hl_4_8 ((125 - 0 : Int).toNat + 1) 0 0 _ _ _ (Nat.lt_succ_self _) (by have lt0 : (0 : Int32).toInt = 0 := (by decide); first | omega | decide) (by have lt0 : (0 : Int32).toInt = 0 := (by decide); first | omega | decide) (by have lt0 : (0 : Int32).toInt = 0 := (by decide); first | omega | decide) (by have lt0 : (0 : Int32).toInt = 0 := (by decide); first | omega | decide) (by decide) (fun w h => absurd h (by rw [show (0 : Int32).toInt = 0 by decide]; exact Nat.not_lt_zero _)) hw (lv_sub hl [0, 1, 2] rfl)
end
section
variable {Tc : gC} {Tm : gM}
theorem pt_Tw' {w : Nat} {v s x : Int} (h : w < 25) (hs : s = 0) (hx : x = (w : Int)) : pt_T ((pt_iv.getD w 0 : Nat) : Int) v s x := by
  subst hs hx
  exact pt_Tw h
theorem pt_s2b (c d : Int) : 0 ≤ pt_s2 c d ∧ pt_s2 c d ≤ 1 := by unfold pt_s2; (repeat' split) <;> omega
theorem pt_m6 {B : Nat → Int} {p a w : Nat} (hw : w < 25) (h : pt_mt B p a w) : a ≤ p + 6 := by
  have g := pt_s1 w hw
  have e := h.1
  omega
set_option maxHeartbeats 4000000 in
set_option maxRecDepth 100000 in
theorem x_X10_token (l : Launch) (D : va_G) (A : Nat → Nat → Nat) (cy : Nat → ClassId) (hJ : ti_inj ti_LM A) (M : ti_M) (hI : mI Tm M)  : ti_KvE l yX10_token cX10_token 2 5 ti_LM D A cy M [.ref (A 60 0)] (fun M2 => mI Tm M2 ∧ pr 21 24 M2 M ∧ (tI M 60 21).toInt ≤ (tI M2 60 21).toInt ∧ ((tI M 60 21).toInt < (tI M2 60 21).toInt ∨ (tI M2 60 23).toInt = 4) ∧ (tI M2 60 22).toInt = (((pt_P (pt_rB M) (pt_rn0 M) (tI M 60 21).toInt.toNat) : Nat) : Int) ∧ (tI M2 60 21).toInt = pt_A (pt_rB M) (pt_rn0 M) (tI M 60 21).toInt.toNat ∧ pt_T (pt_K (pt_rB M) (pt_rn0 M) (tI M 60 21).toInt.toNat) (pt_V (pt_rB M) (pt_rn0 M) (tI M 60 21).toInt.toNat) (tI M2 60 23).toInt (tI M2 60 24).toInt) := by
  refine ti_eVE yp_X10_token hJ ti_LM_nd (Nat.le_of_ble_eq_true rfl) ?_
  intro p e s m args below meth c Q H0 C hE hQ hw ls hl
  have hx := C.1
  have hb := C.2.1
  have hl : lv_has ls 2 [(0, .ref (A 60 0))] := hl
  have hz : 0 ≤ (tI M 60 20).toInt ∧ (tI M 60 20).toInt ≤ 700 := hI.1 20
  have hat : 0 ≤ (tI M 60 21).toInt ∧ (tI M 60 21).toInt ≤ 700 := hI.1 21
  have u_6 : 0 ≤ (tI M 60 21).toInt ∧ (tI M 60 21).toInt ≤ 700 := mI_rd (x := tI M 60 21) (k := 21) hI rfl
  have hl_0_4 : ∀ (n_5 : Nat) (M_1 : ti_M) (H : Heap) (locs : List Loc) (ls : Array Slot), (700 - (tI M_1 60 21).toInt : Int).toNat < n_5 → (mI Tm M_1) → (pr 21 24 M_1 M) → ((tI M 60 21).toInt ≤ (tI M_1 60 21).toInt) → (pt_to pt_W (pt_rB M) (pt_rn0 M) (tI M_1 60 21).toInt.toNat = pt_to pt_W (pt_rB M) (pt_rn0 M) (tI M 60 21).toInt.toNat) → ti_H ti_LM D A cy H0 M_1 H locs → lv_has ls 2 [(0, .ref (A 60 0))] → W p l e (ti_rm 5) s m args below meth c H locs 0 0 Q (F0 m 0 ls []) := by
    intro n_5
    induction n_5 with
    | zero => intro M_1 H locs ls hf_5; exact absurd hf_5 (Nat.not_lt_zero _)
    | succ n_5 ih_5 =>
      intro M_1 H locs ls hf_5 iM_1 f_2 j_3 j_4 hw hl
      have v_7 : (tI M_1 60 20).toInt = (tI M 60 20).toInt := by rw [f_2.2 20 (by decide)]
      have v_8 : 0 ≤ (tI M_1 60 21).toInt ∧ (tI M_1 60 21).toInt ≤ 700 := mI_rd (x := tI M_1 60 21) (k := 21) iM_1 rfl
      have v_9 : 0 ≤ (tI M_1 60 22).toInt ∧ (tI M_1 60 22).toInt ≤ 700 := mI_rd (x := tI M_1 60 22) (k := 22) iM_1 rfl
      refine lv_aload_n hx hb dX10_token_0 rfl (lv_at hl 0 rfl) ?_
      refine ti_callVi (ci := 10) (av := []) C hw (s_X10_here l D A cy hJ M_1 iM_1 ) ⟨ml_X10_166, ym_X10_here, yv_X10_here, yi_X10_here, yc_X10_here⟩ yd_X10_here ob_60 (by decide) rfl rfl hl.1 (Nat.le_of_ble_eq_true rfl) ⟨by decide, by decide⟩ ⟨Nat.zero_le _, Nat.zero_le _⟩ dX10_token_1 (fun r_10 M_11 H locs hp_11 hw => ?_)
      obtain ⟨hm, b0r_10, b1r_10, p0r_10, p1r_10⟩ := hp_11
      have hw := hw.to hm
      have hhr_10 : (hr M_1).toInt = r_10.toInt := by rw [← p1r_10]
      have kr_10 := hr_pk (a := 21) (b := 24) (M := M) f_2 (by decide) iM_1 p1r_10
      refine lv_bipush (v := 10) hx hb dX10_token_4 (by decide) ?_
      refine sb_icmp_eq (tgt := 18) hx hb rfl (by decide : (10 : Int32).toInt = 10) dX10_token_6 (by decide) (fun c_6_11 => ?_) (fun c_6_11 => ?_)
      · refine lv_aload_n hx hb dX10_token_18 rfl (lv_at hl 0 rfl) ?_
        refine lv_dup hx hb dX10_token_19 rfl ?_
        refine ti_get (ci := 10) (k := 21) (N := 67) (T := TX10) C hw iw_10 rfl ob_60 (by decide) (by decide) fl_X10_160 rfl rfl dX10_token_20 ?_
        refine lv_topi (fun x_16 ex_16 => ?_)
        have bx_16 : 0 ≤ x_16.toInt ∧ x_16.toInt ≤ 700 := mI_rd iM_1 ex_16
        have ux_16 : (tI M_1 60 21).toInt = x_16.toInt := by rw [ex_16]
        refine lv_iconst (v := 1) hx hb dX10_token_23 (by decide) ?_
        refine lv_iadd hx hb dX10_token_24 ?_
        refine lv_topi (fun x_17 ex_17 => ?_)
        have tx_17 : x_17.toInt = x_16.toInt + 1 := i_add ex_17 rfl (by decide : (1 : Int32).toInt = 1) (by omega) (by omega)
        refine ti_putI (ci := 10) (k := 21) (N := 67) (T := TX10) C hw iw_10 tyX10 tyX10_ok nmX10 rfl ob_60 (by decide) (by decide) fl_X10_160 rfl rfl rfl rfl (fn_10 A _) fs_10_21 dX10_token_25 (fun H locs hw => ?_)
        obtain ⟨M_18, hM_18⟩ : ∃ z : ti_M, z = uI M_1 60 21 x_17 := ⟨_, rfl⟩
        have hw := hw.to hM_18.symm
        have iM_18 : mI Tm M_18 := mI_uI iM_1 hM_18 (by decide) (by decide) (ib_mk (lo := 0) (hi := 700) (by omega) (by omega))
        have vM_18 : (tI M_18 60 21).toInt = (x_17 : Int32).toInt := by rw [tI_uE hM_18]
        have v_19 : (tI M_18 60 20).toInt = (tI M_1 60 20).toInt := by rw [tI_nE hM_18 (nk (by decide))]
        have v_20 : (tI M_18 60 21).toInt = (x_17 : Int32).toInt := by rw [tI_uE hM_18]
        have v_21 : (tI M_18 60 22).toInt = (tI M_1 60 22).toInt := by rw [tI_nE hM_18 (nk (by decide))]
        have v_22 : (tI M_18 60 23).toInt = (tI M_1 60 23).toInt := by rw [tI_nE hM_18 (nk (by decide))]
        have v_23 : (tI M_18 60 24).toInt = (tI M_1 60 24).toInt := by rw [tI_nE hM_18 (nk (by decide))]
        refine lv_goto (tgt := 0) hx hb dX10_token_28 (by decide) ?_
        have u_24 : (tI M_18 60 21).toInt = (x_17 : Int32).toInt := by rw [(tI_uE hM_18)]
        exact ih_5 M_18 _ _ _ (by omega) iM_18 (pr.trans (pr_I hM_18 (by decide)) f_2) (by first | omega | decide) (by have h := pt_pk_in kr_10 (by omega); have e1 : (tI M_18 60 21).toInt.toNat = (tI M_1 60 21).toInt.toNat + 1 := (by rw [(tI_uE hM_18), (ex_16.symm)]; omega); rw [e1, ← pt_to_go (P := pt_W) (B := pt_rB M) h.1 (by rw [← h.2]; exact pt_Wt (by omega))]; exact j_4) hw (lv_sub hl [0] rfl)
      · refine lv_aload_n hx hb dX10_token_9 rfl (lv_at hl 0 rfl) ?_
        refine ti_callVi (ci := 10) (av := []) C hw (s_X10_here l D A cy hJ M_1 iM_1 ) ⟨ml_X10_166, ym_X10_here, yv_X10_here, yi_X10_here, yc_X10_here⟩ yd_X10_here ob_60 (by decide) rfl rfl hl.1 (Nat.le_of_ble_eq_true rfl) ⟨by decide, by decide⟩ ⟨Nat.zero_le _, Nat.zero_le _⟩ dX10_token_10 (fun r_13 M_14 H locs hp_14 hw => ?_)
        obtain ⟨hm, b0r_13, b1r_13, p0r_13, p1r_13⟩ := hp_14
        have hw := hw.to hm
        have hhr_13 : (hr M_1).toInt = r_13.toInt := by rw [← p1r_13]
        have kr_13 := hr_pk (a := 21) (b := 24) (M := M) f_2 (by decide) iM_1 p1r_13
        refine lv_bipush (v := 32) hx hb dX10_token_13 (by decide) ?_
        refine sb_icmp_ne (tgt := 31) hx hb rfl (by decide : (32 : Int32).toInt = 32) dX10_token_15 (by decide) (fun c_15_14 => ?_) (fun c_15_14 => ?_)
        · refine lv_aload_n hx hb dX10_token_31 rfl (lv_at hl 0 rfl) ?_
          refine lv_aload_n hx hb dX10_token_32 rfl (lv_at hl 0 rfl) ?_
          refine ti_get (ci := 10) (k := 21) (N := 67) (T := TX10) C hw iw_10 rfl ob_60 (by decide) (by decide) fl_X10_160 rfl rfl dX10_token_33 ?_
          refine lv_topi (fun x_34 ex_34 => ?_)
          have bx_34 : 0 ≤ x_34.toInt ∧ x_34.toInt ≤ 700 := mI_rd iM_1 ex_34
          have ux_34 : (tI M_1 60 21).toInt = x_34.toInt := by rw [ex_34]
          refine ti_putI (ci := 10) (k := 22) (N := 67) (T := TX10) C hw iw_10 tyX10 tyX10_ok nmX10 rfl ob_60 (by decide) (by decide) fl_X10_170 rfl rfl rfl rfl (fn_10 A _) fs_10_22 dX10_token_36 (fun H locs hw => ?_)
          obtain ⟨M_35, hM_35⟩ : ∃ z : ti_M, z = uI M_1 60 22 x_34 := ⟨_, rfl⟩
          have hw := hw.to hM_35.symm
          have iM_35 : mI Tm M_35 := mI_uI iM_1 hM_35 (by decide) (by decide) (ib_mk (lo := 0) (hi := 700) (by omega) (by omega))
          have vM_35 : (tI M_35 60 22).toInt = (x_34 : Int32).toInt := by rw [tI_uE hM_35]
          have v_36 : (tI M_35 60 20).toInt = (tI M_1 60 20).toInt := by rw [tI_nE hM_35 (nk (by decide))]
          have v_37 : (tI M_35 60 21).toInt = (tI M_1 60 21).toInt := by rw [tI_nE hM_35 (nk (by decide))]
          have v_38 : (tI M_35 60 22).toInt = (x_34 : Int32).toInt := by rw [tI_uE hM_35]
          have v_39 : (tI M_35 60 23).toInt = (tI M_1 60 23).toInt := by rw [tI_nE hM_35 (nk (by decide))]
          have v_40 : (tI M_35 60 24).toInt = (tI M_1 60 24).toInt := by rw [tI_nE hM_35 (nk (by decide))]
          have v_41 : (hr M_35).toInt = (hr M_1).toInt := by rw [hr_I hM_35 (by decide)]
          refine lv_aload_n hx hb dX10_token_39 rfl (lv_at hl 0 rfl) ?_
          refine ti_callVi (ci := 10) (av := []) C hw (s_X10_here l D A cy hJ M_35 iM_35 ) ⟨ml_X10_166, ym_X10_here, yv_X10_here, yi_X10_here, yc_X10_here⟩ yd_X10_here ob_60 (by decide) rfl rfl hl.1 (Nat.le_of_ble_eq_true rfl) ⟨by decide, by decide⟩ ⟨Nat.zero_le _, Nat.zero_le _⟩ dX10_token_40 (fun r_42 M_43 H locs hp_43 hw => ?_)
          obtain ⟨hm, b0r_42, b1r_42, p0r_42, p1r_42⟩ := hp_43
          have hw := hw.to hm
          have hhr_42 : (hr M_35).toInt = r_42.toInt := by rw [← p1r_42]
          have kr_42 := hr_pk (a := 21) (b := 24) (M := M) (pr.trans (pr_I hM_35 (by decide)) f_2) (by decide) iM_35 p1r_42
          refine lv_istore_n (lv' := [(1, .int r_42), (0, .ref (A 60 0))]) hx hb dX10_token_43 rfl hl (by decide) rfl (fun ls hl => ?_)
          have eg : tI M_35 60 21 = tI M_1 60 21 := (tI_nE hM_35 (nk (by decide)))
          have EP : pt_P (pt_rB M) (pt_rn0 M) (tI M 60 21).toInt.toNat = (tI M_35 60 21).toInt.toNat := by unfold pt_P; rw [← j_4, pt_to_end (P := pt_W) (B := pt_rB M) (n := pt_rn0 M) (a := (tI M_1 60 21).toInt.toNat) (pt_pk_no kr_13 (pt_Wf (by omega) (by omega))), eg]
          have EC : pt_C (pt_rB M) (pt_rn0 M) (tI M 60 21).toInt.toNat = r_42.toInt := by unfold pt_C; rw [EP]; exact kr_42.symm
          have ep2 : (tI M_35 60 22).toInt = (tI M_35 60 21).toInt := by rw [(tI_uE hM_35), eg, (ex_34.symm)]
          have hmv : 0 ≤ (tI M_35 60 21).toInt ∧ (tI M_35 60 21).toInt ≤ 700 := iM_35.1 21
          refine lv_iload_n hx hb dX10_token_44 rfl (lv_at hl 0 rfl) ?_
          refine lv_iconst (v := (-1)) hx hb dX10_token_45 (by decide) ?_
          refine sb_icmp_ne (tgt := 57) hx hb rfl (by decide : ((-1) : Int32).toInt = (-1)) dX10_token_46 (by decide) (fun c_46_43 => ?_) (fun c_46_43 => ?_)
          · refine lv_iload_n hx hb dX10_token_57 rfl (lv_at hl 0 rfl) ?_
            refine ti_callSi (av := [.int r_42]) C hw (s_X10_isSmall l D A cy hJ M_35 iM_35 r_42) ⟨ml_X10_176, ys_X10_isSmall, yi_X10_isSmall, yc_X10_isSmall⟩ yd_X10_isSmall rfl hl.1 (Nat.le_of_ble_eq_true rfl) ⟨by decide, by decide⟩ ⟨Nat.zero_le _, Nat.zero_le _⟩ dX10_token_58 (fun r_52 M_53 H locs hp_53 hw => ?_)
            obtain ⟨hm, hz⟩ := hp_53
            have hw := hw.to hm
            rcases hz with ⟨rfl, d0_54, d1_54⟩ | ⟨rfl, d0_54⟩
            · refine sb_if_eq (tgt := 145) hx hb (by decide : (1 : Int32).toInt = 1) dX10_token_61 (by decide) (fun h => absurd h (by decide)) (fun c_61_54 => ?_)
              have u_64 : (tI M_35 60 21).toInt = (x_34 : Int32).toInt := by rw [((tI_nE hM_35 (nk (by decide))).trans ex_34.symm)]
              have hl_64_62 : ∀ (n_63 : Nat) (M_57 : ti_M) (H : Heap) (locs : List Loc) (ls : Array Slot), (700 - (tI M_57 60 21).toInt : Int).toNat < n_63 → (mI Tm M_57) → (pr 21 24 M_57 M) → ((tI M 60 21).toInt ≤ (tI M_57 60 21).toInt) → ((tI M 60 21).toInt < (tI M_57 60 21).toInt ∨ (97 ≤ (hr M_57).toInt ∧ (hr M_57).toInt ≤ 122)) → ((tI M_57 60 22).toInt = (((pt_P (pt_rB M) (pt_rn0 M) (tI M 60 21).toInt.toNat) : Nat) : Int)) → (pt_to pt_L (pt_rB M) (pt_rn0 M) (tI M_57 60 21).toInt.toNat = pt_to pt_L (pt_rB M) (pt_rn0 M) (pt_P (pt_rB M) (pt_rn0 M) (tI M 60 21).toInt.toNat)) → ti_H ti_LM D A cy H0 M_57 H locs → lv_has ls 2 [(1, .int r_42), (0, .ref (A 60 0))] → W p l e (ti_rm 5) s m args below meth c H locs 0 0 Q (F0 m 64 ls []) := by
                intro n_63
                induction n_63 with
                | zero => intro M_57 H locs ls hf_63; exact absurd hf_63 (Nat.not_lt_zero _)
                | succ n_63 ih_63 =>
                  intro M_57 H locs ls hf_63 iM_57 f_58 j_59 j_60 j_61 j_62 hw hl
                  have v_65 : (tI M_57 60 20).toInt = (tI M 60 20).toInt := by rw [f_58.2 20 (by decide)]
                  have v_66 : 0 ≤ (tI M_57 60 21).toInt ∧ (tI M_57 60 21).toInt ≤ 700 := mI_rd (x := tI M_57 60 21) (k := 21) iM_57 rfl
                  have v_67 : 0 ≤ (tI M_57 60 22).toInt ∧ (tI M_57 60 22).toInt ≤ 700 := mI_rd (x := tI M_57 60 22) (k := 22) iM_57 rfl
                  refine lv_aload_n hx hb dX10_token_64 rfl (lv_at hl 1 rfl) ?_
                  refine ti_callVi (ci := 10) (av := []) C hw (s_X10_here l D A cy hJ M_57 iM_57 ) ⟨ml_X10_166, ym_X10_here, yv_X10_here, yi_X10_here, yc_X10_here⟩ yd_X10_here ob_60 (by decide) rfl rfl hl.1 (Nat.le_of_ble_eq_true rfl) ⟨by decide, by decide⟩ ⟨Nat.zero_le _, Nat.zero_le _⟩ dX10_token_65 (fun r_68 M_69 H locs hp_69 hw => ?_)
                  obtain ⟨hm, b0r_68, b1r_68, p0r_68, p1r_68⟩ := hp_69
                  have hw := hw.to hm
                  have hhr_68 : (hr M_57).toInt = r_68.toInt := by rw [← p1r_68]
                  have kr_68 := hr_pk (a := 21) (b := 24) (M := M) f_58 (by decide) iM_57 p1r_68
                  refine ti_callSi (av := [.int r_68]) C hw (s_X10_isSmall l D A cy hJ M_57 iM_57 r_68) ⟨ml_X10_176, ys_X10_isSmall, yi_X10_isSmall, yc_X10_isSmall⟩ yd_X10_isSmall rfl hl.1 (Nat.le_of_ble_eq_true rfl) ⟨by decide, by decide⟩ ⟨Nat.zero_le _, Nat.zero_le _⟩ dX10_token_68 (fun r_70 M_71 H locs hp_71 hw => ?_)
                  obtain ⟨hm, hz⟩ := hp_71
                  have hw := hw.to hm
                  rcases hz with ⟨rfl, d0_72, d1_72⟩ | ⟨rfl, d0_72⟩
                  · refine sb_if_eq (tgt := 87) hx hb (by decide : (1 : Int32).toInt = 1) dX10_token_71 (by decide) (fun h => absurd h (by decide)) (fun c_71_72 => ?_)
                    refine lv_aload_n hx hb dX10_token_74 rfl (lv_at hl 1 rfl) ?_
                    refine lv_dup hx hb dX10_token_75 rfl ?_
                    refine ti_get (ci := 10) (k := 21) (N := 67) (T := TX10) C hw iw_10 rfl ob_60 (by decide) (by decide) fl_X10_160 rfl rfl dX10_token_76 ?_
                    refine lv_topi (fun x_75 ex_75 => ?_)
                    have bx_75 : 0 ≤ x_75.toInt ∧ x_75.toInt ≤ 700 := mI_rd iM_57 ex_75
                    have ux_75 : (tI M_57 60 21).toInt = x_75.toInt := by rw [ex_75]
                    refine lv_iconst (v := 1) hx hb dX10_token_79 (by decide) ?_
                    refine lv_iadd hx hb dX10_token_80 ?_
                    refine lv_topi (fun x_76 ex_76 => ?_)
                    have tx_76 : x_76.toInt = x_75.toInt + 1 := i_add ex_76 rfl (by decide : (1 : Int32).toInt = 1) (by omega) (by omega)
                    refine ti_putI (ci := 10) (k := 21) (N := 67) (T := TX10) C hw iw_10 tyX10 tyX10_ok nmX10 rfl ob_60 (by decide) (by decide) fl_X10_160 rfl rfl rfl rfl (fn_10 A _) fs_10_21 dX10_token_81 (fun H locs hw => ?_)
                    obtain ⟨M_77, hM_77⟩ : ∃ z : ti_M, z = uI M_57 60 21 x_76 := ⟨_, rfl⟩
                    have hw := hw.to hM_77.symm
                    have iM_77 : mI Tm M_77 := mI_uI iM_57 hM_77 (by decide) (by decide) (ib_mk (lo := 0) (hi := 700) (by omega) (by omega))
                    have vM_77 : (tI M_77 60 21).toInt = (x_76 : Int32).toInt := by rw [tI_uE hM_77]
                    have v_78 : (tI M_77 60 20).toInt = (tI M_57 60 20).toInt := by rw [tI_nE hM_77 (nk (by decide))]
                    have v_79 : (tI M_77 60 21).toInt = (x_76 : Int32).toInt := by rw [tI_uE hM_77]
                    have v_80 : (tI M_77 60 22).toInt = (tI M_57 60 22).toInt := by rw [tI_nE hM_77 (nk (by decide))]
                    have v_81 : (tI M_77 60 23).toInt = (tI M_57 60 23).toInt := by rw [tI_nE hM_77 (nk (by decide))]
                    have v_82 : (tI M_77 60 24).toInt = (tI M_57 60 24).toInt := by rw [tI_nE hM_77 (nk (by decide))]
                    refine lv_goto (tgt := 64) hx hb dX10_token_84 (by decide) ?_
                    have u_83 : (tI M_77 60 21).toInt = (x_76 : Int32).toInt := by rw [(tI_uE hM_77)]
                    exact ih_63 M_77 _ _ _ (by omega) iM_77 (pr.trans (pr_I hM_77 (by decide)) f_58) (by first | omega | decide) (by first | omega | decide) (by rw [(tI_nE hM_77 (nk (by decide)))]; exact j_61) (by have h := pt_pk_in kr_68 (by omega); have e1 : (tI M_77 60 21).toInt.toNat = (tI M_57 60 21).toInt.toNat + 1 := (by rw [(tI_uE hM_77), (ex_75.symm)]; omega); rw [e1, ← pt_to_go (P := pt_L) (B := pt_rB M) h.1 (by rw [← h.2]; exact pt_Lt (by omega) (by omega))]; exact j_62) hw (lv_sub hl [0, 1] rfl)
                  · refine sb_if_eq (tgt := 87) hx hb (by decide : (0 : Int32).toInt = 0) dX10_token_71 (by decide) (fun c_71_73 => ?_) (fun h => absurd h (by decide))
                    have EA : pt_to pt_L (pt_rB M) (pt_rn0 M) (pt_P (pt_rB M) (pt_rn0 M) (tI M 60 21).toInt.toNat) = (tI M_57 60 21).toInt.toNat := by rw [← j_62, pt_to_end (P := pt_L) (B := pt_rB M) (n := pt_rn0 M) (a := (tI M_57 60 21).toInt.toNat) (pt_pk_no kr_68 (pt_Lf (by omega)))]
                    have hpl := j_61
                    have hga : 0 ≤ (tI M_57 60 21).toInt ∧ (tI M_57 60 21).toInt ≤ 700 := iM_57.1 21
                    have hpa : (pt_P (pt_rB M) (pt_rn0 M) (tI M 60 21).toInt.toNat) ≤ (pt_to pt_L (pt_rB M) (pt_rn0 M) (pt_P (pt_rB M) (pt_rn0 M) (tI M 60 21).toInt.toNat)) := pt_to_le
                    have hpa2 : (tI M_57 60 22).toInt ≤ (tI M_57 60 21).toInt := by omega
                    refine lv_aload_n hx hb dX10_token_87 rfl (lv_at hl 1 rfl) ?_
                    refine lv_aload_n hx hb dX10_token_88 rfl (lv_at hl 1 rfl) ?_
                    refine ti_callViE (ci := 10) (av := []) C hE hw (x_X10_word l D A cy hJ M_57 iM_57 (by omega)) ⟨ml_X10_180, ym_X10_word, yv_X10_word, yi_X10_word, yc_X10_word⟩ yd_X10_word ob_60 (by decide) rfl rfl hl.1 (Nat.le_of_ble_eq_true rfl) ⟨by decide, by decide⟩ ⟨Nat.zero_le _, Nat.zero_le _⟩ dX10_token_89 (fun r_84 M_85 H locs hp_85 hw => ?_)
                    obtain ⟨hm, b0r_84, b1r_84, p0r_84⟩ := hp_85
                    have hw := hw.to hm
                    have hd := p0r_84
                    rw [pr_B f_58, show (tI M_57 60 22).toInt.toNat = (pt_P (pt_rB M) (pt_rn0 M) (tI M 60 21).toInt.toNat) by omega, ← EA] at hd
                    refine ti_putI (ci := 10) (k := 24) (N := 67) (T := TX10) C hw iw_10 tyX10 tyX10_ok nmX10 rfl ob_60 (by decide) (by decide) fl_X10_183 rfl rfl rfl rfl (fn_10 A _) fs_10_24 dX10_token_92 (fun H locs hw => ?_)
                    obtain ⟨M_86, hM_86⟩ : ∃ z : ti_M, z = uI M_57 60 24 r_84 := ⟨_, rfl⟩
                    have hw := hw.to hM_86.symm
                    have iM_86 : mI Tm M_86 := mI_va iM_57 hM_86 (fun _ => by omega)
                    have v_87 : (tI M_86 60 20).toInt = (tI M_57 60 20).toInt := by rw [tI_nE hM_86 (nk (by decide))]
                    have v_88 : (tI M_86 60 21).toInt = (tI M_57 60 21).toInt := by rw [tI_nE hM_86 (nk (by decide))]
                    have v_89 : (tI M_86 60 22).toInt = (tI M_57 60 22).toInt := by rw [tI_nE hM_86 (nk (by decide))]
                    have v_90 : (tI M_86 60 23).toInt = (tI M_57 60 23).toInt := by rw [tI_nE hM_86 (nk (by decide))]
                    have v_91 : (tI M_86 60 24).toInt = (r_84 : Int32).toInt := by rw [tI_uE hM_86]
                    have v_92 : (hr M_86).toInt = (hr M_57).toInt := by rw [hr_I hM_86 (by decide)]
                    refine lv_aload_n hx hb dX10_token_95 rfl (lv_at hl 1 rfl) ?_
                    refine lv_aload_n hx hb dX10_token_96 rfl (lv_at hl 1 rfl) ?_
                    refine ti_get (ci := 10) (k := 24) (N := 67) (T := TX10) C hw iw_10 rfl ob_60 (by decide) (by decide) fl_X10_183 rfl rfl dX10_token_97 ?_
                    refine ti_top (y := r_84) (tI_uE hM_86) ?_
                    refine lv_iconst (v := (-1)) hx hb dX10_token_100 (by decide) ?_
                    refine sb_icmp_eq (tgt := 108) hx hb rfl (by decide : ((-1) : Int32).toInt = (-1)) dX10_token_101 (by decide) (fun c_101_92 => ?_) (fun c_101_92 => ?_)
                    · refine lv_aload_n hx hb dX10_token_108 rfl (lv_at hl 1 rfl) ?_
                      refine ti_get (ci := 10) (k := 21) (N := 67) (T := TX10) C hw iw_10 rfl ob_60 (by decide) (by decide) fl_X10_160 rfl rfl dX10_token_109 ?_
                      refine lv_topi (fun x_94 ex_94 => ?_)
                      have bx_94 : 0 ≤ x_94.toInt ∧ x_94.toInt ≤ 700 := mI_rd iM_86 ex_94
                      have ux_94 : (tI M_86 60 21).toInt = x_94.toInt := by rw [ex_94]
                      refine lv_aload_n hx hb dX10_token_112 rfl (lv_at hl 1 rfl) ?_
                      refine ti_get (ci := 10) (k := 22) (N := 67) (T := TX10) C hw iw_10 rfl ob_60 (by decide) (by decide) fl_X10_170 rfl rfl dX10_token_113 ?_
                      refine lv_topi (fun x_95 ex_95 => ?_)
                      have bx_95 : 0 ≤ x_95.toInt ∧ x_95.toInt ≤ 700 := mI_rd iM_86 ex_95
                      have ux_95 : (tI M_86 60 22).toInt = x_95.toInt := by rw [ex_95]
                      refine lv_isub hx hb dX10_token_116 ?_
                      refine lv_topi (fun x_96 ex_96 => ?_)
                      have tx_96 : x_96.toInt = x_94.toInt - x_95.toInt := i_sub ex_96 rfl rfl (by omega) (by omega)
                      refine lv_bipush (v := 6) hx hb dX10_token_117 (by decide) ?_
                      refine sb_icmp_le (tgt := 126) hx hb rfl (by decide : (6 : Int32).toInt = 6) dX10_token_119 (by decide) (fun c_119_96 => ?_) (fun c_119_96 => ?_)
                      · refine lv_iconst (v := 1) hx hb dX10_token_126 (by decide) ?_
                        refine ti_putI (ci := 10) (k := 23) (N := 67) (T := TX10) C hw iw_10 tyX10 tyX10_ok nmX10 rfl ob_60 (by decide) (by decide) fl_X10_173 rfl rfl rfl rfl (fn_10 A _) fs_10_23 dX10_token_127 (fun H locs hw => ?_)
                        obtain ⟨M_114, hM_114⟩ : ∃ z : ti_M, z = uI M_86 60 23 1 := ⟨_, rfl⟩
                        have hw := hw.to hM_114.symm
                        have iM_114 : mI Tm M_114 := mI_so iM_86 hM_114 (fun h => absurd h (by decide))
                        have v_115 : (tI M_114 60 20).toInt = (tI M_86 60 20).toInt := by rw [tI_nE hM_114 (nk (by decide))]
                        have v_116 : (tI M_114 60 21).toInt = (tI M_86 60 21).toInt := by rw [tI_nE hM_114 (nk (by decide))]
                        have v_117 : (tI M_114 60 22).toInt = (tI M_86 60 22).toInt := by rw [tI_nE hM_114 (nk (by decide))]
                        have v_118 : (tI M_114 60 23).toInt = 1 := by rw [tI_uE hM_114]; decide
                        have v_119 : (tI M_114 60 24).toInt = (tI M_86 60 24).toInt := by rw [tI_nE hM_114 (nk (by decide))]
                        have v_120 : (hr M_114).toInt = (hr M_86).toInt := by rw [hr_I hM_114 (by decide)]
                        refine lv_aload_n hx hb dX10_token_130 rfl (lv_at hl 1 rfl) ?_
                        refine ti_get (ci := 10) (k := 23) (N := 67) (T := TX10) C hw iw_10 rfl ob_60 (by decide) (by decide) fl_X10_173 rfl rfl dX10_token_131 ?_
                        refine ti_top (y := 1) (tI_uE hM_114) ?_
                        refine lv_iconst (v := 1) hx hb dX10_token_134 (by decide) ?_
                        refine sb_icmp_ne (tgt := 225) hx hb (by decide : (1 : Int32).toInt = 1) (by decide : (1 : Int32).toInt = 1) dX10_token_135 (by decide) (fun h => absurd h (by decide)) (fun c_135_120 => ?_)
                        have hq22 : (tI M_114 60 22).toInt.toNat = (pt_P (pt_rB M) (pt_rn0 M) (tI M 60 21).toInt.toNat) := by rw [((tI_nE hM_114 (nk (by decide))).trans (tI_nE hM_86 (nk (by decide))))]; omega
                        have hq21 : (tI M_114 60 21).toInt.toNat = (pt_to pt_L (pt_rB M) (pt_rn0 M) (pt_P (pt_rB M) (pt_rn0 M) (tI M 60 21).toInt.toNat)) := by rw [((tI_nE hM_114 (nk (by decide))).trans (tI_nE hM_86 (nk (by decide)))), EA]
                        have hal : pt_al (pt_rB M_114) (tI M_114 60 22).toInt.toNat (tI M_114 60 21).toInt.toNat := by rw [pr_B (pr.trans (pr_I hM_114 (by decide)) (pr.trans (pr_I hM_86 (by decide)) f_58)), hq22, hq21]; exact pt_to_al
                        refine lv_aload_n hx hb dX10_token_138 rfl (lv_at hl 1 rfl) ?_
                        refine ti_callVv (ci := 10) (av := []) C hw (x_X10_name l D A cy hJ M_114 iM_114 (tI_uE hM_114) hal) ⟨ml_X10_186, ym_X10_name, yv_X10_name, yi_X10_name, yc_X10_name⟩ yd_X10_name ob_60 (by decide) rfl rfl hl.1 (Nat.le_of_ble_eq_true rfl) ⟨by decide, by decide⟩ ⟨Nat.zero_le _, Nat.zero_le _⟩ dX10_token_139 (fun M_123 H locs hp_123 hw => ?_)
                        obtain ⟨iM_123, q_124, p0r_122⟩ := hp_123
                        have v_125 : (tI M_123 60 20).toInt = (tI M_114 60 20).toInt := by rw [q_124.2 20 (by decide)]
                        have v_126 : (tI M_123 60 21).toInt = (tI M_114 60 21).toInt := by rw [q_124.2 21 (by decide)]
                        have v_127 : (tI M_123 60 22).toInt = (tI M_114 60 22).toInt := by rw [q_124.2 22 (by decide)]
                        have v_128 : (tI M_123 60 23).toInt = (tI M_114 60 23).toInt := by rw [q_124.2 23 (by decide)]
                        refine lv_goto (tgt := 225) hx hb dX10_token_142 (by decide) ?_
                        have h6 : (pt_to pt_L (pt_rB M) (pt_rn0 M) (pt_P (pt_rB M) (pt_rn0 M) (tI M 60 21).toInt.toNat)) ≤ (pt_P (pt_rB M) (pt_rn0 M) (tI M 60 21).toInt.toNat) + 6 := by rw [EA]; omega
                        have hm := hd.resolve_right (fun q => by omega)
                        have EK : pt_K (pt_rB M) (pt_rn0 M) (tI M 60 21).toInt.toNat = 25 := by unfold pt_K; rw [EC, if_neg (by omega), if_pos (pt_Lt (by omega) (by omega)), if_neg (by omega), pt_nw h6 hm.2]
                        have EV : pt_V (pt_rB M) (pt_rn0 M) (tI M 60 21).toInt.toNat = pt_h (pt_rB M) (pt_P (pt_rB M) (pt_rn0 M) (tI M 60 21).toInt.toNat) (pt_to pt_L (pt_rB M) (pt_rn0 M) (pt_P (pt_rB M) (pt_rn0 M) (tI M 60 21).toInt.toNat)) 6 := by unfold pt_V; rw [EC, if_neg (by omega), if_pos (pt_Lt (by omega) (by omega)), pt_ev_h h6]
                        have q1 := p0r_122
                        rw [pr_B (pr.trans (pr_I hM_114 (by decide)) (pr.trans (pr_I hM_86 (by decide)) f_58)), hq22, hq21] at q1
                        exact hQ _ _ _ _ _ hw (⟨iM_123, (pr.trans (pr_w q_124 (by decide) (by decide)) (pr.trans (pr_I hM_114 (by decide)) (pr.trans (pr_I hM_86 (by decide)) f_58))), by omega, by omega, (by rw [((q_124.2 22 (by decide)).trans ((tI_nE hM_114 (nk (by decide))).trans (tI_nE hM_86 (nk (by decide)))))]; exact j_61), (by rw [((q_124.2 21 (by decide)).trans ((tI_nE hM_114 (nk (by decide))).trans (tI_nE hM_86 (nk (by decide)))))]; unfold pt_A; rw [EC, if_neg (by omega), if_pos (pt_Lt (by omega) (by omega)), EA]; omega), (by rw [EK, EV, ← q1]; exact pt_Tc (Or.inl ⟨rfl, by rw [q_124.2 23 (by decide), (tI_uE hM_114)]; decide, rfl⟩))⟩) dX10_token_225
                      · refine lv_iconst (v := 5) hx hb dX10_token_122 (by decide) ?_
                        refine lv_goto (tgt := 127) hx hb dX10_token_123 (by decide) ?_
                        refine ti_putI (ci := 10) (k := 23) (N := 67) (T := TX10) C hw iw_10 tyX10 tyX10_ok nmX10 rfl ob_60 (by decide) (by decide) fl_X10_173 rfl rfl rfl rfl (fn_10 A _) fs_10_23 dX10_token_127 (fun H locs hw => ?_)
                        obtain ⟨M_106, hM_106⟩ : ∃ z : ti_M, z = uI M_86 60 23 5 := ⟨_, rfl⟩
                        have hw := hw.to hM_106.symm
                        have iM_106 : mI Tm M_106 := mI_so iM_86 hM_106 (fun h => absurd h (by decide))
                        have v_107 : (tI M_106 60 20).toInt = (tI M_86 60 20).toInt := by rw [tI_nE hM_106 (nk (by decide))]
                        have v_108 : (tI M_106 60 21).toInt = (tI M_86 60 21).toInt := by rw [tI_nE hM_106 (nk (by decide))]
                        have v_109 : (tI M_106 60 22).toInt = (tI M_86 60 22).toInt := by rw [tI_nE hM_106 (nk (by decide))]
                        have v_110 : (tI M_106 60 23).toInt = 5 := by rw [tI_uE hM_106]; decide
                        have v_111 : (tI M_106 60 24).toInt = (tI M_86 60 24).toInt := by rw [tI_nE hM_106 (nk (by decide))]
                        have v_112 : (hr M_106).toInt = (hr M_86).toInt := by rw [hr_I hM_106 (by decide)]
                        refine lv_aload_n hx hb dX10_token_130 rfl (lv_at hl 1 rfl) ?_
                        refine ti_get (ci := 10) (k := 23) (N := 67) (T := TX10) C hw iw_10 rfl ob_60 (by decide) (by decide) fl_X10_173 rfl rfl dX10_token_131 ?_
                        refine ti_top (y := 5) (tI_uE hM_106) ?_
                        refine lv_iconst (v := 1) hx hb dX10_token_134 (by decide) ?_
                        refine sb_icmp_ne (tgt := 225) hx hb (by decide : (5 : Int32).toInt = 5) (by decide : (1 : Int32).toInt = 1) dX10_token_135 (by decide) (fun c_135_112 => ?_) (fun h => absurd h (by decide))
                        have EK : pt_K (pt_rB M) (pt_rn0 M) (tI M 60 21).toInt.toNat = 28 := by unfold pt_K; rw [EC, if_neg (by omega), if_pos (pt_Lt (by omega) (by omega)), if_pos (by rw [EA]; omega)]
                        exact hQ _ _ _ _ _ hw (⟨iM_106, (pr.trans (pr_I hM_106 (by decide)) (pr.trans (pr_I hM_86 (by decide)) f_58)), by omega, by omega, (by rw [((tI_nE hM_106 (nk (by decide))).trans (tI_nE hM_86 (nk (by decide))))]; exact j_61), (by rw [((tI_nE hM_106 (nk (by decide))).trans (tI_nE hM_86 (nk (by decide))))]; unfold pt_A; rw [EC, if_neg (by omega), if_pos (pt_Lt (by omega) (by omega)), EA]; omega), (by rw [EK]; exact pt_Tc (Or.inr (Or.inr (Or.inr ⟨rfl, by rw [(tI_uE hM_106)]; decide⟩))))⟩) dX10_token_225
                    · refine lv_iconst (v := 0) hx hb dX10_token_104 (by decide) ?_
                      refine lv_goto (tgt := 127) hx hb dX10_token_105 (by decide) ?_
                      refine ti_putI (ci := 10) (k := 23) (N := 67) (T := TX10) C hw iw_10 tyX10 tyX10_ok nmX10 rfl ob_60 (by decide) (by decide) fl_X10_173 rfl rfl rfl rfl (fn_10 A _) fs_10_23 dX10_token_127 (fun H locs hw => ?_)
                      obtain ⟨M_98, hM_98⟩ : ∃ z : ti_M, z = uI M_86 60 23 0 := ⟨_, rfl⟩
                      have hw := hw.to hM_98.symm
                      have iM_98 : mI Tm M_98 := mI_so iM_86 hM_98 (fun _ => by rw [(tI_uE hM_86)]; omega)
                      have v_99 : (tI M_98 60 20).toInt = (tI M_86 60 20).toInt := by rw [tI_nE hM_98 (nk (by decide))]
                      have v_100 : (tI M_98 60 21).toInt = (tI M_86 60 21).toInt := by rw [tI_nE hM_98 (nk (by decide))]
                      have v_101 : (tI M_98 60 22).toInt = (tI M_86 60 22).toInt := by rw [tI_nE hM_98 (nk (by decide))]
                      have v_102 : (tI M_98 60 23).toInt = 0 := by rw [tI_uE hM_98]; decide
                      have v_103 : (tI M_98 60 24).toInt = (tI M_86 60 24).toInt := by rw [tI_nE hM_98 (nk (by decide))]
                      have v_104 : (hr M_98).toInt = (hr M_86).toInt := by rw [hr_I hM_98 (by decide)]
                      refine lv_aload_n hx hb dX10_token_130 rfl (lv_at hl 1 rfl) ?_
                      refine ti_get (ci := 10) (k := 23) (N := 67) (T := TX10) C hw iw_10 rfl ob_60 (by decide) (by decide) fl_X10_173 rfl rfl dX10_token_131 ?_
                      refine ti_top (y := 0) (tI_uE hM_98) ?_
                      refine lv_iconst (v := 1) hx hb dX10_token_134 (by decide) ?_
                      refine sb_icmp_ne (tgt := 225) hx hb (by decide : (0 : Int32).toInt = 0) (by decide : (1 : Int32).toInt = 1) dX10_token_135 (by decide) (fun c_135_104 => ?_) (fun h => absurd h (by decide))
                      have hm := hd.resolve_left (fun q => by omega)
                      have h6 := pt_m6 (by omega) hm.2
                      have EK : pt_K (pt_rB M) (pt_rn0 M) (tI M 60 21).toInt.toNat = ((pt_iv.getD r_84.toInt.toNat 0 : Nat) : Int) := by unfold pt_K; rw [EC, if_neg (by omega), if_pos (pt_Lt (by omega) (by omega)), if_neg (by omega), pt_wd h6 (by omega) hm.2]
                      exact hQ _ _ _ _ _ hw (⟨iM_98, (pr.trans (pr_I hM_98 (by decide)) (pr.trans (pr_I hM_86 (by decide)) f_58)), by omega, by omega, (by rw [((tI_nE hM_98 (nk (by decide))).trans (tI_nE hM_86 (nk (by decide))))]; exact j_61), (by rw [((tI_nE hM_98 (nk (by decide))).trans (tI_nE hM_86 (nk (by decide))))]; unfold pt_A; rw [EC, if_neg (by omega), if_pos (pt_Lt (by omega) (by omega)), EA]; omega), (by rw [EK]; exact pt_Tw' (by omega) (by rw [(tI_uE hM_98)]; decide) (by rw [((tI_nE hM_98 (nk (by decide))).trans (tI_uE hM_86))]; omega))⟩) dX10_token_225
              exact hl_64_62 ((700 - (tI M_35 60 21).toInt : Int).toNat + 1) M_35 _ _ _ (Nat.lt_succ_self _) iM_35 (pr.trans (pr_I hM_35 (by decide)) f_2) (by first | omega | decide) (by first | omega | decide) (by rw [EP]; omega) (by rw [EP]) hw (lv_sub hl [0, 1] rfl)
            · refine sb_if_eq (tgt := 145) hx hb (by decide : (0 : Int32).toInt = 0) dX10_token_61 (by decide) (fun c_61_55 => ?_) (fun h => absurd h (by decide))
              refine lv_iload_n hx hb dX10_token_145 rfl (lv_at hl 0 rfl) ?_
              refine ti_callSi (av := [.int r_42]) C hw (s_X10_isDigit l D A cy hJ M_35 iM_35 r_42) ⟨ml_X10_189, ys_X10_isDigit, yi_X10_isDigit, yc_X10_isDigit⟩ yd_X10_isDigit rfl hl.1 (Nat.le_of_ble_eq_true rfl) ⟨by decide, by decide⟩ ⟨Nat.zero_le _, Nat.zero_le _⟩ dX10_token_146 (fun r_129 M_130 H locs hp_130 hw => ?_)
              obtain ⟨hm, hz⟩ := hp_130
              have hw := hw.to hm
              rcases hz with ⟨rfl, d0_131, d1_131⟩ | ⟨rfl, d0_131⟩
              · refine sb_if_eq (tgt := 220) hx hb (by decide : (1 : Int32).toInt = 1) dX10_token_149 (by decide) (fun h => absurd h (by decide)) (fun c_149_131 => ?_)
                refine lv_aload_n hx hb dX10_token_152 rfl (lv_at hl 1 rfl) ?_
                refine lv_iconst (v := 2) hx hb dX10_token_153 (by decide) ?_
                refine ti_putI (ci := 10) (k := 23) (N := 67) (T := TX10) C hw iw_10 tyX10 tyX10_ok nmX10 rfl ob_60 (by decide) (by decide) fl_X10_173 rfl rfl rfl rfl (fn_10 A _) fs_10_23 dX10_token_154 (fun H locs hw => ?_)
                obtain ⟨M_134, hM_134⟩ : ∃ z : ti_M, z = uI M_35 60 23 2 := ⟨_, rfl⟩
                have hw := hw.to hM_134.symm
                have iM_134 : mI Tm M_134 := mI_so iM_35 hM_134 (fun h => absurd h (by decide))
                have v_135 : (tI M_134 60 20).toInt = (tI M_35 60 20).toInt := by rw [tI_nE hM_134 (nk (by decide))]
                have v_136 : (tI M_134 60 21).toInt = (tI M_35 60 21).toInt := by rw [tI_nE hM_134 (nk (by decide))]
                have v_137 : (tI M_134 60 22).toInt = (tI M_35 60 22).toInt := by rw [tI_nE hM_134 (nk (by decide))]
                have v_138 : (tI M_134 60 23).toInt = 2 := by rw [tI_uE hM_134]; decide
                have v_139 : (tI M_134 60 24).toInt = (tI M_35 60 24).toInt := by rw [tI_nE hM_134 (nk (by decide))]
                have v_140 : (hr M_134).toInt = (hr M_35).toInt := by rw [hr_I hM_134 (by decide)]
                refine lv_aload_n hx hb dX10_token_157 rfl (lv_at hl 1 rfl) ?_
                refine lv_iconst (v := 0) hx hb dX10_token_158 (by decide) ?_
                refine ti_putI (ci := 10) (k := 24) (N := 67) (T := TX10) C hw iw_10 tyX10 tyX10_ok nmX10 rfl ob_60 (by decide) (by decide) fl_X10_183 rfl rfl rfl rfl (fn_10 A _) fs_10_24 dX10_token_159 (fun H locs hw => ?_)
                obtain ⟨M_141, hM_141⟩ : ∃ z : ti_M, z = uI M_134 60 24 0 := ⟨_, rfl⟩
                have hw := hw.to hM_141.symm
                have iM_141 : mI Tm M_141 := mI_va iM_134 hM_141 (fun h => absurd ((tI_uE hM_134).symm.trans h) (by decide))
                have v_142 : (tI M_141 60 20).toInt = (tI M_134 60 20).toInt := by rw [tI_nE hM_141 (nk (by decide))]
                have v_143 : (tI M_141 60 21).toInt = (tI M_134 60 21).toInt := by rw [tI_nE hM_141 (nk (by decide))]
                have v_144 : (tI M_141 60 22).toInt = (tI M_134 60 22).toInt := by rw [tI_nE hM_141 (nk (by decide))]
                have v_145 : (tI M_141 60 23).toInt = (tI M_134 60 23).toInt := by rw [tI_nE hM_141 (nk (by decide))]
                have v_146 : (tI M_141 60 24).toInt = 0 := by rw [tI_uE hM_141]; decide
                have v_147 : (hr M_141).toInt = (hr M_134).toInt := by rw [hr_I hM_141 (by decide)]
                have u_159 : (tI M_141 60 21).toInt = (x_34 : Int32).toInt := by rw [((tI_nE hM_141 (nk (by decide))).trans ((tI_nE hM_134 (nk (by decide))).trans ((tI_nE hM_35 (nk (by decide))).trans ex_34.symm)))]
                have u_160 : (tI M_141 60 24).toInt = (0 : Int32).toInt := by rw [(tI_uE hM_141)]
                have hl_162_157 : ∀ (n_158 : Nat) (M_148 : ti_M) (H : Heap) (locs : List Loc) (ls : Array Slot), (700 - (tI M_148 60 21).toInt : Int).toNat < n_158 → (mI Tm M_148) → (pr 21 24 M_148 M) → (tI M_148 60 23 = 2) → ((tI M 60 21).toInt ≤ (tI M_148 60 21).toInt) → ((tI M 60 21).toInt < (tI M_148 60 21).toInt ∨ (48 ≤ (hr M_148).toInt ∧ (hr M_148).toInt ≤ 57)) → (0 ≤ (tI M_148 60 24).toInt) → ((tI M_148 60 24).toInt ≤ 1000000) → ((tI M_148 60 22).toInt = (((pt_P (pt_rB M) (pt_rn0 M) (tI M 60 21).toInt.toNat) : Nat) : Int)) → (pt_to pt_D (pt_rB M) (pt_rn0 M) (tI M_148 60 21).toInt.toNat = pt_to pt_D (pt_rB M) (pt_rn0 M) (pt_P (pt_rB M) (pt_rn0 M) (tI M 60 21).toInt.toNat)) → (pt_mv (pt_rB M) (pt_rn0 M) (tI M_148 60 21).toInt.toNat (tI M_148 60 24).toInt = pt_mv (pt_rB M) (pt_rn0 M) (pt_P (pt_rB M) (pt_rn0 M) (tI M 60 21).toInt.toNat) 0) → ti_H ti_LM D A cy H0 M_148 H locs → lv_has ls 2 [(1, .int r_42), (0, .ref (A 60 0))] → W p l e (ti_rm 5) s m args below meth c H locs 0 0 Q (F0 m 162 ls []) := by
                  intro n_158
                  induction n_158 with
                  | zero => intro M_148 H locs ls hf_158; exact absurd hf_158 (Nat.not_lt_zero _)
                  | succ n_158 ih_158 =>
                    intro M_148 H locs ls hf_158 iM_148 f_149 f_150 j_151 j_152 j_153 j_154 j_155 j_156 j_157 hw hl
                    have v_161 : (tI M_148 60 20).toInt = (tI M 60 20).toInt := by rw [f_149.2 20 (by decide)]
                    have v_162 : 0 ≤ (tI M_148 60 21).toInt ∧ (tI M_148 60 21).toInt ≤ 700 := mI_rd (x := tI M_148 60 21) (k := 21) iM_148 rfl
                    have v_163 : 0 ≤ (tI M_148 60 22).toInt ∧ (tI M_148 60 22).toInt ≤ 700 := mI_rd (x := tI M_148 60 22) (k := 22) iM_148 rfl
                    refine lv_aload_n hx hb dX10_token_162 rfl (lv_at hl 1 rfl) ?_
                    refine ti_callVi (ci := 10) (av := []) C hw (s_X10_here l D A cy hJ M_148 iM_148 ) ⟨ml_X10_166, ym_X10_here, yv_X10_here, yi_X10_here, yc_X10_here⟩ yd_X10_here ob_60 (by decide) rfl rfl hl.1 (Nat.le_of_ble_eq_true rfl) ⟨by decide, by decide⟩ ⟨Nat.zero_le _, Nat.zero_le _⟩ dX10_token_163 (fun r_164 M_165 H locs hp_165 hw => ?_)
                    obtain ⟨hm, b0r_164, b1r_164, p0r_164, p1r_164⟩ := hp_165
                    have hw := hw.to hm
                    have hhr_164 : (hr M_148).toInt = r_164.toInt := by rw [← p1r_164]
                    have kr_164 := hr_pk (a := 21) (b := 24) (M := M) f_149 (by decide) iM_148 p1r_164
                    refine ti_callSi (av := [.int r_164]) C hw (s_X10_isDigit l D A cy hJ M_148 iM_148 r_164) ⟨ml_X10_189, ys_X10_isDigit, yi_X10_isDigit, yc_X10_isDigit⟩ yd_X10_isDigit rfl hl.1 (Nat.le_of_ble_eq_true rfl) ⟨by decide, by decide⟩ ⟨Nat.zero_le _, Nat.zero_le _⟩ dX10_token_166 (fun r_166 M_167 H locs hp_167 hw => ?_)
                    obtain ⟨hm, hz⟩ := hp_167
                    have hw := hw.to hm
                    rcases hz with ⟨rfl, d0_168, d1_168⟩ | ⟨rfl, d0_168⟩
                    · refine sb_if_eq (tgt := 225) hx hb (by decide : (1 : Int32).toInt = 1) dX10_token_169 (by decide) (fun h => absurd h (by decide)) (fun c_169_168 => ?_)
                      refine lv_aload_n hx hb dX10_token_172 rfl (lv_at hl 1 rfl) ?_
                      refine lv_aload_n hx hb dX10_token_173 rfl (lv_at hl 1 rfl) ?_
                      refine ti_get (ci := 10) (k := 24) (N := 67) (T := TX10) C hw iw_10 rfl ob_60 (by decide) (by decide) fl_X10_183 rfl rfl dX10_token_174 ?_
                      refine lv_topi (fun x_171 ex_171 => ?_)
                      have u_172 : (tI M_148 60 24).toInt = x_171.toInt := by rw [ex_171]
                      refine lv_ldc (v := 99999) hx hb C.2.2.2.1 (C.2.2.1 _ cn_X10_192) dX10_token_177 ?_
                      refine sb_icmp_le (tgt := 189) hx hb rfl (by decide : (99999 : Int32).toInt = 99999) dX10_token_179 (by decide) (fun c_179_172 => ?_) (fun c_179_172 => ?_)
                      · refine lv_bipush (v := 10) hx hb dX10_token_189 (by decide) ?_
                        refine lv_aload_n hx hb dX10_token_191 rfl (lv_at hl 1 rfl) ?_
                        refine ti_get (ci := 10) (k := 24) (N := 67) (T := TX10) C hw iw_10 rfl ob_60 (by decide) (by decide) fl_X10_183 rfl rfl dX10_token_192 ?_
                        refine ti_top (y := x_171) (ex_171.symm) ?_
                        refine lv_imul hx hb dX10_token_195 ?_
                        refine lv_topi (fun x_174 ex_174 => ?_)
                        have lox_174x_171 := x_171.le_toInt
                        have hix_174x_171 := x_171.toInt_lt
                        have tx_174 : x_174.toInt = 10 * x_171.toInt := i_mul ex_174 (by decide : (10 : Int32).toInt = 10) rfl (by omega) (by omega)
                        refine lv_aload_n hx hb dX10_token_196 rfl (lv_at hl 1 rfl) ?_
                        refine ti_callVi (ci := 10) (av := []) C hw (s_X10_here l D A cy hJ M_148 iM_148 ) ⟨ml_X10_166, ym_X10_here, yv_X10_here, yi_X10_here, yc_X10_here⟩ yd_X10_here ob_60 (by decide) rfl rfl hl.1 (Nat.le_of_ble_eq_true rfl) ⟨by decide, by decide⟩ ⟨Nat.zero_le _, Nat.zero_le _⟩ dX10_token_197 (fun r_175 M_176 H locs hp_176 hw => ?_)
                        obtain ⟨hm, b0r_175, b1r_175, p0r_175, p1r_175⟩ := hp_176
                        have hw := hw.to hm
                        have hhr_175 : (hr M_148).toInt = r_175.toInt := by rw [← p1r_175]
                        have kr_175 := hr_pk (a := 21) (b := 24) (M := M) f_149 (by decide) iM_148 p1r_175
                        refine lv_iadd hx hb dX10_token_200 ?_
                        refine lv_topi (fun x_177 ex_177 => ?_)
                        have lox_177x_174 := x_174.le_toInt
                        have hix_177x_174 := x_174.toInt_lt
                        have lox_177r_175 := r_175.le_toInt
                        have hix_177r_175 := r_175.toInt_lt
                        have tx_177 : x_177.toInt = x_174.toInt + r_175.toInt := i_add ex_177 rfl rfl (by omega) (by omega)
                        refine lv_bipush (v := 48) hx hb dX10_token_201 (by decide) ?_
                        refine lv_isub hx hb dX10_token_203 ?_
                        refine lv_topi (fun x_178 ex_178 => ?_)
                        have lox_178x_177 := x_177.le_toInt
                        have hix_178x_177 := x_177.toInt_lt
                        have tx_178 : x_178.toInt = x_177.toInt - 48 := i_sub ex_178 rfl (by decide : (48 : Int32).toInt = 48) (by omega) (by omega)
                        refine ti_putI (ci := 10) (k := 24) (N := 67) (T := TX10) C hw iw_10 tyX10 tyX10_ok nmX10 rfl ob_60 (by decide) (by decide) fl_X10_183 rfl rfl rfl rfl (fn_10 A _) fs_10_24 dX10_token_204 (fun H locs hw => ?_)
                        obtain ⟨M_196, hM_196⟩ : ∃ z : ti_M, z = uI M_148 60 24 x_178 := ⟨_, rfl⟩
                        have hw := hw.to hM_196.symm
                        have iM_196 : mI Tm M_196 := mI_va iM_148 hM_196 (fun h => absurd ((f_150).symm.trans h) (by decide))
                        have v_197 : (tI M_196 60 20).toInt = (tI M_148 60 20).toInt := by rw [tI_nE hM_196 (nk (by decide))]
                        have v_198 : (tI M_196 60 21).toInt = (tI M_148 60 21).toInt := by rw [tI_nE hM_196 (nk (by decide))]
                        have v_199 : (tI M_196 60 22).toInt = (tI M_148 60 22).toInt := by rw [tI_nE hM_196 (nk (by decide))]
                        have v_200 : (tI M_196 60 23).toInt = (tI M_148 60 23).toInt := by rw [tI_nE hM_196 (nk (by decide))]
                        have v_201 : (tI M_196 60 24).toInt = (x_178 : Int32).toInt := by rw [tI_uE hM_196]
                        have v_202 : (hr M_196).toInt = (hr M_148).toInt := by rw [hr_I hM_196 (by decide)]
                        refine lv_aload_n hx hb dX10_token_207 rfl (lv_at hl 1 rfl) ?_
                        refine lv_dup hx hb dX10_token_208 rfl ?_
                        refine ti_get (ci := 10) (k := 21) (N := 67) (T := TX10) C hw iw_10 rfl ob_60 (by decide) (by decide) fl_X10_160 rfl rfl dX10_token_209 ?_
                        refine lv_topi (fun x_203 ex_203 => ?_)
                        have bx_203 : 0 ≤ x_203.toInt ∧ x_203.toInt ≤ 700 := mI_rd iM_196 ex_203
                        have ux_203 : (tI M_196 60 21).toInt = x_203.toInt := by rw [ex_203]
                        refine lv_iconst (v := 1) hx hb dX10_token_212 (by decide) ?_
                        refine lv_iadd hx hb dX10_token_213 ?_
                        refine lv_topi (fun x_204 ex_204 => ?_)
                        have tx_204 : x_204.toInt = x_203.toInt + 1 := i_add ex_204 rfl (by decide : (1 : Int32).toInt = 1) (by omega) (by omega)
                        refine ti_putI (ci := 10) (k := 21) (N := 67) (T := TX10) C hw iw_10 tyX10 tyX10_ok nmX10 rfl ob_60 (by decide) (by decide) fl_X10_160 rfl rfl rfl rfl (fn_10 A _) fs_10_21 dX10_token_214 (fun H locs hw => ?_)
                        obtain ⟨M_205, hM_205⟩ : ∃ z : ti_M, z = uI M_196 60 21 x_204 := ⟨_, rfl⟩
                        have hw := hw.to hM_205.symm
                        have iM_205 : mI Tm M_205 := mI_uI iM_196 hM_205 (by decide) (by decide) (ib_mk (lo := 0) (hi := 700) (by omega) (by omega))
                        have vM_205 : (tI M_205 60 21).toInt = (x_204 : Int32).toInt := by rw [tI_uE hM_205]
                        have v_206 : (tI M_205 60 20).toInt = (tI M_196 60 20).toInt := by rw [tI_nE hM_205 (nk (by decide))]
                        have v_207 : (tI M_205 60 21).toInt = (x_204 : Int32).toInt := by rw [tI_uE hM_205]
                        have v_208 : (tI M_205 60 22).toInt = (tI M_196 60 22).toInt := by rw [tI_nE hM_205 (nk (by decide))]
                        have v_209 : (tI M_205 60 23).toInt = (tI M_196 60 23).toInt := by rw [tI_nE hM_205 (nk (by decide))]
                        have v_210 : (tI M_205 60 24).toInt = (tI M_196 60 24).toInt := by rw [tI_nE hM_205 (nk (by decide))]
                        refine lv_goto (tgt := 162) hx hb dX10_token_217 (by decide) ?_
                        have u_211 : (tI M_205 60 21).toInt = (x_204 : Int32).toInt := by rw [(tI_uE hM_205)]
                        have u_212 : (tI M_205 60 24).toInt = (x_178 : Int32).toInt := by rw [((tI_nE hM_205 (nk (by decide))).trans (tI_uE hM_196))]
                        exact ih_158 M_205 _ _ _ (by omega) iM_205 (pr.trans (pr_I hM_205 (by decide)) (pr.trans (pr_I hM_196 (by decide)) f_149)) ((tI_nE hM_205 (nk (by decide))).trans ((tI_nE hM_196 (nk (by decide))).trans f_150)) (by first | omega | decide) (by first | omega | decide) (by first | omega | decide) (by first | omega | decide) (by rw [((tI_nE hM_205 (nk (by decide))).trans (tI_nE hM_196 (nk (by decide))))]; exact j_155) (by have h := pt_pk_in kr_164 (by omega); have e1 : (tI M_205 60 21).toInt.toNat = (tI M_148 60 21).toInt.toNat + 1 := (by rw [(tI_uE hM_205), ← (tI_nE hM_196 (nk (by decide))), (ex_203.symm)]; omega); rw [e1, ← pt_to_go (P := pt_D) (B := pt_rB M) h.1 (by rw [← h.2]; exact pt_Dt (by omega) (by omega))]; exact j_156) (by have h := pt_pk_in kr_164 (by omega); have e1 : (tI M_205 60 21).toInt.toNat = (tI M_148 60 21).toInt.toNat + 1 := (by rw [(tI_uE hM_205), ← (tI_nE hM_196 (nk (by decide))), (ex_203.symm)]; omega); rw [e1, ((tI_nE hM_205 (nk (by decide))).trans (tI_uE hM_196)), show x_178.toInt = (if 99999 < (tI M_148 60 24).toInt then (tI M_148 60 24).toInt else 10 * (tI M_148 60 24).toInt + pt_rB M (tI M_148 60 21).toInt.toNat - 48) by (rw [if_neg (by omega), ← h.2]; omega), ← pt_mv_go (B := pt_rB M) h.1 (by rw [← h.2]; exact pt_Dt (by omega) (by omega))]; exact j_157) hw (lv_sub hl [0, 1] rfl)
                      · refine lv_aload_n hx hb dX10_token_182 rfl (lv_at hl 1 rfl) ?_
                        refine ti_get (ci := 10) (k := 24) (N := 67) (T := TX10) C hw iw_10 rfl ob_60 (by decide) (by decide) fl_X10_183 rfl rfl dX10_token_183 ?_
                        refine ti_top (y := x_171) (ex_171.symm) ?_
                        refine lv_goto (tgt := 204) hx hb dX10_token_186 (by decide) ?_
                        refine ti_putI (ci := 10) (k := 24) (N := 67) (T := TX10) C hw iw_10 tyX10 tyX10_ok nmX10 rfl ob_60 (by decide) (by decide) fl_X10_183 rfl rfl rfl rfl (fn_10 A _) fs_10_24 dX10_token_204 (fun H locs hw => ?_)
                        obtain ⟨M_179, hM_179⟩ : ∃ z : ti_M, z = uI M_148 60 24 x_171 := ⟨_, rfl⟩
                        have hw := hw.to hM_179.symm
                        have iM_179 : mI Tm M_179 := mI_va iM_148 hM_179 (fun h => absurd ((f_150).symm.trans h) (by decide))
                        have v_180 : (tI M_179 60 20).toInt = (tI M_148 60 20).toInt := by rw [tI_nE hM_179 (nk (by decide))]
                        have v_181 : (tI M_179 60 21).toInt = (tI M_148 60 21).toInt := by rw [tI_nE hM_179 (nk (by decide))]
                        have v_182 : (tI M_179 60 22).toInt = (tI M_148 60 22).toInt := by rw [tI_nE hM_179 (nk (by decide))]
                        have v_183 : (tI M_179 60 23).toInt = (tI M_148 60 23).toInt := by rw [tI_nE hM_179 (nk (by decide))]
                        have v_184 : (tI M_179 60 24).toInt = (x_171 : Int32).toInt := by rw [tI_uE hM_179]
                        have v_185 : (hr M_179).toInt = (hr M_148).toInt := by rw [hr_I hM_179 (by decide)]
                        refine lv_aload_n hx hb dX10_token_207 rfl (lv_at hl 1 rfl) ?_
                        refine lv_dup hx hb dX10_token_208 rfl ?_
                        refine ti_get (ci := 10) (k := 21) (N := 67) (T := TX10) C hw iw_10 rfl ob_60 (by decide) (by decide) fl_X10_160 rfl rfl dX10_token_209 ?_
                        refine lv_topi (fun x_186 ex_186 => ?_)
                        have bx_186 : 0 ≤ x_186.toInt ∧ x_186.toInt ≤ 700 := mI_rd iM_179 ex_186
                        have ux_186 : (tI M_179 60 21).toInt = x_186.toInt := by rw [ex_186]
                        refine lv_iconst (v := 1) hx hb dX10_token_212 (by decide) ?_
                        refine lv_iadd hx hb dX10_token_213 ?_
                        refine lv_topi (fun x_187 ex_187 => ?_)
                        have tx_187 : x_187.toInt = x_186.toInt + 1 := i_add ex_187 rfl (by decide : (1 : Int32).toInt = 1) (by omega) (by omega)
                        refine ti_putI (ci := 10) (k := 21) (N := 67) (T := TX10) C hw iw_10 tyX10 tyX10_ok nmX10 rfl ob_60 (by decide) (by decide) fl_X10_160 rfl rfl rfl rfl (fn_10 A _) fs_10_21 dX10_token_214 (fun H locs hw => ?_)
                        obtain ⟨M_188, hM_188⟩ : ∃ z : ti_M, z = uI M_179 60 21 x_187 := ⟨_, rfl⟩
                        have hw := hw.to hM_188.symm
                        have iM_188 : mI Tm M_188 := mI_uI iM_179 hM_188 (by decide) (by decide) (ib_mk (lo := 0) (hi := 700) (by omega) (by omega))
                        have vM_188 : (tI M_188 60 21).toInt = (x_187 : Int32).toInt := by rw [tI_uE hM_188]
                        have v_189 : (tI M_188 60 20).toInt = (tI M_179 60 20).toInt := by rw [tI_nE hM_188 (nk (by decide))]
                        have v_190 : (tI M_188 60 21).toInt = (x_187 : Int32).toInt := by rw [tI_uE hM_188]
                        have v_191 : (tI M_188 60 22).toInt = (tI M_179 60 22).toInt := by rw [tI_nE hM_188 (nk (by decide))]
                        have v_192 : (tI M_188 60 23).toInt = (tI M_179 60 23).toInt := by rw [tI_nE hM_188 (nk (by decide))]
                        have v_193 : (tI M_188 60 24).toInt = (tI M_179 60 24).toInt := by rw [tI_nE hM_188 (nk (by decide))]
                        refine lv_goto (tgt := 162) hx hb dX10_token_217 (by decide) ?_
                        have u_194 : (tI M_188 60 21).toInt = (x_187 : Int32).toInt := by rw [(tI_uE hM_188)]
                        have u_195 : (tI M_188 60 24).toInt = (x_171 : Int32).toInt := by rw [((tI_nE hM_188 (nk (by decide))).trans (tI_uE hM_179))]
                        exact ih_158 M_188 _ _ _ (by omega) iM_188 (pr.trans (pr_I hM_188 (by decide)) (pr.trans (pr_I hM_179 (by decide)) f_149)) ((tI_nE hM_188 (nk (by decide))).trans ((tI_nE hM_179 (nk (by decide))).trans f_150)) (by first | omega | decide) (by first | omega | decide) (by first | omega | decide) (by first | omega | decide) (by rw [((tI_nE hM_188 (nk (by decide))).trans (tI_nE hM_179 (nk (by decide))))]; exact j_155) (by have h := pt_pk_in kr_164 (by omega); have e1 : (tI M_188 60 21).toInt.toNat = (tI M_148 60 21).toInt.toNat + 1 := (by rw [(tI_uE hM_188), ← (tI_nE hM_179 (nk (by decide))), (ex_186.symm)]; omega); rw [e1, ← pt_to_go (P := pt_D) (B := pt_rB M) h.1 (by rw [← h.2]; exact pt_Dt (by omega) (by omega))]; exact j_156) (by have h := pt_pk_in kr_164 (by omega); have e1 : (tI M_188 60 21).toInt.toNat = (tI M_148 60 21).toInt.toNat + 1 := (by rw [(tI_uE hM_188), ← (tI_nE hM_179 (nk (by decide))), (ex_186.symm)]; omega); rw [e1, ((tI_nE hM_188 (nk (by decide))).trans (tI_uE hM_179)), show x_171.toInt = (if 99999 < (tI M_148 60 24).toInt then (tI M_148 60 24).toInt else 10 * (tI M_148 60 24).toInt + pt_rB M (tI M_148 60 21).toInt.toNat - 48) by (rw [if_pos (by omega)]; omega), ← pt_mv_go (B := pt_rB M) h.1 (by rw [← h.2]; exact pt_Dt (by omega) (by omega))]; exact j_157) hw (lv_sub hl [0, 1] rfl)
                    · refine sb_if_eq (tgt := 225) hx hb (by decide : (0 : Int32).toInt = 0) dX10_token_169 (by decide) (fun c_169_169 => ?_) (fun h => absurd h (by decide))
                      have EA : pt_to pt_D (pt_rB M) (pt_rn0 M) (pt_P (pt_rB M) (pt_rn0 M) (tI M 60 21).toInt.toNat) = (tI M_148 60 21).toInt.toNat := by rw [← j_156, pt_to_end (P := pt_D) (B := pt_rB M) (n := pt_rn0 M) (a := (tI M_148 60 21).toInt.toNat) (pt_pk_no kr_164 (pt_Df (by omega)))]
                      have EV : pt_mv (pt_rB M) (pt_rn0 M) (pt_P (pt_rB M) (pt_rn0 M) (tI M 60 21).toInt.toNat) 0 = (tI M_148 60 24).toInt := by rw [← j_157, pt_mv_end (B := pt_rB M) (n := pt_rn0 M) (a := (tI M_148 60 21).toInt.toNat) (pt_pk_no kr_164 (pt_Df (by omega)))]
                      have EK : pt_K (pt_rB M) (pt_rn0 M) (tI M 60 21).toInt.toNat = 26 := by unfold pt_K; rw [EC, if_neg (by omega), if_neg (by rw [pt_Lf (by omega)]; decide), if_pos (pt_Dt (by omega) (by omega))]
                      have EW : pt_V (pt_rB M) (pt_rn0 M) (tI M 60 21).toInt.toNat = pt_nv (pt_rB M) (pt_rn0 M) (pt_P (pt_rB M) (pt_rn0 M) (tI M 60 21).toInt.toNat) 0 := by unfold pt_V; rw [EC, if_neg (by omega), if_neg (by rw [pt_Lf (by omega)]; decide), if_pos (pt_Dt (by omega) (by omega))]
                      have hga : 0 ≤ (tI M_148 60 21).toInt ∧ (tI M_148 60 21).toInt ≤ 700 := iM_148.1 21
                      exact hQ _ _ _ _ _ hw (⟨iM_148, f_149, by omega, by omega, j_155, (by unfold pt_A; rw [EC, if_neg (by omega), if_neg (by rw [pt_Lf (by omega)]; decide), if_pos (pt_Dt (by omega) (by omega)), EA]; omega), (by rw [EK, EW, ← EV]; exact pt_Tc (Or.inr (Or.inl ⟨rfl, by rw [(f_150)]; decide, pt_mn⟩)))⟩) dX10_token_225
                exact hl_162_157 ((700 - (tI M_141 60 21).toInt : Int).toNat + 1) M_141 _ _ _ (Nat.lt_succ_self _) iM_141 (pr.trans (pr_I hM_141 (by decide)) (pr.trans (pr_I hM_134 (by decide)) (pr.trans (pr_I hM_35 (by decide)) f_2))) ((tI_nE hM_141 (nk (by decide))).trans (tI_uE hM_134)) (by first | omega | decide) (by first | omega | decide) (by first | omega | decide) (by first | omega | decide) (by rw [((tI_nE hM_141 (nk (by decide))).trans (tI_nE hM_134 (nk (by decide)))), EP]; omega) (by rw [((tI_nE hM_141 (nk (by decide))).trans (tI_nE hM_134 (nk (by decide)))), EP]) (by rw [((tI_nE hM_141 (nk (by decide))).trans (tI_nE hM_134 (nk (by decide)))), EP, (tI_uE hM_141), show (0 : Int32).toInt = 0 by decide]) hw (lv_sub hl [0, 1] rfl)
              · refine sb_if_eq (tgt := 220) hx hb (by decide : (0 : Int32).toInt = 0) dX10_token_149 (by decide) (fun c_149_132 => ?_) (fun h => absurd h (by decide))
                refine lv_aload_n hx hb dX10_token_220 rfl (lv_at hl 1 rfl) ?_
                refine lv_iload_n hx hb dX10_token_221 rfl (lv_at hl 0 rfl) ?_
                refine ti_callVv (ci := 10) (av := [.int r_42]) C hw (x_X10_sign l D A cy hJ M_35 iM_35 r_42 (by first | omega | decide) (by first | omega | decide) (by first | omega | decide)) ⟨ml_X10_193, ym_X10_sign, yv_X10_sign, yi_X10_sign, yc_X10_sign⟩ yd_X10_sign ob_60 (by decide) rfl rfl hl.1 (Nat.le_of_ble_eq_true rfl) ⟨by decide, by decide⟩ ⟨Nat.zero_le _, Nat.zero_le _⟩ dX10_token_222 (fun M_214 H locs hp_214 hw => ?_)
                obtain ⟨iM_214, q_215, q_216, p0r_213, p1r_213⟩ := hp_214
                have v_217 : (tI M_214 60 20).toInt = (tI M_35 60 20).toInt := by rw [q_215.2 20 (by decide)]
                have v_218 : 0 ≤ (tI M_214 60 21).toInt ∧ (tI M_214 60 21).toInt ≤ 700 := mI_rd (x := tI M_214 60 21) (k := 21) iM_214 rfl
                have v_219 : (tI M_214 60 22).toInt = (tI M_35 60 22).toInt := by rw [q_216]
                have q1 := p0r_213
                have q2 := p1r_213 (pt_V (pt_rB M) (pt_rn0 M) (tI M 60 21).toInt.toNat)
                rw [pr_B (pr.trans (pr_I hM_35 (by decide)) f_2), pr_n (pr.trans (pr_I hM_35 (by decide)) f_2) (by decide), ← EP] at q1 q2
                have EK : pt_K (pt_rB M) (pt_rn0 M) (tI M 60 21).toInt.toNat = pt_sk r_42.toInt (pt_pk (pt_rB M) (pt_rn0 M) ((pt_P (pt_rB M) (pt_rn0 M) (tI M 60 21).toInt.toNat) + 1)) := by unfold pt_K; rw [EC, if_neg (by omega), if_neg (by rw [pt_Lf (by omega)]; decide), if_neg (by rw [pt_Df (by omega)]; decide)]
                have hs2 := pt_s2b r_42.toInt (pt_pk (pt_rB M) (pt_rn0 M) ((pt_P (pt_rB M) (pt_rn0 M) (tI M 60 21).toInt.toNat) + 1))
                have EQA : pt_A (pt_rB M) (pt_rn0 M) (tI M 60 21).toInt.toNat = (((pt_P (pt_rB M) (pt_rn0 M) (tI M 60 21).toInt.toNat) : Nat) : Int) + 1 + pt_s2 r_42.toInt (pt_pk (pt_rB M) (pt_rn0 M) ((pt_P (pt_rB M) (pt_rn0 M) (tI M 60 21).toInt.toNat) + 1)) := by unfold pt_A; rw [EC, if_neg (by omega), if_neg (by rw [pt_Lf (by omega)]; decide), if_neg (by rw [pt_Df (by omega)]; decide)]
                exact hQ _ _ _ _ _ hw (⟨iM_214, (pr.trans q_215 (pr.trans (pr_I hM_35 (by decide)) f_2)), by omega, by omega, (by rw [q_216, EP]; omega), (by rw [q1, EQA]; omega), (by rw [EK]; exact q2)⟩) dX10_token_225
          · refine lv_aload_n hx hb dX10_token_49 rfl (lv_at hl 1 rfl) ?_
            refine lv_iconst (v := 4) hx hb dX10_token_50 (by decide) ?_
            refine ti_putI (ci := 10) (k := 23) (N := 67) (T := TX10) C hw iw_10 tyX10 tyX10_ok nmX10 rfl ob_60 (by decide) (by decide) fl_X10_173 rfl rfl rfl rfl (fn_10 A _) fs_10_23 dX10_token_51 (fun H locs hw => ?_)
            obtain ⟨M_45, hM_45⟩ : ∃ z : ti_M, z = uI M_35 60 23 4 := ⟨_, rfl⟩
            have hw := hw.to hM_45.symm
            have iM_45 : mI Tm M_45 := mI_so iM_35 hM_45 (fun h => absurd h (by decide))
            have v_46 : (tI M_45 60 20).toInt = (tI M_35 60 20).toInt := by rw [tI_nE hM_45 (nk (by decide))]
            have v_47 : (tI M_45 60 21).toInt = (tI M_35 60 21).toInt := by rw [tI_nE hM_45 (nk (by decide))]
            have v_48 : (tI M_45 60 22).toInt = (tI M_35 60 22).toInt := by rw [tI_nE hM_45 (nk (by decide))]
            have v_49 : (tI M_45 60 23).toInt = 4 := by rw [tI_uE hM_45]; decide
            have v_50 : (tI M_45 60 24).toInt = (tI M_35 60 24).toInt := by rw [tI_nE hM_45 (nk (by decide))]
            have v_51 : (hr M_45).toInt = (hr M_35).toInt := by rw [hr_I hM_45 (by decide)]
            refine lv_goto (tgt := 225) hx hb dX10_token_54 (by decide) ?_
            have EK : pt_K (pt_rB M) (pt_rn0 M) (tI M 60 21).toInt.toNat = 27 := by unfold pt_K; rw [EC, if_pos (by omega)]
            exact hQ _ _ _ _ _ hw (⟨iM_45, (pr.trans (pr_I hM_45 (by decide)) (pr.trans (pr_I hM_35 (by decide)) f_2)), by omega, by omega, (by rw [(tI_nE hM_45 (nk (by decide))), EP]; omega), (by rw [(tI_nE hM_45 (nk (by decide)))]; unfold pt_A; rw [EC, if_pos (by omega), EP]; omega), (by rw [EK]; exact pt_Tc (Or.inr (Or.inr (Or.inl ⟨rfl, by rw [(tI_uE hM_45)]; decide⟩))))⟩) dX10_token_225
        · refine lv_aload_n hx hb dX10_token_18 rfl (lv_at hl 0 rfl) ?_
          refine lv_dup hx hb dX10_token_19 rfl ?_
          refine ti_get (ci := 10) (k := 21) (N := 67) (T := TX10) C hw iw_10 rfl ob_60 (by decide) (by decide) fl_X10_160 rfl rfl dX10_token_20 ?_
          refine lv_topi (fun x_25 ex_25 => ?_)
          have bx_25 : 0 ≤ x_25.toInt ∧ x_25.toInt ≤ 700 := mI_rd iM_1 ex_25
          have ux_25 : (tI M_1 60 21).toInt = x_25.toInt := by rw [ex_25]
          refine lv_iconst (v := 1) hx hb dX10_token_23 (by decide) ?_
          refine lv_iadd hx hb dX10_token_24 ?_
          refine lv_topi (fun x_26 ex_26 => ?_)
          have tx_26 : x_26.toInt = x_25.toInt + 1 := i_add ex_26 rfl (by decide : (1 : Int32).toInt = 1) (by omega) (by omega)
          refine ti_putI (ci := 10) (k := 21) (N := 67) (T := TX10) C hw iw_10 tyX10 tyX10_ok nmX10 rfl ob_60 (by decide) (by decide) fl_X10_160 rfl rfl rfl rfl (fn_10 A _) fs_10_21 dX10_token_25 (fun H locs hw => ?_)
          obtain ⟨M_27, hM_27⟩ : ∃ z : ti_M, z = uI M_1 60 21 x_26 := ⟨_, rfl⟩
          have hw := hw.to hM_27.symm
          have iM_27 : mI Tm M_27 := mI_uI iM_1 hM_27 (by decide) (by decide) (ib_mk (lo := 0) (hi := 700) (by omega) (by omega))
          have vM_27 : (tI M_27 60 21).toInt = (x_26 : Int32).toInt := by rw [tI_uE hM_27]
          have v_28 : (tI M_27 60 20).toInt = (tI M_1 60 20).toInt := by rw [tI_nE hM_27 (nk (by decide))]
          have v_29 : (tI M_27 60 21).toInt = (x_26 : Int32).toInt := by rw [tI_uE hM_27]
          have v_30 : (tI M_27 60 22).toInt = (tI M_1 60 22).toInt := by rw [tI_nE hM_27 (nk (by decide))]
          have v_31 : (tI M_27 60 23).toInt = (tI M_1 60 23).toInt := by rw [tI_nE hM_27 (nk (by decide))]
          have v_32 : (tI M_27 60 24).toInt = (tI M_1 60 24).toInt := by rw [tI_nE hM_27 (nk (by decide))]
          refine lv_goto (tgt := 0) hx hb dX10_token_28 (by decide) ?_
          have u_33 : (tI M_27 60 21).toInt = (x_26 : Int32).toInt := by rw [(tI_uE hM_27)]
          exact ih_5 M_27 _ _ _ (by omega) iM_27 (pr.trans (pr_I hM_27 (by decide)) f_2) (by first | omega | decide) (by have h := pt_pk_in kr_13 (by omega); have e1 : (tI M_27 60 21).toInt.toNat = (tI M_1 60 21).toInt.toNat + 1 := (by rw [(tI_uE hM_27), (ex_25.symm)]; omega); rw [e1, ← pt_to_go (P := pt_W) (B := pt_rB M) h.1 (by rw [← h.2]; exact pt_Wt (by omega))]; exact j_4) hw (lv_sub hl [0] rfl)
  exact hl_0_4 ((700 - (tI M 60 21).toInt : Int).toNat + 1) M _ _ _ (Nat.lt_succ_self _) hI pr.refl (by first | omega | decide) rfl hw (lv_sub hl [0] rfl)
end
section
variable {Tc : gC} {Tm : gM}
def pp_su (s : Nat → Int) (k : Nat) (v : Int) : Nat → Int := fun j => if j = k then v else s j
theorem su_s {s : Nat → Int} {k : Nat} {v : Int} : pp_su s k v k = v := if_pos rfl
theorem su_n {s : Nat → Int} {k j : Nat} {v : Int} (h : j ≠ k) : pp_su s k v j = s j := if_neg h
def pp_av (B : Nat → Int) (n : Nat) (s : Nat → Int) : Nat → Int := fun j => if j = 0 then pt_K B n (s 3).toNat else if j = 1 then pt_V B n (s 3).toNat else if j = 2 then ((pt_P B n (s 3).toNat : Nat) : Int) else if j = 3 then pt_A B n (s 3).toNat else s j
theorem av_n {B : Nat → Int} {n : Nat} {s : Nat → Int} {j : Nat} (h : 4 ≤ j) : pp_av B n s j = s j := by
  unfold pp_av
  rw [if_neg (by omega), if_neg (by omega), if_neg (by omega), if_neg (by omega)]
def pp_rf (k : Int) (s : Nat → Int) : Nat → Int := if s 4 = 0 then pp_su (pp_su (pp_su s 4 k) 5 (s 2)) 0 28 else pp_su s 0 28
def pp_tk (B : Nat → Int) (n : Nat) (k : Int) (s : Nat → Int) : Nat → Int := if s 0 = k then pp_av B n s else pp_rf 1 s
def pp_nb (B : Nat → Int) (n : Nat) (lo mo : Int) (s : Nat → Int) : Nat → Int := if s 0 = 26 then (if s 1 < lo ∨ mo < s 1 then pp_rf 2 s else pp_av B n s) else pp_rf 1 s
def pp_on (B : Nat → Int) (n : Nat) (s : Nat → Int) : Nat → Int := if s (300 + (s 0).toNat) = 0 then pp_av B n (pp_su s (300 + (s 0).toNat) 1) else pp_rf 3 s
def pp_kn (B : Nat → Int) (n : Nat) (s : Nat → Int) : Nat → Int := if s 8 < 64 then pp_av B n (pp_su s 8 (s 8 + 1)) else pp_rf 2 s
def pp_ff (s : Nat → Int) (v : Int) : Nat → Nat → Int
  | 0, _ => -1
  | f + 1, i => if s (100 + i) = v then (i : Int) else pp_ff s v f (i + 1)
/-- the first of the told men with this name from the i-th on, else -1 -/
def pp_fd (s : Nat → Int) (v : Int) (i : Nat) : Int := pp_ff s v ((s 7).toNat - i) i
theorem fd_go {s : Nat → Int} {v : Int} {i : Nat} (h : i < (s 7).toNat) (hp : ¬ s (100 + i) = v) : pp_fd s v i = pp_fd s v (i + 1) := by
  unfold pp_fd
  rw [show (s 7).toNat - i = ((s 7).toNat - (i + 1)) + 1 by omega, pp_ff, if_neg hp]
theorem fd_at {s : Nat → Int} {v : Int} {i : Nat} (h : i < (s 7).toNat) (hp : s (100 + i) = v) : pp_fd s v i = i := by
  unfold pp_fd
  rw [show (s 7).toNat - i = ((s 7).toNat - (i + 1)) + 1 by omega, pp_ff, if_pos hp]
theorem fd_end {s : Nat → Int} {v : Int} {i : Nat} (h : (s 7).toNat ≤ i) : pp_fd s v i = -1 := by
  unfold pp_fd
  rw [show (s 7).toNat - i = 0 by omega]
  rfl
/-- bit k -/
def pp_bt (h : Int32) (k : Nat) : Int := if h.toBitVec.getLsbD k = true then 1 else 0
theorem bt_sh : ∀ l : Nat, l < 32 → ((1 : Int32) <<< (nI l &&& 31)).toBitVec = BitVec.twoPow 32 l := by decide +kernel
theorem bt_x {x y : Int32} {k : Int} (e : y = (1 : Int32) <<< (x &&& 31)) (hx : x.toInt = k) (h0 : 0 ≤ k) (h1 : k < 32) : y.toBitVec = BitVec.twoPow 32 k.toNat := by
  have ex : x = nI k.toNat := Int32.toInt_inj.mp (by rw [nI_toInt (by omega)]; omega)
  rw [e, ex]
  exact bt_sh _ (by omega)
theorem bt_and {h x y z : Int32} {k : Int} (e : y = (1 : Int32) <<< (x &&& 31)) (hx : x.toInt = k) (h0 : 0 ≤ k) (h1 : k < 32) (ez : z = h &&& y) : z.toInt = 0 ↔ pp_bt h k.toNat = 0 := by
  have hy := bt_x e hx h0 h1
  have hz : z.toBitVec = h.toBitVec &&& BitVec.twoPow 32 k.toNat := by rw [ez, Int32.toBitVec_and, hy]
  unfold pp_bt
  rw [BitVec.and_twoPow] at hz
  by_cases q : h.toBitVec.getLsbD k.toNat = true
  · rw [if_pos q] at hz
    rw [if_pos q]
    refine ⟨fun g => ?_, fun g => by omega⟩
    have g2 : z = 0 := Int32.toInt_inj.mp (g.trans (by decide))
    rw [g2] at hz
    have g3 := congrArg (fun b => b.getLsbD k.toNat) hz
    simp at g3
    omega
  · rw [if_neg q] at hz
    rw [if_neg q]
    refine ⟨fun _ => rfl, fun _ => ?_⟩
    have g2 : z = 0 := Int32.toBitVec_inj.mp hz
    rw [g2]
    decide
theorem bt_or {h x y z : Int32} {k : Int} (e : y = (1 : Int32) <<< (x &&& 31)) (hx : x.toInt = k) (h0 : 0 ≤ k) (h1 : k < 32) (ez : z = h ||| y) (j : Nat) (hj : j < 32) : pp_bt z j = if j = k.toNat then 1 else pp_bt h j := by
  have hy := bt_x e hx h0 h1
  have hz : z.toBitVec = h.toBitVec ||| BitVec.twoPow 32 k.toNat := by rw [ez, Int32.toBitVec_or, hy]
  unfold pp_bt
  rw [hz, BitVec.getLsbD_or, BitVec.getLsbD_twoPow]
  by_cases q : j = k.toNat
  · subst q
    simp [hj]
  · rw [if_neg q]
    have q2 : (k.toNat == j) = false := by simp; omega
    simp [q2, Ne.symm q]
def rC (B : Nat → Int) (n t : Nat) (s : Nat → Int) (M : ti_M) : Prop :=
  (pt_cB M = B ∧ pt_cn M = n) ∧ (s 0 = (tI M 2 4).toInt ∧ s 1 = (tI M 2 6).toInt ∧ s 2 = (tI M 2 5).toInt ∧ s 3 = (tI M 2 3).toInt) ∧ (s 4 = (tI M 1 4).toInt ∧ s 5 = (tI M 1 5).toInt ∧ ∀ k : Nat, k < 15 → s (300 + k) = pp_bt (tI M 1 3) k) ∧ (s 7 = (tI M t 4).toInt ∧ s 8 = (tI M t 5).toInt ∧ s 9 = (tI M t 3).toInt) ∧ ∀ i : Nat, i < 8 → s (100 + i) = (tI M (ti_men t i) 0).toInt ∧ s (200 + i) = (tI M (ti_men t i) 9).toInt
theorem pp_men {t i : Nat} : 5 ≤ ti_men t i := by unfold ti_men; split <;> omega
theorem pp_men20 {t i : Nat} (h : i < 8) : ti_men t i ≤ 20 := by unfold ti_men; split <;> omega
theorem pp_menj {t i j : Nat} (h : i ≠ j) : ti_men t i ≠ ti_men t j := by unfold ti_men; split <;> omega
theorem rC_24 {B : Nat → Int} {n t : Nat} {s : Nat → Int} {M N : ti_M} {v : Int32} (ht : t = 3 ∨ t = 4) (e : N = uI M 2 4 v) (h : rC B n t s M) : rC B n t (pp_su s 0 v.toInt) N := by
  refine ⟨⟨(pt_cB_I e).trans h.1.1, by unfold pt_cn; rw [tI_nE e (nk (by decide))]; exact h.1.2⟩, ⟨by rw [su_s, tI_uE e], by rw [su_n (by decide), tI_nE e (nk (by decide))]; exact h.2.1.2.1, by rw [su_n (by decide), tI_nE e (nk (by decide))]; exact h.2.1.2.2.1, by rw [su_n (by decide), tI_nE e (nk (by decide))]; exact h.2.1.2.2.2⟩, ⟨by rw [su_n (by decide), tI_nE e (no (by decide))]; exact h.2.2.1.1, by rw [su_n (by decide), tI_nE e (nk (by decide))]; exact h.2.2.1.2.1, fun k hk => by rw [su_n (by omega), tI_nE e (nk (by decide))]; exact h.2.2.1.2.2 k hk⟩, ⟨by rw [su_n (by decide), tI_nE e (no (by omega))]; exact h.2.2.2.1.1, by rw [su_n (by decide), tI_nE e (nk (by decide))]; exact h.2.2.2.1.2.1, by rw [su_n (by decide), tI_nE e (nk (by decide))]; exact h.2.2.2.1.2.2⟩, fun i hi => ⟨by rw [su_n (by omega), tI_nE e (nk (by decide))]; exact (h.2.2.2.2 i hi).1, by rw [su_n (by omega), tI_nE e (nk (by decide))]; exact (h.2.2.2.2 i hi).2⟩⟩
theorem rC_14 {B : Nat → Int} {n t : Nat} {s : Nat → Int} {M N : ti_M} {v : Int32} (ht : t = 3 ∨ t = 4) (e : N = uI M 1 4 v) (h : rC B n t s M) : rC B n t (pp_su s 4 v.toInt) N := by
  refine ⟨⟨(pt_cB_I e).trans h.1.1, by unfold pt_cn; rw [tI_nE e (nk (by decide))]; exact h.1.2⟩, ⟨by rw [su_n (by decide), tI_nE e (no (by decide))]; exact h.2.1.1, by rw [su_n (by decide), tI_nE e (nk (by decide))]; exact h.2.1.2.1, by rw [su_n (by decide), tI_nE e (nk (by decide))]; exact h.2.1.2.2.1, by rw [su_n (by decide), tI_nE e (nk (by decide))]; exact h.2.1.2.2.2⟩, ⟨by rw [su_s, tI_uE e], by rw [su_n (by decide), tI_nE e (nk (by decide))]; exact h.2.2.1.2.1, fun k hk => by rw [su_n (by omega), tI_nE e (nk (by decide))]; exact h.2.2.1.2.2 k hk⟩, ⟨by rw [su_n (by decide), tI_nE e (no (by omega))]; exact h.2.2.2.1.1, by rw [su_n (by decide), tI_nE e (nk (by decide))]; exact h.2.2.2.1.2.1, by rw [su_n (by decide), tI_nE e (nk (by decide))]; exact h.2.2.2.1.2.2⟩, fun i hi => ⟨by rw [su_n (by omega), tI_nE e (nk (by decide))]; exact (h.2.2.2.2 i hi).1, by rw [su_n (by omega), tI_nE e (nk (by decide))]; exact (h.2.2.2.2 i hi).2⟩⟩
theorem rC_15 {B : Nat → Int} {n t : Nat} {s : Nat → Int} {M N : ti_M} {v : Int32} (ht : t = 3 ∨ t = 4) (e : N = uI M 1 5 v) (h : rC B n t s M) : rC B n t (pp_su s 5 v.toInt) N := by
  refine ⟨⟨(pt_cB_I e).trans h.1.1, by unfold pt_cn; rw [tI_nE e (nk (by decide))]; exact h.1.2⟩, ⟨by rw [su_n (by decide), tI_nE e (nk (by decide))]; exact h.2.1.1, by rw [su_n (by decide), tI_nE e (nk (by decide))]; exact h.2.1.2.1, by rw [su_n (by decide), tI_nE e (no (by decide))]; exact h.2.1.2.2.1, by rw [su_n (by decide), tI_nE e (nk (by decide))]; exact h.2.1.2.2.2⟩, ⟨by rw [su_n (by decide), tI_nE e (nk (by decide))]; exact h.2.2.1.1, by rw [su_s, tI_uE e], fun k hk => by rw [su_n (by omega), tI_nE e (nk (by decide))]; exact h.2.2.1.2.2 k hk⟩, ⟨by rw [su_n (by decide), tI_nE e (nk (by decide))]; exact h.2.2.2.1.1, by rw [su_n (by decide), tI_nE e (no (by omega))]; exact h.2.2.2.1.2.1, by rw [su_n (by decide), tI_nE e (nk (by decide))]; exact h.2.2.2.1.2.2⟩, fun i hi => ⟨by rw [su_n (by omega), tI_nE e (nk (by decide))]; exact (h.2.2.2.2 i hi).1, by rw [su_n (by omega), tI_nE e (nk (by decide))]; exact (h.2.2.2.2 i hi).2⟩⟩
theorem rC_t4 {B : Nat → Int} {n t : Nat} {s : Nat → Int} {M N : ti_M} {v : Int32} (ht : t = 3 ∨ t = 4) (e : N = uI M t 4 v) (h : rC B n t s M) : rC B n t (pp_su s 7 v.toInt) N := by
  refine ⟨⟨(pt_cB_I e).trans h.1.1, by unfold pt_cn; rw [tI_nE e (nk (by decide))]; exact h.1.2⟩, ⟨by rw [su_n (by decide), tI_nE e (no (by omega))]; exact h.2.1.1, by rw [su_n (by decide), tI_nE e (nk (by decide))]; exact h.2.1.2.1, by rw [su_n (by decide), tI_nE e (nk (by decide))]; exact h.2.1.2.2.1, by rw [su_n (by decide), tI_nE e (nk (by decide))]; exact h.2.1.2.2.2⟩, ⟨by rw [su_n (by decide), tI_nE e (no (by omega))]; exact h.2.2.1.1, by rw [su_n (by decide), tI_nE e (nk (by decide))]; exact h.2.2.1.2.1, fun k hk => by rw [su_n (by omega), tI_nE e (nk (by decide))]; exact h.2.2.1.2.2 k hk⟩, ⟨by rw [su_s, tI_uE e], by rw [su_n (by decide), tI_nE e (nk (by decide))]; exact h.2.2.2.1.2.1, by rw [su_n (by decide), tI_nE e (nk (by decide))]; exact h.2.2.2.1.2.2⟩, fun i hi => ⟨by rw [su_n (by omega), tI_nE e (nk (by decide))]; exact (h.2.2.2.2 i hi).1, by rw [su_n (by omega), tI_nE e (nk (by decide))]; exact (h.2.2.2.2 i hi).2⟩⟩
theorem rC_t5 {B : Nat → Int} {n t : Nat} {s : Nat → Int} {M N : ti_M} {v : Int32} (ht : t = 3 ∨ t = 4) (e : N = uI M t 5 v) (h : rC B n t s M) : rC B n t (pp_su s 8 v.toInt) N := by
  refine ⟨⟨(pt_cB_I e).trans h.1.1, by unfold pt_cn; rw [tI_nE e (nk (by decide))]; exact h.1.2⟩, ⟨by rw [su_n (by decide), tI_nE e (nk (by decide))]; exact h.2.1.1, by rw [su_n (by decide), tI_nE e (nk (by decide))]; exact h.2.1.2.1, by rw [su_n (by decide), tI_nE e (no (by omega))]; exact h.2.1.2.2.1, by rw [su_n (by decide), tI_nE e (nk (by decide))]; exact h.2.1.2.2.2⟩, ⟨by rw [su_n (by decide), tI_nE e (nk (by decide))]; exact h.2.2.1.1, by rw [su_n (by decide), tI_nE e (no (by omega))]; exact h.2.2.1.2.1, fun k hk => by rw [su_n (by omega), tI_nE e (nk (by decide))]; exact h.2.2.1.2.2 k hk⟩, ⟨by rw [su_n (by decide), tI_nE e (nk (by decide))]; exact h.2.2.2.1.1, by rw [su_s, tI_uE e], by rw [su_n (by decide), tI_nE e (nk (by decide))]; exact h.2.2.2.1.2.2⟩, fun i hi => ⟨by rw [su_n (by omega), tI_nE e (nk (by decide))]; exact (h.2.2.2.2 i hi).1, by rw [su_n (by omega), tI_nE e (nk (by decide))]; exact (h.2.2.2.2 i hi).2⟩⟩
theorem rC_t3 {B : Nat → Int} {n t : Nat} {s : Nat → Int} {M N : ti_M} {v : Int32} (ht : t = 3 ∨ t = 4) (e : N = uI M t 3 v) (h : rC B n t s M) : rC B n t (pp_su s 9 v.toInt) N := by
  refine ⟨⟨(pt_cB_I e).trans h.1.1, by unfold pt_cn; rw [tI_nE e (nk (by decide))]; exact h.1.2⟩, ⟨by rw [su_n (by decide), tI_nE e (nk (by decide))]; exact h.2.1.1, by rw [su_n (by decide), tI_nE e (nk (by decide))]; exact h.2.1.2.1, by rw [su_n (by decide), tI_nE e (nk (by decide))]; exact h.2.1.2.2.1, by rw [su_n (by decide), tI_nE e (no (by omega))]; exact h.2.1.2.2.2⟩, ⟨by rw [su_n (by decide), tI_nE e (nk (by decide))]; exact h.2.2.1.1, by rw [su_n (by decide), tI_nE e (nk (by decide))]; exact h.2.2.1.2.1, fun k hk => by rw [su_n (by omega), tI_nE e (no (by omega))]; exact h.2.2.1.2.2 k hk⟩, ⟨by rw [su_n (by decide), tI_nE e (nk (by decide))]; exact h.2.2.2.1.1, by rw [su_n (by decide), tI_nE e (nk (by decide))]; exact h.2.2.2.1.2.1, by rw [su_s, tI_uE e]⟩, fun i hi => ⟨by rw [su_n (by omega), tI_nE e (nk (by decide))]; exact (h.2.2.2.2 i hi).1, by rw [su_n (by omega), tI_nE e (nk (by decide))]; exact (h.2.2.2.2 i hi).2⟩⟩
theorem rC_m0 {B : Nat → Int} {n t j : Nat} {s : Nat → Int} {M N : ti_M} {v : Int32} (ht : t = 3 ∨ t = 4) (hj : j < 8) (e : N = uI M (ti_men t j) 0 v) (h : rC B n t s M) : rC B n t (pp_su s (100 + j) v.toInt) N := by
  refine ⟨⟨(pt_cB_I e).trans h.1.1, by unfold pt_cn; rw [tI_nE e (nk (by decide))]; exact h.1.2⟩, ⟨by rw [su_n (by omega), tI_nE e (nk (by decide))]; exact h.2.1.1, by rw [su_n (by omega), tI_nE e (nk (by decide))]; exact h.2.1.2.1, by rw [su_n (by omega), tI_nE e (nk (by decide))]; exact h.2.1.2.2.1, by rw [su_n (by omega), tI_nE e (nk (by decide))]; exact h.2.1.2.2.2⟩, ⟨by rw [su_n (by omega), tI_nE e (nk (by decide))]; exact h.2.2.1.1, by rw [su_n (by omega), tI_nE e (nk (by decide))]; exact h.2.2.1.2.1, fun k hk => by rw [su_n (by omega), tI_nE e (nk (by decide))]; exact h.2.2.1.2.2 k hk⟩, ⟨by rw [su_n (by omega), tI_nE e (nk (by decide))]; exact h.2.2.2.1.1, by rw [su_n (by omega), tI_nE e (nk (by decide))]; exact h.2.2.2.1.2.1, by rw [su_n (by omega), tI_nE e (nk (by decide))]; exact h.2.2.2.1.2.2⟩, fun i hi => ⟨by
      by_cases q : i = j
      · subst q; rw [su_s, tI_uE e]
      · rw [su_n (by omega), tI_nE e (no (pp_menj q))]; exact (h.2.2.2.2 i hi).1, by rw [su_n (by omega), tI_nE e (nk (by decide))]; exact (h.2.2.2.2 i hi).2⟩⟩
theorem rC_m9 {B : Nat → Int} {n t j : Nat} {s : Nat → Int} {M N : ti_M} {v : Int32} (ht : t = 3 ∨ t = 4) (hj : j < 8) (e : N = uI M (ti_men t j) 9 v) (h : rC B n t s M) : rC B n t (pp_su s (200 + j) v.toInt) N := by
  refine ⟨⟨(pt_cB_I e).trans h.1.1, by unfold pt_cn; rw [tI_nE e (nk (by decide))]; exact h.1.2⟩, ⟨by rw [su_n (by omega), tI_nE e (nk (by decide))]; exact h.2.1.1, by rw [su_n (by omega), tI_nE e (nk (by decide))]; exact h.2.1.2.1, by rw [su_n (by omega), tI_nE e (nk (by decide))]; exact h.2.1.2.2.1, by rw [su_n (by omega), tI_nE e (nk (by decide))]; exact h.2.1.2.2.2⟩, ⟨by rw [su_n (by omega), tI_nE e (nk (by decide))]; exact h.2.2.1.1, by rw [su_n (by omega), tI_nE e (nk (by decide))]; exact h.2.2.1.2.1, fun k hk => by rw [su_n (by omega), tI_nE e (nk (by decide))]; exact h.2.2.1.2.2 k hk⟩, ⟨by rw [su_n (by omega), tI_nE e (nk (by decide))]; exact h.2.2.2.1.1, by rw [su_n (by omega), tI_nE e (nk (by decide))]; exact h.2.2.2.1.2.1, by rw [su_n (by omega), tI_nE e (nk (by decide))]; exact h.2.2.2.1.2.2⟩, fun i hi => ⟨by rw [su_n (by omega), tI_nE e (nk (by decide))]; exact (h.2.2.2.2 i hi).1, by
      by_cases q : i = j
      · subst q; rw [su_s, tI_uE e]
      · rw [su_n (by omega), tI_nE e (no (pp_menj q))]; exact (h.2.2.2.2 i hi).2⟩⟩
theorem rC_m1x {B : Nat → Int} {n t j : Nat} {s : Nat → Int} {M N : ti_M} {v : Int32} (ht : t = 3 ∨ t = 4) (e : N = uI M (ti_men t j) 1 v) (h : rC B n t s M) : rC B n t s N := by
  refine ⟨⟨(pt_cB_I e).trans h.1.1, by unfold pt_cn; rw [tI_nE e (nk (by decide))]; exact h.1.2⟩, ⟨by rw [tI_nE e (nk (by decide))]; exact h.2.1.1, by rw [tI_nE e (nk (by decide))]; exact h.2.1.2.1, by rw [tI_nE e (nk (by decide))]; exact h.2.1.2.2.1, by rw [tI_nE e (nk (by decide))]; exact h.2.1.2.2.2⟩, ⟨by rw [tI_nE e (nk (by decide))]; exact h.2.2.1.1, by rw [tI_nE e (nk (by decide))]; exact h.2.2.1.2.1, fun k hk => by rw [tI_nE e (nk (by decide))]; exact h.2.2.1.2.2 k hk⟩, ⟨by rw [tI_nE e (nk (by decide))]; exact h.2.2.2.1.1, by rw [tI_nE e (nk (by decide))]; exact h.2.2.2.1.2.1, by rw [tI_nE e (nk (by decide))]; exact h.2.2.2.1.2.2⟩, fun i hi => ⟨by rw [tI_nE e (nk (by decide))]; exact (h.2.2.2.2 i hi).1, by rw [tI_nE e (nk (by decide))]; exact (h.2.2.2.2 i hi).2⟩⟩
theorem rC_m2x {B : Nat → Int} {n t j : Nat} {s : Nat → Int} {M N : ti_M} {v : Int32} (ht : t = 3 ∨ t = 4) (e : N = uI M (ti_men t j) 2 v) (h : rC B n t s M) : rC B n t s N := by
  refine ⟨⟨(pt_cB_I e).trans h.1.1, by unfold pt_cn; rw [tI_nE e (no (by have := pp_men (t := t) (i := j); omega))]; exact h.1.2⟩, ⟨by rw [tI_nE e (nk (by decide))]; exact h.2.1.1, by rw [tI_nE e (nk (by decide))]; exact h.2.1.2.1, by rw [tI_nE e (nk (by decide))]; exact h.2.1.2.2.1, by rw [tI_nE e (nk (by decide))]; exact h.2.1.2.2.2⟩, ⟨by rw [tI_nE e (nk (by decide))]; exact h.2.2.1.1, by rw [tI_nE e (nk (by decide))]; exact h.2.2.1.2.1, fun k hk => by rw [tI_nE e (nk (by decide))]; exact h.2.2.1.2.2 k hk⟩, ⟨by rw [tI_nE e (nk (by decide))]; exact h.2.2.2.1.1, by rw [tI_nE e (nk (by decide))]; exact h.2.2.2.1.2.1, by rw [tI_nE e (nk (by decide))]; exact h.2.2.2.1.2.2⟩, fun i hi => ⟨by rw [tI_nE e (nk (by decide))]; exact (h.2.2.2.2 i hi).1, by rw [tI_nE e (nk (by decide))]; exact (h.2.2.2.2 i hi).2⟩⟩
theorem rC_m3x {B : Nat → Int} {n t j : Nat} {s : Nat → Int} {M N : ti_M} {v : Int32} (ht : t = 3 ∨ t = 4) (e : N = uI M (ti_men t j) 3 v) (h : rC B n t s M) : rC B n t s N := by
  refine ⟨⟨(pt_cB_I e).trans h.1.1, by unfold pt_cn; rw [tI_nE e (nk (by decide))]; exact h.1.2⟩, ⟨by rw [tI_nE e (nk (by decide))]; exact h.2.1.1, by rw [tI_nE e (nk (by decide))]; exact h.2.1.2.1, by rw [tI_nE e (nk (by decide))]; exact h.2.1.2.2.1, by rw [tI_nE e (no (by have := pp_men (t := t) (i := j); omega))]; exact h.2.1.2.2.2⟩, ⟨by rw [tI_nE e (nk (by decide))]; exact h.2.2.1.1, by rw [tI_nE e (nk (by decide))]; exact h.2.2.1.2.1, fun k hk => by rw [tI_nE e (no (by have := pp_men (t := t) (i := j); omega))]; exact h.2.2.1.2.2 k hk⟩, ⟨by rw [tI_nE e (nk (by decide))]; exact h.2.2.2.1.1, by rw [tI_nE e (nk (by decide))]; exact h.2.2.2.1.2.1, by rw [tI_nE e (no (by have := pp_men (t := t) (i := j); omega))]; exact h.2.2.2.1.2.2⟩, fun i hi => ⟨by rw [tI_nE e (nk (by decide))]; exact (h.2.2.2.2 i hi).1, by rw [tI_nE e (nk (by decide))]; exact (h.2.2.2.2 i hi).2⟩⟩
theorem rC_m4x {B : Nat → Int} {n t j : Nat} {s : Nat → Int} {M N : ti_M} {v : Int32} (ht : t = 3 ∨ t = 4) (e : N = uI M (ti_men t j) 4 v) (h : rC B n t s M) : rC B n t s N := by
  refine ⟨⟨(pt_cB_I e).trans h.1.1, by unfold pt_cn; rw [tI_nE e (nk (by decide))]; exact h.1.2⟩, ⟨by rw [tI_nE e (no (by have := pp_men (t := t) (i := j); omega))]; exact h.2.1.1, by rw [tI_nE e (nk (by decide))]; exact h.2.1.2.1, by rw [tI_nE e (nk (by decide))]; exact h.2.1.2.2.1, by rw [tI_nE e (nk (by decide))]; exact h.2.1.2.2.2⟩, ⟨by rw [tI_nE e (no (by have := pp_men (t := t) (i := j); omega))]; exact h.2.2.1.1, by rw [tI_nE e (nk (by decide))]; exact h.2.2.1.2.1, fun k hk => by rw [tI_nE e (nk (by decide))]; exact h.2.2.1.2.2 k hk⟩, ⟨by rw [tI_nE e (no (by have := pp_men (t := t) (i := j); omega))]; exact h.2.2.2.1.1, by rw [tI_nE e (nk (by decide))]; exact h.2.2.2.1.2.1, by rw [tI_nE e (nk (by decide))]; exact h.2.2.2.1.2.2⟩, fun i hi => ⟨by rw [tI_nE e (nk (by decide))]; exact (h.2.2.2.2 i hi).1, by rw [tI_nE e (nk (by decide))]; exact (h.2.2.2.2 i hi).2⟩⟩
theorem rC_m5x {B : Nat → Int} {n t j : Nat} {s : Nat → Int} {M N : ti_M} {v : Int32} (ht : t = 3 ∨ t = 4) (e : N = uI M (ti_men t j) 5 v) (h : rC B n t s M) : rC B n t s N := by
  refine ⟨⟨(pt_cB_I e).trans h.1.1, by unfold pt_cn; rw [tI_nE e (nk (by decide))]; exact h.1.2⟩, ⟨by rw [tI_nE e (nk (by decide))]; exact h.2.1.1, by rw [tI_nE e (nk (by decide))]; exact h.2.1.2.1, by rw [tI_nE e (no (by have := pp_men (t := t) (i := j); omega))]; exact h.2.1.2.2.1, by rw [tI_nE e (nk (by decide))]; exact h.2.1.2.2.2⟩, ⟨by rw [tI_nE e (nk (by decide))]; exact h.2.2.1.1, by rw [tI_nE e (no (by have := pp_men (t := t) (i := j); omega))]; exact h.2.2.1.2.1, fun k hk => by rw [tI_nE e (nk (by decide))]; exact h.2.2.1.2.2 k hk⟩, ⟨by rw [tI_nE e (nk (by decide))]; exact h.2.2.2.1.1, by rw [tI_nE e (no (by have := pp_men (t := t) (i := j); omega))]; exact h.2.2.2.1.2.1, by rw [tI_nE e (nk (by decide))]; exact h.2.2.2.1.2.2⟩, fun i hi => ⟨by rw [tI_nE e (nk (by decide))]; exact (h.2.2.2.2 i hi).1, by rw [tI_nE e (nk (by decide))]; exact (h.2.2.2.2 i hi).2⟩⟩
theorem rC_m6x {B : Nat → Int} {n t j : Nat} {s : Nat → Int} {M N : ti_M} {v : Int32} (ht : t = 3 ∨ t = 4) (e : N = uI M (ti_men t j) 6 v) (h : rC B n t s M) : rC B n t s N := by
  refine ⟨⟨(pt_cB_I e).trans h.1.1, by unfold pt_cn; rw [tI_nE e (nk (by decide))]; exact h.1.2⟩, ⟨by rw [tI_nE e (nk (by decide))]; exact h.2.1.1, by rw [tI_nE e (no (by have := pp_men (t := t) (i := j); omega))]; exact h.2.1.2.1, by rw [tI_nE e (nk (by decide))]; exact h.2.1.2.2.1, by rw [tI_nE e (nk (by decide))]; exact h.2.1.2.2.2⟩, ⟨by rw [tI_nE e (nk (by decide))]; exact h.2.2.1.1, by rw [tI_nE e (nk (by decide))]; exact h.2.2.1.2.1, fun k hk => by rw [tI_nE e (nk (by decide))]; exact h.2.2.1.2.2 k hk⟩, ⟨by rw [tI_nE e (nk (by decide))]; exact h.2.2.2.1.1, by rw [tI_nE e (nk (by decide))]; exact h.2.2.2.1.2.1, by rw [tI_nE e (nk (by decide))]; exact h.2.2.2.1.2.2⟩, fun i hi => ⟨by rw [tI_nE e (nk (by decide))]; exact (h.2.2.2.2 i hi).1, by rw [tI_nE e (nk (by decide))]; exact (h.2.2.2.2 i hi).2⟩⟩
theorem rC_m7x {B : Nat → Int} {n t j : Nat} {s : Nat → Int} {M N : ti_M} {v : Int32} (ht : t = 3 ∨ t = 4) (e : N = uI M (ti_men t j) 7 v) (h : rC B n t s M) : rC B n t s N := by
  refine ⟨⟨(pt_cB_I e).trans h.1.1, by unfold pt_cn; rw [tI_nE e (nk (by decide))]; exact h.1.2⟩, ⟨by rw [tI_nE e (nk (by decide))]; exact h.2.1.1, by rw [tI_nE e (nk (by decide))]; exact h.2.1.2.1, by rw [tI_nE e (nk (by decide))]; exact h.2.1.2.2.1, by rw [tI_nE e (nk (by decide))]; exact h.2.1.2.2.2⟩, ⟨by rw [tI_nE e (nk (by decide))]; exact h.2.2.1.1, by rw [tI_nE e (nk (by decide))]; exact h.2.2.1.2.1, fun k hk => by rw [tI_nE e (nk (by decide))]; exact h.2.2.1.2.2 k hk⟩, ⟨by rw [tI_nE e (nk (by decide))]; exact h.2.2.2.1.1, by rw [tI_nE e (nk (by decide))]; exact h.2.2.2.1.2.1, by rw [tI_nE e (nk (by decide))]; exact h.2.2.2.1.2.2⟩, fun i hi => ⟨by rw [tI_nE e (nk (by decide))]; exact (h.2.2.2.2 i hi).1, by rw [tI_nE e (nk (by decide))]; exact (h.2.2.2.2 i hi).2⟩⟩
theorem rC_m8x {B : Nat → Int} {n t j : Nat} {s : Nat → Int} {M N : ti_M} {v : Int32} (ht : t = 3 ∨ t = 4) (e : N = uI M (ti_men t j) 8 v) (h : rC B n t s M) : rC B n t s N := by
  refine ⟨⟨(pt_cB_I e).trans h.1.1, by unfold pt_cn; rw [tI_nE e (nk (by decide))]; exact h.1.2⟩, ⟨by rw [tI_nE e (nk (by decide))]; exact h.2.1.1, by rw [tI_nE e (nk (by decide))]; exact h.2.1.2.1, by rw [tI_nE e (nk (by decide))]; exact h.2.1.2.2.1, by rw [tI_nE e (nk (by decide))]; exact h.2.1.2.2.2⟩, ⟨by rw [tI_nE e (nk (by decide))]; exact h.2.2.1.1, by rw [tI_nE e (nk (by decide))]; exact h.2.2.1.2.1, fun k hk => by rw [tI_nE e (nk (by decide))]; exact h.2.2.1.2.2 k hk⟩, ⟨by rw [tI_nE e (nk (by decide))]; exact h.2.2.2.1.1, by rw [tI_nE e (nk (by decide))]; exact h.2.2.2.1.2.1, by rw [tI_nE e (nk (by decide))]; exact h.2.2.2.1.2.2⟩, fun i hi => ⟨by rw [tI_nE e (nk (by decide))]; exact (h.2.2.2.2 i hi).1, by rw [tI_nE e (nk (by decide))]; exact (h.2.2.2.2 i hi).2⟩⟩
theorem rC_t6x {B : Nat → Int} {n t : Nat} {s : Nat → Int} {M N : ti_M} {v : Int32} (ht : t = 3 ∨ t = 4) (e : N = uI M t 6 v) (h : rC B n t s M) : rC B n t s N := by
  refine ⟨⟨(pt_cB_I e).trans h.1.1, by unfold pt_cn; rw [tI_nE e (nk (by decide))]; exact h.1.2⟩, ⟨by rw [tI_nE e (nk (by decide))]; exact h.2.1.1, by rw [tI_nE e (no (by omega))]; exact h.2.1.2.1, by rw [tI_nE e (nk (by decide))]; exact h.2.1.2.2.1, by rw [tI_nE e (nk (by decide))]; exact h.2.1.2.2.2⟩, ⟨by rw [tI_nE e (nk (by decide))]; exact h.2.2.1.1, by rw [tI_nE e (nk (by decide))]; exact h.2.2.1.2.1, fun k hk => by rw [tI_nE e (nk (by decide))]; exact h.2.2.1.2.2 k hk⟩, ⟨by rw [tI_nE e (nk (by decide))]; exact h.2.2.2.1.1, by rw [tI_nE e (nk (by decide))]; exact h.2.2.2.1.2.1, by rw [tI_nE e (nk (by decide))]; exact h.2.2.2.1.2.2⟩, fun i hi => ⟨by rw [tI_nE e (nk (by decide))]; exact (h.2.2.2.2 i hi).1, by rw [tI_nE e (nk (by decide))]; exact (h.2.2.2.2 i hi).2⟩⟩
theorem rC_t7x {B : Nat → Int} {n t : Nat} {s : Nat → Int} {M N : ti_M} {v : Int32} (ht : t = 3 ∨ t = 4) (e : N = uI M t 7 v) (h : rC B n t s M) : rC B n t s N := by
  refine ⟨⟨(pt_cB_I e).trans h.1.1, by unfold pt_cn; rw [tI_nE e (nk (by decide))]; exact h.1.2⟩, ⟨by rw [tI_nE e (nk (by decide))]; exact h.2.1.1, by rw [tI_nE e (nk (by decide))]; exact h.2.1.2.1, by rw [tI_nE e (nk (by decide))]; exact h.2.1.2.2.1, by rw [tI_nE e (nk (by decide))]; exact h.2.1.2.2.2⟩, ⟨by rw [tI_nE e (nk (by decide))]; exact h.2.2.1.1, by rw [tI_nE e (nk (by decide))]; exact h.2.2.1.2.1, fun k hk => by rw [tI_nE e (nk (by decide))]; exact h.2.2.1.2.2 k hk⟩, ⟨by rw [tI_nE e (nk (by decide))]; exact h.2.2.2.1.1, by rw [tI_nE e (nk (by decide))]; exact h.2.2.2.1.2.1, by rw [tI_nE e (nk (by decide))]; exact h.2.2.2.1.2.2⟩, fun i hi => ⟨by rw [tI_nE e (nk (by decide))]; exact (h.2.2.2.2 i hi).1, by rw [tI_nE e (nk (by decide))]; exact (h.2.2.2.2 i hi).2⟩⟩
theorem rC_t8x {B : Nat → Int} {n t : Nat} {s : Nat → Int} {M N : ti_M} {v : Int32} (ht : t = 3 ∨ t = 4) (e : N = uI M t 8 v) (h : rC B n t s M) : rC B n t s N := by
  refine ⟨⟨(pt_cB_I e).trans h.1.1, by unfold pt_cn; rw [tI_nE e (nk (by decide))]; exact h.1.2⟩, ⟨by rw [tI_nE e (nk (by decide))]; exact h.2.1.1, by rw [tI_nE e (nk (by decide))]; exact h.2.1.2.1, by rw [tI_nE e (nk (by decide))]; exact h.2.1.2.2.1, by rw [tI_nE e (nk (by decide))]; exact h.2.1.2.2.2⟩, ⟨by rw [tI_nE e (nk (by decide))]; exact h.2.2.1.1, by rw [tI_nE e (nk (by decide))]; exact h.2.2.1.2.1, fun k hk => by rw [tI_nE e (nk (by decide))]; exact h.2.2.1.2.2 k hk⟩, ⟨by rw [tI_nE e (nk (by decide))]; exact h.2.2.2.1.1, by rw [tI_nE e (nk (by decide))]; exact h.2.2.2.1.2.1, by rw [tI_nE e (nk (by decide))]; exact h.2.2.2.1.2.2⟩, fun i hi => ⟨by rw [tI_nE e (nk (by decide))]; exact (h.2.2.2.2 i hi).1, by rw [tI_nE e (nk (by decide))]; exact (h.2.2.2.2 i hi).2⟩⟩
theorem rC_t9x {B : Nat → Int} {n t : Nat} {s : Nat → Int} {M N : ti_M} {v : Int32} (ht : t = 3 ∨ t = 4) (e : N = uI M t 9 v) (h : rC B n t s M) : rC B n t s N := by
  refine ⟨⟨(pt_cB_I e).trans h.1.1, by unfold pt_cn; rw [tI_nE e (nk (by decide))]; exact h.1.2⟩, ⟨by rw [tI_nE e (nk (by decide))]; exact h.2.1.1, by rw [tI_nE e (nk (by decide))]; exact h.2.1.2.1, by rw [tI_nE e (nk (by decide))]; exact h.2.1.2.2.1, by rw [tI_nE e (nk (by decide))]; exact h.2.1.2.2.2⟩, ⟨by rw [tI_nE e (nk (by decide))]; exact h.2.2.1.1, by rw [tI_nE e (nk (by decide))]; exact h.2.2.1.2.1, fun k hk => by rw [tI_nE e (nk (by decide))]; exact h.2.2.1.2.2 k hk⟩, ⟨by rw [tI_nE e (nk (by decide))]; exact h.2.2.2.1.1, by rw [tI_nE e (nk (by decide))]; exact h.2.2.2.1.2.1, by rw [tI_nE e (nk (by decide))]; exact h.2.2.2.1.2.2⟩, fun i hi => ⟨by rw [tI_nE e (nk (by decide))]; exact (h.2.2.2.2 i hi).1, by rw [tI_nE e (no (by have := pp_men (t := t) (i := i); omega))]; exact (h.2.2.2.2 i hi).2⟩⟩
theorem rC_t10x {B : Nat → Int} {n t : Nat} {s : Nat → Int} {M N : ti_M} {v : Int32} (ht : t = 3 ∨ t = 4) (e : N = uI M t 10 v) (h : rC B n t s M) : rC B n t s N := by
  refine ⟨⟨(pt_cB_I e).trans h.1.1, by unfold pt_cn; rw [tI_nE e (nk (by decide))]; exact h.1.2⟩, ⟨by rw [tI_nE e (nk (by decide))]; exact h.2.1.1, by rw [tI_nE e (nk (by decide))]; exact h.2.1.2.1, by rw [tI_nE e (nk (by decide))]; exact h.2.1.2.2.1, by rw [tI_nE e (nk (by decide))]; exact h.2.1.2.2.2⟩, ⟨by rw [tI_nE e (nk (by decide))]; exact h.2.2.1.1, by rw [tI_nE e (nk (by decide))]; exact h.2.2.1.2.1, fun k hk => by rw [tI_nE e (nk (by decide))]; exact h.2.2.1.2.2 k hk⟩, ⟨by rw [tI_nE e (nk (by decide))]; exact h.2.2.2.1.1, by rw [tI_nE e (nk (by decide))]; exact h.2.2.2.1.2.1, by rw [tI_nE e (nk (by decide))]; exact h.2.2.2.1.2.2⟩, fun i hi => ⟨by rw [tI_nE e (nk (by decide))]; exact (h.2.2.2.2 i hi).1, by rw [tI_nE e (nk (by decide))]; exact (h.2.2.2.2 i hi).2⟩⟩
theorem rC_t11x {B : Nat → Int} {n t : Nat} {s : Nat → Int} {M N : ti_M} {v : Int32} (ht : t = 3 ∨ t = 4) (e : N = uI M t 11 v) (h : rC B n t s M) : rC B n t s N := by
  refine ⟨⟨(pt_cB_I e).trans h.1.1, by unfold pt_cn; rw [tI_nE e (nk (by decide))]; exact h.1.2⟩, ⟨by rw [tI_nE e (nk (by decide))]; exact h.2.1.1, by rw [tI_nE e (nk (by decide))]; exact h.2.1.2.1, by rw [tI_nE e (nk (by decide))]; exact h.2.1.2.2.1, by rw [tI_nE e (nk (by decide))]; exact h.2.1.2.2.2⟩, ⟨by rw [tI_nE e (nk (by decide))]; exact h.2.2.1.1, by rw [tI_nE e (nk (by decide))]; exact h.2.2.1.2.1, fun k hk => by rw [tI_nE e (nk (by decide))]; exact h.2.2.1.2.2 k hk⟩, ⟨by rw [tI_nE e (nk (by decide))]; exact h.2.2.2.1.1, by rw [tI_nE e (nk (by decide))]; exact h.2.2.2.1.2.1, by rw [tI_nE e (nk (by decide))]; exact h.2.2.2.1.2.2⟩, fun i hi => ⟨by rw [tI_nE e (nk (by decide))]; exact (h.2.2.2.2 i hi).1, by rw [tI_nE e (nk (by decide))]; exact (h.2.2.2.2 i hi).2⟩⟩
theorem rC_X {B : Nat → Int} {n t o k : Nat} {s : Nat → Int} {M N : ti_M} {v : Int32} (ht : t = 3 ∨ t = 4) (ho : 21 ≤ o) (e : N = uI M o k v) (h : rC B n t s M) : rC B n t s N := by
  refine ⟨⟨(pt_cB_I e).trans h.1.1, by unfold pt_cn; rw [tI_nE e (no (by omega))]; exact h.1.2⟩, ⟨by rw [tI_nE e (no (by omega))]; exact h.2.1.1, by rw [tI_nE e (no (by omega))]; exact h.2.1.2.1, by rw [tI_nE e (no (by omega))]; exact h.2.1.2.2.1, by rw [tI_nE e (no (by omega))]; exact h.2.1.2.2.2⟩, ⟨by rw [tI_nE e (no (by omega))]; exact h.2.2.1.1, by rw [tI_nE e (no (by omega))]; exact h.2.2.1.2.1, fun k hk => by rw [tI_nE e (no (by omega))]; exact h.2.2.1.2.2 k hk⟩, ⟨by rw [tI_nE e (no (by omega))]; exact h.2.2.2.1.1, by rw [tI_nE e (no (by omega))]; exact h.2.2.2.1.2.1, by rw [tI_nE e (no (by omega))]; exact h.2.2.2.1.2.2⟩, fun i hi => ⟨by rw [tI_nE e (no (by have := pp_men20 (t := t) hi; omega))]; exact (h.2.2.2.2 i hi).1, by rw [tI_nE e (no (by have := pp_men20 (t := t) hi; omega))]; exact (h.2.2.2.2 i hi).2⟩⟩
theorem rC_13 {B : Nat → Int} {n t : Nat} {s : Nat → Int} {M N : ti_M} {x y z : Int32} {k : Int} (ht : t = 3 ∨ t = 4) (e : N = uI M 1 3 z) (ey : y = (1 : Int32) <<< (x &&& 31)) (hx : x.toInt = k) (h0 : 0 ≤ k) (h1 : k < 32) (ez : z = tI M 1 3 ||| y) (h : rC B n t s M) : rC B n t (pp_su s (300 + k.toNat) 1) N := by
  refine ⟨⟨(pt_cB_I e).trans h.1.1, by unfold pt_cn; rw [tI_nE e (nk (by decide))]; exact h.1.2⟩, ⟨by rw [su_n (by omega), tI_nE e (nk (by decide))]; exact h.2.1.1, by rw [su_n (by omega), tI_nE e (nk (by decide))]; exact h.2.1.2.1, by rw [su_n (by omega), tI_nE e (nk (by decide))]; exact h.2.1.2.2.1, by rw [su_n (by omega), tI_nE e (no (by decide))]; exact h.2.1.2.2.2⟩, ⟨by rw [su_n (by omega), tI_nE e (nk (by decide))]; exact h.2.2.1.1, by rw [su_n (by omega), tI_nE e (nk (by decide))]; exact h.2.2.1.2.1, fun j hj => ?_⟩, ⟨by rw [su_n (by omega), tI_nE e (nk (by decide))]; exact h.2.2.2.1.1, by rw [su_n (by omega), tI_nE e (nk (by decide))]; exact h.2.2.2.1.2.1, by rw [su_n (by omega), tI_nE e (no (by omega))]; exact h.2.2.2.1.2.2⟩, fun i hi => ⟨by rw [su_n (by omega), tI_nE e (nk (by decide))]; exact (h.2.2.2.2 i hi).1, by rw [su_n (by omega), tI_nE e (nk (by decide))]; exact (h.2.2.2.2 i hi).2⟩⟩
  rw [tI_uE e, bt_or ey hx h0 h1 ez j (by omega)]
  by_cases q : j = k.toNat
  · subst q; rw [su_s, if_pos rfl]
  · rw [su_n (by omega), if_neg q]; exact h.2.2.1.2.2 j hj
theorem rC_Y {B : Nat → Int} {n t o k : Nat} {s : Nat → Int} {M N : ti_M} {f : Nat → Int32} (e : N = uY M o k f) (ho : ¬ (0 = k ∧ 2 = o)) (h : rC B n t s M) : rC B n t s N := by
  subst e
  refine ⟨⟨?_, h.1.2⟩, h.2⟩
  rw [← h.1.1]
  unfold pt_cB
  rw [tY_n _ _ _ _ ho]
theorem rC_T {B : Nat → Int} {n t o k : Nat} {s : Nat → Int} {M N : ti_M} {f : Option Nat} (e : N = uT M o k f) (h : rC B n t s M) : rC B n t s N := by
  subst e
  exact h
/-- behind an advance -/
theorem rC_av {B : Nat → Int} {n t : Nat} {s : Nat → Int} {M N : ti_M} (ht : t = 3 ∨ t = 4) (h : rC B n t s M) (htp : tp N M) (ho : o2 N M) (k0 : (tI N 2 4).toInt = pt_K (pt_cB M) (pt_cn M) (tI M 2 3).toInt.toNat) (k1 : (tI N 2 6).toInt = pt_V (pt_cB M) (pt_cn M) (tI M 2 3).toInt.toNat) (k2 : (tI N 2 5).toInt = ((pt_P (pt_cB M) (pt_cn M) (tI M 2 3).toInt.toNat : Nat) : Int)) (k3 : (tI N 2 3).toInt = pt_A (pt_cB M) (pt_cn M) (tI M 2 3).toInt.toNat) : rC B n t (pp_av B n s) N := by
  obtain ⟨⟨a1, a2⟩, ⟨b0, b1, b2, b3⟩, ⟨c1, c2, c3⟩, ⟨d1, d2, d3⟩, m⟩ := h
  rw [a1, a2, ← b3] at k0 k1 k2 k3
  refine ⟨⟨(tp_B htp).trans a1, (tp_n htp).trans a2⟩, ⟨k0.symm, k1.symm, k2.symm, k3.symm⟩, ⟨?_, ?_, fun k hk => ?_⟩, ⟨?_, ?_, ?_⟩, fun i hi => ⟨?_, ?_⟩⟩
  · rw [av_n (by omega), ho 1 _ (by decide)]; exact c1
  · rw [av_n (by omega), ho 1 _ (by decide)]; exact c2
  · rw [av_n (by omega), ho 1 _ (by decide)]; exact c3 k hk
  · rw [av_n (by omega), ho t 4 (by omega)]; exact d1
  · rw [av_n (by omega), ho t 5 (by omega)]; exact d2
  · rw [av_n (by omega), ho t 3 (by omega)]; exact d3
  · rw [av_n (by omega), ho _ 0 (by have := pp_men (t := t) (i := i); omega)]; exact (m i hi).1
  · rw [av_n (by omega), ho _ 9 (by have := pp_men (t := t) (i := i); omega)]; exact (m i hi).2
end

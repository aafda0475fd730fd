variable {Tc : gC} {Tm : gM}
variable {Tc : gC} {Tm : gM}
/-- what starts lays: the queue's own numbers; the first n men; the first n powers -/
def sd (q : Nat) (tx : Nat → Int) (M : ti_M) : Prop := (tY M 60 34 q).toInt = 0 ∧ (tY M 60 38 q).toInt = 0 ∧ (tY M 60 35 q).toInt = tx 6 ∧ (tY M 60 36 q).toInt = tx 11 ∧ tY M 60 37 q = 0
def sm (q n : Nat) (tx : Nat → Int) (M : ti_M) : Prop := ∀ m : Nat, m < n → (tY M 60 40 (8 * q + m)).toInt = 0 ∧ (tY M 60 44 (8 * q + m)).toInt = tx (100 + 16 * m + 7) ∧ (tY M 60 41 (8 * q + m)).toInt = tx (100 + 16 * m + 3) ∧ (tY M 60 42 (8 * q + m)).toInt = 0 ∧ (tY M 60 43 (8 * q + m)).toInt = tx (100 + 16 * m + 5) ∧ (tY M 60 47 (8 * q + m)).toInt = 0 ∧ (tY M 60 48 (8 * q + m)).toInt = -2
def sp (q n : Nat) (tx : Nat → Int) (M : ti_M) : Prop := ∀ k : Nat, k < n → k < 3 → (tY M 60 49 (3 * q + k)).toInt = tx (32 + k)
theorem sd_k {q : Nat} {tx : Nat → Int} {M N : ti_M} (h : sd q tx M) (a : tY N 60 34 = tY M 60 34) (b : tY N 60 35 = tY M 60 35) (c : tY N 60 36 = tY M 60 36) (d : tY N 60 37 = tY M 60 37) (e : tY N 60 38 = tY M 60 38) : sd q tx N := by
  unfold sd; rw [a, b, c, d, e]; exact h
theorem sm_0 {q : Nat} {tx : Nat → Int} {M : ti_M} : sm q 0 tx M := fun m h => absurd h (Nat.not_lt_zero m)
theorem sp_0 {q : Nat} {tx : Nat → Int} {M : ti_M} : sp q 0 tx M := fun m h => absurd h (Nat.not_lt_zero m)
theorem sm_s {q n i : Nat} {tx : Nat → Int} {M N : ti_M} {a40 a44 a41 a42 a43 a47 a48 : Int32} (h : sm q n tx M) (hi : i = 8 * q + n) (e40 : tY N 60 40 = upd (tY M 60 40) i a40) (e44 : tY N 60 44 = upd (tY M 60 44) i a44) (e41 : tY N 60 41 = upd (tY M 60 41) i a41) (e42 : tY N 60 42 = upd (tY M 60 42) i a42) (e43 : tY N 60 43 = upd (tY M 60 43) i a43) (e47 : tY N 60 47 = upd (tY M 60 47) i a47) (e48 : tY N 60 48 = upd (tY M 60 48) i a48) (v40 : a40.toInt = 0) (v44 : a44.toInt = tx (100 + 16 * n + 7)) (v41 : a41.toInt = tx (100 + 16 * n + 3)) (v42 : a42.toInt = 0) (v43 : a43.toInt = tx (100 + 16 * n + 5)) (v47 : a47.toInt = 0) (v48 : a48.toInt = -2) : sm q (n + 1) tx N := by
  subst hi
  intro m hm
  rw [e40, e44, e41, e42, e43, e47, e48]
  by_cases c : m = n
  · subst c
    rw [pk_us, pk_us, pk_us, pk_us, pk_us, pk_us, pk_us]
    exact ⟨v40, v44, v41, v42, v43, v47, v48⟩
  · rw [pk_un (by omega), pk_un (by omega), pk_un (by omega), pk_un (by omega), pk_un (by omega), pk_un (by omega), pk_un (by omega)]
    exact h m (by omega)
theorem sm_k {q n : Nat} {tx : Nat → Int} {M N : ti_M} (h : sm q n tx M) (e40 : tY N 60 40 = tY M 60 40) (e44 : tY N 60 44 = tY M 60 44) (e41 : tY N 60 41 = tY M 60 41) (e42 : tY N 60 42 = tY M 60 42) (e43 : tY N 60 43 = tY M 60 43) (e47 : tY N 60 47 = tY M 60 47) (e48 : tY N 60 48 = tY M 60 48) : sm q n tx N := by
  intro m hm; rw [e40, e44, e41, e42, e43, e47, e48]; exact h m hm
theorem sp_s {q n i : Nat} {tx : Nat → Int} {M N : ti_M} {a : Int32} (h : sp q n tx M) (hi : i = 3 * q + n) (e : tY N 60 49 = upd (tY M 60 49) i a) (v : a.toInt = tx (32 + n)) : sp q (n + 1) tx N := by
  subst hi
  intro m hm h3
  rw [e]
  by_cases c : m = n
  · subst c; rw [pk_us]; exact v
  · rw [pk_un (by omega)]; exact h m (by omega) h3
section
variable {tx J : Nat → Int} {m : Nat}
theorem s0_2 : bq_s0 tx J 2 = 0 := by unfold bq_s0 bq_fl bq_s1; rw [if_neg (by omega), if_neg (by omega), if_neg (by omega), if_neg (by omega), if_pos (by omega)]
theorem s0_3 : bq_s0 tx J 3 = 0 := by unfold bq_s0 bq_fl bq_s1; rw [if_neg (by omega), if_neg (by omega), if_neg (by omega), if_neg (by omega), if_pos (by omega)]
theorem s0_1 : bq_s0 tx J 1 = 0 := by unfold bq_s0 bq_fl bq_s1; rw [if_neg (by omega), if_neg (by omega), if_neg (by omega), if_neg (by omega), if_pos (by omega)]
theorem s0_4 : bq_s0 tx J 4 = tx 6 := by unfold bq_s0 bq_fl bq_s1; rw [if_neg (by omega), if_neg (by omega), if_neg (by omega), if_neg (by omega), if_neg (by omega), if_pos rfl]
theorem s0_5 : bq_s0 tx J 5 = tx 11 := by unfold bq_s0 bq_fl bq_s1; rw [if_neg (by omega), if_neg (by omega), if_neg (by omega), if_neg (by omega), if_neg (by omega), if_neg (by omega), if_pos rfl]
theorem s0_p (h : m < 3) : bq_s0 tx J (112 + m) = tx (32 + m) := by unfold bq_s0 bq_fl bq_s1; rw [if_neg (by omega), if_neg (by omega), if_neg (by omega), if_neg (by omega), if_neg (by omega), if_neg (by omega), if_neg (by omega), if_pos (by omega), show 112 + m - 112 = m by omega]
theorem s0_128 (h : m < 8) : bq_s0 tx J (128 + m) = 0 := by unfold bq_s0 bq_fl; rw [if_neg (by omega), if_neg (by omega), if_neg (by omega), if_pos (by omega)]
theorem s0_176 (h : m < 8) : bq_s0 tx J (176 + m) = 0 := by unfold bq_s0 bq_fl; rw [if_neg (by omega), if_neg (by omega), if_pos (by omega)]
theorem s0_240 (h : m < 8) : bq_s0 tx J (240 + m) = 0 := by unfold bq_s0 bq_fl; rw [if_neg (by omega), if_pos (by omega)]
theorem s0_256 (h : m < 8) : bq_s0 tx J (256 + m) = 0 := by unfold bq_s0 bq_fl; rw [if_pos (by omega)]
theorem s0_144 (h : m < (tx 4).toNat) (h4 : tx 4 ≤ 8) : bq_s0 tx J (144 + m) = tx (100 + 16 * m + 7) := by
  unfold bq_s0 bq_fl bq_s1; rw [if_neg (by omega), if_neg (by omega), if_neg (by omega), if_neg (by omega), if_neg (by omega), if_neg (by omega), if_neg (by omega), if_neg (by omega), if_pos (by omega), show 144 + m - 144 = m by omega]
theorem s0_160 (h : m < (tx 4).toNat) (h4 : tx 4 ≤ 8) : bq_s0 tx J (160 + m) = tx (100 + 16 * m + 3) := by
  unfold bq_s0 bq_fl bq_s1; rw [if_neg (by omega), if_neg (by omega), if_neg (by omega), if_neg (by omega), if_neg (by omega), if_neg (by omega), if_neg (by omega), if_neg (by omega), if_neg (by omega), if_pos (by omega), show 160 + m - 160 = m by omega]
theorem s0_192 (h : m < (tx 4).toNat) (h4 : tx 4 ≤ 8) : bq_s0 tx J (192 + m) = tx (100 + 16 * m + 5) := by
  unfold bq_s0 bq_fl bq_s1; rw [if_neg (by omega), if_neg (by omega), if_neg (by omega), if_neg (by omega), if_neg (by omega), if_neg (by omega), if_neg (by omega), if_neg (by omega), if_neg (by omega), if_neg (by omega), if_pos (by omega), show 192 + m - 192 = m by omega]
theorem s0_qR {q : Nat} {M : ti_M} (h4 : tx 4 ≤ 8) (a : sd q tx M) (b : sm q (tx 4).toNat tx M) (c : sp q 3 tx M) : qR (tx 4).toNat q (bq_s0 tx J) M ∧ qV (tx 4).toNat q (bq_s0 tx J) M := by
  refine ⟨⟨⟨s0_2.trans a.1.symm, s0_3.trans a.2.1.symm, s0_4.trans a.2.2.1.symm, s0_5.trans a.2.2.2.1.symm⟩, fun p _ h => ?_, fun k hk => (s0_p hk).trans (c k hk hk).symm, fun m hm => ?_, fun m hm => ?_, ?_⟩, fun m hm => ?_⟩
  · rw [s0_3] at h; exact absurd h (by omega)
  · have x := b m hm
    exact ⟨(s0_128 (by omega)).trans x.1.symm, (s0_144 hm h4).trans x.2.1.symm, (s0_160 hm h4).trans x.2.2.1.symm, (s0_176 (by omega)).trans x.2.2.2.1.symm, (s0_192 hm h4).trans x.2.2.2.2.1.symm, (s0_240 (by omega)).trans x.2.2.2.2.2.1.symm⟩
  · rw [s0_128 (by omega)]; exact ⟨fun h => absurd rfl h, fun h => absurd h (by decide)⟩
  · rw [if_pos s0_1]; intro m hm; rw [s0_256 hm, a.2.2.2.2, bt_0]
  · rw [s0_128 (by omega), if_neg (by decide)]; exact (b m hm).2.2.2.2.2.2
end
set_option maxHeartbeats 4000000 in
set_option maxRecDepth 100000 in
theorem z_X10_starts_0 (l : Launch) (D : va_G) (A : Nat → Nat → Nat) (cy : Nat → ClassId) (hJ : ti_inj ti_LM A) (M : ti_M) (hI : mI Tm M)  (tx J : Nat → Int) (htr : tR tx M) (ht4 : 0 ≤ tx 4 ∧ tx 4 ≤ 8) : ti_Kv l yX10_starts cX10_starts 4 0 ti_LM D A cy M [.ref (A 60 0), .int 0] (fun M2 => eR 0 M2 M ∧ qR (tx 4).toNat 0 (bq_s0 tx J) M2 ∧ qV (tx 4).toNat 0 (bq_s0 tx J) M2 ∧ mI Tm M2 ∧ rq 0 M2 M ∧ mC M2 0 ∧ mP M2 0) := by
  refine ti_eV yp_X10_starts hJ ti_LM_nd (Nat.le_of_ble_eq_true rfl) ?_
  intro p e s m args below meth c Q H0 C hQ hw ls hl
  have hx := C.1
  have hb := C.2.1
  have hl : lv_has ls 4 [(0, .ref (A 60 0)), (1, .int 0)] := hl
  refine lv_aload_n hx hb dX10_starts_0 rfl (lv_at hl 0 rfl) ?_
  refine ti_get (ci := 10) (k := 34) (N := 67) (T := TX10) (v := .ref (A 60 35)) C hw iw_10 rfl ob_60 (by decide) (by decide) fl_X10_69 rfl rfl dX10_starts_1 ?_
  refine lv_iload_n hx hb dX10_starts_4 rfl (lv_at hl 1 rfl) ?_
  refine lv_iconst (v := 0) hx hb dX10_starts_5 (by decide) ?_
  refine ti_iast (ci := 10) (k := 34) (n := 23) C hw ob_60 (by decide) (fun _ _ => rfl) (by unfold vp_in; decide) dX10_starts_6 (fun H locs hw => ?_)
  obtain ⟨M_1, hM_1⟩ : ∃ z : ti_M, z = uY M 60 34 (upd (tY M 60 34) (0 : Int32).toNatClampNeg 0) := ⟨_, rfl⟩
  have hw := hw.to hM_1.symm
  have iM_1 : mI Tm M_1 := mI_up (i := 0) hI hM_1 (fun _ => (ib_mk (lo := 0) (hi := 120) (by decide) (by decide)))
  refine lv_aload_n hx hb dX10_starts_7 rfl (lv_at hl 0 rfl) ?_
  refine ti_get (ci := 10) (k := 35) (N := 67) (T := TX10) (v := .ref (A 60 36)) C hw iw_10 rfl ob_60 (by decide) (by decide) fl_X10_72 rfl rfl dX10_starts_8 ?_
  refine lv_iload_n hx hb dX10_starts_11 rfl (lv_at hl 1 rfl) ?_
  refine lv_aload_n hx hb dX10_starts_12 rfl (lv_at hl 0 rfl) ?_
  refine ti_get (ci := 10) (k := 3) (N := 67) (T := TX10) (v := .ref (A 60 4)) C hw iw_10 rfl ob_60 (by decide) (by decide) fl_X10_13 rfl rfl dX10_starts_13 ?_
  refine lv_iconst (v := 1) hx hb dX10_starts_16 (by decide) ?_
  refine ti_iald (ci := 10) (k := 3) (n := 22) C hw ob_60 (by decide) (fun _ _ => rfl) (by unfold vp_in; decide) dX10_starts_17 ?_
  refine lv_topi (fun x_2 ex_2 => ?_)
  have yx_2 : tY M_1 60 3 1 = x_2 := ((congrArg _ (by decide)).symm.trans ex_2.symm)
  have zx_2 : (tY M_1 60 3 1).toInt = x_2.toInt := by rw [yx_2]
  have wx_2 : tY M 60 3 1 = x_2 := ((cg (tY_nE hM_1 (nk (by decide))) 1)).symm.trans yx_2
  have zwx_2 : (tY M 60 3 1).toInt = x_2.toInt := by rw [wx_2]
  have L_3 : tx 6 = x_2.toInt := (htr.1.2.1).trans ((congrArg Int32.toInt (cg ((tY_nE hM_1 (nk (by decide)))) 1)).symm.trans (congrArg Int32.toInt ((cg (tY_nE hM_1 (nk (by decide))) 1).trans wx_2)))
  refine ti_iast (ci := 10) (k := 35) (n := 23) C hw ob_60 (by decide) (fun _ _ => rfl) (by unfold vp_in; decide) dX10_starts_18 (fun H locs hw => ?_)
  obtain ⟨M_4, hM_4⟩ : ∃ z : ti_M, z = uY M_1 60 35 (upd (tY M_1 60 35) (0 : Int32).toNatClampNeg x_2) := ⟨_, rfl⟩
  have hw := hw.to hM_4.symm
  have iM_4 : mI Tm M_4 := mI_up (i := 0) iM_1 hM_4 trivial
  refine lv_aload_n hx hb dX10_starts_19 rfl (lv_at hl 0 rfl) ?_
  refine ti_get (ci := 10) (k := 36) (N := 67) (T := TX10) (v := .ref (A 60 37)) C hw iw_10 rfl ob_60 (by decide) (by decide) fl_X10_75 rfl rfl dX10_starts_20 ?_
  refine lv_iload_n hx hb dX10_starts_23 rfl (lv_at hl 1 rfl) ?_
  refine lv_aload_n hx hb dX10_starts_24 rfl (lv_at hl 0 rfl) ?_
  refine ti_get (ci := 10) (k := 3) (N := 67) (T := TX10) (v := .ref (A 60 4)) C hw iw_10 rfl ob_60 (by decide) (by decide) fl_X10_13 rfl rfl dX10_starts_25 ?_
  refine lv_bipush (v := 6) hx hb dX10_starts_28 (by decide) ?_
  refine ti_iald (ci := 10) (k := 3) (n := 22) C hw ob_60 (by decide) (fun _ _ => rfl) (by unfold vp_in; decide) dX10_starts_30 ?_
  refine lv_topi (fun x_5 ex_5 => ?_)
  have yx_5 : tY M_4 60 3 6 = x_5 := ((congrArg _ (by decide)).symm.trans ex_5.symm)
  have zx_5 : (tY M_4 60 3 6).toInt = x_5.toInt := by rw [yx_5]
  have wx_5 : tY M 60 3 6 = x_5 := (((cg (tY_nE hM_4 (nk (by decide))) 6).trans (cg (tY_nE hM_1 (nk (by decide))) 6))).symm.trans yx_5
  have zwx_5 : (tY M 60 3 6).toInt = x_5.toInt := by rw [wx_5]
  have L_6 : tx 11 = x_5.toInt := (htr.1.2.2.2.2.2.2.1).trans ((congrArg Int32.toInt (cg (((tY_nE hM_4 (nk (by decide))).trans (tY_nE hM_1 (nk (by decide))))) 6)).symm.trans (congrArg Int32.toInt ((cg (tY_nE hM_4 (nk (by decide))) 6).trans ((cg (tY_nE hM_1 (nk (by decide))) 6).trans wx_5))))
  refine ti_iast (ci := 10) (k := 36) (n := 23) C hw ob_60 (by decide) (fun _ _ => rfl) (by unfold vp_in; decide) dX10_starts_31 (fun H locs hw => ?_)
  obtain ⟨M_7, hM_7⟩ : ∃ z : ti_M, z = uY M_4 60 36 (upd (tY M_4 60 36) (0 : Int32).toNatClampNeg x_5) := ⟨_, rfl⟩
  have hw := hw.to hM_7.symm
  have iM_7 : mI Tm M_7 := mI_up (i := 0) iM_4 hM_7 trivial
  refine lv_aload_n hx hb dX10_starts_32 rfl (lv_at hl 0 rfl) ?_
  refine ti_get (ci := 10) (k := 37) (N := 67) (T := TX10) (v := .ref (A 60 38)) C hw iw_10 rfl ob_60 (by decide) (by decide) fl_X10_78 rfl rfl dX10_starts_33 ?_
  refine lv_iload_n hx hb dX10_starts_36 rfl (lv_at hl 1 rfl) ?_
  refine lv_iconst (v := 0) hx hb dX10_starts_37 (by decide) ?_
  refine ti_iast (ci := 10) (k := 37) (n := 23) C hw ob_60 (by decide) (fun _ _ => rfl) (by unfold vp_in; decide) dX10_starts_38 (fun H locs hw => ?_)
  obtain ⟨M_8, hM_8⟩ : ∃ z : ti_M, z = uY M_7 60 37 (upd (tY M_7 60 37) (0 : Int32).toNatClampNeg 0) := ⟨_, rfl⟩
  have hw := hw.to hM_8.symm
  have iM_8 : mI Tm M_8 := mI_up (i := 0) iM_7 hM_8 trivial
  refine lv_aload_n hx hb dX10_starts_39 rfl (lv_at hl 0 rfl) ?_
  refine ti_get (ci := 10) (k := 38) (N := 67) (T := TX10) (v := .ref (A 60 39)) C hw iw_10 rfl ob_60 (by decide) (by decide) fl_X10_81 rfl rfl dX10_starts_40 ?_
  refine lv_iload_n hx hb dX10_starts_43 rfl (lv_at hl 1 rfl) ?_
  refine lv_iconst (v := 0) hx hb dX10_starts_44 (by decide) ?_
  refine ti_iast (ci := 10) (k := 38) (n := 23) C hw ob_60 (by decide) (fun _ _ => rfl) (by unfold vp_in; decide) dX10_starts_45 (fun H locs hw => ?_)
  obtain ⟨M_9, hM_9⟩ : ∃ z : ti_M, z = uY M_8 60 38 (upd (tY M_8 60 38) (0 : Int32).toNatClampNeg 0) := ⟨_, rfl⟩
  have hw := hw.to hM_9.symm
  have iM_9 : mI Tm M_9 := mI_up (i := 0) iM_8 hM_9 (ib_mk (lo := 0) (hi := 8) (by decide) (by decide))
  refine lv_iconst (v := 0) hx hb dX10_starts_46 (by decide) ?_
  refine lv_istore_n (lv' := [(2, .int 0), (0, .ref (A 60 0)), (1, .int 0)]) hx hb dX10_starts_47 rfl hl (by decide) rfl (fun ls hl => ?_)
  have hl_48_19 : ∀ (n_20 : Nat) (x_10 : Int32) (M_13 : ti_M) (H : Heap) (locs : List Loc) (ls : Array Slot), (8 - x_10.toInt : Int).toNat < n_20 → (0 ≤ x_10.toInt) → (x_10.toInt ≤ 8) → (mI Tm M_13) → (lk M_13 M) → (eR 0 M_13 M) → (stq M M_13 0 x_10.toInt) → (sd 0 tx M_13) → (sm 0 (x_10.toInt).toNat tx M_13) → (x_10.toInt ≤ tx 4) → ti_H ti_LM D A cy H0 M_13 H locs → lv_has ls 4 [(2, .int x_10), (0, .ref (A 60 0)), (1, .int 0)] → W p l e (ti_rm 0) s m args below meth c H locs 0 0 Q (F0 m 48 ls []) := by
    intro n_20
    induction n_20 with
    | zero => intro x_10 M_13 H locs ls hf_20; exact absurd hf_20 (Nat.not_lt_zero _)
    | succ n_20 ih_20 =>
      intro x_10 M_13 H locs ls hf_20 b_11 b_12 iM_13 f_14 f_15 j_16 j_17 j_18 j_19 hw hl
      refine lv_iload_n hx hb dX10_starts_48 rfl (lv_at hl 0 rfl) ?_
      refine lv_aload_n hx hb dX10_starts_49 rfl (lv_at hl 1 rfl) ?_
      refine ti_get (ci := 10) (k := 3) (N := 67) (T := TX10) (v := .ref (A 60 4)) C hw iw_10 rfl ob_60 (by decide) (by decide) fl_X10_13 rfl rfl dX10_starts_50 ?_
      refine lv_iconst (v := 0) hx hb dX10_starts_53 (by decide) ?_
      refine ti_iald (ci := 10) (k := 3) (n := 22) C hw ob_60 (by decide) (fun _ _ => rfl) (by unfold vp_in; decide) dX10_starts_54 ?_
      refine lv_topi (fun x_21 ex_21 => ?_)
      have yx_21 : tY M_13 60 3 0 = x_21 := ((congrArg _ (by decide)).symm.trans ex_21.symm)
      have bx_21 : 0 ≤ x_21.toInt ∧ x_21.toInt ≤ 8 := mI_rn (i := 0) iM_13 yx_21.symm (fun _ h => h)
      have zx_21 : (tY M_13 60 3 0).toInt = x_21.toInt := by rw [yx_21]
      have wx_21 : tY M 60 3 0 = x_21 := ((cg (f_14.1 3 (by decide) (by decide)) 0)).symm.trans yx_21
      have zwx_21 : (tY M 60 3 0).toInt = x_21.toInt := by rw [wx_21]
      have L_22 : tx 4 = x_21.toInt := (htr.1.1).trans ((congrArg Int32.toInt (cg ((f_14.1 3 (by decide) (by decide))) 0)).symm.trans (congrArg Int32.toInt ((cg (f_14.1 3 (by decide) (by decide)) 0).trans wx_21)))
      refine sb_icmp_ge (tgt := 150) hx hb rfl rfl dX10_starts_55 (by decide) (fun c_55_22 => ?_) (fun c_55_22 => ?_)
      · refine lv_iconst (v := 0) hx hb dX10_starts_150 (by decide) ?_
        refine lv_istore_n (lv' := [(2, .int 0), (0, .ref (A 60 0)), (1, .int 0)]) hx hb dX10_starts_151 rfl hl (by decide) rfl (fun ls hl => ?_)
        have hl_152_50 : ∀ (n_51 : Nat) (x_41 : Int32) (M_44 : ti_M) (H : Heap) (locs : List Loc) (ls : Array Slot), (3 - x_41.toInt : Int).toNat < n_51 → (0 ≤ x_41.toInt) → (x_41.toInt ≤ 3) → (mI Tm M_44) → (lk M_44 M) → (eR 0 M_44 M) → (stq M M_44 0 (tY M 60 3 0).toInt) → (sd 0 tx M_44) → (sm 0 (tx 4).toNat tx M_44) → (sp 0 (x_41.toInt).toNat tx M_44) → ti_H ti_LM D A cy H0 M_44 H locs → lv_has ls 4 [(2, .int x_41), (0, .ref (A 60 0)), (1, .int 0)] → W p l e (ti_rm 0) s m args below meth c H locs 0 0 Q (F0 m 152 ls []) := by
          intro n_51
          induction n_51 with
          | zero => intro x_41 M_44 H locs ls hf_51; exact absurd hf_51 (Nat.not_lt_zero _)
          | succ n_51 ih_51 =>
            intro x_41 M_44 H locs ls hf_51 b_42 b_43 iM_44 f_45 f_46 j_47 j_48 j_49 j_50 hw hl
            refine lv_iload_n hx hb dX10_starts_152 rfl (lv_at hl 0 rfl) ?_
            refine lv_iconst (v := 3) hx hb dX10_starts_153 (by decide) ?_
            refine sb_icmp_ge (tgt := 182) hx hb rfl (by decide : (3 : Int32).toInt = 3) dX10_starts_154 (by decide) (fun c_154_51 => ?_) (fun c_154_51 => ?_)
            · have jj := q_start hI j_47 f_45
              have SQ_60 := s0_qR (J := J) ht4.2 j_48 j_49 (by have q := j_50; rw [show x_41.toInt.toNat = 3 by omega] at q; exact q)
              exact hQ _ _ _ _ _ hw (⟨f_46, SQ_60.1, SQ_60.2, iM_44, jj.1, jj.2.1, jj.2.2⟩) dX10_starts_182
            · refine lv_aload_n hx hb dX10_starts_157 rfl (lv_at hl 1 rfl) ?_
              refine ti_get (ci := 10) (k := 49) (N := 67) (T := TX10) (v := .ref (A 60 50)) C hw iw_10 rfl ob_60 (by decide) (by decide) fl_X10_114 rfl rfl dX10_starts_158 ?_
              refine lv_iconst (v := 3) hx hb dX10_starts_161 (by decide) ?_
              refine lv_iload_n hx hb dX10_starts_162 rfl (lv_at hl 2 rfl) ?_
              refine lv_imul hx hb dX10_starts_163 ?_
              refine ti_top (y := 0) (by decide) ?_
              refine lv_iload_n hx hb dX10_starts_164 rfl (lv_at hl 0 rfl) ?_
              refine lv_iadd hx hb dX10_starts_165 ?_
              refine lv_topi (fun x_53 ex_53 => ?_)
              have tx_53 : x_53.toInt = 0 + x_41.toInt := i_add ex_53 (by decide : (0 : Int32).toInt = 0) rfl (by omega) (by omega)
              refine lv_aload_n hx hb dX10_starts_166 rfl (lv_at hl 1 rfl) ?_
              refine ti_get (ci := 10) (k := 3) (N := 67) (T := TX10) (v := .ref (A 60 4)) C hw iw_10 rfl ob_60 (by decide) (by decide) fl_X10_13 rfl rfl dX10_starts_167 ?_
              refine lv_bipush (v := 8) hx hb dX10_starts_170 (by decide) ?_
              refine lv_iload_n hx hb dX10_starts_172 rfl (lv_at hl 0 rfl) ?_
              refine lv_iadd hx hb dX10_starts_173 ?_
              refine lv_topi (fun x_54 ex_54 => ?_)
              have tx_54 : x_54.toInt = 8 + x_41.toInt := i_add ex_54 (by decide : (8 : Int32).toInt = 8) rfl (by omega) (by omega)
              refine ti_iald (ci := 10) (k := 3) (n := 22) C hw ob_60 (by decide) (fun _ _ => rfl) (vp_in_iff.mpr (by omega)) dX10_starts_174 ?_
              refine lv_topi (fun x_55 ex_55 => ?_)
              have yx_55 : tY M_44 60 3 x_54.toNatClampNeg = x_55 := (ex_55.symm)
              have bx_55 : 0 ≤ x_55.toInt ∧ x_55.toInt ≤ 7 := mI_rn (i := x_54.toNatClampNeg) iM_44 yx_55.symm (fun _ h => mN_p (by show 8 ≤ (x_54).toInt.toNat; omega) (by show (x_54).toInt.toNat ≤ 10; omega) h)
              have zx_55 : (tY M_44 60 3 x_54.toNatClampNeg).toInt = x_55.toInt := by rw [yx_55]
              have wx_55 : tY M 60 3 x_54.toNatClampNeg = x_55 := ((cg (f_45.1 3 (by decide) (by decide)) x_54.toNatClampNeg)).symm.trans yx_55
              have zwx_55 : (tY M 60 3 x_54.toNatClampNeg).toInt = x_55.toInt := by rw [wx_55]
              have PW_57 : x_55.toInt = tx (32 + x_41.toInt.toNat) := by rw [htr.2.1 x_41.toInt.toNat (by omega), ← zx_55, i_cl (n := 8 + x_41.toInt.toNat) (by omega), ((f_45.1 3 (by decide) (by decide)))]
              refine ti_iast (ci := 10) (k := 49) (n := 69) C hw ob_60 (by decide) (fun _ _ => rfl) (vp_in_iff.mpr (by omega)) dX10_starts_175 (fun H locs hw => ?_)
              obtain ⟨M_58, hM_58⟩ : ∃ z : ti_M, z = uY M_44 60 49 (upd (tY M_44 60 49) (x_53 : Int32).toNatClampNeg x_55) := ⟨_, rfl⟩
              have hw := hw.to hM_58.symm
              have iM_58 : mI Tm M_58 := mI_up (i := x_53.toNatClampNeg) iM_44 hM_58 (ib_mk (lo := 0) (hi := 7) (by omega) (by omega))
              obtain ⟨x_59, ex_59⟩ : ∃ z : Int32, z = x_41 + 1 := ⟨_, rfl⟩
              have tx_59 : x_59.toInt = x_41.toInt + 1 := i_add ex_59 rfl (by decide) (by omega) (by omega)
              refine lv_iinc (v := x_59) (lv' := [(2, .int x_59), (0, .ref (A 60 0)), (1, .int 0)]) hx hb dX10_starts_176 hl (k := 0) rfl (by rw [ex_59]; rfl) (by decide) rfl (fun ls hl => ?_)
              refine lv_goto (tgt := 152) hx hb dX10_starts_179 (by decide) ?_
              exact ih_51 x_59 M_58 _ _ _ (by omega) (by first | omega | decide) (by first | omega | decide) iM_58 (lk.trans (lk_Y hM_58 (by decide)) f_45) (eR.trans (eR_Y hM_58 (bk_p (z := x_53) (by omega))) f_46) (stq_qw j_47 (qw_Y hM_58 (by decide))) (sd_k j_48 ((tY_nE hM_58 (nk (by decide)))) ((tY_nE hM_58 (nk (by decide)))) ((tY_nE hM_58 (nk (by decide)))) ((tY_nE hM_58 (nk (by decide)))) ((tY_nE hM_58 (nk (by decide))))) (sm_k j_49 ((tY_nE hM_58 (nk (by decide)))) ((tY_nE hM_58 (nk (by decide)))) ((tY_nE hM_58 (nk (by decide)))) ((tY_nE hM_58 (nk (by decide)))) ((tY_nE hM_58 (nk (by decide)))) ((tY_nE hM_58 (nk (by decide)))) ((tY_nE hM_58 (nk (by decide))))) (by rw [show x_59.toInt.toNat = x_41.toInt.toNat + 1 by omega]; exact sp_s j_50 (i_cl (by omega)) (tY_uE hM_58) PW_57) hw (lv_sub hl [0, 1, 2] rfl)
        exact hl_152_50 ((3 - 0 : Int).toNat + 1) 0 M_13 _ _ _ (Nat.lt_succ_self _) (by have lt0 : (0 : Int32).toInt = 0 := (by decide); first | omega | decide) (by have lt0 : (0 : Int32).toInt = 0 := (by decide); first | omega | decide) iM_13 f_14 f_15 (stq_le j_16 (by omega)) j_17 (by rw [show (tx 4).toNat = x_10.toInt.toNat by omega]; exact j_18) sp_0 hw (lv_sub hl [0, 1, 2] rfl)
      · refine lv_bipush (v := 8) hx hb dX10_starts_58 (by decide) ?_
        refine lv_iload_n hx hb dX10_starts_60 rfl (lv_at hl 2 rfl) ?_
        refine lv_imul hx hb dX10_starts_61 ?_
        refine ti_top (y := 0) (by decide) ?_
        refine lv_iload_n hx hb dX10_starts_62 rfl (lv_at hl 0 rfl) ?_
        refine lv_iadd hx hb dX10_starts_63 ?_
        refine lv_topi (fun x_24 ex_24 => ?_)
        have tx_24 : x_24.toInt = 0 + x_10.toInt := i_add ex_24 (by decide : (0 : Int32).toInt = 0) rfl (by omega) (by omega)
        refine lv_istore_n (lv' := [(3, .int x_24), (2, .int x_10), (0, .ref (A 60 0)), (1, .int 0)]) hx hb dX10_starts_64 rfl hl (by decide) rfl (fun ls hl => ?_)
        refine lv_aload_n hx hb dX10_starts_65 rfl (lv_at hl 2 rfl) ?_
        refine ti_get (ci := 10) (k := 40) (N := 67) (T := TX10) (v := .ref (A 60 41)) C hw iw_10 rfl ob_60 (by decide) (by decide) fl_X10_87 rfl rfl dX10_starts_66 ?_
        refine lv_iload_n hx hb dX10_starts_69 rfl (lv_at hl 0 rfl) ?_
        refine lv_iconst (v := 0) hx hb dX10_starts_70 (by decide) ?_
        refine ti_iast (ci := 10) (k := 40) (n := 184) C hw ob_60 (by decide) (fun _ _ => rfl) (vp_in_iff.mpr (by omega)) dX10_starts_71 (fun H locs hw => ?_)
        obtain ⟨M_25, hM_25⟩ : ∃ z : ti_M, z = uY M_13 60 40 (upd (tY M_13 60 40) (x_24 : Int32).toNatClampNeg 0) := ⟨_, rfl⟩
        have hw := hw.to hM_25.symm
        have iM_25 : mI Tm M_25 := mI_up (i := x_24.toNatClampNeg) iM_13 hM_25 trivial
        refine lv_aload_n hx hb dX10_starts_72 rfl (lv_at hl 2 rfl) ?_
        refine ti_get (ci := 10) (k := 41) (N := 67) (T := TX10) (v := .ref (A 60 42)) C hw iw_10 rfl ob_60 (by decide) (by decide) fl_X10_90 rfl rfl dX10_starts_73 ?_
        refine lv_iload_n hx hb dX10_starts_76 rfl (lv_at hl 0 rfl) ?_
        refine lv_aload_n hx hb dX10_starts_77 rfl (lv_at hl 2 rfl) ?_
        refine ti_get (ci := 10) (k := 7) (N := 67) (T := TX10) (v := .ref (A 60 8)) C hw iw_10 rfl ob_60 (by decide) (by decide) fl_X10_25 rfl rfl dX10_starts_78 ?_
        refine lv_iload_n hx hb dX10_starts_81 rfl (lv_at hl 1 rfl) ?_
        refine ti_iald (ci := 10) (k := 7) (n := 16) C hw ob_60 (by decide) (fun _ _ => rfl) (vp_in_iff.mpr (by omega)) dX10_starts_82 ?_
        refine lv_topi (fun x_26 ex_26 => ?_)
        have yx_26 : tY M_25 60 7 x_10.toNatClampNeg = x_26 := (ex_26.symm)
        have wx_26 : tY M 60 7 x_10.toNatClampNeg = x_26 := (((cg (tY_nE hM_25 (nk (by decide))) x_10.toNatClampNeg).trans (cg (f_14.1 7 (by decide) (by decide)) x_10.toNatClampNeg))).symm.trans yx_26
        have L_27 : tx (100 + 16 * x_10.toInt.toNat + 3) = x_26.toInt := (htr.2.2.1 (x_10.toInt.toNat) (by omega) (by omega)).2.2.1.trans ((congrArg Int32.toInt (cg (((tY_nE hM_25 (nk (by decide))).trans (f_14.1 7 (by decide) (by decide)))) (x_10.toInt.toNat))).symm.trans (rd_k (n := x_10.toInt.toNat) (by omega) ((cg (tY_nE hM_25 (nk (by decide))) x_10.toNatClampNeg).trans ((cg (f_14.1 7 (by decide) (by decide)) x_10.toNatClampNeg).trans wx_26))))
        refine ti_iast (ci := 10) (k := 41) (n := 184) C hw ob_60 (by decide) (fun _ _ => rfl) (vp_in_iff.mpr (by omega)) dX10_starts_83 (fun H locs hw => ?_)
        obtain ⟨M_28, hM_28⟩ : ∃ z : ti_M, z = uY M_25 60 41 (upd (tY M_25 60 41) (x_24 : Int32).toNatClampNeg x_26) := ⟨_, rfl⟩
        have hw := hw.to hM_28.symm
        have iM_28 : mI Tm M_28 := mI_up (i := x_24.toNatClampNeg) iM_25 hM_28 trivial
        refine lv_aload_n hx hb dX10_starts_84 rfl (lv_at hl 2 rfl) ?_
        refine ti_get (ci := 10) (k := 42) (N := 67) (T := TX10) (v := .ref (A 60 43)) C hw iw_10 rfl ob_60 (by decide) (by decide) fl_X10_93 rfl rfl dX10_starts_85 ?_
        refine lv_iload_n hx hb dX10_starts_88 rfl (lv_at hl 0 rfl) ?_
        refine lv_iconst (v := 0) hx hb dX10_starts_89 (by decide) ?_
        refine ti_iast (ci := 10) (k := 42) (n := 184) C hw ob_60 (by decide) (fun _ _ => rfl) (vp_in_iff.mpr (by omega)) dX10_starts_90 (fun H locs hw => ?_)
        obtain ⟨M_29, hM_29⟩ : ∃ z : ti_M, z = uY M_28 60 42 (upd (tY M_28 60 42) (x_24 : Int32).toNatClampNeg 0) := ⟨_, rfl⟩
        have hw := hw.to hM_29.symm
        have iM_29 : mI Tm M_29 := mI_up (i := x_24.toNatClampNeg) iM_28 hM_29 trivial
        refine lv_aload_n hx hb dX10_starts_91 rfl (lv_at hl 2 rfl) ?_
        refine ti_get (ci := 10) (k := 43) (N := 67) (T := TX10) (v := .ref (A 60 44)) C hw iw_10 rfl ob_60 (by decide) (by decide) fl_X10_96 rfl rfl dX10_starts_92 ?_
        refine lv_iload_n hx hb dX10_starts_95 rfl (lv_at hl 0 rfl) ?_
        refine lv_aload_n hx hb dX10_starts_96 rfl (lv_at hl 2 rfl) ?_
        refine ti_get (ci := 10) (k := 9) (N := 67) (T := TX10) (v := .ref (A 60 10)) C hw iw_10 rfl ob_60 (by decide) (by decide) fl_X10_31 rfl rfl dX10_starts_97 ?_
        refine lv_iload_n hx hb dX10_starts_100 rfl (lv_at hl 1 rfl) ?_
        refine ti_iald (ci := 10) (k := 9) (n := 16) C hw ob_60 (by decide) (fun _ _ => rfl) (vp_in_iff.mpr (by omega)) dX10_starts_101 ?_
        refine lv_topi (fun x_30 ex_30 => ?_)
        have yx_30 : tY M_29 60 9 x_10.toNatClampNeg = x_30 := (ex_30.symm)
        have wx_30 : tY M 60 9 x_10.toNatClampNeg = x_30 := (((cg (tY_nE hM_29 (nk (by decide))) x_10.toNatClampNeg).trans ((cg (tY_nE hM_28 (nk (by decide))) x_10.toNatClampNeg).trans ((cg (tY_nE hM_25 (nk (by decide))) x_10.toNatClampNeg).trans (cg (f_14.1 9 (by decide) (by decide)) x_10.toNatClampNeg))))).symm.trans yx_30
        have L_31 : tx (100 + 16 * x_10.toInt.toNat + 5) = x_30.toInt := (htr.2.2.1 (x_10.toInt.toNat) (by omega) (by omega)).2.2.2.2.1.trans ((congrArg Int32.toInt (cg (((tY_nE hM_29 (nk (by decide))).trans ((tY_nE hM_28 (nk (by decide))).trans ((tY_nE hM_25 (nk (by decide))).trans (f_14.1 9 (by decide) (by decide)))))) (x_10.toInt.toNat))).symm.trans (rd_k (n := x_10.toInt.toNat) (by omega) ((cg (tY_nE hM_29 (nk (by decide))) x_10.toNatClampNeg).trans ((cg (tY_nE hM_28 (nk (by decide))) x_10.toNatClampNeg).trans ((cg (tY_nE hM_25 (nk (by decide))) x_10.toNatClampNeg).trans ((cg (f_14.1 9 (by decide) (by decide)) x_10.toNatClampNeg).trans wx_30))))))
        refine ti_iast (ci := 10) (k := 43) (n := 184) C hw ob_60 (by decide) (fun _ _ => rfl) (vp_in_iff.mpr (by omega)) dX10_starts_102 (fun H locs hw => ?_)
        obtain ⟨M_32, hM_32⟩ : ∃ z : ti_M, z = uY M_29 60 43 (upd (tY M_29 60 43) (x_24 : Int32).toNatClampNeg x_30) := ⟨_, rfl⟩
        have hw := hw.to hM_32.symm
        have iM_32 : mI Tm M_32 := mI_up (i := x_24.toNatClampNeg) iM_29 hM_32 trivial
        refine lv_aload_n hx hb dX10_starts_103 rfl (lv_at hl 2 rfl) ?_
        refine ti_get (ci := 10) (k := 44) (N := 67) (T := TX10) (v := .ref (A 60 45)) C hw iw_10 rfl ob_60 (by decide) (by decide) fl_X10_99 rfl rfl dX10_starts_104 ?_
        refine lv_iload_n hx hb dX10_starts_107 rfl (lv_at hl 0 rfl) ?_
        refine lv_aload_n hx hb dX10_starts_108 rfl (lv_at hl 2 rfl) ?_
        refine ti_get (ci := 10) (k := 11) (N := 67) (T := TX10) (v := .ref (A 60 12)) C hw iw_10 rfl ob_60 (by decide) (by decide) fl_X10_37 rfl rfl dX10_starts_109 ?_
        refine lv_iload_n hx hb dX10_starts_112 rfl (lv_at hl 1 rfl) ?_
        refine ti_iald (ci := 10) (k := 11) (n := 16) C hw ob_60 (by decide) (fun _ _ => rfl) (vp_in_iff.mpr (by omega)) dX10_starts_113 ?_
        refine lv_topi (fun x_33 ex_33 => ?_)
        have yx_33 : tY M_32 60 11 x_10.toNatClampNeg = x_33 := (ex_33.symm)
        have wx_33 : tY M 60 11 x_10.toNatClampNeg = x_33 := (((cg (tY_nE hM_32 (nk (by decide))) x_10.toNatClampNeg).trans ((cg (tY_nE hM_29 (nk (by decide))) x_10.toNatClampNeg).trans ((cg (tY_nE hM_28 (nk (by decide))) x_10.toNatClampNeg).trans ((cg (tY_nE hM_25 (nk (by decide))) x_10.toNatClampNeg).trans (cg (f_14.1 11 (by decide) (by decide)) x_10.toNatClampNeg)))))).symm.trans yx_33
        have L_34 : tx (100 + 16 * x_10.toInt.toNat + 7) = x_33.toInt := (htr.2.2.1 (x_10.toInt.toNat) (by omega) (by omega)).2.2.2.2.2.2.1.trans ((congrArg Int32.toInt (cg (((tY_nE hM_32 (nk (by decide))).trans ((tY_nE hM_29 (nk (by decide))).trans ((tY_nE hM_28 (nk (by decide))).trans ((tY_nE hM_25 (nk (by decide))).trans (f_14.1 11 (by decide) (by decide))))))) (x_10.toInt.toNat))).symm.trans (rd_k (n := x_10.toInt.toNat) (by omega) ((cg (tY_nE hM_32 (nk (by decide))) x_10.toNatClampNeg).trans ((cg (tY_nE hM_29 (nk (by decide))) x_10.toNatClampNeg).trans ((cg (tY_nE hM_28 (nk (by decide))) x_10.toNatClampNeg).trans ((cg (tY_nE hM_25 (nk (by decide))) x_10.toNatClampNeg).trans ((cg (f_14.1 11 (by decide) (by decide)) x_10.toNatClampNeg).trans wx_33)))))))
        refine ti_iast (ci := 10) (k := 44) (n := 184) C hw ob_60 (by decide) (fun _ _ => rfl) (vp_in_iff.mpr (by omega)) dX10_starts_114 (fun H locs hw => ?_)
        obtain ⟨M_35, hM_35⟩ : ∃ z : ti_M, z = uY M_32 60 44 (upd (tY M_32 60 44) (x_24 : Int32).toNatClampNeg x_33) := ⟨_, rfl⟩
        have hw := hw.to hM_35.symm
        have iM_35 : mI Tm M_35 := mI_up (i := x_24.toNatClampNeg) iM_32 hM_35 trivial
        refine lv_aload_n hx hb dX10_starts_115 rfl (lv_at hl 2 rfl) ?_
        refine ti_get (ci := 10) (k := 45) (N := 67) (T := TX10) (v := .ref (A 60 46)) C hw iw_10 rfl ob_60 (by decide) (by decide) fl_X10_102 rfl rfl dX10_starts_116 ?_
        refine lv_iload_n hx hb dX10_starts_119 rfl (lv_at hl 0 rfl) ?_
        refine lv_iconst (v := 0) hx hb dX10_starts_120 (by decide) ?_
        refine ti_iast (ci := 10) (k := 45) (n := 184) C hw ob_60 (by decide) (fun _ _ => rfl) (vp_in_iff.mpr (by omega)) dX10_starts_121 (fun H locs hw => ?_)
        obtain ⟨M_36, hM_36⟩ : ∃ z : ti_M, z = uY M_35 60 45 (upd (tY M_35 60 45) (x_24 : Int32).toNatClampNeg 0) := ⟨_, rfl⟩
        have hw := hw.to hM_36.symm
        have iM_36 : mI Tm M_36 := mI_up (i := x_24.toNatClampNeg) iM_35 hM_36 trivial
        refine lv_aload_n hx hb dX10_starts_122 rfl (lv_at hl 2 rfl) ?_
        refine ti_get (ci := 10) (k := 46) (N := 67) (T := TX10) (v := .ref (A 60 47)) C hw iw_10 rfl ob_60 (by decide) (by decide) fl_X10_105 rfl rfl dX10_starts_123 ?_
        refine lv_iload_n hx hb dX10_starts_126 rfl (lv_at hl 0 rfl) ?_
        refine lv_iconst (v := 0) hx hb dX10_starts_127 (by decide) ?_
        refine ti_iast (ci := 10) (k := 46) (n := 184) C hw ob_60 (by decide) (fun _ _ => rfl) (vp_in_iff.mpr (by omega)) dX10_starts_128 (fun H locs hw => ?_)
        obtain ⟨M_37, hM_37⟩ : ∃ z : ti_M, z = uY M_36 60 46 (upd (tY M_36 60 46) (x_24 : Int32).toNatClampNeg 0) := ⟨_, rfl⟩
        have hw := hw.to hM_37.symm
        have iM_37 : mI Tm M_37 := mI_up (i := x_24.toNatClampNeg) iM_36 hM_37 trivial
        refine lv_aload_n hx hb dX10_starts_129 rfl (lv_at hl 2 rfl) ?_
        refine ti_get (ci := 10) (k := 47) (N := 67) (T := TX10) (v := .ref (A 60 48)) C hw iw_10 rfl ob_60 (by decide) (by decide) fl_X10_108 rfl rfl dX10_starts_130 ?_
        refine lv_iload_n hx hb dX10_starts_133 rfl (lv_at hl 0 rfl) ?_
        refine lv_iconst (v := 0) hx hb dX10_starts_134 (by decide) ?_
        refine ti_iast (ci := 10) (k := 47) (n := 184) C hw ob_60 (by decide) (fun _ _ => rfl) (vp_in_iff.mpr (by omega)) dX10_starts_135 (fun H locs hw => ?_)
        obtain ⟨M_38, hM_38⟩ : ∃ z : ti_M, z = uY M_37 60 47 (upd (tY M_37 60 47) (x_24 : Int32).toNatClampNeg 0) := ⟨_, rfl⟩
        have hw := hw.to hM_38.symm
        have iM_38 : mI Tm M_38 := mI_up (i := x_24.toNatClampNeg) iM_37 hM_38 trivial
        refine lv_aload_n hx hb dX10_starts_136 rfl (lv_at hl 2 rfl) ?_
        refine ti_get (ci := 10) (k := 48) (N := 67) (T := TX10) (v := .ref (A 60 49)) C hw iw_10 rfl ob_60 (by decide) (by decide) fl_X10_111 rfl rfl dX10_starts_137 ?_
        refine lv_iload_n hx hb dX10_starts_140 rfl (lv_at hl 0 rfl) ?_
        refine lv_bipush (v := (-2)) hx hb dX10_starts_141 (by decide) ?_
        refine ti_iast (ci := 10) (k := 48) (n := 184) C hw ob_60 (by decide) (fun _ _ => rfl) (vp_in_iff.mpr (by omega)) dX10_starts_143 (fun H locs hw => ?_)
        obtain ⟨M_39, hM_39⟩ : ∃ z : ti_M, z = uY M_38 60 48 (upd (tY M_38 60 48) (x_24 : Int32).toNatClampNeg (-2)) := ⟨_, rfl⟩
        have hw := hw.to hM_39.symm
        have iM_39 : mI Tm M_39 := mI_up (i := x_24.toNatClampNeg) iM_38 hM_39 trivial
        obtain ⟨x_40, ex_40⟩ : ∃ z : Int32, z = x_10 + 1 := ⟨_, rfl⟩
        have tx_40 : x_40.toInt = x_10.toInt + 1 := i_add ex_40 rfl (by decide) (by omega) (by omega)
        refine lv_iinc (v := x_40) (lv' := [(2, .int x_40), (3, .int x_24), (0, .ref (A 60 0)), (1, .int 0)]) hx hb dX10_starts_144 hl (k := 1) rfl (by rw [ex_40]; rfl) (by decide) rfl (fun ls hl => ?_)
        refine lv_goto (tgt := 48) hx hb dX10_starts_147 (by decide) ?_
        exact ih_20 x_40 M_39 _ _ _ (by omega) (by first | omega | decide) (by first | omega | decide) iM_39 (lk.trans (lk_Y hM_39 (by decide)) (lk.trans (lk_Y hM_38 (by decide)) (lk.trans (lk_Y hM_37 (by decide)) (lk.trans (lk_Y hM_36 (by decide)) (lk.trans (lk_Y hM_35 (by decide)) (lk.trans (lk_Y hM_32 (by decide)) (lk.trans (lk_Y hM_29 (by decide)) (lk.trans (lk_Y hM_28 (by decide)) (lk.trans (lk_Y hM_25 (by decide)) f_14))))))))) (eR.trans (eR_Y hM_39 (bk_m (z := x_24) (by omega) (by decide))) (eR.trans (eR_Y hM_38 (bk_m (z := x_24) (by omega) (by decide))) (eR.trans (eR_Y hM_37 (bk_m (z := x_24) (by omega) (by decide))) (eR.trans (eR_Y hM_36 (bk_m (z := x_24) (by omega) (by decide))) (eR.trans (eR_Y hM_35 (bk_m (z := x_24) (by omega) (by decide))) (eR.trans (eR_Y hM_32 (bk_m (z := x_24) (by omega) (by decide))) (eR.trans (eR_Y hM_29 (bk_m (z := x_24) (by omega) (by decide))) (eR.trans (eR_Y hM_28 (bk_m (z := x_24) (by omega) (by decide))) (eR.trans (eR_Y hM_25 (bk_m (z := x_24) (by omega) (by decide))) f_15))))))))) (stq_s j_16 hM_25 (qw.trans (qw_Y hM_39 (by decide)) (qw.trans (qw_Y hM_38 (by decide)) (qw.trans (qw_Y hM_37 (by decide)) (qw.trans (qw_Y hM_36 (by decide)) (qw.trans (qw_Y hM_35 (by decide)) (qw.trans (qw_Y hM_32 (by decide)) (qw.trans (qw_Y hM_29 (by decide)) (qw_Y hM_28 (by decide))))))))) (by show ((x_24.toInt.toNat : Nat) : Int) = _; omega) (by omega) (by omega) (by omega)) (sd_k j_17 (((tY_nE hM_39 (nk (by decide))).trans ((tY_nE hM_38 (nk (by decide))).trans ((tY_nE hM_37 (nk (by decide))).trans ((tY_nE hM_36 (nk (by decide))).trans ((tY_nE hM_35 (nk (by decide))).trans ((tY_nE hM_32 (nk (by decide))).trans ((tY_nE hM_29 (nk (by decide))).trans ((tY_nE hM_28 (nk (by decide))).trans (tY_nE hM_25 (nk (by decide)))))))))))) (((tY_nE hM_39 (nk (by decide))).trans ((tY_nE hM_38 (nk (by decide))).trans ((tY_nE hM_37 (nk (by decide))).trans ((tY_nE hM_36 (nk (by decide))).trans ((tY_nE hM_35 (nk (by decide))).trans ((tY_nE hM_32 (nk (by decide))).trans ((tY_nE hM_29 (nk (by decide))).trans ((tY_nE hM_28 (nk (by decide))).trans (tY_nE hM_25 (nk (by decide)))))))))))) (((tY_nE hM_39 (nk (by decide))).trans ((tY_nE hM_38 (nk (by decide))).trans ((tY_nE hM_37 (nk (by decide))).trans ((tY_nE hM_36 (nk (by decide))).trans ((tY_nE hM_35 (nk (by decide))).trans ((tY_nE hM_32 (nk (by decide))).trans ((tY_nE hM_29 (nk (by decide))).trans ((tY_nE hM_28 (nk (by decide))).trans (tY_nE hM_25 (nk (by decide)))))))))))) (((tY_nE hM_39 (nk (by decide))).trans ((tY_nE hM_38 (nk (by decide))).trans ((tY_nE hM_37 (nk (by decide))).trans ((tY_nE hM_36 (nk (by decide))).trans ((tY_nE hM_35 (nk (by decide))).trans ((tY_nE hM_32 (nk (by decide))).trans ((tY_nE hM_29 (nk (by decide))).trans ((tY_nE hM_28 (nk (by decide))).trans (tY_nE hM_25 (nk (by decide)))))))))))) (((tY_nE hM_39 (nk (by decide))).trans ((tY_nE hM_38 (nk (by decide))).trans ((tY_nE hM_37 (nk (by decide))).trans ((tY_nE hM_36 (nk (by decide))).trans ((tY_nE hM_35 (nk (by decide))).trans ((tY_nE hM_32 (nk (by decide))).trans ((tY_nE hM_29 (nk (by decide))).trans ((tY_nE hM_28 (nk (by decide))).trans (tY_nE hM_25 (nk (by decide))))))))))))) (by rw [show x_40.toInt.toNat = x_10.toInt.toNat + 1 by omega]; exact sm_s j_18 (i_cl (by omega)) ((((tY_nE hM_39 (nk (by decide))).trans ((tY_nE hM_38 (nk (by decide))).trans ((tY_nE hM_37 (nk (by decide))).trans ((tY_nE hM_36 (nk (by decide))).trans ((tY_nE hM_35 (nk (by decide))).trans ((tY_nE hM_32 (nk (by decide))).trans ((tY_nE hM_29 (nk (by decide))).trans (tY_nE hM_28 (nk (by decide))))))))))).trans (tY_uE hM_25)) ((((tY_nE hM_39 (nk (by decide))).trans ((tY_nE hM_38 (nk (by decide))).trans ((tY_nE hM_37 (nk (by decide))).trans (tY_nE hM_36 (nk (by decide))))))).trans ((tY_uE hM_35).trans (congrArg (fun z => upd z _ _) (((tY_nE hM_32 (nk (by decide))).trans ((tY_nE hM_29 (nk (by decide))).trans ((tY_nE hM_28 (nk (by decide))).trans (tY_nE hM_25 (nk (by decide)))))))))) ((((tY_nE hM_39 (nk (by decide))).trans ((tY_nE hM_38 (nk (by decide))).trans ((tY_nE hM_37 (nk (by decide))).trans ((tY_nE hM_36 (nk (by decide))).trans ((tY_nE hM_35 (nk (by decide))).trans ((tY_nE hM_32 (nk (by decide))).trans (tY_nE hM_29 (nk (by decide)))))))))).trans ((tY_uE hM_28).trans (congrArg (fun z => upd z _ _) ((tY_nE hM_25 (nk (by decide))))))) ((((tY_nE hM_39 (nk (by decide))).trans ((tY_nE hM_38 (nk (by decide))).trans ((tY_nE hM_37 (nk (by decide))).trans ((tY_nE hM_36 (nk (by decide))).trans ((tY_nE hM_35 (nk (by decide))).trans (tY_nE hM_32 (nk (by decide))))))))).trans ((tY_uE hM_29).trans (congrArg (fun z => upd z _ _) (((tY_nE hM_28 (nk (by decide))).trans (tY_nE hM_25 (nk (by decide)))))))) ((((tY_nE hM_39 (nk (by decide))).trans ((tY_nE hM_38 (nk (by decide))).trans ((tY_nE hM_37 (nk (by decide))).trans ((tY_nE hM_36 (nk (by decide))).trans (tY_nE hM_35 (nk (by decide)))))))).trans ((tY_uE hM_32).trans (congrArg (fun z => upd z _ _) (((tY_nE hM_29 (nk (by decide))).trans ((tY_nE hM_28 (nk (by decide))).trans (tY_nE hM_25 (nk (by decide))))))))) (((tY_nE hM_39 (nk (by decide)))).trans ((tY_uE hM_38).trans (congrArg (fun z => upd z _ _) (((tY_nE hM_37 (nk (by decide))).trans ((tY_nE hM_36 (nk (by decide))).trans ((tY_nE hM_35 (nk (by decide))).trans ((tY_nE hM_32 (nk (by decide))).trans ((tY_nE hM_29 (nk (by decide))).trans ((tY_nE hM_28 (nk (by decide))).trans (tY_nE hM_25 (nk (by decide))))))))))))) ((tY_uE hM_39).trans (congrArg (fun z => upd z _ _) (((tY_nE hM_38 (nk (by decide))).trans ((tY_nE hM_37 (nk (by decide))).trans ((tY_nE hM_36 (nk (by decide))).trans ((tY_nE hM_35 (nk (by decide))).trans ((tY_nE hM_32 (nk (by decide))).trans ((tY_nE hM_29 (nk (by decide))).trans ((tY_nE hM_28 (nk (by decide))).trans (tY_nE hM_25 (nk (by decide))))))))))))) (by decide) L_34.symm L_27.symm (by decide) L_31.symm (by decide) (by decide)) (by first | omega | decide) hw (lv_sub hl [0, 2, 3] rfl)
  exact hl_48_19 ((8 - 0 : Int).toNat + 1) 0 M_9 _ _ _ (Nat.lt_succ_self _) (by have lt0 : (0 : Int32).toInt = 0 := (by decide); first | omega | decide) (by have lt0 : (0 : Int32).toInt = 0 := (by decide); first | omega | decide) iM_9 (lk.trans (lk_Y hM_9 (by decide)) (lk.trans (lk_Y hM_8 (by decide)) (lk.trans (lk_Y hM_7 (by decide)) (lk.trans (lk_Y hM_4 (by decide)) (lk_Y hM_1 (by decide)))))) (eR.trans (eR_Y hM_9 (bk_q (z := 0) (by decide) (by decide))) (eR.trans (eR_Y hM_8 (bk_q (z := 0) (by decide) (by decide))) (eR.trans (eR_Y hM_7 (bk_q (z := 0) (by decide) (by decide))) (eR.trans (eR_Y hM_4 (bk_q (z := 0) (by decide) (by decide))) (eR_Y hM_1 (bk_q (z := 0) (by decide) (by decide))))))) (stq_0 (qw.trans (qw_Y hM_8 (by decide)) (qw.trans (qw_Y hM_7 (by decide)) (qw.trans (qw_Y hM_4 (by decide)) (qw_Y hM_1 (by decide))))) hM_9 (by decide)) ⟨((congrArg Int32.toInt (((cg (((tY_nE hM_9 (nk (by decide))).trans ((tY_nE hM_8 (nk (by decide))).trans ((tY_nE hM_7 (nk (by decide))).trans (tY_nE hM_4 (nk (by decide))))))) 0).trans (cg (tY_uE hM_1) 0)).trans (upl (by decide)))).trans (by decide)), ((congrArg Int32.toInt (((cg (tY_uE hM_9) 0)).trans (upl (by decide)))).trans (by decide)), ((congrArg Int32.toInt (((cg (((tY_nE hM_9 (nk (by decide))).trans ((tY_nE hM_8 (nk (by decide))).trans (tY_nE hM_7 (nk (by decide)))))) 0).trans (cg (tY_uE hM_4) 0)).trans (upl (by decide)))).trans L_3.symm), ((congrArg Int32.toInt (((cg (((tY_nE hM_9 (nk (by decide))).trans (tY_nE hM_8 (nk (by decide))))) 0).trans (cg (tY_uE hM_7) 0)).trans (upl (by decide)))).trans L_6.symm), (((cg ((tY_nE hM_9 (nk (by decide)))) 0).trans (cg (tY_uE hM_8) 0)).trans (upl (by decide)))⟩ sm_0 (by have lt0 : (0 : Int32).toInt = 0 := (by decide); first | omega | decide) hw (lv_sub hl [0, 1, 2] rfl)
set_option maxHeartbeats 4000000 in
set_option maxRecDepth 100000 in
theorem z_X10_starts_1 (l : Launch) (D : va_G) (A : Nat → Nat → Nat) (cy : Nat → ClassId) (hJ : ti_inj ti_LM A) (M : ti_M) (hI : mI Tm M)  (tx J : Nat → Int) (htr : tR tx M) (ht4 : 0 ≤ tx 4 ∧ tx 4 ≤ 8) : ti_Kv l yX10_starts cX10_starts 4 0 ti_LM D A cy M [.ref (A 60 0), .int 1] (fun M2 => eR 1 M2 M ∧ qR (tx 4).toNat 1 (bq_s0 tx J) M2 ∧ qV (tx 4).toNat 1 (bq_s0 tx J) M2 ∧ mI Tm M2 ∧ rq 1 M2 M ∧ mC M2 1 ∧ mP M2 1) := by
  refine ti_eV yp_X10_starts hJ ti_LM_nd (Nat.le_of_ble_eq_true rfl) ?_
  intro p e s m args below meth c Q H0 C hQ hw ls hl
  have hx := C.1
  have hb := C.2.1
  have hl : lv_has ls 4 [(0, .ref (A 60 0)), (1, .int 1)] := hl
  refine lv_aload_n hx hb dX10_starts_0 rfl (lv_at hl 0 rfl) ?_
  refine ti_get (ci := 10) (k := 34) (N := 67) (T := TX10) (v := .ref (A 60 35)) C hw iw_10 rfl ob_60 (by decide) (by decide) fl_X10_69 rfl rfl dX10_starts_1 ?_
  refine lv_iload_n hx hb dX10_starts_4 rfl (lv_at hl 1 rfl) ?_
  refine lv_iconst (v := 0) hx hb dX10_starts_5 (by decide) ?_
  refine ti_iast (ci := 10) (k := 34) (n := 23) C hw ob_60 (by decide) (fun _ _ => rfl) (by unfold vp_in; decide) dX10_starts_6 (fun H locs hw => ?_)
  obtain ⟨M_1, hM_1⟩ : ∃ z : ti_M, z = uY M 60 34 (upd (tY M 60 34) (1 : Int32).toNatClampNeg 0) := ⟨_, rfl⟩
  have hw := hw.to hM_1.symm
  have iM_1 : mI Tm M_1 := mI_up (i := 1) hI hM_1 (fun h => absurd rfl h)
  refine lv_aload_n hx hb dX10_starts_7 rfl (lv_at hl 0 rfl) ?_
  refine ti_get (ci := 10) (k := 35) (N := 67) (T := TX10) (v := .ref (A 60 36)) C hw iw_10 rfl ob_60 (by decide) (by decide) fl_X10_72 rfl rfl dX10_starts_8 ?_
  refine lv_iload_n hx hb dX10_starts_11 rfl (lv_at hl 1 rfl) ?_
  refine lv_aload_n hx hb dX10_starts_12 rfl (lv_at hl 0 rfl) ?_
  refine ti_get (ci := 10) (k := 3) (N := 67) (T := TX10) (v := .ref (A 60 4)) C hw iw_10 rfl ob_60 (by decide) (by decide) fl_X10_13 rfl rfl dX10_starts_13 ?_
  refine lv_iconst (v := 1) hx hb dX10_starts_16 (by decide) ?_
  refine ti_iald (ci := 10) (k := 3) (n := 22) C hw ob_60 (by decide) (fun _ _ => rfl) (by unfold vp_in; decide) dX10_starts_17 ?_
  refine lv_topi (fun x_2 ex_2 => ?_)
  have yx_2 : tY M_1 60 3 1 = x_2 := ((congrArg _ (by decide)).symm.trans ex_2.symm)
  have zx_2 : (tY M_1 60 3 1).toInt = x_2.toInt := by rw [yx_2]
  have wx_2 : tY M 60 3 1 = x_2 := ((cg (tY_nE hM_1 (nk (by decide))) 1)).symm.trans yx_2
  have zwx_2 : (tY M 60 3 1).toInt = x_2.toInt := by rw [wx_2]
  have L_3 : tx 6 = x_2.toInt := (htr.1.2.1).trans ((congrArg Int32.toInt (cg ((tY_nE hM_1 (nk (by decide)))) 1)).symm.trans (congrArg Int32.toInt ((cg (tY_nE hM_1 (nk (by decide))) 1).trans wx_2)))
  refine ti_iast (ci := 10) (k := 35) (n := 23) C hw ob_60 (by decide) (fun _ _ => rfl) (by unfold vp_in; decide) dX10_starts_18 (fun H locs hw => ?_)
  obtain ⟨M_4, hM_4⟩ : ∃ z : ti_M, z = uY M_1 60 35 (upd (tY M_1 60 35) (1 : Int32).toNatClampNeg x_2) := ⟨_, rfl⟩
  have hw := hw.to hM_4.symm
  have iM_4 : mI Tm M_4 := mI_up (i := 1) iM_1 hM_4 trivial
  refine lv_aload_n hx hb dX10_starts_19 rfl (lv_at hl 0 rfl) ?_
  refine ti_get (ci := 10) (k := 36) (N := 67) (T := TX10) (v := .ref (A 60 37)) C hw iw_10 rfl ob_60 (by decide) (by decide) fl_X10_75 rfl rfl dX10_starts_20 ?_
  refine lv_iload_n hx hb dX10_starts_23 rfl (lv_at hl 1 rfl) ?_
  refine lv_aload_n hx hb dX10_starts_24 rfl (lv_at hl 0 rfl) ?_
  refine ti_get (ci := 10) (k := 3) (N := 67) (T := TX10) (v := .ref (A 60 4)) C hw iw_10 rfl ob_60 (by decide) (by decide) fl_X10_13 rfl rfl dX10_starts_25 ?_
  refine lv_bipush (v := 6) hx hb dX10_starts_28 (by decide) ?_
  refine ti_iald (ci := 10) (k := 3) (n := 22) C hw ob_60 (by decide) (fun _ _ => rfl) (by unfold vp_in; decide) dX10_starts_30 ?_
  refine lv_topi (fun x_5 ex_5 => ?_)
  have yx_5 : tY M_4 60 3 6 = x_5 := ((congrArg _ (by decide)).symm.trans ex_5.symm)
  have zx_5 : (tY M_4 60 3 6).toInt = x_5.toInt := by rw [yx_5]
  have wx_5 : tY M 60 3 6 = x_5 := (((cg (tY_nE hM_4 (nk (by decide))) 6).trans (cg (tY_nE hM_1 (nk (by decide))) 6))).symm.trans yx_5
  have zwx_5 : (tY M 60 3 6).toInt = x_5.toInt := by rw [wx_5]
  have L_6 : tx 11 = x_5.toInt := (htr.1.2.2.2.2.2.2.1).trans ((congrArg Int32.toInt (cg (((tY_nE hM_4 (nk (by decide))).trans (tY_nE hM_1 (nk (by decide))))) 6)).symm.trans (congrArg Int32.toInt ((cg (tY_nE hM_4 (nk (by decide))) 6).trans ((cg (tY_nE hM_1 (nk (by decide))) 6).trans wx_5))))
  refine ti_iast (ci := 10) (k := 36) (n := 23) C hw ob_60 (by decide) (fun _ _ => rfl) (by unfold vp_in; decide) dX10_starts_31 (fun H locs hw => ?_)
  obtain ⟨M_7, hM_7⟩ : ∃ z : ti_M, z = uY M_4 60 36 (upd (tY M_4 60 36) (1 : Int32).toNatClampNeg x_5) := ⟨_, rfl⟩
  have hw := hw.to hM_7.symm
  have iM_7 : mI Tm M_7 := mI_up (i := 1) iM_4 hM_7 trivial
  refine lv_aload_n hx hb dX10_starts_32 rfl (lv_at hl 0 rfl) ?_
  refine ti_get (ci := 10) (k := 37) (N := 67) (T := TX10) (v := .ref (A 60 38)) C hw iw_10 rfl ob_60 (by decide) (by decide) fl_X10_78 rfl rfl dX10_starts_33 ?_
  refine lv_iload_n hx hb dX10_starts_36 rfl (lv_at hl 1 rfl) ?_
  refine lv_iconst (v := 0) hx hb dX10_starts_37 (by decide) ?_
  refine ti_iast (ci := 10) (k := 37) (n := 23) C hw ob_60 (by decide) (fun _ _ => rfl) (by unfold vp_in; decide) dX10_starts_38 (fun H locs hw => ?_)
  obtain ⟨M_8, hM_8⟩ : ∃ z : ti_M, z = uY M_7 60 37 (upd (tY M_7 60 37) (1 : Int32).toNatClampNeg 0) := ⟨_, rfl⟩
  have hw := hw.to hM_8.symm
  have iM_8 : mI Tm M_8 := mI_up (i := 1) iM_7 hM_8 trivial
  refine lv_aload_n hx hb dX10_starts_39 rfl (lv_at hl 0 rfl) ?_
  refine ti_get (ci := 10) (k := 38) (N := 67) (T := TX10) (v := .ref (A 60 39)) C hw iw_10 rfl ob_60 (by decide) (by decide) fl_X10_81 rfl rfl dX10_starts_40 ?_
  refine lv_iload_n hx hb dX10_starts_43 rfl (lv_at hl 1 rfl) ?_
  refine lv_iconst (v := 0) hx hb dX10_starts_44 (by decide) ?_
  refine ti_iast (ci := 10) (k := 38) (n := 23) C hw ob_60 (by decide) (fun _ _ => rfl) (by unfold vp_in; decide) dX10_starts_45 (fun H locs hw => ?_)
  obtain ⟨M_9, hM_9⟩ : ∃ z : ti_M, z = uY M_8 60 38 (upd (tY M_8 60 38) (1 : Int32).toNatClampNeg 0) := ⟨_, rfl⟩
  have hw := hw.to hM_9.symm
  have iM_9 : mI Tm M_9 := mI_up (i := 1) iM_8 hM_9 (ib_mk (lo := 0) (hi := 8) (by decide) (by decide))
  refine lv_iconst (v := 0) hx hb dX10_starts_46 (by decide) ?_
  refine lv_istore_n (lv' := [(2, .int 0), (0, .ref (A 60 0)), (1, .int 1)]) hx hb dX10_starts_47 rfl hl (by decide) rfl (fun ls hl => ?_)
  have hl_48_19 : ∀ (n_20 : Nat) (x_10 : Int32) (M_13 : ti_M) (H : Heap) (locs : List Loc) (ls : Array Slot), (8 - x_10.toInt : Int).toNat < n_20 → (0 ≤ x_10.toInt) → (x_10.toInt ≤ 8) → (mI Tm M_13) → (lk M_13 M) → (eR 1 M_13 M) → (stq M M_13 1 x_10.toInt) → (sd 1 tx M_13) → (sm 1 (x_10.toInt).toNat tx M_13) → (x_10.toInt ≤ tx 4) → ti_H ti_LM D A cy H0 M_13 H locs → lv_has ls 4 [(2, .int x_10), (0, .ref (A 60 0)), (1, .int 1)] → W p l e (ti_rm 0) s m args below meth c H locs 0 0 Q (F0 m 48 ls []) := by
    intro n_20
    induction n_20 with
    | zero => intro x_10 M_13 H locs ls hf_20; exact absurd hf_20 (Nat.not_lt_zero _)
    | succ n_20 ih_20 =>
      intro x_10 M_13 H locs ls hf_20 b_11 b_12 iM_13 f_14 f_15 j_16 j_17 j_18 j_19 hw hl
      refine lv_iload_n hx hb dX10_starts_48 rfl (lv_at hl 0 rfl) ?_
      refine lv_aload_n hx hb dX10_starts_49 rfl (lv_at hl 1 rfl) ?_
      refine ti_get (ci := 10) (k := 3) (N := 67) (T := TX10) (v := .ref (A 60 4)) C hw iw_10 rfl ob_60 (by decide) (by decide) fl_X10_13 rfl rfl dX10_starts_50 ?_
      refine lv_iconst (v := 0) hx hb dX10_starts_53 (by decide) ?_
      refine ti_iald (ci := 10) (k := 3) (n := 22) C hw ob_60 (by decide) (fun _ _ => rfl) (by unfold vp_in; decide) dX10_starts_54 ?_
      refine lv_topi (fun x_21 ex_21 => ?_)
      have yx_21 : tY M_13 60 3 0 = x_21 := ((congrArg _ (by decide)).symm.trans ex_21.symm)
      have bx_21 : 0 ≤ x_21.toInt ∧ x_21.toInt ≤ 8 := mI_rn (i := 0) iM_13 yx_21.symm (fun _ h => h)
      have zx_21 : (tY M_13 60 3 0).toInt = x_21.toInt := by rw [yx_21]
      have wx_21 : tY M 60 3 0 = x_21 := ((cg (f_14.1 3 (by decide) (by decide)) 0)).symm.trans yx_21
      have zwx_21 : (tY M 60 3 0).toInt = x_21.toInt := by rw [wx_21]
      have L_22 : tx 4 = x_21.toInt := (htr.1.1).trans ((congrArg Int32.toInt (cg ((f_14.1 3 (by decide) (by decide))) 0)).symm.trans (congrArg Int32.toInt ((cg (f_14.1 3 (by decide) (by decide)) 0).trans wx_21)))
      refine sb_icmp_ge (tgt := 150) hx hb rfl rfl dX10_starts_55 (by decide) (fun c_55_22 => ?_) (fun c_55_22 => ?_)
      · refine lv_iconst (v := 0) hx hb dX10_starts_150 (by decide) ?_
        refine lv_istore_n (lv' := [(2, .int 0), (0, .ref (A 60 0)), (1, .int 1)]) hx hb dX10_starts_151 rfl hl (by decide) rfl (fun ls hl => ?_)
        have hl_152_50 : ∀ (n_51 : Nat) (x_41 : Int32) (M_44 : ti_M) (H : Heap) (locs : List Loc) (ls : Array Slot), (3 - x_41.toInt : Int).toNat < n_51 → (0 ≤ x_41.toInt) → (x_41.toInt ≤ 3) → (mI Tm M_44) → (lk M_44 M) → (eR 1 M_44 M) → (stq M M_44 1 (tY M 60 3 0).toInt) → (sd 1 tx M_44) → (sm 1 (tx 4).toNat tx M_44) → (sp 1 (x_41.toInt).toNat tx M_44) → ti_H ti_LM D A cy H0 M_44 H locs → lv_has ls 4 [(2, .int x_41), (0, .ref (A 60 0)), (1, .int 1)] → W p l e (ti_rm 0) s m args below meth c H locs 0 0 Q (F0 m 152 ls []) := by
          intro n_51
          induction n_51 with
          | zero => intro x_41 M_44 H locs ls hf_51; exact absurd hf_51 (Nat.not_lt_zero _)
          | succ n_51 ih_51 =>
            intro x_41 M_44 H locs ls hf_51 b_42 b_43 iM_44 f_45 f_46 j_47 j_48 j_49 j_50 hw hl
            refine lv_iload_n hx hb dX10_starts_152 rfl (lv_at hl 0 rfl) ?_
            refine lv_iconst (v := 3) hx hb dX10_starts_153 (by decide) ?_
            refine sb_icmp_ge (tgt := 182) hx hb rfl (by decide : (3 : Int32).toInt = 3) dX10_starts_154 (by decide) (fun c_154_51 => ?_) (fun c_154_51 => ?_)
            · have jj := q_start hI j_47 f_45
              have SQ_60 := s0_qR (J := J) ht4.2 j_48 j_49 (by have q := j_50; rw [show x_41.toInt.toNat = 3 by omega] at q; exact q)
              exact hQ _ _ _ _ _ hw (⟨f_46, SQ_60.1, SQ_60.2, iM_44, jj.1, jj.2.1, jj.2.2⟩) dX10_starts_182
            · refine lv_aload_n hx hb dX10_starts_157 rfl (lv_at hl 1 rfl) ?_
              refine ti_get (ci := 10) (k := 49) (N := 67) (T := TX10) (v := .ref (A 60 50)) C hw iw_10 rfl ob_60 (by decide) (by decide) fl_X10_114 rfl rfl dX10_starts_158 ?_
              refine lv_iconst (v := 3) hx hb dX10_starts_161 (by decide) ?_
              refine lv_iload_n hx hb dX10_starts_162 rfl (lv_at hl 2 rfl) ?_
              refine lv_imul hx hb dX10_starts_163 ?_
              refine ti_top (y := 3) (by decide) ?_
              refine lv_iload_n hx hb dX10_starts_164 rfl (lv_at hl 0 rfl) ?_
              refine lv_iadd hx hb dX10_starts_165 ?_
              refine lv_topi (fun x_53 ex_53 => ?_)
              have tx_53 : x_53.toInt = 3 + x_41.toInt := i_add ex_53 (by decide : (3 : Int32).toInt = 3) rfl (by omega) (by omega)
              refine lv_aload_n hx hb dX10_starts_166 rfl (lv_at hl 1 rfl) ?_
              refine ti_get (ci := 10) (k := 3) (N := 67) (T := TX10) (v := .ref (A 60 4)) C hw iw_10 rfl ob_60 (by decide) (by decide) fl_X10_13 rfl rfl dX10_starts_167 ?_
              refine lv_bipush (v := 8) hx hb dX10_starts_170 (by decide) ?_
              refine lv_iload_n hx hb dX10_starts_172 rfl (lv_at hl 0 rfl) ?_
              refine lv_iadd hx hb dX10_starts_173 ?_
              refine lv_topi (fun x_54 ex_54 => ?_)
              have tx_54 : x_54.toInt = 8 + x_41.toInt := i_add ex_54 (by decide : (8 : Int32).toInt = 8) rfl (by omega) (by omega)
              refine ti_iald (ci := 10) (k := 3) (n := 22) C hw ob_60 (by decide) (fun _ _ => rfl) (vp_in_iff.mpr (by omega)) dX10_starts_174 ?_
              refine lv_topi (fun x_55 ex_55 => ?_)
              have yx_55 : tY M_44 60 3 x_54.toNatClampNeg = x_55 := (ex_55.symm)
              have bx_55 : 0 ≤ x_55.toInt ∧ x_55.toInt ≤ 7 := mI_rn (i := x_54.toNatClampNeg) iM_44 yx_55.symm (fun _ h => mN_p (by show 8 ≤ (x_54).toInt.toNat; omega) (by show (x_54).toInt.toNat ≤ 10; omega) h)
              have zx_55 : (tY M_44 60 3 x_54.toNatClampNeg).toInt = x_55.toInt := by rw [yx_55]
              have wx_55 : tY M 60 3 x_54.toNatClampNeg = x_55 := ((cg (f_45.1 3 (by decide) (by decide)) x_54.toNatClampNeg)).symm.trans yx_55
              have zwx_55 : (tY M 60 3 x_54.toNatClampNeg).toInt = x_55.toInt := by rw [wx_55]
              have PW_57 : x_55.toInt = tx (32 + x_41.toInt.toNat) := by rw [htr.2.1 x_41.toInt.toNat (by omega), ← zx_55, i_cl (n := 8 + x_41.toInt.toNat) (by omega), ((f_45.1 3 (by decide) (by decide)))]
              refine ti_iast (ci := 10) (k := 49) (n := 69) C hw ob_60 (by decide) (fun _ _ => rfl) (vp_in_iff.mpr (by omega)) dX10_starts_175 (fun H locs hw => ?_)
              obtain ⟨M_58, hM_58⟩ : ∃ z : ti_M, z = uY M_44 60 49 (upd (tY M_44 60 49) (x_53 : Int32).toNatClampNeg x_55) := ⟨_, rfl⟩
              have hw := hw.to hM_58.symm
              have iM_58 : mI Tm M_58 := mI_up (i := x_53.toNatClampNeg) iM_44 hM_58 (ib_mk (lo := 0) (hi := 7) (by omega) (by omega))
              obtain ⟨x_59, ex_59⟩ : ∃ z : Int32, z = x_41 + 1 := ⟨_, rfl⟩
              have tx_59 : x_59.toInt = x_41.toInt + 1 := i_add ex_59 rfl (by decide) (by omega) (by omega)
              refine lv_iinc (v := x_59) (lv' := [(2, .int x_59), (0, .ref (A 60 0)), (1, .int 1)]) hx hb dX10_starts_176 hl (k := 0) rfl (by rw [ex_59]; rfl) (by decide) rfl (fun ls hl => ?_)
              refine lv_goto (tgt := 152) hx hb dX10_starts_179 (by decide) ?_
              exact ih_51 x_59 M_58 _ _ _ (by omega) (by first | omega | decide) (by first | omega | decide) iM_58 (lk.trans (lk_Y hM_58 (by decide)) f_45) (eR.trans (eR_Y hM_58 (bk_p (z := x_53) (by omega))) f_46) (stq_qw j_47 (qw_Y hM_58 (by decide))) (sd_k j_48 ((tY_nE hM_58 (nk (by decide)))) ((tY_nE hM_58 (nk (by decide)))) ((tY_nE hM_58 (nk (by decide)))) ((tY_nE hM_58 (nk (by decide)))) ((tY_nE hM_58 (nk (by decide))))) (sm_k j_49 ((tY_nE hM_58 (nk (by decide)))) ((tY_nE hM_58 (nk (by decide)))) ((tY_nE hM_58 (nk (by decide)))) ((tY_nE hM_58 (nk (by decide)))) ((tY_nE hM_58 (nk (by decide)))) ((tY_nE hM_58 (nk (by decide)))) ((tY_nE hM_58 (nk (by decide))))) (by rw [show x_59.toInt.toNat = x_41.toInt.toNat + 1 by omega]; exact sp_s j_50 (i_cl (by omega)) (tY_uE hM_58) PW_57) hw (lv_sub hl [0, 1, 2] rfl)
        exact hl_152_50 ((3 - 0 : Int).toNat + 1) 0 M_13 _ _ _ (Nat.lt_succ_self _) (by have lt0 : (0 : Int32).toInt = 0 := (by decide); first | omega | decide) (by have lt0 : (0 : Int32).toInt = 0 := (by decide); first | omega | decide) iM_13 f_14 f_15 (stq_le j_16 (by omega)) j_17 (by rw [show (tx 4).toNat = x_10.toInt.toNat by omega]; exact j_18) sp_0 hw (lv_sub hl [0, 1, 2] rfl)
      · refine lv_bipush (v := 8) hx hb dX10_starts_58 (by decide) ?_
        refine lv_iload_n hx hb dX10_starts_60 rfl (lv_at hl 2 rfl) ?_
        refine lv_imul hx hb dX10_starts_61 ?_
        refine ti_top (y := 8) (by decide) ?_
        refine lv_iload_n hx hb dX10_starts_62 rfl (lv_at hl 0 rfl) ?_
        refine lv_iadd hx hb dX10_starts_63 ?_
        refine lv_topi (fun x_24 ex_24 => ?_)
        have tx_24 : x_24.toInt = 8 + x_10.toInt := i_add ex_24 (by decide : (8 : Int32).toInt = 8) rfl (by omega) (by omega)
        refine lv_istore_n (lv' := [(3, .int x_24), (2, .int x_10), (0, .ref (A 60 0)), (1, .int 1)]) hx hb dX10_starts_64 rfl hl (by decide) rfl (fun ls hl => ?_)
        refine lv_aload_n hx hb dX10_starts_65 rfl (lv_at hl 2 rfl) ?_
        refine ti_get (ci := 10) (k := 40) (N := 67) (T := TX10) (v := .ref (A 60 41)) C hw iw_10 rfl ob_60 (by decide) (by decide) fl_X10_87 rfl rfl dX10_starts_66 ?_
        refine lv_iload_n hx hb dX10_starts_69 rfl (lv_at hl 0 rfl) ?_
        refine lv_iconst (v := 0) hx hb dX10_starts_70 (by decide) ?_
        refine ti_iast (ci := 10) (k := 40) (n := 184) C hw ob_60 (by decide) (fun _ _ => rfl) (vp_in_iff.mpr (by omega)) dX10_starts_71 (fun H locs hw => ?_)
        obtain ⟨M_25, hM_25⟩ : ∃ z : ti_M, z = uY M_13 60 40 (upd (tY M_13 60 40) (x_24 : Int32).toNatClampNeg 0) := ⟨_, rfl⟩
        have hw := hw.to hM_25.symm
        have iM_25 : mI Tm M_25 := mI_up (i := x_24.toNatClampNeg) iM_13 hM_25 trivial
        refine lv_aload_n hx hb dX10_starts_72 rfl (lv_at hl 2 rfl) ?_
        refine ti_get (ci := 10) (k := 41) (N := 67) (T := TX10) (v := .ref (A 60 42)) C hw iw_10 rfl ob_60 (by decide) (by decide) fl_X10_90 rfl rfl dX10_starts_73 ?_
        refine lv_iload_n hx hb dX10_starts_76 rfl (lv_at hl 0 rfl) ?_
        refine lv_aload_n hx hb dX10_starts_77 rfl (lv_at hl 2 rfl) ?_
        refine ti_get (ci := 10) (k := 7) (N := 67) (T := TX10) (v := .ref (A 60 8)) C hw iw_10 rfl ob_60 (by decide) (by decide) fl_X10_25 rfl rfl dX10_starts_78 ?_
        refine lv_iload_n hx hb dX10_starts_81 rfl (lv_at hl 1 rfl) ?_
        refine ti_iald (ci := 10) (k := 7) (n := 16) C hw ob_60 (by decide) (fun _ _ => rfl) (vp_in_iff.mpr (by omega)) dX10_starts_82 ?_
        refine lv_topi (fun x_26 ex_26 => ?_)
        have yx_26 : tY M_25 60 7 x_10.toNatClampNeg = x_26 := (ex_26.symm)
        have wx_26 : tY M 60 7 x_10.toNatClampNeg = x_26 := (((cg (tY_nE hM_25 (nk (by decide))) x_10.toNatClampNeg).trans (cg (f_14.1 7 (by decide) (by decide)) x_10.toNatClampNeg))).symm.trans yx_26
        have L_27 : tx (100 + 16 * x_10.toInt.toNat + 3) = x_26.toInt := (htr.2.2.1 (x_10.toInt.toNat) (by omega) (by omega)).2.2.1.trans ((congrArg Int32.toInt (cg (((tY_nE hM_25 (nk (by decide))).trans (f_14.1 7 (by decide) (by decide)))) (x_10.toInt.toNat))).symm.trans (rd_k (n := x_10.toInt.toNat) (by omega) ((cg (tY_nE hM_25 (nk (by decide))) x_10.toNatClampNeg).trans ((cg (f_14.1 7 (by decide) (by decide)) x_10.toNatClampNeg).trans wx_26))))
        refine ti_iast (ci := 10) (k := 41) (n := 184) C hw ob_60 (by decide) (fun _ _ => rfl) (vp_in_iff.mpr (by omega)) dX10_starts_83 (fun H locs hw => ?_)
        obtain ⟨M_28, hM_28⟩ : ∃ z : ti_M, z = uY M_25 60 41 (upd (tY M_25 60 41) (x_24 : Int32).toNatClampNeg x_26) := ⟨_, rfl⟩
        have hw := hw.to hM_28.symm
        have iM_28 : mI Tm M_28 := mI_up (i := x_24.toNatClampNeg) iM_25 hM_28 trivial
        refine lv_aload_n hx hb dX10_starts_84 rfl (lv_at hl 2 rfl) ?_
        refine ti_get (ci := 10) (k := 42) (N := 67) (T := TX10) (v := .ref (A 60 43)) C hw iw_10 rfl ob_60 (by decide) (by decide) fl_X10_93 rfl rfl dX10_starts_85 ?_
        refine lv_iload_n hx hb dX10_starts_88 rfl (lv_at hl 0 rfl) ?_
        refine lv_iconst (v := 0) hx hb dX10_starts_89 (by decide) ?_
        refine ti_iast (ci := 10) (k := 42) (n := 184) C hw ob_60 (by decide) (fun _ _ => rfl) (vp_in_iff.mpr (by omega)) dX10_starts_90 (fun H locs hw => ?_)
        obtain ⟨M_29, hM_29⟩ : ∃ z : ti_M, z = uY M_28 60 42 (upd (tY M_28 60 42) (x_24 : Int32).toNatClampNeg 0) := ⟨_, rfl⟩
        have hw := hw.to hM_29.symm
        have iM_29 : mI Tm M_29 := mI_up (i := x_24.toNatClampNeg) iM_28 hM_29 trivial
        refine lv_aload_n hx hb dX10_starts_91 rfl (lv_at hl 2 rfl) ?_
        refine ti_get (ci := 10) (k := 43) (N := 67) (T := TX10) (v := .ref (A 60 44)) C hw iw_10 rfl ob_60 (by decide) (by decide) fl_X10_96 rfl rfl dX10_starts_92 ?_
        refine lv_iload_n hx hb dX10_starts_95 rfl (lv_at hl 0 rfl) ?_
        refine lv_aload_n hx hb dX10_starts_96 rfl (lv_at hl 2 rfl) ?_
        refine ti_get (ci := 10) (k := 9) (N := 67) (T := TX10) (v := .ref (A 60 10)) C hw iw_10 rfl ob_60 (by decide) (by decide) fl_X10_31 rfl rfl dX10_starts_97 ?_
        refine lv_iload_n hx hb dX10_starts_100 rfl (lv_at hl 1 rfl) ?_
        refine ti_iald (ci := 10) (k := 9) (n := 16) C hw ob_60 (by decide) (fun _ _ => rfl) (vp_in_iff.mpr (by omega)) dX10_starts_101 ?_
        refine lv_topi (fun x_30 ex_30 => ?_)
        have yx_30 : tY M_29 60 9 x_10.toNatClampNeg = x_30 := (ex_30.symm)
        have wx_30 : tY M 60 9 x_10.toNatClampNeg = x_30 := (((cg (tY_nE hM_29 (nk (by decide))) x_10.toNatClampNeg).trans ((cg (tY_nE hM_28 (nk (by decide))) x_10.toNatClampNeg).trans ((cg (tY_nE hM_25 (nk (by decide))) x_10.toNatClampNeg).trans (cg (f_14.1 9 (by decide) (by decide)) x_10.toNatClampNeg))))).symm.trans yx_30
        have L_31 : tx (100 + 16 * x_10.toInt.toNat + 5) = x_30.toInt := (htr.2.2.1 (x_10.toInt.toNat) (by omega) (by omega)).2.2.2.2.1.trans ((congrArg Int32.toInt (cg (((tY_nE hM_29 (nk (by decide))).trans ((tY_nE hM_28 (nk (by decide))).trans ((tY_nE hM_25 (nk (by decide))).trans (f_14.1 9 (by decide) (by decide)))))) (x_10.toInt.toNat))).symm.trans (rd_k (n := x_10.toInt.toNat) (by omega) ((cg (tY_nE hM_29 (nk (by decide))) x_10.toNatClampNeg).trans ((cg (tY_nE hM_28 (nk (by decide))) x_10.toNatClampNeg).trans ((cg (tY_nE hM_25 (nk (by decide))) x_10.toNatClampNeg).trans ((cg (f_14.1 9 (by decide) (by decide)) x_10.toNatClampNeg).trans wx_30))))))
        refine ti_iast (ci := 10) (k := 43) (n := 184) C hw ob_60 (by decide) (fun _ _ => rfl) (vp_in_iff.mpr (by omega)) dX10_starts_102 (fun H locs hw => ?_)
        obtain ⟨M_32, hM_32⟩ : ∃ z : ti_M, z = uY M_29 60 43 (upd (tY M_29 60 43) (x_24 : Int32).toNatClampNeg x_30) := ⟨_, rfl⟩
        have hw := hw.to hM_32.symm
        have iM_32 : mI Tm M_32 := mI_up (i := x_24.toNatClampNeg) iM_29 hM_32 trivial
        refine lv_aload_n hx hb dX10_starts_103 rfl (lv_at hl 2 rfl) ?_
        refine ti_get (ci := 10) (k := 44) (N := 67) (T := TX10) (v := .ref (A 60 45)) C hw iw_10 rfl ob_60 (by decide) (by decide) fl_X10_99 rfl rfl dX10_starts_104 ?_
        refine lv_iload_n hx hb dX10_starts_107 rfl (lv_at hl 0 rfl) ?_
        refine lv_aload_n hx hb dX10_starts_108 rfl (lv_at hl 2 rfl) ?_
        refine ti_get (ci := 10) (k := 11) (N := 67) (T := TX10) (v := .ref (A 60 12)) C hw iw_10 rfl ob_60 (by decide) (by decide) fl_X10_37 rfl rfl dX10_starts_109 ?_
        refine lv_iload_n hx hb dX10_starts_112 rfl (lv_at hl 1 rfl) ?_
        refine ti_iald (ci := 10) (k := 11) (n := 16) C hw ob_60 (by decide) (fun _ _ => rfl) (vp_in_iff.mpr (by omega)) dX10_starts_113 ?_
        refine lv_topi (fun x_33 ex_33 => ?_)
        have yx_33 : tY M_32 60 11 x_10.toNatClampNeg = x_33 := (ex_33.symm)
        have wx_33 : tY M 60 11 x_10.toNatClampNeg = x_33 := (((cg (tY_nE hM_32 (nk (by decide))) x_10.toNatClampNeg).trans ((cg (tY_nE hM_29 (nk (by decide))) x_10.toNatClampNeg).trans ((cg (tY_nE hM_28 (nk (by decide))) x_10.toNatClampNeg).trans ((cg (tY_nE hM_25 (nk (by decide))) x_10.toNatClampNeg).trans (cg (f_14.1 11 (by decide) (by decide)) x_10.toNatClampNeg)))))).symm.trans yx_33
        have L_34 : tx (100 + 16 * x_10.toInt.toNat + 7) = x_33.toInt := (htr.2.2.1 (x_10.toInt.toNat) (by omega) (by omega)).2.2.2.2.2.2.1.trans ((congrArg Int32.toInt (cg (((tY_nE hM_32 (nk (by decide))).trans ((tY_nE hM_29 (nk (by decide))).trans ((tY_nE hM_28 (nk (by decide))).trans ((tY_nE hM_25 (nk (by decide))).trans (f_14.1 11 (by decide) (by decide))))))) (x_10.toInt.toNat))).symm.trans (rd_k (n := x_10.toInt.toNat) (by omega) ((cg (tY_nE hM_32 (nk (by decide))) x_10.toNatClampNeg).trans ((cg (tY_nE hM_29 (nk (by decide))) x_10.toNatClampNeg).trans ((cg (tY_nE hM_28 (nk (by decide))) x_10.toNatClampNeg).trans ((cg (tY_nE hM_25 (nk (by decide))) x_10.toNatClampNeg).trans ((cg (f_14.1 11 (by decide) (by decide)) x_10.toNatClampNeg).trans wx_33)))))))
        refine ti_iast (ci := 10) (k := 44) (n := 184) C hw ob_60 (by decide) (fun _ _ => rfl) (vp_in_iff.mpr (by omega)) dX10_starts_114 (fun H locs hw => ?_)
        obtain ⟨M_35, hM_35⟩ : ∃ z : ti_M, z = uY M_32 60 44 (upd (tY M_32 60 44) (x_24 : Int32).toNatClampNeg x_33) := ⟨_, rfl⟩
        have hw := hw.to hM_35.symm
        have iM_35 : mI Tm M_35 := mI_up (i := x_24.toNatClampNeg) iM_32 hM_35 trivial
        refine lv_aload_n hx hb dX10_starts_115 rfl (lv_at hl 2 rfl) ?_
        refine ti_get (ci := 10) (k := 45) (N := 67) (T := TX10) (v := .ref (A 60 46)) C hw iw_10 rfl ob_60 (by decide) (by decide) fl_X10_102 rfl rfl dX10_starts_116 ?_
        refine lv_iload_n hx hb dX10_starts_119 rfl (lv_at hl 0 rfl) ?_
        refine lv_iconst (v := 0) hx hb dX10_starts_120 (by decide) ?_
        refine ti_iast (ci := 10) (k := 45) (n := 184) C hw ob_60 (by decide) (fun _ _ => rfl) (vp_in_iff.mpr (by omega)) dX10_starts_121 (fun H locs hw => ?_)
        obtain ⟨M_36, hM_36⟩ : ∃ z : ti_M, z = uY M_35 60 45 (upd (tY M_35 60 45) (x_24 : Int32).toNatClampNeg 0) := ⟨_, rfl⟩
        have hw := hw.to hM_36.symm
        have iM_36 : mI Tm M_36 := mI_up (i := x_24.toNatClampNeg) iM_35 hM_36 trivial
        refine lv_aload_n hx hb dX10_starts_122 rfl (lv_at hl 2 rfl) ?_
        refine ti_get (ci := 10) (k := 46) (N := 67) (T := TX10) (v := .ref (A 60 47)) C hw iw_10 rfl ob_60 (by decide) (by decide) fl_X10_105 rfl rfl dX10_starts_123 ?_
        refine lv_iload_n hx hb dX10_starts_126 rfl (lv_at hl 0 rfl) ?_
        refine lv_iconst (v := 0) hx hb dX10_starts_127 (by decide) ?_
        refine ti_iast (ci := 10) (k := 46) (n := 184) C hw ob_60 (by decide) (fun _ _ => rfl) (vp_in_iff.mpr (by omega)) dX10_starts_128 (fun H locs hw => ?_)
        obtain ⟨M_37, hM_37⟩ : ∃ z : ti_M, z = uY M_36 60 46 (upd (tY M_36 60 46) (x_24 : Int32).toNatClampNeg 0) := ⟨_, rfl⟩
        have hw := hw.to hM_37.symm
        have iM_37 : mI Tm M_37 := mI_up (i := x_24.toNatClampNeg) iM_36 hM_37 trivial
        refine lv_aload_n hx hb dX10_starts_129 rfl (lv_at hl 2 rfl) ?_
        refine ti_get (ci := 10) (k := 47) (N := 67) (T := TX10) (v := .ref (A 60 48)) C hw iw_10 rfl ob_60 (by decide) (by decide) fl_X10_108 rfl rfl dX10_starts_130 ?_
        refine lv_iload_n hx hb dX10_starts_133 rfl (lv_at hl 0 rfl) ?_
        refine lv_iconst (v := 0) hx hb dX10_starts_134 (by decide) ?_
        refine ti_iast (ci := 10) (k := 47) (n := 184) C hw ob_60 (by decide) (fun _ _ => rfl) (vp_in_iff.mpr (by omega)) dX10_starts_135 (fun H locs hw => ?_)
        obtain ⟨M_38, hM_38⟩ : ∃ z : ti_M, z = uY M_37 60 47 (upd (tY M_37 60 47) (x_24 : Int32).toNatClampNeg 0) := ⟨_, rfl⟩
        have hw := hw.to hM_38.symm
        have iM_38 : mI Tm M_38 := mI_up (i := x_24.toNatClampNeg) iM_37 hM_38 trivial
        refine lv_aload_n hx hb dX10_starts_136 rfl (lv_at hl 2 rfl) ?_
        refine ti_get (ci := 10) (k := 48) (N := 67) (T := TX10) (v := .ref (A 60 49)) C hw iw_10 rfl ob_60 (by decide) (by decide) fl_X10_111 rfl rfl dX10_starts_137 ?_
        refine lv_iload_n hx hb dX10_starts_140 rfl (lv_at hl 0 rfl) ?_
        refine lv_bipush (v := (-2)) hx hb dX10_starts_141 (by decide) ?_
        refine ti_iast (ci := 10) (k := 48) (n := 184) C hw ob_60 (by decide) (fun _ _ => rfl) (vp_in_iff.mpr (by omega)) dX10_starts_143 (fun H locs hw => ?_)
        obtain ⟨M_39, hM_39⟩ : ∃ z : ti_M, z = uY M_38 60 48 (upd (tY M_38 60 48) (x_24 : Int32).toNatClampNeg (-2)) := ⟨_, rfl⟩
        have hw := hw.to hM_39.symm
        have iM_39 : mI Tm M_39 := mI_up (i := x_24.toNatClampNeg) iM_38 hM_39 trivial
        obtain ⟨x_40, ex_40⟩ : ∃ z : Int32, z = x_10 + 1 := ⟨_, rfl⟩
        have tx_40 : x_40.toInt = x_10.toInt + 1 := i_add ex_40 rfl (by decide) (by omega) (by omega)
        refine lv_iinc (v := x_40) (lv' := [(2, .int x_40), (3, .int x_24), (0, .ref (A 60 0)), (1, .int 1)]) hx hb dX10_starts_144 hl (k := 1) rfl (by rw [ex_40]; rfl) (by decide) rfl (fun ls hl => ?_)
        refine lv_goto (tgt := 48) hx hb dX10_starts_147 (by decide) ?_
        exact ih_20 x_40 M_39 _ _ _ (by omega) (by first | omega | decide) (by first | omega | decide) iM_39 (lk.trans (lk_Y hM_39 (by decide)) (lk.trans (lk_Y hM_38 (by decide)) (lk.trans (lk_Y hM_37 (by decide)) (lk.trans (lk_Y hM_36 (by decide)) (lk.trans (lk_Y hM_35 (by decide)) (lk.trans (lk_Y hM_32 (by decide)) (lk.trans (lk_Y hM_29 (by decide)) (lk.trans (lk_Y hM_28 (by decide)) (lk.trans (lk_Y hM_25 (by decide)) f_14))))))))) (eR.trans (eR_Y hM_39 (bk_m (z := x_24) (by omega) (by decide))) (eR.trans (eR_Y hM_38 (bk_m (z := x_24) (by omega) (by decide))) (eR.trans (eR_Y hM_37 (bk_m (z := x_24) (by omega) (by decide))) (eR.trans (eR_Y hM_36 (bk_m (z := x_24) (by omega) (by decide))) (eR.trans (eR_Y hM_35 (bk_m (z := x_24) (by omega) (by decide))) (eR.trans (eR_Y hM_32 (bk_m (z := x_24) (by omega) (by decide))) (eR.trans (eR_Y hM_29 (bk_m (z := x_24) (by omega) (by decide))) (eR.trans (eR_Y hM_28 (bk_m (z := x_24) (by omega) (by decide))) (eR.trans (eR_Y hM_25 (bk_m (z := x_24) (by omega) (by decide))) f_15))))))))) (stq_s j_16 hM_25 (qw.trans (qw_Y hM_39 (by decide)) (qw.trans (qw_Y hM_38 (by decide)) (qw.trans (qw_Y hM_37 (by decide)) (qw.trans (qw_Y hM_36 (by decide)) (qw.trans (qw_Y hM_35 (by decide)) (qw.trans (qw_Y hM_32 (by decide)) (qw.trans (qw_Y hM_29 (by decide)) (qw_Y hM_28 (by decide))))))))) (by show ((x_24.toInt.toNat : Nat) : Int) = _; omega) (by omega) (by omega) (by omega)) (sd_k j_17 (((tY_nE hM_39 (nk (by decide))).trans ((tY_nE hM_38 (nk (by decide))).trans ((tY_nE hM_37 (nk (by decide))).trans ((tY_nE hM_36 (nk (by decide))).trans ((tY_nE hM_35 (nk (by decide))).trans ((tY_nE hM_32 (nk (by decide))).trans ((tY_nE hM_29 (nk (by decide))).trans ((tY_nE hM_28 (nk (by decide))).trans (tY_nE hM_25 (nk (by decide)))))))))))) (((tY_nE hM_39 (nk (by decide))).trans ((tY_nE hM_38 (nk (by decide))).trans ((tY_nE hM_37 (nk (by decide))).trans ((tY_nE hM_36 (nk (by decide))).trans ((tY_nE hM_35 (nk (by decide))).trans ((tY_nE hM_32 (nk (by decide))).trans ((tY_nE hM_29 (nk (by decide))).trans ((tY_nE hM_28 (nk (by decide))).trans (tY_nE hM_25 (nk (by decide)))))))))))) (((tY_nE hM_39 (nk (by decide))).trans ((tY_nE hM_38 (nk (by decide))).trans ((tY_nE hM_37 (nk (by decide))).trans ((tY_nE hM_36 (nk (by decide))).trans ((tY_nE hM_35 (nk (by decide))).trans ((tY_nE hM_32 (nk (by decide))).trans ((tY_nE hM_29 (nk (by decide))).trans ((tY_nE hM_28 (nk (by decide))).trans (tY_nE hM_25 (nk (by decide)))))))))))) (((tY_nE hM_39 (nk (by decide))).trans ((tY_nE hM_38 (nk (by decide))).trans ((tY_nE hM_37 (nk (by decide))).trans ((tY_nE hM_36 (nk (by decide))).trans ((tY_nE hM_35 (nk (by decide))).trans ((tY_nE hM_32 (nk (by decide))).trans ((tY_nE hM_29 (nk (by decide))).trans ((tY_nE hM_28 (nk (by decide))).trans (tY_nE hM_25 (nk (by decide)))))))))))) (((tY_nE hM_39 (nk (by decide))).trans ((tY_nE hM_38 (nk (by decide))).trans ((tY_nE hM_37 (nk (by decide))).trans ((tY_nE hM_36 (nk (by decide))).trans ((tY_nE hM_35 (nk (by decide))).trans ((tY_nE hM_32 (nk (by decide))).trans ((tY_nE hM_29 (nk (by decide))).trans ((tY_nE hM_28 (nk (by decide))).trans (tY_nE hM_25 (nk (by decide))))))))))))) (by rw [show x_40.toInt.toNat = x_10.toInt.toNat + 1 by omega]; exact sm_s j_18 (i_cl (by omega)) ((((tY_nE hM_39 (nk (by decide))).trans ((tY_nE hM_38 (nk (by decide))).trans ((tY_nE hM_37 (nk (by decide))).trans ((tY_nE hM_36 (nk (by decide))).trans ((tY_nE hM_35 (nk (by decide))).trans ((tY_nE hM_32 (nk (by decide))).trans ((tY_nE hM_29 (nk (by decide))).trans (tY_nE hM_28 (nk (by decide))))))))))).trans (tY_uE hM_25)) ((((tY_nE hM_39 (nk (by decide))).trans ((tY_nE hM_38 (nk (by decide))).trans ((tY_nE hM_37 (nk (by decide))).trans (tY_nE hM_36 (nk (by decide))))))).trans ((tY_uE hM_35).trans (congrArg (fun z => upd z _ _) (((tY_nE hM_32 (nk (by decide))).trans ((tY_nE hM_29 (nk (by decide))).trans ((tY_nE hM_28 (nk (by decide))).trans (tY_nE hM_25 (nk (by decide)))))))))) ((((tY_nE hM_39 (nk (by decide))).trans ((tY_nE hM_38 (nk (by decide))).trans ((tY_nE hM_37 (nk (by decide))).trans ((tY_nE hM_36 (nk (by decide))).trans ((tY_nE hM_35 (nk (by decide))).trans ((tY_nE hM_32 (nk (by decide))).trans (tY_nE hM_29 (nk (by decide)))))))))).trans ((tY_uE hM_28).trans (congrArg (fun z => upd z _ _) ((tY_nE hM_25 (nk (by decide))))))) ((((tY_nE hM_39 (nk (by decide))).trans ((tY_nE hM_38 (nk (by decide))).trans ((tY_nE hM_37 (nk (by decide))).trans ((tY_nE hM_36 (nk (by decide))).trans ((tY_nE hM_35 (nk (by decide))).trans (tY_nE hM_32 (nk (by decide))))))))).trans ((tY_uE hM_29).trans (congrArg (fun z => upd z _ _) (((tY_nE hM_28 (nk (by decide))).trans (tY_nE hM_25 (nk (by decide)))))))) ((((tY_nE hM_39 (nk (by decide))).trans ((tY_nE hM_38 (nk (by decide))).trans ((tY_nE hM_37 (nk (by decide))).trans ((tY_nE hM_36 (nk (by decide))).trans (tY_nE hM_35 (nk (by decide)))))))).trans ((tY_uE hM_32).trans (congrArg (fun z => upd z _ _) (((tY_nE hM_29 (nk (by decide))).trans ((tY_nE hM_28 (nk (by decide))).trans (tY_nE hM_25 (nk (by decide))))))))) (((tY_nE hM_39 (nk (by decide)))).trans ((tY_uE hM_38).trans (congrArg (fun z => upd z _ _) (((tY_nE hM_37 (nk (by decide))).trans ((tY_nE hM_36 (nk (by decide))).trans ((tY_nE hM_35 (nk (by decide))).trans ((tY_nE hM_32 (nk (by decide))).trans ((tY_nE hM_29 (nk (by decide))).trans ((tY_nE hM_28 (nk (by decide))).trans (tY_nE hM_25 (nk (by decide))))))))))))) ((tY_uE hM_39).trans (congrArg (fun z => upd z _ _) (((tY_nE hM_38 (nk (by decide))).trans ((tY_nE hM_37 (nk (by decide))).trans ((tY_nE hM_36 (nk (by decide))).trans ((tY_nE hM_35 (nk (by decide))).trans ((tY_nE hM_32 (nk (by decide))).trans ((tY_nE hM_29 (nk (by decide))).trans ((tY_nE hM_28 (nk (by decide))).trans (tY_nE hM_25 (nk (by decide))))))))))))) (by decide) L_34.symm L_27.symm (by decide) L_31.symm (by decide) (by decide)) (by first | omega | decide) hw (lv_sub hl [0, 2, 3] rfl)
  exact hl_48_19 ((8 - 0 : Int).toNat + 1) 0 M_9 _ _ _ (Nat.lt_succ_self _) (by have lt0 : (0 : Int32).toInt = 0 := (by decide); first | omega | decide) (by have lt0 : (0 : Int32).toInt = 0 := (by decide); first | omega | decide) iM_9 (lk.trans (lk_Y hM_9 (by decide)) (lk.trans (lk_Y hM_8 (by decide)) (lk.trans (lk_Y hM_7 (by decide)) (lk.trans (lk_Y hM_4 (by decide)) (lk_Y hM_1 (by decide)))))) (eR.trans (eR_Y hM_9 (bk_q (z := 1) (by decide) (by decide))) (eR.trans (eR_Y hM_8 (bk_q (z := 1) (by decide) (by decide))) (eR.trans (eR_Y hM_7 (bk_q (z := 1) (by decide) (by decide))) (eR.trans (eR_Y hM_4 (bk_q (z := 1) (by decide) (by decide))) (eR_Y hM_1 (bk_q (z := 1) (by decide) (by decide))))))) (stq_0 (qw.trans (qw_Y hM_8 (by decide)) (qw.trans (qw_Y hM_7 (by decide)) (qw.trans (qw_Y hM_4 (by decide)) (qw_Y hM_1 (by decide))))) hM_9 (by decide)) ⟨((congrArg Int32.toInt (((cg (((tY_nE hM_9 (nk (by decide))).trans ((tY_nE hM_8 (nk (by decide))).trans ((tY_nE hM_7 (nk (by decide))).trans (tY_nE hM_4 (nk (by decide))))))) 1).trans (cg (tY_uE hM_1) 1)).trans (upl (by decide)))).trans (by decide)), ((congrArg Int32.toInt (((cg (tY_uE hM_9) 1)).trans (upl (by decide)))).trans (by decide)), ((congrArg Int32.toInt (((cg (((tY_nE hM_9 (nk (by decide))).trans ((tY_nE hM_8 (nk (by decide))).trans (tY_nE hM_7 (nk (by decide)))))) 1).trans (cg (tY_uE hM_4) 1)).trans (upl (by decide)))).trans L_3.symm), ((congrArg Int32.toInt (((cg (((tY_nE hM_9 (nk (by decide))).trans (tY_nE hM_8 (nk (by decide))))) 1).trans (cg (tY_uE hM_7) 1)).trans (upl (by decide)))).trans L_6.symm), (((cg ((tY_nE hM_9 (nk (by decide)))) 1).trans (cg (tY_uE hM_8) 1)).trans (upl (by decide)))⟩ sm_0 (by have lt0 : (0 : Int32).toInt = 0 := (by decide); first | omega | decide) hw (lv_sub hl [0, 1, 2] rfl)

variable {Tc : Nat → Int32} {Tm : (Nat → Int32) × Int32 × Int32}
theorem lx_3 {i : Nat} {N M : ti_M} {v : Int32} (e : N = uY M 60 3 (upd (tY M 60 3) i v)) (h : 11 ≤ i) : lx N M := ⟨fun k2 h2 => tY_nE e (nk (by omega)), fun j hj => by rw [tY_uE e, pk_un (by omega)], fun j hj => ⟨by rw [tY_nE e (nk (by decide))], by rw [tY_nE e (nk (by decide))]⟩, fun j hj => ⟨by rw [tY_nE e (nk (by decide))], by rw [tY_nE e (nk (by decide))]⟩, fun k2 _ => tI_uYE e⟩
section
variable {B J : Nat → Int} {n : Nat}
theorem r0_9 : pp_r0 B n J 9 = 0 := rfl
/-- the registers ahead of the first line -/
theorem rQ_st {M N : ti_M} (hB : ∀ i : Nat, i < n → (tY M 60 1 i).toInt = B i) (hn : (tI M 60 20).toInt.toNat = n) (h21 : (tI M 60 21).toInt = 0) (hp : pr 21 24 N M) (k2 : (tI N 60 22).toInt = ((pt_P (pt_rB M) (pt_rn0 M) (tI M 60 21).toInt.toNat : Nat) : Int)) (k3 : (tI N 60 21).toInt = pt_A (pt_rB M) (pt_rn0 M) (tI M 60 21).toInt.toNat) (kT : pt_T (pt_K (pt_rB M) (pt_rn0 M) (tI M 60 21).toInt.toNat) (pt_V (pt_rB M) (pt_rn0 M) (tI M 60 21).toInt.toNat) (tI N 60 23).toInt (tI N 60 24).toInt) (h25 : (tI M 60 25).toInt = 0) (h26 : (tI M 60 26).toInt = -1) (h19 : (tI M 60 19).toInt = 0) (h30 : (tI M 60 30).toInt = 0) (h18 : tI M 60 18 = 0) (h11 : (tY M 60 3 11).toInt = 0) : rQ B n (pp_r0 B n J) N := by
  have a1 : ∀ i : Nat, i < n → pt_rB M i = B i := hB
  have a2 : pt_rn0 M = n := hn
  rw [a2, h21] at k2 k3 kT
  rw [px_P a1] at k2
  rw [px_A a1] at k3
  rw [px_K a1, px_V a1] at kT
  have bz : ∀ k : Nat, pp_bt 0 k = 0 := fun k => by unfold pp_bt; simp
  have y : ∀ k : Nat, tY N 60 k = tY M 60 k := fun k => congrFun (congrFun hp.1 60) k
  refine ⟨⟨fun i hi => by rw [pr_B hp]; exact a1 i hi, by rw [pr_n hp (by decide)]; exact a2⟩, ?_, ⟨?_, fun q => absurd rfl q⟩, fun _ => ⟨kT, ⟨k2.symm, k3.symm, px_An (Nat.zero_le n)⟩, ⟨?_, ?_, ?_⟩, fun i hi hl => ?_, fun k h1 h2 => ?_, fun k hk => ⟨?_, ?_⟩⟩⟩
  · rw [hp.2 25 (by decide), h25]; rfl
  · rw [hp.2 26 (by decide), h26]; rfl
  · rw [y, h11]; rfl
  · rw [hp.2 30 (by decide), h30]; rfl
  · rw [hp.2 19 (by decide), h19]; rfl
  · have e : pp_r0 B n J 7 = 0 := rfl
    omega
  · rw [hp.2 18 (by decide), h18, bz]
    unfold pp_r0
    rw [if_neg (by omega), if_neg (by omega), if_neg (by omega), if_neg (by omega), if_neg (by omega), if_neg (by omega), if_neg (by omega), if_pos (by omega)]
  · rw [hp.2 18 (by decide), h18, bz]
    unfold pp_r0
    rw [if_neg (by omega), if_neg (by omega), if_neg (by omega), if_neg (by omega), if_neg (by omega), if_neg (by omega), if_neg (by omega), if_pos (by omega)]
  · rw [hp.2 18 (by decide), h18, bz]
    unfold pp_r0
    rw [if_neg (by omega), if_neg (by omega), if_neg (by omega), if_neg (by omega), if_neg (by omega), if_neg (by omega), if_neg (by omega), if_pos (by omega)]
end
set_option maxHeartbeats 4000000 in
set_option maxRecDepth 100000 in
theorem x_X10_starts_0 (l : Launch) (D : va_G) (A : Nat → Nat → Nat) (cy : Nat → ClassId) (hJ : ti_inj ti_LM A) (M : ti_M) (hI : mI Tm M)  : ti_Kv l yX10_starts cX10_starts 4 0 ti_LM D A cy M [.ref (A 60 0), .int 0] (fun M2 => mI Tm M2 ∧ rq 0 M2 M ∧ mC M2 0 ∧ mP M2 0 ∧ tI M2 60 19 = tI M 60 19) := by
  refine ti_eV yp_X10_starts hJ ti_LM_nd (Nat.le_of_ble_eq_true rfl) ?_
  intro p e s m args below meth c Q H0 C hQ hw ls hl
  have hx := C.1
  have hb := C.2.1
  have hl : lv_has ls 4 [(0, .ref (A 60 0)), (1, .int 0)] := hl
  refine lv_aload_n hx hb dX10_starts_0 rfl (lv_at hl 0 rfl) ?_
  refine ti_get (ci := 10) (k := 34) (N := 67) (T := TX10) (v := .ref (A 60 35)) C hw iw_10 rfl ob_60 (by decide) (by decide) fl_X10_69 rfl rfl dX10_starts_1 ?_
  refine lv_iload_n hx hb dX10_starts_4 rfl (lv_at hl 1 rfl) ?_
  refine lv_iconst (v := 0) hx hb dX10_starts_5 (by decide) ?_
  refine ti_iast (ci := 10) (k := 34) (n := 23) C hw ob_60 (by decide) (fun _ _ => rfl) (by unfold vp_in; decide) dX10_starts_6 (fun H locs hw => ?_)
  obtain ⟨M_1, hM_1⟩ : ∃ z : ti_M, z = uY M 60 34 (upd (tY M 60 34) (0 : Int32).toNatClampNeg 0) := ⟨_, rfl⟩
  have hw := hw.to hM_1.symm
  have iM_1 : mI Tm M_1 := mI_up (i := 0) hI hM_1 (fun _ => (ib_mk (lo := 0) (hi := 120) (by decide) (by decide)))
  refine lv_aload_n hx hb dX10_starts_7 rfl (lv_at hl 0 rfl) ?_
  refine ti_get (ci := 10) (k := 35) (N := 67) (T := TX10) (v := .ref (A 60 36)) C hw iw_10 rfl ob_60 (by decide) (by decide) fl_X10_72 rfl rfl dX10_starts_8 ?_
  refine lv_iload_n hx hb dX10_starts_11 rfl (lv_at hl 1 rfl) ?_
  refine lv_aload_n hx hb dX10_starts_12 rfl (lv_at hl 0 rfl) ?_
  refine ti_get (ci := 10) (k := 3) (N := 67) (T := TX10) (v := .ref (A 60 4)) C hw iw_10 rfl ob_60 (by decide) (by decide) fl_X10_13 rfl rfl dX10_starts_13 ?_
  refine lv_iconst (v := 1) hx hb dX10_starts_16 (by decide) ?_
  refine ti_iald (ci := 10) (k := 3) (n := 22) C hw ob_60 (by decide) (fun _ _ => rfl) (by unfold vp_in; decide) dX10_starts_17 ?_
  refine lv_topi (fun x_2 ex_2 => ?_)
  have yx_2 : tY M_1 60 3 1 = x_2 := ((congrArg _ (by decide)).symm.trans ex_2.symm)
  have zx_2 : (tY M_1 60 3 1).toInt = x_2.toInt := by rw [yx_2]
  have wx_2 : tY M 60 3 1 = x_2 := ((cg (tY_nE hM_1 (nk (by decide))) 1)).symm.trans yx_2
  have zwx_2 : (tY M 60 3 1).toInt = x_2.toInt := by rw [wx_2]
  refine ti_iast (ci := 10) (k := 35) (n := 23) C hw ob_60 (by decide) (fun _ _ => rfl) (by unfold vp_in; decide) dX10_starts_18 (fun H locs hw => ?_)
  obtain ⟨M_3, hM_3⟩ : ∃ z : ti_M, z = uY M_1 60 35 (upd (tY M_1 60 35) (0 : Int32).toNatClampNeg x_2) := ⟨_, rfl⟩
  have hw := hw.to hM_3.symm
  have iM_3 : mI Tm M_3 := mI_up (i := 0) iM_1 hM_3 trivial
  refine lv_aload_n hx hb dX10_starts_19 rfl (lv_at hl 0 rfl) ?_
  refine ti_get (ci := 10) (k := 36) (N := 67) (T := TX10) (v := .ref (A 60 37)) C hw iw_10 rfl ob_60 (by decide) (by decide) fl_X10_75 rfl rfl dX10_starts_20 ?_
  refine lv_iload_n hx hb dX10_starts_23 rfl (lv_at hl 1 rfl) ?_
  refine lv_aload_n hx hb dX10_starts_24 rfl (lv_at hl 0 rfl) ?_
  refine ti_get (ci := 10) (k := 3) (N := 67) (T := TX10) (v := .ref (A 60 4)) C hw iw_10 rfl ob_60 (by decide) (by decide) fl_X10_13 rfl rfl dX10_starts_25 ?_
  refine lv_bipush (v := 6) hx hb dX10_starts_28 (by decide) ?_
  refine ti_iald (ci := 10) (k := 3) (n := 22) C hw ob_60 (by decide) (fun _ _ => rfl) (by unfold vp_in; decide) dX10_starts_30 ?_
  refine lv_topi (fun x_4 ex_4 => ?_)
  have yx_4 : tY M_3 60 3 6 = x_4 := ((congrArg _ (by decide)).symm.trans ex_4.symm)
  have zx_4 : (tY M_3 60 3 6).toInt = x_4.toInt := by rw [yx_4]
  have wx_4 : tY M 60 3 6 = x_4 := (((cg (tY_nE hM_3 (nk (by decide))) 6).trans (cg (tY_nE hM_1 (nk (by decide))) 6))).symm.trans yx_4
  have zwx_4 : (tY M 60 3 6).toInt = x_4.toInt := by rw [wx_4]
  refine ti_iast (ci := 10) (k := 36) (n := 23) C hw ob_60 (by decide) (fun _ _ => rfl) (by unfold vp_in; decide) dX10_starts_31 (fun H locs hw => ?_)
  obtain ⟨M_5, hM_5⟩ : ∃ z : ti_M, z = uY M_3 60 36 (upd (tY M_3 60 36) (0 : Int32).toNatClampNeg x_4) := ⟨_, rfl⟩
  have hw := hw.to hM_5.symm
  have iM_5 : mI Tm M_5 := mI_up (i := 0) iM_3 hM_5 trivial
  refine lv_aload_n hx hb dX10_starts_32 rfl (lv_at hl 0 rfl) ?_
  refine ti_get (ci := 10) (k := 37) (N := 67) (T := TX10) (v := .ref (A 60 38)) C hw iw_10 rfl ob_60 (by decide) (by decide) fl_X10_78 rfl rfl dX10_starts_33 ?_
  refine lv_iload_n hx hb dX10_starts_36 rfl (lv_at hl 1 rfl) ?_
  refine lv_iconst (v := 0) hx hb dX10_starts_37 (by decide) ?_
  refine ti_iast (ci := 10) (k := 37) (n := 23) C hw ob_60 (by decide) (fun _ _ => rfl) (by unfold vp_in; decide) dX10_starts_38 (fun H locs hw => ?_)
  obtain ⟨M_6, hM_6⟩ : ∃ z : ti_M, z = uY M_5 60 37 (upd (tY M_5 60 37) (0 : Int32).toNatClampNeg 0) := ⟨_, rfl⟩
  have hw := hw.to hM_6.symm
  have iM_6 : mI Tm M_6 := mI_up (i := 0) iM_5 hM_6 trivial
  refine lv_aload_n hx hb dX10_starts_39 rfl (lv_at hl 0 rfl) ?_
  refine ti_get (ci := 10) (k := 38) (N := 67) (T := TX10) (v := .ref (A 60 39)) C hw iw_10 rfl ob_60 (by decide) (by decide) fl_X10_81 rfl rfl dX10_starts_40 ?_
  refine lv_iload_n hx hb dX10_starts_43 rfl (lv_at hl 1 rfl) ?_
  refine lv_iconst (v := 0) hx hb dX10_starts_44 (by decide) ?_
  refine ti_iast (ci := 10) (k := 38) (n := 23) C hw ob_60 (by decide) (fun _ _ => rfl) (by unfold vp_in; decide) dX10_starts_45 (fun H locs hw => ?_)
  obtain ⟨M_7, hM_7⟩ : ∃ z : ti_M, z = uY M_6 60 38 (upd (tY M_6 60 38) (0 : Int32).toNatClampNeg 0) := ⟨_, rfl⟩
  have hw := hw.to hM_7.symm
  have iM_7 : mI Tm M_7 := mI_up (i := 0) iM_6 hM_7 (ib_mk (lo := 0) (hi := 8) (by decide) (by decide))
  refine lv_iconst (v := 0) hx hb dX10_starts_46 (by decide) ?_
  refine lv_istore_n (lv' := [(2, .int 0), (0, .ref (A 60 0)), (1, .int 0)]) hx hb dX10_starts_47 rfl hl (by decide) rfl (fun ls hl => ?_)
  have hl_48_14 : ∀ (n_15 : Nat) (x_8 : Int32) (M_11 : ti_M) (H : Heap) (locs : List Loc) (ls : Array Slot), (8 - x_8.toInt : Int).toNat < n_15 → (0 ≤ x_8.toInt) → (x_8.toInt ≤ 8) → (mI Tm M_11) → (lk M_11 M) → (tI M_11 60 19 = tI M 60 19) → (stq M M_11 0 x_8.toInt) → ti_H ti_LM D A cy H0 M_11 H locs → lv_has ls 4 [(2, .int x_8), (0, .ref (A 60 0)), (1, .int 0)] → W p l e (ti_rm 0) s m args below meth c H locs 0 0 Q (F0 m 48 ls []) := by
    intro n_15
    induction n_15 with
    | zero => intro x_8 M_11 H locs ls hf_15; exact absurd hf_15 (Nat.not_lt_zero _)
    | succ n_15 ih_15 =>
      intro x_8 M_11 H locs ls hf_15 b_9 b_10 iM_11 f_12 f_13 j_14 hw hl
      refine lv_iload_n hx hb dX10_starts_48 rfl (lv_at hl 0 rfl) ?_
      refine lv_aload_n hx hb dX10_starts_49 rfl (lv_at hl 1 rfl) ?_
      refine ti_get (ci := 10) (k := 3) (N := 67) (T := TX10) (v := .ref (A 60 4)) C hw iw_10 rfl ob_60 (by decide) (by decide) fl_X10_13 rfl rfl dX10_starts_50 ?_
      refine lv_iconst (v := 0) hx hb dX10_starts_53 (by decide) ?_
      refine ti_iald (ci := 10) (k := 3) (n := 22) C hw ob_60 (by decide) (fun _ _ => rfl) (by unfold vp_in; decide) dX10_starts_54 ?_
      refine lv_topi (fun x_16 ex_16 => ?_)
      have yx_16 : tY M_11 60 3 0 = x_16 := ((congrArg _ (by decide)).symm.trans ex_16.symm)
      have bx_16 : 0 ≤ x_16.toInt ∧ x_16.toInt ≤ 8 := mI_rn (i := 0) iM_11 yx_16.symm (fun _ h => h)
      have zx_16 : (tY M_11 60 3 0).toInt = x_16.toInt := by rw [yx_16]
      have wx_16 : tY M 60 3 0 = x_16 := ((cg (f_12.1 3 (by decide) (by decide)) 0)).symm.trans yx_16
      have zwx_16 : (tY M 60 3 0).toInt = x_16.toInt := by rw [wx_16]
      refine sb_icmp_ge (tgt := 150) hx hb rfl rfl dX10_starts_55 (by decide) (fun c_55_16 => ?_) (fun c_55_16 => ?_)
      · refine lv_iconst (v := 0) hx hb dX10_starts_150 (by decide) ?_
        refine lv_istore_n (lv' := [(2, .int 0), (0, .ref (A 60 0)), (1, .int 0)]) hx hb dX10_starts_151 rfl hl (by decide) rfl (fun ls hl => ?_)
        have hl_152_38 : ∀ (n_39 : Nat) (x_32 : Int32) (M_35 : ti_M) (H : Heap) (locs : List Loc) (ls : Array Slot), (3 - x_32.toInt : Int).toNat < n_39 → (0 ≤ x_32.toInt) → (x_32.toInt ≤ 3) → (mI Tm M_35) → (lk M_35 M) → (tI M_35 60 19 = tI M 60 19) → (stq M M_35 0 (tY M 60 3 0).toInt) → ti_H ti_LM D A cy H0 M_35 H locs → lv_has ls 4 [(2, .int x_32), (0, .ref (A 60 0)), (1, .int 0)] → W p l e (ti_rm 0) s m args below meth c H locs 0 0 Q (F0 m 152 ls []) := by
          intro n_39
          induction n_39 with
          | zero => intro x_32 M_35 H locs ls hf_39; exact absurd hf_39 (Nat.not_lt_zero _)
          | succ n_39 ih_39 =>
            intro x_32 M_35 H locs ls hf_39 b_33 b_34 iM_35 f_36 f_37 j_38 hw hl
            refine lv_iload_n hx hb dX10_starts_152 rfl (lv_at hl 0 rfl) ?_
            refine lv_iconst (v := 3) hx hb dX10_starts_153 (by decide) ?_
            refine sb_icmp_ge (tgt := 182) hx hb rfl (by decide : (3 : Int32).toInt = 3) dX10_starts_154 (by decide) (fun c_154_39 => ?_) (fun c_154_39 => ?_)
            · have jj := q_start hI j_38 f_36
              exact hQ _ _ _ _ _ hw (⟨iM_35, jj.1, jj.2.1, jj.2.2, (f_37)⟩) dX10_starts_182
            · refine lv_aload_n hx hb dX10_starts_157 rfl (lv_at hl 1 rfl) ?_
              refine ti_get (ci := 10) (k := 49) (N := 67) (T := TX10) (v := .ref (A 60 50)) C hw iw_10 rfl ob_60 (by decide) (by decide) fl_X10_114 rfl rfl dX10_starts_158 ?_
              refine lv_iconst (v := 3) hx hb dX10_starts_161 (by decide) ?_
              refine lv_iload_n hx hb dX10_starts_162 rfl (lv_at hl 2 rfl) ?_
              refine lv_imul hx hb dX10_starts_163 ?_
              refine ti_top (y := 0) (by decide) ?_
              refine lv_iload_n hx hb dX10_starts_164 rfl (lv_at hl 0 rfl) ?_
              refine lv_iadd hx hb dX10_starts_165 ?_
              refine lv_topi (fun x_41 ex_41 => ?_)
              have tx_41 : x_41.toInt = 0 + x_32.toInt := i_add ex_41 (by decide : (0 : Int32).toInt = 0) rfl (by omega) (by omega)
              refine lv_aload_n hx hb dX10_starts_166 rfl (lv_at hl 1 rfl) ?_
              refine ti_get (ci := 10) (k := 3) (N := 67) (T := TX10) (v := .ref (A 60 4)) C hw iw_10 rfl ob_60 (by decide) (by decide) fl_X10_13 rfl rfl dX10_starts_167 ?_
              refine lv_bipush (v := 8) hx hb dX10_starts_170 (by decide) ?_
              refine lv_iload_n hx hb dX10_starts_172 rfl (lv_at hl 0 rfl) ?_
              refine lv_iadd hx hb dX10_starts_173 ?_
              refine lv_topi (fun x_42 ex_42 => ?_)
              have tx_42 : x_42.toInt = 8 + x_32.toInt := i_add ex_42 (by decide : (8 : Int32).toInt = 8) rfl (by omega) (by omega)
              refine ti_iald (ci := 10) (k := 3) (n := 22) C hw ob_60 (by decide) (fun _ _ => rfl) (vp_in_iff.mpr (by omega)) dX10_starts_174 ?_
              refine lv_topi (fun x_43 ex_43 => ?_)
              have yx_43 : tY M_35 60 3 x_42.toNatClampNeg = x_43 := (ex_43.symm)
              have bx_43 : 0 ≤ x_43.toInt ∧ x_43.toInt ≤ 7 := mI_rn (i := x_42.toNatClampNeg) iM_35 yx_43.symm (fun _ h => mN_p (by show 8 ≤ (x_42).toInt.toNat; omega) (by show (x_42).toInt.toNat ≤ 10; omega) h)
              have zx_43 : (tY M_35 60 3 x_42.toNatClampNeg).toInt = x_43.toInt := by rw [yx_43]
              have wx_43 : tY M 60 3 x_42.toNatClampNeg = x_43 := ((cg (f_36.1 3 (by decide) (by decide)) x_42.toNatClampNeg)).symm.trans yx_43
              have zwx_43 : (tY M 60 3 x_42.toNatClampNeg).toInt = x_43.toInt := by rw [wx_43]
              refine ti_iast (ci := 10) (k := 49) (n := 69) C hw ob_60 (by decide) (fun _ _ => rfl) (vp_in_iff.mpr (by omega)) dX10_starts_175 (fun H locs hw => ?_)
              obtain ⟨M_44, hM_44⟩ : ∃ z : ti_M, z = uY M_35 60 49 (upd (tY M_35 60 49) (x_41 : Int32).toNatClampNeg x_43) := ⟨_, rfl⟩
              have hw := hw.to hM_44.symm
              have iM_44 : mI Tm M_44 := mI_up (i := x_41.toNatClampNeg) iM_35 hM_44 (ib_mk (lo := 0) (hi := 7) (by omega) (by omega))
              obtain ⟨x_45, ex_45⟩ : ∃ z : Int32, z = x_32 + 1 := ⟨_, rfl⟩
              have tx_45 : x_45.toInt = x_32.toInt + 1 := i_add ex_45 rfl (by decide) (by omega) (by omega)
              refine lv_iinc (v := x_45) (lv' := [(2, .int x_45), (0, .ref (A 60 0)), (1, .int 0)]) hx hb dX10_starts_176 hl (k := 0) rfl (by rw [ex_45]; rfl) (by decide) rfl (fun ls hl => ?_)
              refine lv_goto (tgt := 152) hx hb dX10_starts_179 (by decide) ?_
              exact ih_39 x_45 M_44 _ _ _ (by omega) (by first | omega | decide) (by first | omega | decide) iM_44 (lk.trans (lk_Y hM_44 (by decide)) f_36) ((tI_uYE hM_44).trans f_37) (stq_qw j_38 (qw_Y hM_44 (by decide))) hw (lv_sub hl [0, 1, 2] rfl)
        exact hl_152_38 ((3 - 0 : Int).toNat + 1) 0 M_11 _ _ _ (Nat.lt_succ_self _) (by have lt0 : (0 : Int32).toInt = 0 := (by decide); first | omega | decide) (by have lt0 : (0 : Int32).toInt = 0 := (by decide); first | omega | decide) iM_11 f_12 (f_13) (stq_le j_14 (by omega)) hw (lv_sub hl [0, 1, 2] rfl)
      · refine lv_bipush (v := 8) hx hb dX10_starts_58 (by decide) ?_
        refine lv_iload_n hx hb dX10_starts_60 rfl (lv_at hl 2 rfl) ?_
        refine lv_imul hx hb dX10_starts_61 ?_
        refine ti_top (y := 0) (by decide) ?_
        refine lv_iload_n hx hb dX10_starts_62 rfl (lv_at hl 0 rfl) ?_
        refine lv_iadd hx hb dX10_starts_63 ?_
        refine lv_topi (fun x_18 ex_18 => ?_)
        have tx_18 : x_18.toInt = 0 + x_8.toInt := i_add ex_18 (by decide : (0 : Int32).toInt = 0) rfl (by omega) (by omega)
        refine lv_istore_n (lv' := [(3, .int x_18), (2, .int x_8), (0, .ref (A 60 0)), (1, .int 0)]) hx hb dX10_starts_64 rfl hl (by decide) rfl (fun ls hl => ?_)
        refine lv_aload_n hx hb dX10_starts_65 rfl (lv_at hl 2 rfl) ?_
        refine ti_get (ci := 10) (k := 40) (N := 67) (T := TX10) (v := .ref (A 60 41)) C hw iw_10 rfl ob_60 (by decide) (by decide) fl_X10_87 rfl rfl dX10_starts_66 ?_
        refine lv_iload_n hx hb dX10_starts_69 rfl (lv_at hl 0 rfl) ?_
        refine lv_iconst (v := 0) hx hb dX10_starts_70 (by decide) ?_
        refine ti_iast (ci := 10) (k := 40) (n := 184) C hw ob_60 (by decide) (fun _ _ => rfl) (vp_in_iff.mpr (by omega)) dX10_starts_71 (fun H locs hw => ?_)
        obtain ⟨M_19, hM_19⟩ : ∃ z : ti_M, z = uY M_11 60 40 (upd (tY M_11 60 40) (x_18 : Int32).toNatClampNeg 0) := ⟨_, rfl⟩
        have hw := hw.to hM_19.symm
        have iM_19 : mI Tm M_19 := mI_up (i := x_18.toNatClampNeg) iM_11 hM_19 trivial
        refine lv_aload_n hx hb dX10_starts_72 rfl (lv_at hl 2 rfl) ?_
        refine ti_get (ci := 10) (k := 41) (N := 67) (T := TX10) (v := .ref (A 60 42)) C hw iw_10 rfl ob_60 (by decide) (by decide) fl_X10_90 rfl rfl dX10_starts_73 ?_
        refine lv_iload_n hx hb dX10_starts_76 rfl (lv_at hl 0 rfl) ?_
        refine lv_aload_n hx hb dX10_starts_77 rfl (lv_at hl 2 rfl) ?_
        refine ti_get (ci := 10) (k := 7) (N := 67) (T := TX10) (v := .ref (A 60 8)) C hw iw_10 rfl ob_60 (by decide) (by decide) fl_X10_25 rfl rfl dX10_starts_78 ?_
        refine lv_iload_n hx hb dX10_starts_81 rfl (lv_at hl 1 rfl) ?_
        refine ti_iald (ci := 10) (k := 7) (n := 16) C hw ob_60 (by decide) (fun _ _ => rfl) (vp_in_iff.mpr (by omega)) dX10_starts_82 ?_
        refine lv_topi (fun x_20 ex_20 => ?_)
        have yx_20 : tY M_19 60 7 x_8.toNatClampNeg = x_20 := (ex_20.symm)
        have wx_20 : tY M 60 7 x_8.toNatClampNeg = x_20 := (((cg (tY_nE hM_19 (nk (by decide))) x_8.toNatClampNeg).trans (cg (f_12.1 7 (by decide) (by decide)) x_8.toNatClampNeg))).symm.trans yx_20
        refine ti_iast (ci := 10) (k := 41) (n := 184) C hw ob_60 (by decide) (fun _ _ => rfl) (vp_in_iff.mpr (by omega)) dX10_starts_83 (fun H locs hw => ?_)
        obtain ⟨M_21, hM_21⟩ : ∃ z : ti_M, z = uY M_19 60 41 (upd (tY M_19 60 41) (x_18 : Int32).toNatClampNeg x_20) := ⟨_, rfl⟩
        have hw := hw.to hM_21.symm
        have iM_21 : mI Tm M_21 := mI_up (i := x_18.toNatClampNeg) iM_19 hM_21 trivial
        refine lv_aload_n hx hb dX10_starts_84 rfl (lv_at hl 2 rfl) ?_
        refine ti_get (ci := 10) (k := 42) (N := 67) (T := TX10) (v := .ref (A 60 43)) C hw iw_10 rfl ob_60 (by decide) (by decide) fl_X10_93 rfl rfl dX10_starts_85 ?_
        refine lv_iload_n hx hb dX10_starts_88 rfl (lv_at hl 0 rfl) ?_
        refine lv_iconst (v := 0) hx hb dX10_starts_89 (by decide) ?_
        refine ti_iast (ci := 10) (k := 42) (n := 184) C hw ob_60 (by decide) (fun _ _ => rfl) (vp_in_iff.mpr (by omega)) dX10_starts_90 (fun H locs hw => ?_)
        obtain ⟨M_22, hM_22⟩ : ∃ z : ti_M, z = uY M_21 60 42 (upd (tY M_21 60 42) (x_18 : Int32).toNatClampNeg 0) := ⟨_, rfl⟩
        have hw := hw.to hM_22.symm
        have iM_22 : mI Tm M_22 := mI_up (i := x_18.toNatClampNeg) iM_21 hM_22 trivial
        refine lv_aload_n hx hb dX10_starts_91 rfl (lv_at hl 2 rfl) ?_
        refine ti_get (ci := 10) (k := 43) (N := 67) (T := TX10) (v := .ref (A 60 44)) C hw iw_10 rfl ob_60 (by decide) (by decide) fl_X10_96 rfl rfl dX10_starts_92 ?_
        refine lv_iload_n hx hb dX10_starts_95 rfl (lv_at hl 0 rfl) ?_
        refine lv_aload_n hx hb dX10_starts_96 rfl (lv_at hl 2 rfl) ?_
        refine ti_get (ci := 10) (k := 9) (N := 67) (T := TX10) (v := .ref (A 60 10)) C hw iw_10 rfl ob_60 (by decide) (by decide) fl_X10_31 rfl rfl dX10_starts_97 ?_
        refine lv_iload_n hx hb dX10_starts_100 rfl (lv_at hl 1 rfl) ?_
        refine ti_iald (ci := 10) (k := 9) (n := 16) C hw ob_60 (by decide) (fun _ _ => rfl) (vp_in_iff.mpr (by omega)) dX10_starts_101 ?_
        refine lv_topi (fun x_23 ex_23 => ?_)
        have yx_23 : tY M_22 60 9 x_8.toNatClampNeg = x_23 := (ex_23.symm)
        have wx_23 : tY M 60 9 x_8.toNatClampNeg = x_23 := (((cg (tY_nE hM_22 (nk (by decide))) x_8.toNatClampNeg).trans ((cg (tY_nE hM_21 (nk (by decide))) x_8.toNatClampNeg).trans ((cg (tY_nE hM_19 (nk (by decide))) x_8.toNatClampNeg).trans (cg (f_12.1 9 (by decide) (by decide)) x_8.toNatClampNeg))))).symm.trans yx_23
        refine ti_iast (ci := 10) (k := 43) (n := 184) C hw ob_60 (by decide) (fun _ _ => rfl) (vp_in_iff.mpr (by omega)) dX10_starts_102 (fun H locs hw => ?_)
        obtain ⟨M_24, hM_24⟩ : ∃ z : ti_M, z = uY M_22 60 43 (upd (tY M_22 60 43) (x_18 : Int32).toNatClampNeg x_23) := ⟨_, rfl⟩
        have hw := hw.to hM_24.symm
        have iM_24 : mI Tm M_24 := mI_up (i := x_18.toNatClampNeg) iM_22 hM_24 trivial
        refine lv_aload_n hx hb dX10_starts_103 rfl (lv_at hl 2 rfl) ?_
        refine ti_get (ci := 10) (k := 44) (N := 67) (T := TX10) (v := .ref (A 60 45)) C hw iw_10 rfl ob_60 (by decide) (by decide) fl_X10_99 rfl rfl dX10_starts_104 ?_
        refine lv_iload_n hx hb dX10_starts_107 rfl (lv_at hl 0 rfl) ?_
        refine lv_aload_n hx hb dX10_starts_108 rfl (lv_at hl 2 rfl) ?_
        refine ti_get (ci := 10) (k := 11) (N := 67) (T := TX10) (v := .ref (A 60 12)) C hw iw_10 rfl ob_60 (by decide) (by decide) fl_X10_37 rfl rfl dX10_starts_109 ?_
        refine lv_iload_n hx hb dX10_starts_112 rfl (lv_at hl 1 rfl) ?_
        refine ti_iald (ci := 10) (k := 11) (n := 16) C hw ob_60 (by decide) (fun _ _ => rfl) (vp_in_iff.mpr (by omega)) dX10_starts_113 ?_
        refine lv_topi (fun x_25 ex_25 => ?_)
        have yx_25 : tY M_24 60 11 x_8.toNatClampNeg = x_25 := (ex_25.symm)
        have wx_25 : tY M 60 11 x_8.toNatClampNeg = x_25 := (((cg (tY_nE hM_24 (nk (by decide))) x_8.toNatClampNeg).trans ((cg (tY_nE hM_22 (nk (by decide))) x_8.toNatClampNeg).trans ((cg (tY_nE hM_21 (nk (by decide))) x_8.toNatClampNeg).trans ((cg (tY_nE hM_19 (nk (by decide))) x_8.toNatClampNeg).trans (cg (f_12.1 11 (by decide) (by decide)) x_8.toNatClampNeg)))))).symm.trans yx_25
        refine ti_iast (ci := 10) (k := 44) (n := 184) C hw ob_60 (by decide) (fun _ _ => rfl) (vp_in_iff.mpr (by omega)) dX10_starts_114 (fun H locs hw => ?_)
        obtain ⟨M_26, hM_26⟩ : ∃ z : ti_M, z = uY M_24 60 44 (upd (tY M_24 60 44) (x_18 : Int32).toNatClampNeg x_25) := ⟨_, rfl⟩
        have hw := hw.to hM_26.symm
        have iM_26 : mI Tm M_26 := mI_up (i := x_18.toNatClampNeg) iM_24 hM_26 trivial
        refine lv_aload_n hx hb dX10_starts_115 rfl (lv_at hl 2 rfl) ?_
        refine ti_get (ci := 10) (k := 45) (N := 67) (T := TX10) (v := .ref (A 60 46)) C hw iw_10 rfl ob_60 (by decide) (by decide) fl_X10_102 rfl rfl dX10_starts_116 ?_
        refine lv_iload_n hx hb dX10_starts_119 rfl (lv_at hl 0 rfl) ?_
        refine lv_iconst (v := 0) hx hb dX10_starts_120 (by decide) ?_
        refine ti_iast (ci := 10) (k := 45) (n := 184) C hw ob_60 (by decide) (fun _ _ => rfl) (vp_in_iff.mpr (by omega)) dX10_starts_121 (fun H locs hw => ?_)
        obtain ⟨M_27, hM_27⟩ : ∃ z : ti_M, z = uY M_26 60 45 (upd (tY M_26 60 45) (x_18 : Int32).toNatClampNeg 0) := ⟨_, rfl⟩
        have hw := hw.to hM_27.symm
        have iM_27 : mI Tm M_27 := mI_up (i := x_18.toNatClampNeg) iM_26 hM_27 trivial
        refine lv_aload_n hx hb dX10_starts_122 rfl (lv_at hl 2 rfl) ?_
        refine ti_get (ci := 10) (k := 46) (N := 67) (T := TX10) (v := .ref (A 60 47)) C hw iw_10 rfl ob_60 (by decide) (by decide) fl_X10_105 rfl rfl dX10_starts_123 ?_
        refine lv_iload_n hx hb dX10_starts_126 rfl (lv_at hl 0 rfl) ?_
        refine lv_iconst (v := 0) hx hb dX10_starts_127 (by decide) ?_
        refine ti_iast (ci := 10) (k := 46) (n := 184) C hw ob_60 (by decide) (fun _ _ => rfl) (vp_in_iff.mpr (by omega)) dX10_starts_128 (fun H locs hw => ?_)
        obtain ⟨M_28, hM_28⟩ : ∃ z : ti_M, z = uY M_27 60 46 (upd (tY M_27 60 46) (x_18 : Int32).toNatClampNeg 0) := ⟨_, rfl⟩
        have hw := hw.to hM_28.symm
        have iM_28 : mI Tm M_28 := mI_up (i := x_18.toNatClampNeg) iM_27 hM_28 trivial
        refine lv_aload_n hx hb dX10_starts_129 rfl (lv_at hl 2 rfl) ?_
        refine ti_get (ci := 10) (k := 47) (N := 67) (T := TX10) (v := .ref (A 60 48)) C hw iw_10 rfl ob_60 (by decide) (by decide) fl_X10_108 rfl rfl dX10_starts_130 ?_
        refine lv_iload_n hx hb dX10_starts_133 rfl (lv_at hl 0 rfl) ?_
        refine lv_iconst (v := 0) hx hb dX10_starts_134 (by decide) ?_
        refine ti_iast (ci := 10) (k := 47) (n := 184) C hw ob_60 (by decide) (fun _ _ => rfl) (vp_in_iff.mpr (by omega)) dX10_starts_135 (fun H locs hw => ?_)
        obtain ⟨M_29, hM_29⟩ : ∃ z : ti_M, z = uY M_28 60 47 (upd (tY M_28 60 47) (x_18 : Int32).toNatClampNeg 0) := ⟨_, rfl⟩
        have hw := hw.to hM_29.symm
        have iM_29 : mI Tm M_29 := mI_up (i := x_18.toNatClampNeg) iM_28 hM_29 trivial
        refine lv_aload_n hx hb dX10_starts_136 rfl (lv_at hl 2 rfl) ?_
        refine ti_get (ci := 10) (k := 48) (N := 67) (T := TX10) (v := .ref (A 60 49)) C hw iw_10 rfl ob_60 (by decide) (by decide) fl_X10_111 rfl rfl dX10_starts_137 ?_
        refine lv_iload_n hx hb dX10_starts_140 rfl (lv_at hl 0 rfl) ?_
        refine lv_bipush (v := (-2)) hx hb dX10_starts_141 (by decide) ?_
        refine ti_iast (ci := 10) (k := 48) (n := 184) C hw ob_60 (by decide) (fun _ _ => rfl) (vp_in_iff.mpr (by omega)) dX10_starts_143 (fun H locs hw => ?_)
        obtain ⟨M_30, hM_30⟩ : ∃ z : ti_M, z = uY M_29 60 48 (upd (tY M_29 60 48) (x_18 : Int32).toNatClampNeg (-2)) := ⟨_, rfl⟩
        have hw := hw.to hM_30.symm
        have iM_30 : mI Tm M_30 := mI_up (i := x_18.toNatClampNeg) iM_29 hM_30 trivial
        obtain ⟨x_31, ex_31⟩ : ∃ z : Int32, z = x_8 + 1 := ⟨_, rfl⟩
        have tx_31 : x_31.toInt = x_8.toInt + 1 := i_add ex_31 rfl (by decide) (by omega) (by omega)
        refine lv_iinc (v := x_31) (lv' := [(2, .int x_31), (3, .int x_18), (0, .ref (A 60 0)), (1, .int 0)]) hx hb dX10_starts_144 hl (k := 1) rfl (by rw [ex_31]; rfl) (by decide) rfl (fun ls hl => ?_)
        refine lv_goto (tgt := 48) hx hb dX10_starts_147 (by decide) ?_
        exact ih_15 x_31 M_30 _ _ _ (by omega) (by first | omega | decide) (by first | omega | decide) iM_30 (lk.trans (lk_Y hM_30 (by decide)) (lk.trans (lk_Y hM_29 (by decide)) (lk.trans (lk_Y hM_28 (by decide)) (lk.trans (lk_Y hM_27 (by decide)) (lk.trans (lk_Y hM_26 (by decide)) (lk.trans (lk_Y hM_24 (by decide)) (lk.trans (lk_Y hM_22 (by decide)) (lk.trans (lk_Y hM_21 (by decide)) (lk.trans (lk_Y hM_19 (by decide)) f_12))))))))) ((tI_uYE hM_30).trans ((tI_uYE hM_29).trans ((tI_uYE hM_28).trans ((tI_uYE hM_27).trans ((tI_uYE hM_26).trans ((tI_uYE hM_24).trans ((tI_uYE hM_22).trans ((tI_uYE hM_21).trans ((tI_uYE hM_19).trans f_13))))))))) (stq_s j_14 hM_19 (qw.trans (qw_Y hM_30 (by decide)) (qw.trans (qw_Y hM_29 (by decide)) (qw.trans (qw_Y hM_28 (by decide)) (qw.trans (qw_Y hM_27 (by decide)) (qw.trans (qw_Y hM_26 (by decide)) (qw.trans (qw_Y hM_24 (by decide)) (qw.trans (qw_Y hM_22 (by decide)) (qw_Y hM_21 (by decide))))))))) (by show ((x_18.toInt.toNat : Nat) : Int) = _; omega) (by omega) (by omega) (by omega)) hw (lv_sub hl [0, 2, 3] rfl)
  exact hl_48_14 ((8 - 0 : Int).toNat + 1) 0 M_7 _ _ _ (Nat.lt_succ_self _) (by have lt0 : (0 : Int32).toInt = 0 := (by decide); first | omega | decide) (by have lt0 : (0 : Int32).toInt = 0 := (by decide); first | omega | decide) iM_7 (lk.trans (lk_Y hM_7 (by decide)) (lk.trans (lk_Y hM_6 (by decide)) (lk.trans (lk_Y hM_5 (by decide)) (lk.trans (lk_Y hM_3 (by decide)) (lk_Y hM_1 (by decide)))))) ((tI_uYE hM_7).trans ((tI_uYE hM_6).trans ((tI_uYE hM_5).trans ((tI_uYE hM_3).trans (tI_uYE hM_1))))) (stq_0 (qw.trans (qw_Y hM_6 (by decide)) (qw.trans (qw_Y hM_5 (by decide)) (qw.trans (qw_Y hM_3 (by decide)) (qw_Y hM_1 (by decide))))) hM_7 (by decide)) hw (lv_sub hl [0, 1, 2] rfl)
set_option maxHeartbeats 4000000 in
set_option maxRecDepth 100000 in
theorem x_X10_begins (l : Launch) (D : va_G) (A : Nat → Nat → Nat) (cy : Nat → ClassId) (hJ : ti_inj ti_LM A) (M : ti_M) (hI : mI Tm M)  : ti_Kv l yX10_begins cX10_begins 1 1 ti_LM D A cy M [.ref (A 60 0)] (fun M2 => mI Tm M2 ∧ rq 0 M2 M ∧ mC M2 0 ∧ mP M2 0 ∧ tI M2 60 19 = tI M 60 19) := by
  refine ti_eV yp_X10_begins hJ ti_LM_nd (Nat.le_of_ble_eq_true rfl) ?_
  intro p e s m args below meth c Q H0 C hQ hw ls hl
  have hx := C.1
  have hb := C.2.1
  have hl : lv_has ls 1 [(0, .ref (A 60 0))] := hl
  refine lv_aload_n hx hb dX10_begins_0 rfl (lv_at hl 0 rfl) ?_
  refine lv_iconst (v := 0) hx hb dX10_begins_1 (by decide) ?_
  refine ti_callVv (ci := 10) (av := [.int 0]) C hw (x_X10_starts_0 l D A cy hJ M hI ) ⟨ml_X10_353, ym_X10_starts, yv_X10_starts, yi_X10_starts, yc_X10_starts⟩ yd_X10_starts ob_60 (by decide) rfl rfl hl.1 (Nat.le_of_ble_eq_true rfl) ⟨by decide, by decide⟩ ⟨Nat.zero_le _, Nat.zero_le _⟩ dX10_begins_2 (fun M_2 H locs hp_2 hw => ?_)
  obtain ⟨iM_2, q_3, q_4, q_5, q_6⟩ := hp_2
  exact hQ _ _ _ _ _ hw (⟨iM_2, q_3, q_4, q_5, q_6⟩) dX10_begins_5
set_option maxHeartbeats 4000000 in
set_option maxRecDepth 100000 in
theorem x_X10_text (l : Launch) (D : va_G) (A : Nat → Nat → Nat) (cy : Nat → ClassId) (hJ : ti_inj ti_LM A) (M : ti_M) (hI : mI Tm M) (hF : mF Tm M) (nn : Int32) (B J : Nat → Int) (hB0 : nn.toInt ≤ (tI M 60 2).toInt → ∀ i : Nat, i < nn.toInt.toNat → (tY M 60 1 i).toInt = B i) : ti_KiE l yX10_text cX10_text 3 (some .int) 652 ti_LM D A cy M [.ref (A 60 0), .int nn] (fun r M2 => ((nn.toInt < 0 ∨ (tI M 60 2).toInt < nn.toInt) ∧ r.toInt = -2 ∧ mF Tm M2 ∧ tI M2 60 2 = tI M 60 2) ∨ (¬ (nn.toInt < 0 ∨ (tI M 60 2).toInt < nn.toInt) ∧ tI M2 60 2 = 0 ∧ mF (mG M2) M2 ∧ r.toInt = pp_an (pp_tx B nn.toInt.toNat J) ∧ (tI M2 60 27).toInt = (pp_tx B nn.toInt.toNat J) 4 ∧ (tI M2 60 28).toInt = (pp_tx B nn.toInt.toNat J) 5)) := by
  refine ti_eIE yp_X10_text hJ ti_LM_nd (Nat.le_of_ble_eq_true rfl) ?_
  intro p e s m args below meth c Q H0 C hE hQ hw ls hl
  have hx := C.1
  have hb := C.2.1
  have hl : lv_has ls 3 [(0, .ref (A 60 0)), (1, .int nn)] := hl
  refine lv_aload_n hx hb dX10_text_0 rfl (lv_at hl 0 rfl) ?_
  refine lv_iconst (v := 0) hx hb dX10_text_1 (by decide) ?_
  refine ti_putI (ci := 10) (k := 0) (N := 67) (T := TX10) C hw iw_10 tyX10 tyX10_ok nmX10 rfl ob_60 (by decide) (by decide) fl_X10_154 rfl rfl rfl rfl (fn_10 A _) fs_10_0 dX10_text_2 (fun H locs hw => ?_)
  obtain ⟨M_1, hM_1⟩ : ∃ z : ti_M, z = uI M 60 0 0 := ⟨_, rfl⟩
  have hw := hw.to hM_1.symm
  have iM_1 : mI Tm M_1 := mI_uI hI hM_1 (by decide) (by decide) trivial
  refine lv_iload_n hx hb dX10_text_5 rfl (lv_at hl 1 rfl) ?_
  have hj_17_5 : ∀  (H : Heap) (locs : List Loc) (ls : Array Slot), ((nn.toInt < 0 ∨ (tI M 60 2).toInt < nn.toInt)) → ti_H ti_LM D A cy H0 M_1 H locs → lv_has ls 3 [(0, .ref (A 60 0)), (1, .int nn)] → W p l e (ti_rm 652) s m args below meth c H locs 0 0 Q (F0 m 17 ls []) := by
    intro  H locs ls j_5 hw hl
    refine lv_bipush (v := (-2)) hx hb dX10_text_17 (by decide) ?_
    exact hQ _ _ _ _ _ _ hw rfl (Or.inl ⟨by omega, by decide, mF_qw hF iM_1 (qw_I hM_1 (by decide)), (tI_nE hM_1 (nk (by decide)))⟩) dX10_text_19
  refine sb_if_lt (tgt := 17) hx hb rfl dX10_text_6 (by decide) (fun c_6_1 => ?_) (fun c_6_1 => ?_)
  · exact hj_17_5  _ _ _ (by first | omega | decide) hw (lv_sub hl [0, 1] rfl)
  · refine lv_iload_n hx hb dX10_text_9 rfl (lv_at hl 1 rfl) ?_
    refine lv_aload_n hx hb dX10_text_10 rfl (lv_at hl 0 rfl) ?_
    refine ti_get (ci := 10) (k := 2) (N := 67) (T := TX10) C hw iw_10 rfl ob_60 (by decide) (by decide) fl_X10_157 rfl rfl dX10_text_11 ?_
    refine lv_topi (fun x_3 ex_3 => ?_)
    have bx_3 : 0 ≤ x_3.toInt ∧ x_3.toInt ≤ 700 := mI_rd iM_1 ex_3
    have ux_3 : (tI M_1 60 2).toInt = x_3.toInt := by rw [ex_3]
    have w2 : (tI M_1 60 2).toInt = (tI M 60 2).toInt := by rw [(tI_nE hM_1 (nk (by decide)))]
    refine sb_icmp_le (tgt := 20) hx hb rfl rfl dX10_text_14 (by decide) (fun c_14_3 => ?_) (fun c_14_3 => ?_)
    · refine lv_aload_n hx hb dX10_text_20 rfl (lv_at hl 0 rfl) ?_
      refine lv_iload_n hx hb dX10_text_21 rfl (lv_at hl 1 rfl) ?_
      refine ti_putI (ci := 10) (k := 20) (N := 67) (T := TX10) C hw iw_10 tyX10 tyX10_ok nmX10 rfl ob_60 (by decide) (by decide) fl_X10_163 rfl rfl rfl rfl (fn_10 A _) fs_10_20 dX10_text_22 (fun H locs hw => ?_)
      obtain ⟨M_6, hM_6⟩ : ∃ z : ti_M, z = uI M_1 60 20 nn := ⟨_, rfl⟩
      have hw := hw.to hM_6.symm
      have iM_6 : mI Tm M_6 := mI_uI iM_1 hM_6 (by decide) (by decide) (ib_mk (lo := 0) (hi := 700) (by omega) (by omega))
      have vM_6 : (tI M_6 60 20).toInt = (nn : Int32).toInt := by rw [tI_uE hM_6]
      refine lv_aload_n hx hb dX10_text_25 rfl (lv_at hl 0 rfl) ?_
      refine lv_iconst (v := 0) hx hb dX10_text_26 (by decide) ?_
      refine ti_putI (ci := 10) (k := 2) (N := 67) (T := TX10) C hw iw_10 tyX10 tyX10_ok nmX10 rfl ob_60 (by decide) (by decide) fl_X10_157 rfl rfl rfl rfl (fn_10 A _) fs_10_2 dX10_text_27 (fun H locs hw => ?_)
      obtain ⟨M_7, hM_7⟩ : ∃ z : ti_M, z = uI M_6 60 2 0 := ⟨_, rfl⟩
      have hw := hw.to hM_7.symm
      have iM_7 : mI Tm M_7 := mI_uI iM_6 hM_7 (by decide) (by decide) (ib_mk (lo := 0) (hi := 700) (by decide) (by decide))
      have vM_7 : (tI M_7 60 2).toInt = 0 := by rw [tI_uE hM_7]; decide
      refine lv_aload_n hx hb dX10_text_30 rfl (lv_at hl 0 rfl) ?_
      refine lv_iconst (v := 0) hx hb dX10_text_31 (by decide) ?_
      refine ti_putI (ci := 10) (k := 21) (N := 67) (T := TX10) C hw iw_10 tyX10 tyX10_ok nmX10 rfl ob_60 (by decide) (by decide) fl_X10_160 rfl rfl rfl rfl (fn_10 A _) fs_10_21 dX10_text_32 (fun H locs hw => ?_)
      obtain ⟨M_8, hM_8⟩ : ∃ z : ti_M, z = uI M_7 60 21 0 := ⟨_, rfl⟩
      have hw := hw.to hM_8.symm
      have iM_8 : mI Tm M_8 := mI_uI iM_7 hM_8 (by decide) (by decide) (ib_mk (lo := 0) (hi := 700) (by decide) (by decide))
      have vM_8 : (tI M_8 60 21).toInt = 0 := by rw [tI_uE hM_8]; decide
      refine lv_aload_n hx hb dX10_text_35 rfl (lv_at hl 0 rfl) ?_
      refine lv_iconst (v := 0) hx hb dX10_text_36 (by decide) ?_
      refine ti_putI (ci := 10) (k := 25) (N := 67) (T := TX10) C hw iw_10 tyX10 tyX10_ok nmX10 rfl ob_60 (by decide) (by decide) fl_X10_208 rfl rfl rfl rfl (fn_10 A _) fs_10_25 dX10_text_37 (fun H locs hw => ?_)
      obtain ⟨M_9, hM_9⟩ : ∃ z : ti_M, z = uI M_8 60 25 0 := ⟨_, rfl⟩
      have hw := hw.to hM_9.symm
      have iM_9 : mI Tm M_9 := mI_uI iM_8 hM_9 (by decide) (by decide) trivial
      refine lv_aload_n hx hb dX10_text_40 rfl (lv_at hl 0 rfl) ?_
      refine lv_iconst (v := (-1)) hx hb dX10_text_41 (by decide) ?_
      refine ti_putI (ci := 10) (k := 26) (N := 67) (T := TX10) C hw iw_10 tyX10 tyX10_ok nmX10 rfl ob_60 (by decide) (by decide) fl_X10_211 rfl rfl rfl rfl (fn_10 A _) fs_10_26 dX10_text_42 (fun H locs hw => ?_)
      obtain ⟨M_10, hM_10⟩ : ∃ z : ti_M, z = uI M_9 60 26 (-1) := ⟨_, rfl⟩
      have hw := hw.to hM_10.symm
      have iM_10 : mI Tm M_10 := mI_uI iM_9 hM_10 (by decide) (by decide) trivial
      refine lv_iconst (v := 0) hx hb dX10_text_45 (by decide) ?_
      refine lv_istore_n (lv' := [(2, .int 0), (0, .ref (A 60 0)), (1, .int nn)]) hx hb dX10_text_46 rfl hl (by decide) rfl (fun ls hl => ?_)
      refine lv_iload_n hx hb dX10_text_47 rfl (lv_at hl 0 rfl) ?_
      refine lv_bipush (v := 11) hx hb dX10_text_48 (by decide) ?_
      refine sb_icmp_ge (tgt := 120) hx hb (by decide : (0 : Int32).toInt = 0) (by decide : (11 : Int32).toInt = 11) dX10_text_50 (by decide) (fun h => absurd h (by decide)) (fun c_50_10 => ?_)
      refine lv_aload_n hx hb dX10_text_53 rfl (lv_at hl 1 rfl) ?_
      refine lv_iload_n hx hb dX10_text_54 rfl (lv_at hl 0 rfl) ?_
      refine lv_iload_n hx hb dX10_text_55 rfl (lv_at hl 0 rfl) ?_
      refine lv_iconst (v := 1) hx hb dX10_text_56 (by decide) ?_
      refine sb_icmp_ne (tgt := 66) hx hb (by decide : (0 : Int32).toInt = 0) (by decide : (1 : Int32).toInt = 1) dX10_text_57 (by decide) (fun c_57_11 => ?_) (fun h => absurd h (by decide))
      refine lv_iload_n hx hb dX10_text_66 rfl (lv_at hl 0 rfl) ?_
      refine lv_iconst (v := 2) hx hb dX10_text_67 (by decide) ?_
      refine sb_icmp_eq (tgt := 77) hx hb (by decide : (0 : Int32).toInt = 0) (by decide : (2 : Int32).toInt = 2) dX10_text_68 (by decide) (fun h => absurd h (by decide)) (fun c_68_12 => ?_)
      refine lv_iload_n hx hb dX10_text_71 rfl (lv_at hl 0 rfl) ?_
      refine lv_bipush (v := 10) hx hb dX10_text_72 (by decide) ?_
      refine sb_icmp_ne (tgt := 81) hx hb (by decide : (0 : Int32).toInt = 0) (by decide : (10 : Int32).toInt = 10) dX10_text_74 (by decide) (fun c_74_13 => ?_) (fun h => absurd h (by decide))
      refine lv_iload_n hx hb dX10_text_81 rfl (lv_at hl 0 rfl) ?_
      refine lv_iconst (v := 3) hx hb dX10_text_82 (by decide) ?_
      refine sb_icmp_ne (tgt := 91) hx hb (by decide : (0 : Int32).toInt = 0) (by decide : (3 : Int32).toInt = 3) dX10_text_83 (by decide) (fun c_83_14 => ?_) (fun h => absurd h (by decide))
      refine lv_iload_n hx hb dX10_text_91 rfl (lv_at hl 0 rfl) ?_
      refine lv_iconst (v := 4) hx hb dX10_text_92 (by decide) ?_
      refine sb_icmp_ne (tgt := 100) hx hb (by decide : (0 : Int32).toInt = 0) (by decide : (4 : Int32).toInt = 4) dX10_text_93 (by decide) (fun c_93_15 => ?_) (fun h => absurd h (by decide))
      refine lv_iload_n hx hb dX10_text_100 rfl (lv_at hl 0 rfl) ?_
      refine lv_bipush (v := 9) hx hb dX10_text_101 (by decide) ?_
      refine sb_icmp_ne (tgt := 110) hx hb (by decide : (0 : Int32).toInt = 0) (by decide : (9 : Int32).toInt = 9) dX10_text_103 (by decide) (fun c_103_16 => ?_) (fun h => absurd h (by decide))
      refine lv_iconst (v := 0) hx hb dX10_text_110 (by decide) ?_
      refine ti_callVv (ci := 10) (av := [.int 0, .int 0]) C hw (s_X10_reads l D A cy hJ M_10 iM_10 0 0 (by decide) (by decide) (by rw [show (11 + (0 : Int32).toInt).toNat = 11 by decide]; exact (ib_mk (lo := 0) (hi := 8) (by decide) (by decide)))) ⟨ml_X10_244, ym_X10_reads, yv_X10_reads, yi_X10_reads, yc_X10_reads⟩ yd_X10_reads ob_60 (by decide) rfl rfl hl.1 (Nat.le_of_ble_eq_true rfl) ⟨by decide, by decide⟩ ⟨Nat.zero_le _, Nat.zero_le _⟩ dX10_text_111 (fun M_19 H locs hp_19 hw => ?_)
      obtain ⟨iM_19, hM_19⟩ := hp_19
      rw [show (11 + (0 : Int32).toInt).toNat = 11 by decide] at hM_19
      refine lv_iinc (v := 1) (lv' := [(2, .int 1), (0, .ref (A 60 0)), (1, .int nn)]) hx hb dX10_text_114 hl (k := 0) rfl (by decide) (by decide) rfl (fun ls hl => ?_)
      refine lv_goto (tgt := 47) hx hb dX10_text_117 (by decide) ?_
      refine lv_iload_n hx hb dX10_text_47 rfl (lv_at hl 0 rfl) ?_
      refine lv_bipush (v := 11) hx hb dX10_text_48 (by decide) ?_
      refine sb_icmp_ge (tgt := 120) hx hb (by decide : (1 : Int32).toInt = 1) (by decide : (11 : Int32).toInt = 11) dX10_text_50 (by decide) (fun h => absurd h (by decide)) (fun c_50_19 => ?_)
      refine lv_aload_n hx hb dX10_text_53 rfl (lv_at hl 1 rfl) ?_
      refine lv_iload_n hx hb dX10_text_54 rfl (lv_at hl 0 rfl) ?_
      refine lv_iload_n hx hb dX10_text_55 rfl (lv_at hl 0 rfl) ?_
      refine lv_iconst (v := 1) hx hb dX10_text_56 (by decide) ?_
      refine sb_icmp_ne (tgt := 66) hx hb (by decide : (1 : Int32).toInt = 1) (by decide : (1 : Int32).toInt = 1) dX10_text_57 (by decide) (fun h => absurd h (by decide)) (fun c_57_20 => ?_)
      refine lv_sipush (v := 200) hx hb dX10_text_60 (by decide) ?_
      refine lv_goto (tgt := 111) hx hb dX10_text_63 (by decide) ?_
      refine ti_callVv (ci := 10) (av := [.int 1, .int 200]) C hw (s_X10_reads l D A cy hJ M_19 iM_19 1 200 (by decide) (by decide) (by rw [show (11 + (1 : Int32).toInt).toNat = 12 by decide]; exact trivial)) ⟨ml_X10_244, ym_X10_reads, yv_X10_reads, yi_X10_reads, yc_X10_reads⟩ yd_X10_reads ob_60 (by decide) rfl rfl hl.1 (Nat.le_of_ble_eq_true rfl) ⟨by decide, by decide⟩ ⟨Nat.zero_le _, Nat.zero_le _⟩ dX10_text_111 (fun M_23 H locs hp_23 hw => ?_)
      obtain ⟨iM_23, hM_23⟩ := hp_23
      rw [show (11 + (1 : Int32).toInt).toNat = 12 by decide] at hM_23
      have hs_24 := rQ_3x None hM_23 (by decide)
      refine lv_iinc (v := 2) (lv' := [(2, .int 2), (0, .ref (A 60 0)), (1, .int nn)]) hx hb dX10_text_114 hl (k := 0) rfl (by decide) (by decide) rfl (fun ls hl => ?_)
      refine lv_goto (tgt := 47) hx hb dX10_text_117 (by decide) ?_
      refine lv_iload_n hx hb dX10_text_47 rfl (lv_at hl 0 rfl) ?_
      refine lv_bipush (v := 11) hx hb dX10_text_48 (by decide) ?_
      refine sb_icmp_ge (tgt := 120) hx hb (by decide : (2 : Int32).toInt = 2) (by decide : (11 : Int32).toInt = 11) dX10_text_50 (by decide) (fun h => absurd h (by decide)) (fun c_50_24 => ?_)
      refine lv_aload_n hx hb dX10_text_53 rfl (lv_at hl 1 rfl) ?_
      refine lv_iload_n hx hb dX10_text_54 rfl (lv_at hl 0 rfl) ?_
      refine lv_iload_n hx hb dX10_text_55 rfl (lv_at hl 0 rfl) ?_
      refine lv_iconst (v := 1) hx hb dX10_text_56 (by decide) ?_
      refine sb_icmp_ne (tgt := 66) hx hb (by decide : (2 : Int32).toInt = 2) (by decide : (1 : Int32).toInt = 1) dX10_text_57 (by decide) (fun c_57_25 => ?_) (fun h => absurd h (by decide))
      refine lv_iload_n hx hb dX10_text_66 rfl (lv_at hl 0 rfl) ?_
      refine lv_iconst (v := 2) hx hb dX10_text_67 (by decide) ?_
      refine sb_icmp_eq (tgt := 77) hx hb (by decide : (2 : Int32).toInt = 2) (by decide : (2 : Int32).toInt = 2) dX10_text_68 (by decide) (fun c_68_26 => ?_) (fun h => absurd h (by decide))
      refine lv_iconst (v := 2) hx hb dX10_text_77 (by decide) ?_
      refine lv_goto (tgt := 111) hx hb dX10_text_78 (by decide) ?_
      refine ti_callVv (ci := 10) (av := [.int 2, .int 2]) C hw (s_X10_reads l D A cy hJ M_23 iM_23 2 2 (by decide) (by decide) (by rw [show (11 + (2 : Int32).toInt).toNat = 13 by decide]; exact trivial)) ⟨ml_X10_244, ym_X10_reads, yv_X10_reads, yi_X10_reads, yc_X10_reads⟩ yd_X10_reads ob_60 (by decide) rfl rfl hl.1 (Nat.le_of_ble_eq_true rfl) ⟨by decide, by decide⟩ ⟨Nat.zero_le _, Nat.zero_le _⟩ dX10_text_111 (fun M_29 H locs hp_29 hw => ?_)
      obtain ⟨iM_29, hM_29⟩ := hp_29
      rw [show (11 + (2 : Int32).toInt).toNat = 13 by decide] at hM_29
      have hs_30 := rQ_3x hs_24 hM_29 (by decide)
      refine lv_iinc (v := 3) (lv' := [(2, .int 3), (0, .ref (A 60 0)), (1, .int nn)]) hx hb dX10_text_114 hl (k := 0) rfl (by decide) (by decide) rfl (fun ls hl => ?_)
      refine lv_goto (tgt := 47) hx hb dX10_text_117 (by decide) ?_
      refine lv_iload_n hx hb dX10_text_47 rfl (lv_at hl 0 rfl) ?_
      refine lv_bipush (v := 11) hx hb dX10_text_48 (by decide) ?_
      refine sb_icmp_ge (tgt := 120) hx hb (by decide : (3 : Int32).toInt = 3) (by decide : (11 : Int32).toInt = 11) dX10_text_50 (by decide) (fun h => absurd h (by decide)) (fun c_50_30 => ?_)
      refine lv_aload_n hx hb dX10_text_53 rfl (lv_at hl 1 rfl) ?_
      refine lv_iload_n hx hb dX10_text_54 rfl (lv_at hl 0 rfl) ?_
      refine lv_iload_n hx hb dX10_text_55 rfl (lv_at hl 0 rfl) ?_
      refine lv_iconst (v := 1) hx hb dX10_text_56 (by decide) ?_
      refine sb_icmp_ne (tgt := 66) hx hb (by decide : (3 : Int32).toInt = 3) (by decide : (1 : Int32).toInt = 1) dX10_text_57 (by decide) (fun c_57_31 => ?_) (fun h => absurd h (by decide))
      refine lv_iload_n hx hb dX10_text_66 rfl (lv_at hl 0 rfl) ?_
      refine lv_iconst (v := 2) hx hb dX10_text_67 (by decide) ?_
      refine sb_icmp_eq (tgt := 77) hx hb (by decide : (3 : Int32).toInt = 3) (by decide : (2 : Int32).toInt = 2) dX10_text_68 (by decide) (fun h => absurd h (by decide)) (fun c_68_32 => ?_)
      refine lv_iload_n hx hb dX10_text_71 rfl (lv_at hl 0 rfl) ?_
      refine lv_bipush (v := 10) hx hb dX10_text_72 (by decide) ?_
      refine sb_icmp_ne (tgt := 81) hx hb (by decide : (3 : Int32).toInt = 3) (by decide : (10 : Int32).toInt = 10) dX10_text_74 (by decide) (fun c_74_33 => ?_) (fun h => absurd h (by decide))
      refine lv_iload_n hx hb dX10_text_81 rfl (lv_at hl 0 rfl) ?_
      refine lv_iconst (v := 3) hx hb dX10_text_82 (by decide) ?_
      refine sb_icmp_ne (tgt := 91) hx hb (by decide : (3 : Int32).toInt = 3) (by decide : (3 : Int32).toInt = 3) dX10_text_83 (by decide) (fun h => absurd h (by decide)) (fun c_83_34 => ?_)
      refine lv_bipush (v := 10) hx hb dX10_text_86 (by decide) ?_
      refine lv_goto (tgt := 111) hx hb dX10_text_88 (by decide) ?_
      refine ti_callVv (ci := 10) (av := [.int 3, .int 10]) C hw (s_X10_reads l D A cy hJ M_29 iM_29 3 10 (by decide) (by decide) (by rw [show (11 + (3 : Int32).toInt).toNat = 14 by decide]; exact (ib_mk (lo := 1) (hi := 30) (by decide) (by decide)))) ⟨ml_X10_244, ym_X10_reads, yv_X10_reads, yi_X10_reads, yc_X10_reads⟩ yd_X10_reads ob_60 (by decide) rfl rfl hl.1 (Nat.le_of_ble_eq_true rfl) ⟨by decide, by decide⟩ ⟨Nat.zero_le _, Nat.zero_le _⟩ dX10_text_111 (fun M_37 H locs hp_37 hw => ?_)
      obtain ⟨iM_37, hM_37⟩ := hp_37
      rw [show (11 + (3 : Int32).toInt).toNat = 14 by decide] at hM_37
      have hs_38 := rQ_3x hs_30 hM_37 (by decide)
      refine lv_iinc (v := 4) (lv' := [(2, .int 4), (0, .ref (A 60 0)), (1, .int nn)]) hx hb dX10_text_114 hl (k := 0) rfl (by decide) (by decide) rfl (fun ls hl => ?_)
      refine lv_goto (tgt := 47) hx hb dX10_text_117 (by decide) ?_
      refine lv_iload_n hx hb dX10_text_47 rfl (lv_at hl 0 rfl) ?_
      refine lv_bipush (v := 11) hx hb dX10_text_48 (by decide) ?_
      refine sb_icmp_ge (tgt := 120) hx hb (by decide : (4 : Int32).toInt = 4) (by decide : (11 : Int32).toInt = 11) dX10_text_50 (by decide) (fun h => absurd h (by decide)) (fun c_50_38 => ?_)
      refine lv_aload_n hx hb dX10_text_53 rfl (lv_at hl 1 rfl) ?_
      refine lv_iload_n hx hb dX10_text_54 rfl (lv_at hl 0 rfl) ?_
      refine lv_iload_n hx hb dX10_text_55 rfl (lv_at hl 0 rfl) ?_
      refine lv_iconst (v := 1) hx hb dX10_text_56 (by decide) ?_
      refine sb_icmp_ne (tgt := 66) hx hb (by decide : (4 : Int32).toInt = 4) (by decide : (1 : Int32).toInt = 1) dX10_text_57 (by decide) (fun c_57_39 => ?_) (fun h => absurd h (by decide))
      refine lv_iload_n hx hb dX10_text_66 rfl (lv_at hl 0 rfl) ?_
      refine lv_iconst (v := 2) hx hb dX10_text_67 (by decide) ?_
      refine sb_icmp_eq (tgt := 77) hx hb (by decide : (4 : Int32).toInt = 4) (by decide : (2 : Int32).toInt = 2) dX10_text_68 (by decide) (fun h => absurd h (by decide)) (fun c_68_40 => ?_)
      refine lv_iload_n hx hb dX10_text_71 rfl (lv_at hl 0 rfl) ?_
      refine lv_bipush (v := 10) hx hb dX10_text_72 (by decide) ?_
      refine sb_icmp_ne (tgt := 81) hx hb (by decide : (4 : Int32).toInt = 4) (by decide : (10 : Int32).toInt = 10) dX10_text_74 (by decide) (fun c_74_41 => ?_) (fun h => absurd h (by decide))
      refine lv_iload_n hx hb dX10_text_81 rfl (lv_at hl 0 rfl) ?_
      refine lv_iconst (v := 3) hx hb dX10_text_82 (by decide) ?_
      refine sb_icmp_ne (tgt := 91) hx hb (by decide : (4 : Int32).toInt = 4) (by decide : (3 : Int32).toInt = 3) dX10_text_83 (by decide) (fun c_83_42 => ?_) (fun h => absurd h (by decide))
      refine lv_iload_n hx hb dX10_text_91 rfl (lv_at hl 0 rfl) ?_
      refine lv_iconst (v := 4) hx hb dX10_text_92 (by decide) ?_
      refine sb_icmp_ne (tgt := 100) hx hb (by decide : (4 : Int32).toInt = 4) (by decide : (4 : Int32).toInt = 4) dX10_text_93 (by decide) (fun h => absurd h (by decide)) (fun c_93_43 => ?_)
      refine lv_iconst (v := 3) hx hb dX10_text_96 (by decide) ?_
      refine lv_goto (tgt := 111) hx hb dX10_text_97 (by decide) ?_
      refine ti_callVv (ci := 10) (av := [.int 4, .int 3]) C hw (s_X10_reads l D A cy hJ M_37 iM_37 4 3 (by decide) (by decide) (by rw [show (11 + (4 : Int32).toInt).toNat = 15 by decide]; exact trivial)) ⟨ml_X10_244, ym_X10_reads, yv_X10_reads, yi_X10_reads, yc_X10_reads⟩ yd_X10_reads ob_60 (by decide) rfl rfl hl.1 (Nat.le_of_ble_eq_true rfl) ⟨by decide, by decide⟩ ⟨Nat.zero_le _, Nat.zero_le _⟩ dX10_text_111 (fun M_46 H locs hp_46 hw => ?_)
      obtain ⟨iM_46, hM_46⟩ := hp_46
      rw [show (11 + (4 : Int32).toInt).toNat = 15 by decide] at hM_46
      have hs_47 := rQ_3x hs_38 hM_46 (by decide)
      refine lv_iinc (v := 5) (lv' := [(2, .int 5), (0, .ref (A 60 0)), (1, .int nn)]) hx hb dX10_text_114 hl (k := 0) rfl (by decide) (by decide) rfl (fun ls hl => ?_)
      refine lv_goto (tgt := 47) hx hb dX10_text_117 (by decide) ?_
      refine lv_iload_n hx hb dX10_text_47 rfl (lv_at hl 0 rfl) ?_
      refine lv_bipush (v := 11) hx hb dX10_text_48 (by decide) ?_
      refine sb_icmp_ge (tgt := 120) hx hb (by decide : (5 : Int32).toInt = 5) (by decide : (11 : Int32).toInt = 11) dX10_text_50 (by decide) (fun h => absurd h (by decide)) (fun c_50_47 => ?_)
      refine lv_aload_n hx hb dX10_text_53 rfl (lv_at hl 1 rfl) ?_
      refine lv_iload_n hx hb dX10_text_54 rfl (lv_at hl 0 rfl) ?_
      refine lv_iload_n hx hb dX10_text_55 rfl (lv_at hl 0 rfl) ?_
      refine lv_iconst (v := 1) hx hb dX10_text_56 (by decide) ?_
      refine sb_icmp_ne (tgt := 66) hx hb (by decide : (5 : Int32).toInt = 5) (by decide : (1 : Int32).toInt = 1) dX10_text_57 (by decide) (fun c_57_48 => ?_) (fun h => absurd h (by decide))
      refine lv_iload_n hx hb dX10_text_66 rfl (lv_at hl 0 rfl) ?_
      refine lv_iconst (v := 2) hx hb dX10_text_67 (by decide) ?_
      refine sb_icmp_eq (tgt := 77) hx hb (by decide : (5 : Int32).toInt = 5) (by decide : (2 : Int32).toInt = 2) dX10_text_68 (by decide) (fun h => absurd h (by decide)) (fun c_68_49 => ?_)
      refine lv_iload_n hx hb dX10_text_71 rfl (lv_at hl 0 rfl) ?_
      refine lv_bipush (v := 10) hx hb dX10_text_72 (by decide) ?_
      refine sb_icmp_ne (tgt := 81) hx hb (by decide : (5 : Int32).toInt = 5) (by decide : (10 : Int32).toInt = 10) dX10_text_74 (by decide) (fun c_74_50 => ?_) (fun h => absurd h (by decide))
      refine lv_iload_n hx hb dX10_text_81 rfl (lv_at hl 0 rfl) ?_
      refine lv_iconst (v := 3) hx hb dX10_text_82 (by decide) ?_
      refine sb_icmp_ne (tgt := 91) hx hb (by decide : (5 : Int32).toInt = 5) (by decide : (3 : Int32).toInt = 3) dX10_text_83 (by decide) (fun c_83_51 => ?_) (fun h => absurd h (by decide))
      refine lv_iload_n hx hb dX10_text_91 rfl (lv_at hl 0 rfl) ?_
      refine lv_iconst (v := 4) hx hb dX10_text_92 (by decide) ?_
      refine sb_icmp_ne (tgt := 100) hx hb (by decide : (5 : Int32).toInt = 5) (by decide : (4 : Int32).toInt = 4) dX10_text_93 (by decide) (fun c_93_52 => ?_) (fun h => absurd h (by decide))
      refine lv_iload_n hx hb dX10_text_100 rfl (lv_at hl 0 rfl) ?_
      refine lv_bipush (v := 9) hx hb dX10_text_101 (by decide) ?_
      refine sb_icmp_ne (tgt := 110) hx hb (by decide : (5 : Int32).toInt = 5) (by decide : (9 : Int32).toInt = 9) dX10_text_103 (by decide) (fun c_103_53 => ?_) (fun h => absurd h (by decide))
      refine lv_iconst (v := 0) hx hb dX10_text_110 (by decide) ?_
      refine ti_callVv (ci := 10) (av := [.int 5, .int 0]) C hw (s_X10_reads l D A cy hJ M_46 iM_46 5 0 (by decide) (by decide) (by rw [show (11 + (5 : Int32).toInt).toNat = 16 by decide]; exact trivial)) ⟨ml_X10_244, ym_X10_reads, yv_X10_reads, yi_X10_reads, yc_X10_reads⟩ yd_X10_reads ob_60 (by decide) rfl rfl hl.1 (Nat.le_of_ble_eq_true rfl) ⟨by decide, by decide⟩ ⟨Nat.zero_le _, Nat.zero_le _⟩ dX10_text_111 (fun M_56 H locs hp_56 hw => ?_)
      obtain ⟨iM_56, hM_56⟩ := hp_56
      rw [show (11 + (5 : Int32).toInt).toNat = 16 by decide] at hM_56
      have hs_57 := rQ_3x hs_47 hM_56 (by decide)
      refine lv_iinc (v := 6) (lv' := [(2, .int 6), (0, .ref (A 60 0)), (1, .int nn)]) hx hb dX10_text_114 hl (k := 0) rfl (by decide) (by decide) rfl (fun ls hl => ?_)
      refine lv_goto (tgt := 47) hx hb dX10_text_117 (by decide) ?_
      refine lv_iload_n hx hb dX10_text_47 rfl (lv_at hl 0 rfl) ?_
      refine lv_bipush (v := 11) hx hb dX10_text_48 (by decide) ?_
      refine sb_icmp_ge (tgt := 120) hx hb (by decide : (6 : Int32).toInt = 6) (by decide : (11 : Int32).toInt = 11) dX10_text_50 (by decide) (fun h => absurd h (by decide)) (fun c_50_57 => ?_)
      refine lv_aload_n hx hb dX10_text_53 rfl (lv_at hl 1 rfl) ?_
      refine lv_iload_n hx hb dX10_text_54 rfl (lv_at hl 0 rfl) ?_
      refine lv_iload_n hx hb dX10_text_55 rfl (lv_at hl 0 rfl) ?_
      refine lv_iconst (v := 1) hx hb dX10_text_56 (by decide) ?_
      refine sb_icmp_ne (tgt := 66) hx hb (by decide : (6 : Int32).toInt = 6) (by decide : (1 : Int32).toInt = 1) dX10_text_57 (by decide) (fun c_57_58 => ?_) (fun h => absurd h (by decide))
      refine lv_iload_n hx hb dX10_text_66 rfl (lv_at hl 0 rfl) ?_
      refine lv_iconst (v := 2) hx hb dX10_text_67 (by decide) ?_
      refine sb_icmp_eq (tgt := 77) hx hb (by decide : (6 : Int32).toInt = 6) (by decide : (2 : Int32).toInt = 2) dX10_text_68 (by decide) (fun h => absurd h (by decide)) (fun c_68_59 => ?_)
      refine lv_iload_n hx hb dX10_text_71 rfl (lv_at hl 0 rfl) ?_
      refine lv_bipush (v := 10) hx hb dX10_text_72 (by decide) ?_
      refine sb_icmp_ne (tgt := 81) hx hb (by decide : (6 : Int32).toInt = 6) (by decide : (10 : Int32).toInt = 10) dX10_text_74 (by decide) (fun c_74_60 => ?_) (fun h => absurd h (by decide))
      refine lv_iload_n hx hb dX10_text_81 rfl (lv_at hl 0 rfl) ?_
      refine lv_iconst (v := 3) hx hb dX10_text_82 (by decide) ?_
      refine sb_icmp_ne (tgt := 91) hx hb (by decide : (6 : Int32).toInt = 6) (by decide : (3 : Int32).toInt = 3) dX10_text_83 (by decide) (fun c_83_61 => ?_) (fun h => absurd h (by decide))
      refine lv_iload_n hx hb dX10_text_91 rfl (lv_at hl 0 rfl) ?_
      refine lv_iconst (v := 4) hx hb dX10_text_92 (by decide) ?_
      refine sb_icmp_ne (tgt := 100) hx hb (by decide : (6 : Int32).toInt = 6) (by decide : (4 : Int32).toInt = 4) dX10_text_93 (by decide) (fun c_93_62 => ?_) (fun h => absurd h (by decide))
      refine lv_iload_n hx hb dX10_text_100 rfl (lv_at hl 0 rfl) ?_
      refine lv_bipush (v := 9) hx hb dX10_text_101 (by decide) ?_
      refine sb_icmp_ne (tgt := 110) hx hb (by decide : (6 : Int32).toInt = 6) (by decide : (9 : Int32).toInt = 9) dX10_text_103 (by decide) (fun c_103_63 => ?_) (fun h => absurd h (by decide))
      refine lv_iconst (v := 0) hx hb dX10_text_110 (by decide) ?_
      refine ti_callVv (ci := 10) (av := [.int 6, .int 0]) C hw (s_X10_reads l D A cy hJ M_56 iM_56 6 0 (by decide) (by decide) (by rw [show (11 + (6 : Int32).toInt).toNat = 17 by decide]; exact trivial)) ⟨ml_X10_244, ym_X10_reads, yv_X10_reads, yi_X10_reads, yc_X10_reads⟩ yd_X10_reads ob_60 (by decide) rfl rfl hl.1 (Nat.le_of_ble_eq_true rfl) ⟨by decide, by decide⟩ ⟨Nat.zero_le _, Nat.zero_le _⟩ dX10_text_111 (fun M_66 H locs hp_66 hw => ?_)
      obtain ⟨iM_66, hM_66⟩ := hp_66
      rw [show (11 + (6 : Int32).toInt).toNat = 17 by decide] at hM_66
      have hs_67 := rQ_3x hs_57 hM_66 (by decide)
      refine lv_iinc (v := 7) (lv' := [(2, .int 7), (0, .ref (A 60 0)), (1, .int nn)]) hx hb dX10_text_114 hl (k := 0) rfl (by decide) (by decide) rfl (fun ls hl => ?_)
      refine lv_goto (tgt := 47) hx hb dX10_text_117 (by decide) ?_
      refine lv_iload_n hx hb dX10_text_47 rfl (lv_at hl 0 rfl) ?_
      refine lv_bipush (v := 11) hx hb dX10_text_48 (by decide) ?_
      refine sb_icmp_ge (tgt := 120) hx hb (by decide : (7 : Int32).toInt = 7) (by decide : (11 : Int32).toInt = 11) dX10_text_50 (by decide) (fun h => absurd h (by decide)) (fun c_50_67 => ?_)
      refine lv_aload_n hx hb dX10_text_53 rfl (lv_at hl 1 rfl) ?_
      refine lv_iload_n hx hb dX10_text_54 rfl (lv_at hl 0 rfl) ?_
      refine lv_iload_n hx hb dX10_text_55 rfl (lv_at hl 0 rfl) ?_
      refine lv_iconst (v := 1) hx hb dX10_text_56 (by decide) ?_
      refine sb_icmp_ne (tgt := 66) hx hb (by decide : (7 : Int32).toInt = 7) (by decide : (1 : Int32).toInt = 1) dX10_text_57 (by decide) (fun c_57_68 => ?_) (fun h => absurd h (by decide))
      refine lv_iload_n hx hb dX10_text_66 rfl (lv_at hl 0 rfl) ?_
      refine lv_iconst (v := 2) hx hb dX10_text_67 (by decide) ?_
      refine sb_icmp_eq (tgt := 77) hx hb (by decide : (7 : Int32).toInt = 7) (by decide : (2 : Int32).toInt = 2) dX10_text_68 (by decide) (fun h => absurd h (by decide)) (fun c_68_69 => ?_)
      refine lv_iload_n hx hb dX10_text_71 rfl (lv_at hl 0 rfl) ?_
      refine lv_bipush (v := 10) hx hb dX10_text_72 (by decide) ?_
      refine sb_icmp_ne (tgt := 81) hx hb (by decide : (7 : Int32).toInt = 7) (by decide : (10 : Int32).toInt = 10) dX10_text_74 (by decide) (fun c_74_70 => ?_) (fun h => absurd h (by decide))
      refine lv_iload_n hx hb dX10_text_81 rfl (lv_at hl 0 rfl) ?_
      refine lv_iconst (v := 3) hx hb dX10_text_82 (by decide) ?_
      refine sb_icmp_ne (tgt := 91) hx hb (by decide : (7 : Int32).toInt = 7) (by decide : (3 : Int32).toInt = 3) dX10_text_83 (by decide) (fun c_83_71 => ?_) (fun h => absurd h (by decide))
      refine lv_iload_n hx hb dX10_text_91 rfl (lv_at hl 0 rfl) ?_
      refine lv_iconst (v := 4) hx hb dX10_text_92 (by decide) ?_
      refine sb_icmp_ne (tgt := 100) hx hb (by decide : (7 : Int32).toInt = 7) (by decide : (4 : Int32).toInt = 4) dX10_text_93 (by decide) (fun c_93_72 => ?_) (fun h => absurd h (by decide))
      refine lv_iload_n hx hb dX10_text_100 rfl (lv_at hl 0 rfl) ?_
      refine lv_bipush (v := 9) hx hb dX10_text_101 (by decide) ?_
      refine sb_icmp_ne (tgt := 110) hx hb (by decide : (7 : Int32).toInt = 7) (by decide : (9 : Int32).toInt = 9) dX10_text_103 (by decide) (fun c_103_73 => ?_) (fun h => absurd h (by decide))
      refine lv_iconst (v := 0) hx hb dX10_text_110 (by decide) ?_
      refine ti_callVv (ci := 10) (av := [.int 7, .int 0]) C hw (s_X10_reads l D A cy hJ M_66 iM_66 7 0 (by decide) (by decide) (by rw [show (11 + (7 : Int32).toInt).toNat = 18 by decide]; exact (ib_mk (lo := 0) (hi := 64) (by decide) (by decide)))) ⟨ml_X10_244, ym_X10_reads, yv_X10_reads, yi_X10_reads, yc_X10_reads⟩ yd_X10_reads ob_60 (by decide) rfl rfl hl.1 (Nat.le_of_ble_eq_true rfl) ⟨by decide, by decide⟩ ⟨Nat.zero_le _, Nat.zero_le _⟩ dX10_text_111 (fun M_76 H locs hp_76 hw => ?_)
      obtain ⟨iM_76, hM_76⟩ := hp_76
      rw [show (11 + (7 : Int32).toInt).toNat = 18 by decide] at hM_76
      have hs_77 := rQ_3x hs_67 hM_76 (by decide)
      refine lv_iinc (v := 8) (lv' := [(2, .int 8), (0, .ref (A 60 0)), (1, .int nn)]) hx hb dX10_text_114 hl (k := 0) rfl (by decide) (by decide) rfl (fun ls hl => ?_)
      refine lv_goto (tgt := 47) hx hb dX10_text_117 (by decide) ?_
      refine lv_iload_n hx hb dX10_text_47 rfl (lv_at hl 0 rfl) ?_
      refine lv_bipush (v := 11) hx hb dX10_text_48 (by decide) ?_
      refine sb_icmp_ge (tgt := 120) hx hb (by decide : (8 : Int32).toInt = 8) (by decide : (11 : Int32).toInt = 11) dX10_text_50 (by decide) (fun h => absurd h (by decide)) (fun c_50_77 => ?_)
      refine lv_aload_n hx hb dX10_text_53 rfl (lv_at hl 1 rfl) ?_
      refine lv_iload_n hx hb dX10_text_54 rfl (lv_at hl 0 rfl) ?_
      refine lv_iload_n hx hb dX10_text_55 rfl (lv_at hl 0 rfl) ?_
      refine lv_iconst (v := 1) hx hb dX10_text_56 (by decide) ?_
      refine sb_icmp_ne (tgt := 66) hx hb (by decide : (8 : Int32).toInt = 8) (by decide : (1 : Int32).toInt = 1) dX10_text_57 (by decide) (fun c_57_78 => ?_) (fun h => absurd h (by decide))
      refine lv_iload_n hx hb dX10_text_66 rfl (lv_at hl 0 rfl) ?_
      refine lv_iconst (v := 2) hx hb dX10_text_67 (by decide) ?_
      refine sb_icmp_eq (tgt := 77) hx hb (by decide : (8 : Int32).toInt = 8) (by decide : (2 : Int32).toInt = 2) dX10_text_68 (by decide) (fun h => absurd h (by decide)) (fun c_68_79 => ?_)
      refine lv_iload_n hx hb dX10_text_71 rfl (lv_at hl 0 rfl) ?_
      refine lv_bipush (v := 10) hx hb dX10_text_72 (by decide) ?_
      refine sb_icmp_ne (tgt := 81) hx hb (by decide : (8 : Int32).toInt = 8) (by decide : (10 : Int32).toInt = 10) dX10_text_74 (by decide) (fun c_74_80 => ?_) (fun h => absurd h (by decide))
      refine lv_iload_n hx hb dX10_text_81 rfl (lv_at hl 0 rfl) ?_
      refine lv_iconst (v := 3) hx hb dX10_text_82 (by decide) ?_
      refine sb_icmp_ne (tgt := 91) hx hb (by decide : (8 : Int32).toInt = 8) (by decide : (3 : Int32).toInt = 3) dX10_text_83 (by decide) (fun c_83_81 => ?_) (fun h => absurd h (by decide))
      refine lv_iload_n hx hb dX10_text_91 rfl (lv_at hl 0 rfl) ?_
      refine lv_iconst (v := 4) hx hb dX10_text_92 (by decide) ?_
      refine sb_icmp_ne (tgt := 100) hx hb (by decide : (8 : Int32).toInt = 8) (by decide : (4 : Int32).toInt = 4) dX10_text_93 (by decide) (fun c_93_82 => ?_) (fun h => absurd h (by decide))
      refine lv_iload_n hx hb dX10_text_100 rfl (lv_at hl 0 rfl) ?_
      refine lv_bipush (v := 9) hx hb dX10_text_101 (by decide) ?_
      refine sb_icmp_ne (tgt := 110) hx hb (by decide : (8 : Int32).toInt = 8) (by decide : (9 : Int32).toInt = 9) dX10_text_103 (by decide) (fun c_103_83 => ?_) (fun h => absurd h (by decide))
      refine lv_iconst (v := 0) hx hb dX10_text_110 (by decide) ?_
      refine ti_callVv (ci := 10) (av := [.int 8, .int 0]) C hw (s_X10_reads l D A cy hJ M_76 iM_76 8 0 (by decide) (by decide) (by rw [show (11 + (8 : Int32).toInt).toNat = 19 by decide]; exact (ib_mk (lo := 0) (hi := 7) (by decide) (by decide)))) ⟨ml_X10_244, ym_X10_reads, yv_X10_reads, yi_X10_reads, yc_X10_reads⟩ yd_X10_reads ob_60 (by decide) rfl rfl hl.1 (Nat.le_of_ble_eq_true rfl) ⟨by decide, by decide⟩ ⟨Nat.zero_le _, Nat.zero_le _⟩ dX10_text_111 (fun M_86 H locs hp_86 hw => ?_)
      obtain ⟨iM_86, hM_86⟩ := hp_86
      rw [show (11 + (8 : Int32).toInt).toNat = 19 by decide] at hM_86
      have hs_87 := rQ_3x hs_77 hM_86 (by decide)
      refine lv_iinc (v := 9) (lv' := [(2, .int 9), (0, .ref (A 60 0)), (1, .int nn)]) hx hb dX10_text_114 hl (k := 0) rfl (by decide) (by decide) rfl (fun ls hl => ?_)
      refine lv_goto (tgt := 47) hx hb dX10_text_117 (by decide) ?_
      refine lv_iload_n hx hb dX10_text_47 rfl (lv_at hl 0 rfl) ?_
      refine lv_bipush (v := 11) hx hb dX10_text_48 (by decide) ?_
      refine sb_icmp_ge (tgt := 120) hx hb (by decide : (9 : Int32).toInt = 9) (by decide : (11 : Int32).toInt = 11) dX10_text_50 (by decide) (fun h => absurd h (by decide)) (fun c_50_87 => ?_)
      refine lv_aload_n hx hb dX10_text_53 rfl (lv_at hl 1 rfl) ?_
      refine lv_iload_n hx hb dX10_text_54 rfl (lv_at hl 0 rfl) ?_
      refine lv_iload_n hx hb dX10_text_55 rfl (lv_at hl 0 rfl) ?_
      refine lv_iconst (v := 1) hx hb dX10_text_56 (by decide) ?_
      refine sb_icmp_ne (tgt := 66) hx hb (by decide : (9 : Int32).toInt = 9) (by decide : (1 : Int32).toInt = 1) dX10_text_57 (by decide) (fun c_57_88 => ?_) (fun h => absurd h (by decide))
      refine lv_iload_n hx hb dX10_text_66 rfl (lv_at hl 0 rfl) ?_
      refine lv_iconst (v := 2) hx hb dX10_text_67 (by decide) ?_
      refine sb_icmp_eq (tgt := 77) hx hb (by decide : (9 : Int32).toInt = 9) (by decide : (2 : Int32).toInt = 2) dX10_text_68 (by decide) (fun h => absurd h (by decide)) (fun c_68_89 => ?_)
      refine lv_iload_n hx hb dX10_text_71 rfl (lv_at hl 0 rfl) ?_
      refine lv_bipush (v := 10) hx hb dX10_text_72 (by decide) ?_
      refine sb_icmp_ne (tgt := 81) hx hb (by decide : (9 : Int32).toInt = 9) (by decide : (10 : Int32).toInt = 10) dX10_text_74 (by decide) (fun c_74_90 => ?_) (fun h => absurd h (by decide))
      refine lv_iload_n hx hb dX10_text_81 rfl (lv_at hl 0 rfl) ?_
      refine lv_iconst (v := 3) hx hb dX10_text_82 (by decide) ?_
      refine sb_icmp_ne (tgt := 91) hx hb (by decide : (9 : Int32).toInt = 9) (by decide : (3 : Int32).toInt = 3) dX10_text_83 (by decide) (fun c_83_91 => ?_) (fun h => absurd h (by decide))
      refine lv_iload_n hx hb dX10_text_91 rfl (lv_at hl 0 rfl) ?_
      refine lv_iconst (v := 4) hx hb dX10_text_92 (by decide) ?_
      refine sb_icmp_ne (tgt := 100) hx hb (by decide : (9 : Int32).toInt = 9) (by decide : (4 : Int32).toInt = 4) dX10_text_93 (by decide) (fun c_93_92 => ?_) (fun h => absurd h (by decide))
      refine lv_iload_n hx hb dX10_text_100 rfl (lv_at hl 0 rfl) ?_
      refine lv_bipush (v := 9) hx hb dX10_text_101 (by decide) ?_
      refine sb_icmp_ne (tgt := 110) hx hb (by decide : (9 : Int32).toInt = 9) (by decide : (9 : Int32).toInt = 9) dX10_text_103 (by decide) (fun h => absurd h (by decide)) (fun c_103_93 => ?_)
      refine lv_iconst (v := 1) hx hb dX10_text_106 (by decide) ?_
      refine lv_goto (tgt := 111) hx hb dX10_text_107 (by decide) ?_
      refine ti_callVv (ci := 10) (av := [.int 9, .int 1]) C hw (s_X10_reads l D A cy hJ M_86 iM_86 9 1 (by decide) (by decide) (by rw [show (11 + (9 : Int32).toInt).toNat = 20 by decide]; exact (ib_mk (lo := 0) (hi := 7) (by decide) (by decide)))) ⟨ml_X10_244, ym_X10_reads, yv_X10_reads, yi_X10_reads, yc_X10_reads⟩ yd_X10_reads ob_60 (by decide) rfl rfl hl.1 (Nat.le_of_ble_eq_true rfl) ⟨by decide, by decide⟩ ⟨Nat.zero_le _, Nat.zero_le _⟩ dX10_text_111 (fun M_96 H locs hp_96 hw => ?_)
      obtain ⟨iM_96, hM_96⟩ := hp_96
      rw [show (11 + (9 : Int32).toInt).toNat = 20 by decide] at hM_96
      have hs_97 := rQ_3x hs_87 hM_96 (by decide)
      refine lv_iinc (v := 10) (lv' := [(2, .int 10), (0, .ref (A 60 0)), (1, .int nn)]) hx hb dX10_text_114 hl (k := 0) rfl (by decide) (by decide) rfl (fun ls hl => ?_)
      refine lv_goto (tgt := 47) hx hb dX10_text_117 (by decide) ?_
      refine lv_iload_n hx hb dX10_text_47 rfl (lv_at hl 0 rfl) ?_
      refine lv_bipush (v := 11) hx hb dX10_text_48 (by decide) ?_
      refine sb_icmp_ge (tgt := 120) hx hb (by decide : (10 : Int32).toInt = 10) (by decide : (11 : Int32).toInt = 11) dX10_text_50 (by decide) (fun h => absurd h (by decide)) (fun c_50_97 => ?_)
      refine lv_aload_n hx hb dX10_text_53 rfl (lv_at hl 1 rfl) ?_
      refine lv_iload_n hx hb dX10_text_54 rfl (lv_at hl 0 rfl) ?_
      refine lv_iload_n hx hb dX10_text_55 rfl (lv_at hl 0 rfl) ?_
      refine lv_iconst (v := 1) hx hb dX10_text_56 (by decide) ?_
      refine sb_icmp_ne (tgt := 66) hx hb (by decide : (10 : Int32).toInt = 10) (by decide : (1 : Int32).toInt = 1) dX10_text_57 (by decide) (fun c_57_98 => ?_) (fun h => absurd h (by decide))
      refine lv_iload_n hx hb dX10_text_66 rfl (lv_at hl 0 rfl) ?_
      refine lv_iconst (v := 2) hx hb dX10_text_67 (by decide) ?_
      refine sb_icmp_eq (tgt := 77) hx hb (by decide : (10 : Int32).toInt = 10) (by decide : (2 : Int32).toInt = 2) dX10_text_68 (by decide) (fun h => absurd h (by decide)) (fun c_68_99 => ?_)
      refine lv_iload_n hx hb dX10_text_71 rfl (lv_at hl 0 rfl) ?_
      refine lv_bipush (v := 10) hx hb dX10_text_72 (by decide) ?_
      refine sb_icmp_ne (tgt := 81) hx hb (by decide : (10 : Int32).toInt = 10) (by decide : (10 : Int32).toInt = 10) dX10_text_74 (by decide) (fun h => absurd h (by decide)) (fun c_74_100 => ?_)
      refine lv_iconst (v := 2) hx hb dX10_text_77 (by decide) ?_
      refine lv_goto (tgt := 111) hx hb dX10_text_78 (by decide) ?_
      refine ti_callVv (ci := 10) (av := [.int 10, .int 2]) C hw (s_X10_reads l D A cy hJ M_96 iM_96 10 2 (by decide) (by decide) (by rw [show (11 + (10 : Int32).toInt).toNat = 21 by decide]; exact (ib_mk (lo := 0) (hi := 7) (by decide) (by decide)))) ⟨ml_X10_244, ym_X10_reads, yv_X10_reads, yi_X10_reads, yc_X10_reads⟩ yd_X10_reads ob_60 (by decide) rfl rfl hl.1 (Nat.le_of_ble_eq_true rfl) ⟨by decide, by decide⟩ ⟨Nat.zero_le _, Nat.zero_le _⟩ dX10_text_111 (fun M_103 H locs hp_103 hw => ?_)
      obtain ⟨iM_103, hM_103⟩ := hp_103
      rw [show (11 + (10 : Int32).toInt).toNat = 21 by decide] at hM_103
      have hs_104 := rQ_3x hs_97 hM_103 (by decide)
      refine lv_iinc (v := 11) (lv' := [(2, .int 11), (0, .ref (A 60 0)), (1, .int nn)]) hx hb dX10_text_114 hl (k := 0) rfl (by decide) (by decide) rfl (fun ls hl => ?_)
      refine lv_goto (tgt := 47) hx hb dX10_text_117 (by decide) ?_
      refine lv_iload_n hx hb dX10_text_47 rfl (lv_at hl 0 rfl) ?_
      refine lv_bipush (v := 11) hx hb dX10_text_48 (by decide) ?_
      refine sb_icmp_ge (tgt := 120) hx hb (by decide : (11 : Int32).toInt = 11) (by decide : (11 : Int32).toInt = 11) dX10_text_50 (by decide) (fun c_50_104 => ?_) (fun h => absurd h (by decide))
      refine lv_iconst (v := 3) hx hb dX10_text_120 (by decide) ?_
      refine lv_istore_n (lv' := [(2, .int 3), (0, .ref (A 60 0)), (1, .int nn)]) hx hb dX10_text_121 rfl hl (by decide) rfl (fun ls hl => ?_)
      refine lv_iload_n hx hb dX10_text_122 rfl (lv_at hl 0 rfl) ?_
      refine lv_bipush (v := 6) hx hb dX10_text_123 (by decide) ?_
      refine sb_icmp_ge (tgt := 148) hx hb (by decide : (3 : Int32).toInt = 3) (by decide : (6 : Int32).toInt = 6) dX10_text_125 (by decide) (fun h => absurd h (by decide)) (fun c_125_105 => ?_)
      refine lv_aload_n hx hb dX10_text_128 rfl (lv_at hl 1 rfl) ?_
      refine ti_get (ci := 10) (k := 14) (N := 67) (T := TX10) (v := .ref (A 60 15)) C hw iw_10 rfl ob_60 (by decide) (by decide) fl_X10_46 rfl rfl dX10_text_129 ?_
      refine lv_iload_n hx hb dX10_text_132 rfl (lv_at hl 0 rfl) ?_
      refine lv_iconst (v := 0) hx hb dX10_text_133 (by decide) ?_
      refine ti_iast (ci := 10) (k := 14) (n := 6) C hw ob_60 (by decide) (fun _ _ => rfl) (by unfold vp_in; decide) dX10_text_134 (fun H locs hw => ?_)
      obtain ⟨M_107, hM_107⟩ : ∃ z : ti_M, z = uY M_103 60 14 (upd (tY M_103 60 14) (3 : Int32).toNatClampNeg 0) := ⟨_, rfl⟩
      have hw := hw.to hM_107.symm
      have iM_107 : mI Tm M_107 := mI_up (i := 3) iM_103 hM_107 (ib_mk (lo := 0) (hi := 64) (by decide) (by decide))
      refine lv_aload_n hx hb dX10_text_135 rfl (lv_at hl 1 rfl) ?_
      refine ti_get (ci := 10) (k := 15) (N := 67) (T := TX10) (v := .ref (A 60 16)) C hw iw_10 rfl ob_60 (by decide) (by decide) fl_X10_49 rfl rfl dX10_text_136 ?_
      refine lv_iload_n hx hb dX10_text_139 rfl (lv_at hl 0 rfl) ?_
      refine lv_iconst (v := 0) hx hb dX10_text_140 (by decide) ?_
      refine ti_iast (ci := 10) (k := 15) (n := 6) C hw ob_60 (by decide) (fun _ _ => rfl) (by unfold vp_in; decide) dX10_text_141 (fun H locs hw => ?_)
      obtain ⟨M_108, hM_108⟩ : ∃ z : ti_M, z = uY M_107 60 15 (upd (tY M_107 60 15) (3 : Int32).toNatClampNeg 0) := ⟨_, rfl⟩
      have hw := hw.to hM_108.symm
      have iM_108 : mI Tm M_108 := mI_up (i := 3) iM_107 hM_108 (ib_mk (lo := 0) (hi := 64) (by decide) (by decide))
      refine lv_iinc (v := 4) (lv' := [(2, .int 4), (0, .ref (A 60 0)), (1, .int nn)]) hx hb dX10_text_142 hl (k := 0) rfl (by decide) (by decide) rfl (fun ls hl => ?_)
      refine lv_goto (tgt := 122) hx hb dX10_text_145 (by decide) ?_
      refine lv_iload_n hx hb dX10_text_122 rfl (lv_at hl 0 rfl) ?_
      refine lv_bipush (v := 6) hx hb dX10_text_123 (by decide) ?_
      refine sb_icmp_ge (tgt := 148) hx hb (by decide : (4 : Int32).toInt = 4) (by decide : (6 : Int32).toInt = 6) dX10_text_125 (by decide) (fun h => absurd h (by decide)) (fun c_125_108 => ?_)
      refine lv_aload_n hx hb dX10_text_128 rfl (lv_at hl 1 rfl) ?_
      refine ti_get (ci := 10) (k := 14) (N := 67) (T := TX10) (v := .ref (A 60 15)) C hw iw_10 rfl ob_60 (by decide) (by decide) fl_X10_46 rfl rfl dX10_text_129 ?_
      refine lv_iload_n hx hb dX10_text_132 rfl (lv_at hl 0 rfl) ?_
      refine lv_iconst (v := 0) hx hb dX10_text_133 (by decide) ?_
      refine ti_iast (ci := 10) (k := 14) (n := 6) C hw ob_60 (by decide) (fun _ _ => rfl) (by unfold vp_in; decide) dX10_text_134 (fun H locs hw => ?_)
      obtain ⟨M_110, hM_110⟩ : ∃ z : ti_M, z = uY M_108 60 14 (upd (tY M_108 60 14) (4 : Int32).toNatClampNeg 0) := ⟨_, rfl⟩
      have hw := hw.to hM_110.symm
      have iM_110 : mI Tm M_110 := mI_up (i := 4) iM_108 hM_110 (ib_mk (lo := 0) (hi := 64) (by decide) (by decide))
      refine lv_aload_n hx hb dX10_text_135 rfl (lv_at hl 1 rfl) ?_
      refine ti_get (ci := 10) (k := 15) (N := 67) (T := TX10) (v := .ref (A 60 16)) C hw iw_10 rfl ob_60 (by decide) (by decide) fl_X10_49 rfl rfl dX10_text_136 ?_
      refine lv_iload_n hx hb dX10_text_139 rfl (lv_at hl 0 rfl) ?_
      refine lv_iconst (v := 0) hx hb dX10_text_140 (by decide) ?_
      refine ti_iast (ci := 10) (k := 15) (n := 6) C hw ob_60 (by decide) (fun _ _ => rfl) (by unfold vp_in; decide) dX10_text_141 (fun H locs hw => ?_)
      obtain ⟨M_111, hM_111⟩ : ∃ z : ti_M, z = uY M_110 60 15 (upd (tY M_110 60 15) (4 : Int32).toNatClampNeg 0) := ⟨_, rfl⟩
      have hw := hw.to hM_111.symm
      have iM_111 : mI Tm M_111 := mI_up (i := 4) iM_110 hM_111 (ib_mk (lo := 0) (hi := 64) (by decide) (by decide))
      refine lv_iinc (v := 5) (lv' := [(2, .int 5), (0, .ref (A 60 0)), (1, .int nn)]) hx hb dX10_text_142 hl (k := 0) rfl (by decide) (by decide) rfl (fun ls hl => ?_)
      refine lv_goto (tgt := 122) hx hb dX10_text_145 (by decide) ?_
      refine lv_iload_n hx hb dX10_text_122 rfl (lv_at hl 0 rfl) ?_
      refine lv_bipush (v := 6) hx hb dX10_text_123 (by decide) ?_
      refine sb_icmp_ge (tgt := 148) hx hb (by decide : (5 : Int32).toInt = 5) (by decide : (6 : Int32).toInt = 6) dX10_text_125 (by decide) (fun h => absurd h (by decide)) (fun c_125_111 => ?_)
      refine lv_aload_n hx hb dX10_text_128 rfl (lv_at hl 1 rfl) ?_
      refine ti_get (ci := 10) (k := 14) (N := 67) (T := TX10) (v := .ref (A 60 15)) C hw iw_10 rfl ob_60 (by decide) (by decide) fl_X10_46 rfl rfl dX10_text_129 ?_
      refine lv_iload_n hx hb dX10_text_132 rfl (lv_at hl 0 rfl) ?_
      refine lv_iconst (v := 0) hx hb dX10_text_133 (by decide) ?_
      refine ti_iast (ci := 10) (k := 14) (n := 6) C hw ob_60 (by decide) (fun _ _ => rfl) (by unfold vp_in; decide) dX10_text_134 (fun H locs hw => ?_)
      obtain ⟨M_113, hM_113⟩ : ∃ z : ti_M, z = uY M_111 60 14 (upd (tY M_111 60 14) (5 : Int32).toNatClampNeg 0) := ⟨_, rfl⟩
      have hw := hw.to hM_113.symm
      have iM_113 : mI Tm M_113 := mI_up (i := 5) iM_111 hM_113 (ib_mk (lo := 0) (hi := 64) (by decide) (by decide))
      refine lv_aload_n hx hb dX10_text_135 rfl (lv_at hl 1 rfl) ?_
      refine ti_get (ci := 10) (k := 15) (N := 67) (T := TX10) (v := .ref (A 60 16)) C hw iw_10 rfl ob_60 (by decide) (by decide) fl_X10_49 rfl rfl dX10_text_136 ?_
      refine lv_iload_n hx hb dX10_text_139 rfl (lv_at hl 0 rfl) ?_
      refine lv_iconst (v := 0) hx hb dX10_text_140 (by decide) ?_
      refine ti_iast (ci := 10) (k := 15) (n := 6) C hw ob_60 (by decide) (fun _ _ => rfl) (by unfold vp_in; decide) dX10_text_141 (fun H locs hw => ?_)
      obtain ⟨M_114, hM_114⟩ : ∃ z : ti_M, z = uY M_113 60 15 (upd (tY M_113 60 15) (5 : Int32).toNatClampNeg 0) := ⟨_, rfl⟩
      have hw := hw.to hM_114.symm
      have iM_114 : mI Tm M_114 := mI_up (i := 5) iM_113 hM_114 (ib_mk (lo := 0) (hi := 64) (by decide) (by decide))
      refine lv_iinc (v := 6) (lv' := [(2, .int 6), (0, .ref (A 60 0)), (1, .int nn)]) hx hb dX10_text_142 hl (k := 0) rfl (by decide) (by decide) rfl (fun ls hl => ?_)
      refine lv_goto (tgt := 122) hx hb dX10_text_145 (by decide) ?_
      refine lv_iload_n hx hb dX10_text_122 rfl (lv_at hl 0 rfl) ?_
      refine lv_bipush (v := 6) hx hb dX10_text_123 (by decide) ?_
      refine sb_icmp_ge (tgt := 148) hx hb (by decide : (6 : Int32).toInt = 6) (by decide : (6 : Int32).toInt = 6) dX10_text_125 (by decide) (fun c_125_114 => ?_) (fun h => absurd h (by decide))
      refine lv_aload_n hx hb dX10_text_148 rfl (lv_at hl 1 rfl) ?_
      refine lv_iconst (v := 0) hx hb dX10_text_149 (by decide) ?_
      refine ti_putI (ci := 10) (k := 18) (N := 67) (T := TX10) C hw iw_10 tyX10 tyX10_ok nmX10 rfl ob_60 (by decide) (by decide) fl_X10_228 rfl rfl rfl rfl (fn_10 A _) fs_10_18 dX10_text_150 (fun H locs hw => ?_)
      obtain ⟨M_116, hM_116⟩ : ∃ z : ti_M, z = uI M_114 60 18 0 := ⟨_, rfl⟩
      have hw := hw.to hM_116.symm
      have iM_116 : mI Tm M_116 := mI_uI iM_114 hM_116 (by decide) (by decide) trivial
      refine lv_aload_n hx hb dX10_text_153 rfl (lv_at hl 1 rfl) ?_
      refine lv_iconst (v := 0) hx hb dX10_text_154 (by decide) ?_
      refine ti_putI (ci := 10) (k := 19) (N := 67) (T := TX10) C hw iw_10 tyX10 tyX10_ok nmX10 rfl ob_60 (by decide) (by decide) fl_X10_254 rfl rfl rfl rfl (fn_10 A _) fs_10_19 dX10_text_155 (fun H locs hw => ?_)
      obtain ⟨M_117, hM_117⟩ : ∃ z : ti_M, z = uI M_116 60 19 0 := ⟨_, rfl⟩
      have hw := hw.to hM_117.symm
      have iM_117 : mI Tm M_117 := mI_uI iM_116 hM_117 (by decide) (by decide) trivial
      refine lv_aload_n hx hb dX10_text_158 rfl (lv_at hl 1 rfl) ?_
      refine lv_iconst (v := 0) hx hb dX10_text_159 (by decide) ?_
      refine ti_putI (ci := 10) (k := 29) (N := 67) (T := TX10) C hw iw_10 tyX10 tyX10_ok nmX10 rfl ob_60 (by decide) (by decide) fl_X10_297 rfl rfl rfl rfl (fn_10 A _) fs_10_29 dX10_text_160 (fun H locs hw => ?_)
      obtain ⟨M_118, hM_118⟩ : ∃ z : ti_M, z = uI M_117 60 29 0 := ⟨_, rfl⟩
      have hw := hw.to hM_118.symm
      have iM_118 : mI Tm M_118 := mI_uI iM_117 hM_118 (by decide) (by decide) (ib_mk (lo := 0) (hi := 8) (by decide) (by decide))
      have vM_118 : (tI M_118 60 29).toInt = 0 := by rw [tI_uE hM_118]; decide
      refine lv_aload_n hx hb dX10_text_163 rfl (lv_at hl 1 rfl) ?_
      refine lv_iconst (v := 0) hx hb dX10_text_164 (by decide) ?_
      refine ti_putI (ci := 10) (k := 30) (N := 67) (T := TX10) C hw iw_10 tyX10 tyX10_ok nmX10 rfl ob_60 (by decide) (by decide) fl_X10_273 rfl rfl rfl rfl (fn_10 A _) fs_10_30 dX10_text_165 (fun H locs hw => ?_)
      obtain ⟨M_119, hM_119⟩ : ∃ z : ti_M, z = uI M_118 60 30 0 := ⟨_, rfl⟩
      have hw := hw.to hM_119.symm
      have iM_119 : mI Tm M_119 := mI_uI iM_118 hM_119 (by decide) (by decide) (ib_mk (lo := 0) (hi := 64) (by decide) (by decide))
      have vM_119 : (tI M_119 60 30).toInt = 0 := by rw [tI_uE hM_119]; decide
      have hB := hB0 (by omega)
      have f1 : ff M_119 = 1 := ff_1 (by rw [((tI_nE hM_119 (nk (by decide))).trans ((tI_nE hM_118 (nk (by decide))).trans ((tI_nE hM_117 (nk (by decide))).trans ((tI_nE hM_116 (nk (by decide))).trans ((tI_uYE hM_114).trans ((tI_uYE hM_113).trans ((tI_uYE hM_111).trans ((tI_uYE hM_110).trans ((tI_uYE hM_108).trans ((tI_uYE hM_107).trans ((tI_uYE hM_103).trans ((tI_uYE hM_96).trans ((tI_uYE hM_86).trans ((tI_uYE hM_76).trans ((tI_uYE hM_66).trans ((tI_uYE hM_56).trans ((tI_uYE hM_46).trans ((tI_uYE hM_37).trans ((tI_uYE hM_29).trans ((tI_uYE hM_23).trans ((tI_uYE hM_19).trans ((tI_nE hM_10 (nk (by decide))).trans (tI_uE hM_9)))))))))))))))))))))))]; decide)
      have f29 : (tI M_119 60 29).toInt = 0 := by rw [((tI_nE hM_119 (nk (by decide))).trans (tI_uE hM_118))]; decide
      have f30 : (tI M_119 60 30).toInt = 0 := by rw [(tI_uE hM_119)]; decide
      have f18 : (tY M_119 60 3 18).toInt = 0 := by rw [((cg (tY_uIE hM_119) 18).trans ((cg (tY_uIE hM_118) 18).trans ((cg (tY_uIE hM_117) 18).trans ((cg (tY_uIE hM_116) 18).trans ((cg (tY_nE hM_114 (nk (by decide))) 18).trans ((cg (tY_nE hM_113 (nk (by decide))) 18).trans ((cg (tY_nE hM_111 (nk (by decide))) 18).trans ((cg (tY_nE hM_110 (nk (by decide))) 18).trans ((cg (tY_nE hM_108 (nk (by decide))) 18).trans ((cg (tY_nE hM_107 (nk (by decide))) 18).trans (((cg (tY_uE hM_103) 18).trans (pk_un (by decide))).trans (((cg (tY_uE hM_96) 18).trans (pk_un (by decide))).trans (((cg (tY_uE hM_86) 18).trans (pk_un (by decide))).trans ((cg (tY_uE hM_76) 18).trans (upl (by decide))))))))))))))))]; decide
      have fu : um M_119 := um_0 iM_119 ((cg (tY_uIE hM_119) 3).trans ((cg (tY_uIE hM_118) 3).trans ((cg (tY_uIE hM_117) 3).trans ((cg (tY_uIE hM_116) 3).trans ((cg (tY_nE hM_114 (nk (by decide))) 3).trans (((cg (tY_uE hM_113) 3).trans (pk_un (by decide))).trans ((cg (tY_nE hM_111 (nk (by decide))) 3).trans (((cg (tY_uE hM_110) 3).trans (pk_un (by decide))).trans ((cg (tY_nE hM_108 (nk (by decide))) 3).trans ((cg (tY_uE hM_107) 3).trans (upl (by decide)))))))))))) ((cg (tY_uIE hM_119) 4).trans ((cg (tY_uIE hM_118) 4).trans ((cg (tY_uIE hM_117) 4).trans ((cg (tY_uIE hM_116) 4).trans ((cg (tY_nE hM_114 (nk (by decide))) 4).trans (((cg (tY_uE hM_113) 4).trans (pk_un (by decide))).trans ((cg (tY_nE hM_111 (nk (by decide))) 4).trans ((cg (tY_uE hM_110) 4).trans (upl (by decide)))))))))) ((cg (tY_uIE hM_119) 5).trans ((cg (tY_uIE hM_118) 5).trans ((cg (tY_uIE hM_117) 5).trans ((cg (tY_uIE hM_116) 5).trans ((cg (tY_nE hM_114 (nk (by decide))) 5).trans ((cg (tY_uE hM_113) 5).trans (upl (by decide)))))))) ((cg (tY_uIE hM_119) 3).trans ((cg (tY_uIE hM_118) 3).trans ((cg (tY_uIE hM_117) 3).trans ((cg (tY_uIE hM_116) 3).trans (((cg (tY_uE hM_114) 3).trans (pk_un (by decide))).trans ((cg (tY_nE hM_113 (nk (by decide))) 3).trans (((cg (tY_uE hM_111) 3).trans (pk_un (by decide))).trans ((cg (tY_nE hM_110 (nk (by decide))) 3).trans ((cg (tY_uE hM_108) 3).trans (upl (by decide))))))))))) ((cg (tY_uIE hM_119) 4).trans ((cg (tY_uIE hM_118) 4).trans ((cg (tY_uIE hM_117) 4).trans ((cg (tY_uIE hM_116) 4).trans (((cg (tY_uE hM_114) 4).trans (pk_un (by decide))).trans ((cg (tY_nE hM_113 (nk (by decide))) 4).trans ((cg (tY_uE hM_111) 4).trans (upl (by decide))))))))) ((cg (tY_uIE hM_119) 5).trans ((cg (tY_uIE hM_118) 5).trans ((cg (tY_uIE hM_117) 5).trans ((cg (tY_uIE hM_116) 5).trans ((cg (tY_uE hM_114) 5).trans (upl (by decide)))))))
      refine lv_aload_n hx hb dX10_text_168 rfl (lv_at hl 1 rfl) ?_
      refine ti_callVvE (ci := 10) (av := []) C hE hw (x_X10_token l D A cy hJ M_119 iM_119 ) ⟨ml_X10_214, ym_X10_token, yv_X10_token, yi_X10_token, yc_X10_token⟩ yd_X10_token ob_60 (by decide) rfl rfl hl.1 (Nat.le_of_ble_eq_true rfl) ⟨by decide, by decide⟩ ⟨Nat.zero_le _, Nat.zero_le _⟩ dX10_text_169 (fun M_121 H locs hp_121 hw => ?_)
      obtain ⟨iM_121, q_124, z_122, z_123, k2M_121, k3M_121, k4M_121⟩ := hp_121
      have hs0 := rQ_st (J := J) (fun i hi => (congrArg Int32.toInt (congrFun (show tY M_119 60 1 = tY M 60 1 from ((tY_uIE hM_119).trans ((tY_uIE hM_118).trans ((tY_uIE hM_117).trans ((tY_uIE hM_116).trans ((tY_nE hM_114 (nk (by decide))).trans ((tY_nE hM_113 (nk (by decide))).trans ((tY_nE hM_111 (nk (by decide))).trans ((tY_nE hM_110 (nk (by decide))).trans ((tY_nE hM_108 (nk (by decide))).trans ((tY_nE hM_107 (nk (by decide))).trans ((tY_nE hM_103 (nk (by decide))).trans ((tY_nE hM_96 (nk (by decide))).trans ((tY_nE hM_86 (nk (by decide))).trans ((tY_nE hM_76 (nk (by decide))).trans ((tY_nE hM_66 (nk (by decide))).trans ((tY_nE hM_56 (nk (by decide))).trans ((tY_nE hM_46 (nk (by decide))).trans ((tY_nE hM_37 (nk (by decide))).trans ((tY_nE hM_29 (nk (by decide))).trans ((tY_nE hM_23 (nk (by decide))).trans ((tY_nE hM_19 (nk (by decide))).trans ((tY_uIE hM_10).trans ((tY_uIE hM_9).trans ((tY_uIE hM_8).trans ((tY_uIE hM_7).trans ((tY_uIE hM_6).trans (tY_uIE hM_1)))))))))))))))))))))))))))) i)).trans (hB i hi)) (by rw [((tI_nE hM_119 (nk (by decide))).trans ((tI_nE hM_118 (nk (by decide))).trans ((tI_nE hM_117 (nk (by decide))).trans ((tI_nE hM_116 (nk (by decide))).trans ((tI_uYE hM_114).trans ((tI_uYE hM_113).trans ((tI_uYE hM_111).trans ((tI_uYE hM_110).trans ((tI_uYE hM_108).trans ((tI_uYE hM_107).trans ((tI_uYE hM_103).trans ((tI_uYE hM_96).trans ((tI_uYE hM_86).trans ((tI_uYE hM_76).trans ((tI_uYE hM_66).trans ((tI_uYE hM_56).trans ((tI_uYE hM_46).trans ((tI_uYE hM_37).trans ((tI_uYE hM_29).trans ((tI_uYE hM_23).trans ((tI_uYE hM_19).trans ((tI_nE hM_10 (nk (by decide))).trans ((tI_nE hM_9 (nk (by decide))).trans ((tI_nE hM_8 (nk (by decide))).trans ((tI_nE hM_7 (nk (by decide))).trans (tI_uE hM_6))))))))))))))))))))))))))]) (by rw [((tI_nE hM_119 (nk (by decide))).trans ((tI_nE hM_118 (nk (by decide))).trans ((tI_nE hM_117 (nk (by decide))).trans ((tI_nE hM_116 (nk (by decide))).trans ((tI_uYE hM_114).trans ((tI_uYE hM_113).trans ((tI_uYE hM_111).trans ((tI_uYE hM_110).trans ((tI_uYE hM_108).trans ((tI_uYE hM_107).trans ((tI_uYE hM_103).trans ((tI_uYE hM_96).trans ((tI_uYE hM_86).trans ((tI_uYE hM_76).trans ((tI_uYE hM_66).trans ((tI_uYE hM_56).trans ((tI_uYE hM_46).trans ((tI_uYE hM_37).trans ((tI_uYE hM_29).trans ((tI_uYE hM_23).trans ((tI_uYE hM_19).trans ((tI_nE hM_10 (nk (by decide))).trans ((tI_nE hM_9 (nk (by decide))).trans (tI_uE hM_8))))))))))))))))))))))))]; decide) q_124 k2M_121 k3M_121 k4M_121 (by rw [((tI_nE hM_119 (nk (by decide))).trans ((tI_nE hM_118 (nk (by decide))).trans ((tI_nE hM_117 (nk (by decide))).trans ((tI_nE hM_116 (nk (by decide))).trans ((tI_uYE hM_114).trans ((tI_uYE hM_113).trans ((tI_uYE hM_111).trans ((tI_uYE hM_110).trans ((tI_uYE hM_108).trans ((tI_uYE hM_107).trans ((tI_uYE hM_103).trans ((tI_uYE hM_96).trans ((tI_uYE hM_86).trans ((tI_uYE hM_76).trans ((tI_uYE hM_66).trans ((tI_uYE hM_56).trans ((tI_uYE hM_46).trans ((tI_uYE hM_37).trans ((tI_uYE hM_29).trans ((tI_uYE hM_23).trans ((tI_uYE hM_19).trans ((tI_nE hM_10 (nk (by decide))).trans (tI_uE hM_9)))))))))))))))))))))))]; decide) (by rw [((tI_nE hM_119 (nk (by decide))).trans ((tI_nE hM_118 (nk (by decide))).trans ((tI_nE hM_117 (nk (by decide))).trans ((tI_nE hM_116 (nk (by decide))).trans ((tI_uYE hM_114).trans ((tI_uYE hM_113).trans ((tI_uYE hM_111).trans ((tI_uYE hM_110).trans ((tI_uYE hM_108).trans ((tI_uYE hM_107).trans ((tI_uYE hM_103).trans ((tI_uYE hM_96).trans ((tI_uYE hM_86).trans ((tI_uYE hM_76).trans ((tI_uYE hM_66).trans ((tI_uYE hM_56).trans ((tI_uYE hM_46).trans ((tI_uYE hM_37).trans ((tI_uYE hM_29).trans ((tI_uYE hM_23).trans ((tI_uYE hM_19).trans (tI_uE hM_10))))))))))))))))))))))]; decide) (by rw [((tI_nE hM_119 (nk (by decide))).trans ((tI_nE hM_118 (nk (by decide))).trans (tI_uE hM_117)))]; decide) (by rw [(tI_uE hM_119)]; decide) (((tI_nE hM_119 (nk (by decide))).trans ((tI_nE hM_118 (nk (by decide))).trans ((tI_nE hM_117 (nk (by decide))).trans (tI_uE hM_116))))) (by rw [((cg (tY_uIE hM_119) 11).trans ((cg (tY_uIE hM_118) 11).trans ((cg (tY_uIE hM_117) 11).trans ((cg (tY_uIE hM_116) 11).trans ((cg (tY_nE hM_114 (nk (by decide))) 11).trans ((cg (tY_nE hM_113 (nk (by decide))) 11).trans ((cg (tY_nE hM_111 (nk (by decide))) 11).trans ((cg (tY_nE hM_110 (nk (by decide))) 11).trans ((cg (tY_nE hM_108 (nk (by decide))) 11).trans ((cg (tY_nE hM_107 (nk (by decide))) 11).trans (((cg (tY_uE hM_103) 11).trans (pk_un (by decide))).trans (((cg (tY_uE hM_96) 11).trans (pk_un (by decide))).trans (((cg (tY_uE hM_86) 11).trans (pk_un (by decide))).trans (((cg (tY_uE hM_76) 11).trans (pk_un (by decide))).trans (((cg (tY_uE hM_66) 11).trans (pk_un (by decide))).trans (((cg (tY_uE hM_56) 11).trans (pk_un (by decide))).trans (((cg (tY_uE hM_46) 11).trans (pk_un (by decide))).trans (((cg (tY_uE hM_37) 11).trans (pk_un (by decide))).trans (((cg (tY_uE hM_29) 11).trans (pk_un (by decide))).trans (((cg (tY_uE hM_23) 11).trans (pk_un (by decide))).trans ((cg (tY_uE hM_19) 11).trans (upl (by decide)))))))))))))))))))))))]; decide)
      obtain ⟨-, -, z_125, z_126, z_127, z_128, z_129, z_130⟩ := l_tk ⟨iM_121, q_124, z_122, z_123⟩
      clear z_122 z_123 k2M_121 k3M_121 k4M_121
      obtain ⟨g_131, eg_131⟩ : ∃ z : Nat → Int, z = pp_r0 B nn.toInt.toNat J := ⟨_, rfl⟩
      rw [← eg_131] at hs0
      have n0 : g_131 9 = 0 := by rw [eg_131]; exact r0_9
      have gb0 := pg_b M_121
      have gc0 := b21 iM_121
      have fb0 := ff_b M_121
      have hl_172_149 : ∀ (n_150 : Nat) (M_132 : ti_M) (g_135 : Nat → Int) (H : Heap) (locs : List Loc) (ls : Array Slot), (1401 - pg M_132 + ff M_132 : Int).toNat < n_150 → (mI Tm M_132) → (lx M_132 M) → (tI M_132 60 2 = 0) → (rQ B nn.toInt.toNat g_135 M_132) → (pp_tx B nn.toInt.toNat J = pp_rd B nn.toInt.toNat (nn.toInt.toNat + 1 - (g_135 9).toNat) g_135) → (0 ≤ g_135 9 ∧ 2 * g_135 9 ≤ pg M_132 + 2 - 2 * ff M_132) → (0 ≤ ff M_132) → (ff M_132 ≤ 1) → ((tY M_132 60 3 18).toInt ≤ (tI M_132 60 30).toInt + 64 - 64 * ff M_132) → ((tI M_132 60 29).toInt ≤ 8 - 8 * ff M_132) → (0 ≤ (tY M_132 60 3 18).toInt) → ((tY M_132 60 3 18).toInt ≤ 64) → (0 ≤ (tI M_132 60 29).toInt) → ((tI M_132 60 29).toInt ≤ 8) → (0 ≤ (tI M_132 60 30).toInt) → ((tI M_132 60 30).toInt ≤ 64) → (um M_132) → ti_H ti_LM D A cy H0 M_132 H locs → lv_has ls 3 [(2, .int 6), (0, .ref (A 60 0)), (1, .int nn)] → W p l e (ti_rm 652) s m args below meth c H locs 0 0 Q (F0 m 172 ls []) := by
        intro n_150
        induction n_150 with
        | zero => intro M_132 g_135 H locs ls hf_150; exact absurd hf_150 (Nat.not_lt_zero _)
        | succ n_150 ih_150 =>
          intro M_132 g_135 H locs ls hf_150 iM_132 f_133 f_134 hs_136 j_137 j_138 j_139 j_140 j_141 j_142 j_143 j_144 j_145 j_146 j_147 j_148 j_149 hw hl
          have gb := pg_b M_132
          have gc := b21 iM_132
          refine lv_aload_n hx hb dX10_text_172 rfl (lv_at hl 1 rfl) ?_
          refine ti_get (ci := 10) (k := 25) (N := 67) (T := TX10) C hw iw_10 rfl ob_60 (by decide) (by decide) fl_X10_208 rfl rfl dX10_text_173 ?_
          refine lv_topi (fun x_151 ex_151 => ?_)
          have u_152 : (tI M_132 60 25).toInt = x_151.toInt := by rw [ex_151]
          have ufx_151 : (tI M_132 60 25).toInt = x_151.toInt := by rw [ex_151]
          refine sb_if_ne (tgt := 194) hx hb rfl dX10_text_176 (by decide) (fun c_176_152 => ?_) (fun c_176_152 => ?_)
          · have z_154 : ff M_132 = 0 := ff_0 (fun h => c_176_152 (ufx_151.symm.trans h))
            clear c_176_152
            have h4 := rQ_g1 hs_136 (by omega)
            have E9 : pp_tx B nn.toInt.toNat J = g_135 := (j_137).trans (rd_end (Or.inr (Or.inr h4)))
            refine lv_aload_n hx hb dX10_text_194 rfl (lv_at hl 1 rfl) ?_
            refine lv_aload_n hx hb dX10_text_195 rfl (lv_at hl 1 rfl) ?_
            refine ti_get (ci := 10) (k := 25) (N := 67) (T := TX10) C hw iw_10 rfl ob_60 (by decide) (by decide) fl_X10_208 rfl rfl dX10_text_196 ?_
            refine ti_top (y := x_151) (ex_151.symm) ?_
            refine ti_putI (ci := 10) (k := 27) (N := 67) (T := TX10) C hw iw_10 tyX10 tyX10_ok nmX10 rfl ob_60 (by decide) (by decide) fl_X10_303 rfl rfl rfl rfl (fn_10 A _) fs_10_27 dX10_text_199 (fun H locs hw => ?_)
            obtain ⟨M_175, hM_175⟩ : ∃ z : ti_M, z = uI M_132 60 27 x_151 := ⟨_, rfl⟩
            have hw := hw.to hM_175.symm
            have iM_175 : mI (mG M_175) M_175 := mI_lf iM_132 hM_175 (Or.inl rfl) trivial
            refine lv_aload_n hx hb dX10_text_202 rfl (lv_at hl 1 rfl) ?_
            refine lv_aload_n hx hb dX10_text_203 rfl (lv_at hl 1 rfl) ?_
            refine ti_get (ci := 10) (k := 26) (N := 67) (T := TX10) C hw iw_10 rfl ob_60 (by decide) (by decide) fl_X10_211 rfl rfl dX10_text_204 ?_
            refine lv_topi (fun x_176 ex_176 => ?_)
            refine ti_putI (ci := 10) (k := 28) (N := 67) (T := TX10) C hw iw_10 tyX10 tyX10_ok nmX10 rfl ob_60 (by decide) (by decide) fl_X10_58 rfl rfl rfl rfl (fn_10 A _) fs_10_28 dX10_text_207 (fun H locs hw => ?_)
            obtain ⟨M_177, hM_177⟩ : ∃ z : ti_M, z = uI M_175 60 28 x_176 := ⟨_, rfl⟩
            have hw := hw.to hM_177.symm
            have iM_177 : mI (mG M_177) M_177 := mI_lf iM_175 hM_177 (Or.inr rfl) trivial
            refine lv_aload_n hx hb dX10_text_210 rfl (lv_at hl 1 rfl) ?_
            refine ti_get (ci := 10) (k := 25) (N := 67) (T := TX10) C hw iw_10 rfl ob_60 (by decide) (by decide) fl_X10_208 rfl rfl dX10_text_211 ?_
            refine ti_top (y := x_151) ((tI_nE hM_177 (nk (by decide))).trans ((tI_nE hM_175 (nk (by decide))).trans ex_151.symm)) ?_
            refine sb_if_eq (tgt := 219) hx hb rfl dX10_text_214 (by decide) (fun c_214_177 => by have z_179 : ff M_132 = 1 := ff_1 (ufx_151.trans c_214_177); omega) (fun c_214_177 => ?_)
            have z_179 : ff M_132 = 0 := ff_0 (fun h => c_214_177 (ufx_151.symm.trans h))
            clear c_214_177
            refine lv_iconst (v := (-1)) hx hb dX10_text_217 (by decide) ?_
            exact hQ _ _ _ _ _ _ hw rfl (Or.inr ⟨by omega, ((tI_nE hM_177 (nk (by decide))).trans ((tI_nE hM_175 (nk (by decide))).trans f_134)), mF_self (mF_lx hF iM_177 (lx.trans (lx_I hM_177 (by decide)) (lx.trans (lx_I hM_175 (by decide)) f_133))), (by rw [E9]; unfold pp_an; rw [if_neg h4]; decide), ((congrArg Int32.toInt ((congrArg (fun t => t.2.1) iM_177.2.2.2).trans ((tI_nE hM_177 (nk (by decide))).trans (tI_uE hM_175)))).trans ((congrArg Int32.toInt (ex_151.symm)).symm.trans (by rw [E9]; exact hs_136.2.1.symm))), ((congrArg Int32.toInt ((congrArg (fun t => t.2.2) iM_177.2.2.2).trans (tI_uE hM_177))).trans ((congrArg Int32.toInt ((show tI M_175 60 26 = tI M_132 60 26 from tI_nE hM_175 (nk (by decide))).symm.trans (ex_176.symm))).symm.trans (by rw [E9]; exact hs_136.2.2.1.1.symm)))⟩) dX10_text_218
          · have z_154 : ff M_132 = 1 := ff_1 (ufx_151.trans c_176_152)
            clear c_176_152
            refine lv_aload_n hx hb dX10_text_179 rfl (lv_at hl 1 rfl) ?_
            refine ti_get (ci := 10) (k := 23) (N := 67) (T := TX10) C hw iw_10 rfl ob_60 (by decide) (by decide) fl_X10_173 rfl rfl dX10_text_180 ?_
            refine lv_topi (fun x_155 ex_155 => ?_)
            refine lv_iconst (v := 4) hx hb dX10_text_183 (by decide) ?_
            refine sb_icmp_eq (tgt := 194) hx hb rfl (by decide : (4 : Int32).toInt = 4) dX10_text_184 (by decide) (fun c_184_155 => ?_) (fun c_184_155 => ?_)
            · have h4 := rQ_g0 hs_136 (show ff M_132 = 1 by omega)
              have h27 : g_135 0 = 27 := (pt_Tnm (rQ_T hs_136 (by omega))).2.2.2.2.1 (by rw [(ex_155.symm)]; exact c_184_155)
              have E9 : pp_tx B nn.toInt.toNat J = g_135 := (j_137).trans (rd_end (Or.inr (Or.inl h27)))
              refine lv_aload_n hx hb dX10_text_194 rfl (lv_at hl 1 rfl) ?_
              refine lv_aload_n hx hb dX10_text_195 rfl (lv_at hl 1 rfl) ?_
              refine ti_get (ci := 10) (k := 25) (N := 67) (T := TX10) C hw iw_10 rfl ob_60 (by decide) (by decide) fl_X10_208 rfl rfl dX10_text_196 ?_
              refine ti_top (y := x_151) (ex_151.symm) ?_
              refine ti_putI (ci := 10) (k := 27) (N := 67) (T := TX10) C hw iw_10 tyX10 tyX10_ok nmX10 rfl ob_60 (by decide) (by decide) fl_X10_303 rfl rfl rfl rfl (fn_10 A _) fs_10_27 dX10_text_199 (fun H locs hw => ?_)
              obtain ⟨M_180, hM_180⟩ : ∃ z : ti_M, z = uI M_132 60 27 x_151 := ⟨_, rfl⟩
              have hw := hw.to hM_180.symm
              have iM_180 : mI (mG M_180) M_180 := mI_lf iM_132 hM_180 (Or.inl rfl) trivial
              refine lv_aload_n hx hb dX10_text_202 rfl (lv_at hl 1 rfl) ?_
              refine lv_aload_n hx hb dX10_text_203 rfl (lv_at hl 1 rfl) ?_
              refine ti_get (ci := 10) (k := 26) (N := 67) (T := TX10) C hw iw_10 rfl ob_60 (by decide) (by decide) fl_X10_211 rfl rfl dX10_text_204 ?_
              refine lv_topi (fun x_181 ex_181 => ?_)
              refine ti_putI (ci := 10) (k := 28) (N := 67) (T := TX10) C hw iw_10 tyX10 tyX10_ok nmX10 rfl ob_60 (by decide) (by decide) fl_X10_58 rfl rfl rfl rfl (fn_10 A _) fs_10_28 dX10_text_207 (fun H locs hw => ?_)
              obtain ⟨M_182, hM_182⟩ : ∃ z : ti_M, z = uI M_180 60 28 x_181 := ⟨_, rfl⟩
              have hw := hw.to hM_182.symm
              have iM_182 : mI (mG M_182) M_182 := mI_lf iM_180 hM_182 (Or.inr rfl) trivial
              refine lv_aload_n hx hb dX10_text_210 rfl (lv_at hl 1 rfl) ?_
              refine ti_get (ci := 10) (k := 25) (N := 67) (T := TX10) C hw iw_10 rfl ob_60 (by decide) (by decide) fl_X10_208 rfl rfl dX10_text_211 ?_
              refine ti_top (y := x_151) ((tI_nE hM_182 (nk (by decide))).trans ((tI_nE hM_180 (nk (by decide))).trans ex_151.symm)) ?_
              refine sb_if_eq (tgt := 219) hx hb rfl dX10_text_214 (by decide) (fun c_214_182 => ?_) (fun c_214_182 => by have z_184 : ff M_132 = 0 := ff_0 (fun h => c_214_182 (ufx_151.symm.trans h)); omega)
              have z_184 : ff M_132 = 1 := ff_1 (ufx_151.trans c_214_182)
              clear c_214_182
              refine lv_aload_n hx hb dX10_text_219 rfl (lv_at hl 1 rfl) ?_
              refine ti_get (ci := 10) (k := 3) (N := 67) (T := TX10) (v := .ref (A 60 4)) C hw iw_10 rfl ob_60 (by decide) (by decide) fl_X10_13 rfl rfl dX10_text_220 ?_
              refine ti_callSv (av := [.ref (A 60 4)]) C hw (s_X10_half_3 l D A cy hJ M_182 iM_182 ) ⟨ml_X10_306, ys_X10_half, yi_X10_half, yc_X10_half⟩ yd_X10_half rfl hl.1 (Nat.le_of_ble_eq_true rfl) ⟨by decide, by decide⟩ ⟨Nat.zero_le _, Nat.zero_le _⟩ dX10_text_223 (fun M_186 H locs hp_186 hw => ?_)
              obtain ⟨iM_186, q_187⟩ := hp_186
              refine lv_aload_n hx hb dX10_text_226 rfl (lv_at hl 1 rfl) ?_
              refine ti_get (ci := 10) (k := 4) (N := 67) (T := TX10) (v := .ref (A 60 5)) C hw iw_10 rfl ob_60 (by decide) (by decide) fl_X10_16 rfl rfl dX10_text_227 ?_
              refine ti_callSv (av := [.ref (A 60 5)]) C hw (s_X10_half_4 l D A cy hJ M_186 iM_186 ) ⟨ml_X10_306, ys_X10_half, yi_X10_half, yc_X10_half⟩ yd_X10_half rfl hl.1 (Nat.le_of_ble_eq_true rfl) ⟨by decide, by decide⟩ ⟨Nat.zero_le _, Nat.zero_le _⟩ dX10_text_230 (fun M_189 H locs hp_189 hw => ?_)
              obtain ⟨iM_189, q_190⟩ := hp_189
              refine lv_aload_n hx hb dX10_text_233 rfl (lv_at hl 1 rfl) ?_
              refine ti_get (ci := 10) (k := 5) (N := 67) (T := TX10) (v := .ref (A 60 6)) C hw iw_10 rfl ob_60 (by decide) (by decide) fl_X10_19 rfl rfl dX10_text_234 ?_
              refine ti_callSv (av := [.ref (A 60 6)]) C hw (s_X10_half_5 l D A cy hJ M_189 iM_189 ) ⟨ml_X10_306, ys_X10_half, yi_X10_half, yc_X10_half⟩ yd_X10_half rfl hl.1 (Nat.le_of_ble_eq_true rfl) ⟨by decide, by decide⟩ ⟨Nat.zero_le _, Nat.zero_le _⟩ dX10_text_237 (fun M_192 H locs hp_192 hw => ?_)
              obtain ⟨iM_192, q_193⟩ := hp_192
              refine lv_aload_n hx hb dX10_text_240 rfl (lv_at hl 1 rfl) ?_
              refine ti_get (ci := 10) (k := 6) (N := 67) (T := TX10) (v := .ref (A 60 7)) C hw iw_10 rfl ob_60 (by decide) (by decide) fl_X10_22 rfl rfl dX10_text_241 ?_
              refine ti_callSv (av := [.ref (A 60 7)]) C hw (s_X10_half_6 l D A cy hJ M_192 iM_192 ) ⟨ml_X10_306, ys_X10_half, yi_X10_half, yc_X10_half⟩ yd_X10_half rfl hl.1 (Nat.le_of_ble_eq_true rfl) ⟨by decide, by decide⟩ ⟨Nat.zero_le _, Nat.zero_le _⟩ dX10_text_244 (fun M_195 H locs hp_195 hw => ?_)
              obtain ⟨iM_195, q_196⟩ := hp_195
              refine lv_aload_n hx hb dX10_text_247 rfl (lv_at hl 1 rfl) ?_
              refine ti_get (ci := 10) (k := 7) (N := 67) (T := TX10) (v := .ref (A 60 8)) C hw iw_10 rfl ob_60 (by decide) (by decide) fl_X10_25 rfl rfl dX10_text_248 ?_
              refine ti_callSv (av := [.ref (A 60 8)]) C hw (s_X10_half_7 l D A cy hJ M_195 iM_195 ) ⟨ml_X10_306, ys_X10_half, yi_X10_half, yc_X10_half⟩ yd_X10_half rfl hl.1 (Nat.le_of_ble_eq_true rfl) ⟨by decide, by decide⟩ ⟨Nat.zero_le _, Nat.zero_le _⟩ dX10_text_251 (fun M_198 H locs hp_198 hw => ?_)
              obtain ⟨iM_198, q_199⟩ := hp_198
              refine lv_aload_n hx hb dX10_text_254 rfl (lv_at hl 1 rfl) ?_
              refine ti_get (ci := 10) (k := 8) (N := 67) (T := TX10) (v := .ref (A 60 9)) C hw iw_10 rfl ob_60 (by decide) (by decide) fl_X10_28 rfl rfl dX10_text_255 ?_
              refine ti_callSv (av := [.ref (A 60 9)]) C hw (s_X10_half_8 l D A cy hJ M_198 iM_198 ) ⟨ml_X10_306, ys_X10_half, yi_X10_half, yc_X10_half⟩ yd_X10_half rfl hl.1 (Nat.le_of_ble_eq_true rfl) ⟨by decide, by decide⟩ ⟨Nat.zero_le _, Nat.zero_le _⟩ dX10_text_258 (fun M_201 H locs hp_201 hw => ?_)
              obtain ⟨iM_201, q_202⟩ := hp_201
              refine lv_aload_n hx hb dX10_text_261 rfl (lv_at hl 1 rfl) ?_
              refine ti_get (ci := 10) (k := 9) (N := 67) (T := TX10) (v := .ref (A 60 10)) C hw iw_10 rfl ob_60 (by decide) (by decide) fl_X10_31 rfl rfl dX10_text_262 ?_
              refine ti_callSv (av := [.ref (A 60 10)]) C hw (s_X10_half_9 l D A cy hJ M_201 iM_201 ) ⟨ml_X10_306, ys_X10_half, yi_X10_half, yc_X10_half⟩ yd_X10_half rfl hl.1 (Nat.le_of_ble_eq_true rfl) ⟨by decide, by decide⟩ ⟨Nat.zero_le _, Nat.zero_le _⟩ dX10_text_265 (fun M_204 H locs hp_204 hw => ?_)
              obtain ⟨iM_204, q_205⟩ := hp_204
              refine lv_aload_n hx hb dX10_text_268 rfl (lv_at hl 1 rfl) ?_
              refine ti_get (ci := 10) (k := 10) (N := 67) (T := TX10) (v := .ref (A 60 11)) C hw iw_10 rfl ob_60 (by decide) (by decide) fl_X10_34 rfl rfl dX10_text_269 ?_
              refine ti_callSv (av := [.ref (A 60 11)]) C hw (s_X10_half_10 l D A cy hJ M_204 iM_204 ) ⟨ml_X10_306, ys_X10_half, yi_X10_half, yc_X10_half⟩ yd_X10_half rfl hl.1 (Nat.le_of_ble_eq_true rfl) ⟨by decide, by decide⟩ ⟨Nat.zero_le _, Nat.zero_le _⟩ dX10_text_272 (fun M_207 H locs hp_207 hw => ?_)
              obtain ⟨iM_207, q_208⟩ := hp_207
              refine lv_aload_n hx hb dX10_text_275 rfl (lv_at hl 1 rfl) ?_
              refine ti_get (ci := 10) (k := 11) (N := 67) (T := TX10) (v := .ref (A 60 12)) C hw iw_10 rfl ob_60 (by decide) (by decide) fl_X10_37 rfl rfl dX10_text_276 ?_
              refine ti_callSv (av := [.ref (A 60 12)]) C hw (s_X10_half_11 l D A cy hJ M_207 iM_207 ) ⟨ml_X10_306, ys_X10_half, yi_X10_half, yc_X10_half⟩ yd_X10_half rfl hl.1 (Nat.le_of_ble_eq_true rfl) ⟨by decide, by decide⟩ ⟨Nat.zero_le _, Nat.zero_le _⟩ dX10_text_279 (fun M_210 H locs hp_210 hw => ?_)
              obtain ⟨iM_210, q_211⟩ := hp_210
              refine lv_aload_n hx hb dX10_text_282 rfl (lv_at hl 1 rfl) ?_
              refine ti_get (ci := 10) (k := 12) (N := 67) (T := TX10) (v := .ref (A 60 13)) C hw iw_10 rfl ob_60 (by decide) (by decide) fl_X10_40 rfl rfl dX10_text_283 ?_
              refine ti_callSv (av := [.ref (A 60 13)]) C hw (s_X10_half_12 l D A cy hJ M_210 iM_210 ) ⟨ml_X10_306, ys_X10_half, yi_X10_half, yc_X10_half⟩ yd_X10_half rfl hl.1 (Nat.le_of_ble_eq_true rfl) ⟨by decide, by decide⟩ ⟨Nat.zero_le _, Nat.zero_le _⟩ dX10_text_286 (fun M_213 H locs hp_213 hw => ?_)
              obtain ⟨iM_213, q_214⟩ := hp_213
              refine lv_aload_n hx hb dX10_text_289 rfl (lv_at hl 1 rfl) ?_
              refine ti_get (ci := 10) (k := 13) (N := 67) (T := TX10) (v := .ref (A 60 14)) C hw iw_10 rfl ob_60 (by decide) (by decide) fl_X10_43 rfl rfl dX10_text_290 ?_
              refine ti_callSv (av := [.ref (A 60 14)]) C hw (s_X10_half_13 l D A cy hJ M_213 iM_213 ) ⟨ml_X10_306, ys_X10_half, yi_X10_half, yc_X10_half⟩ yd_X10_half rfl hl.1 (Nat.le_of_ble_eq_true rfl) ⟨by decide, by decide⟩ ⟨Nat.zero_le _, Nat.zero_le _⟩ dX10_text_293 (fun M_216 H locs hp_216 hw => ?_)
              obtain ⟨iM_216, q_217⟩ := hp_216
              refine lv_aload_n hx hb dX10_text_296 rfl (lv_at hl 1 rfl) ?_
              refine ti_get (ci := 10) (k := 14) (N := 67) (T := TX10) (v := .ref (A 60 15)) C hw iw_10 rfl ob_60 (by decide) (by decide) fl_X10_46 rfl rfl dX10_text_297 ?_
              refine ti_callSv (av := [.ref (A 60 15)]) C hw (s_X10_half_14 l D A cy hJ M_216 iM_216 ) ⟨ml_X10_306, ys_X10_half, yi_X10_half, yc_X10_half⟩ yd_X10_half rfl hl.1 (Nat.le_of_ble_eq_true rfl) ⟨by decide, by decide⟩ ⟨Nat.zero_le _, Nat.zero_le _⟩ dX10_text_300 (fun M_219 H locs hp_219 hw => ?_)
              obtain ⟨iM_219, q_220⟩ := hp_219
              refine lv_aload_n hx hb dX10_text_303 rfl (lv_at hl 1 rfl) ?_
              refine ti_get (ci := 10) (k := 15) (N := 67) (T := TX10) (v := .ref (A 60 16)) C hw iw_10 rfl ob_60 (by decide) (by decide) fl_X10_49 rfl rfl dX10_text_304 ?_
              refine ti_callSv (av := [.ref (A 60 16)]) C hw (s_X10_half_15 l D A cy hJ M_219 iM_219 ) ⟨ml_X10_306, ys_X10_half, yi_X10_half, yc_X10_half⟩ yd_X10_half rfl hl.1 (Nat.le_of_ble_eq_true rfl) ⟨by decide, by decide⟩ ⟨Nat.zero_le _, Nat.zero_le _⟩ dX10_text_307 (fun M_222 H locs hp_222 hw => ?_)
              obtain ⟨iM_222, q_223⟩ := hp_222
              refine lv_aload_n hx hb dX10_text_310 rfl (lv_at hl 1 rfl) ?_
              refine ti_get (ci := 10) (k := 16) (N := 67) (T := TX10) (v := .ref (A 60 17)) C hw iw_10 rfl ob_60 (by decide) (by decide) fl_X10_52 rfl rfl dX10_text_311 ?_
              refine ti_callSv (av := [.ref (A 60 17)]) C hw (s_X10_half_16 l D A cy hJ M_222 iM_222 ) ⟨ml_X10_306, ys_X10_half, yi_X10_half, yc_X10_half⟩ yd_X10_half rfl hl.1 (Nat.le_of_ble_eq_true rfl) ⟨by decide, by decide⟩ ⟨Nat.zero_le _, Nat.zero_le _⟩ dX10_text_314 (fun M_225 H locs hp_225 hw => ?_)
              obtain ⟨iM_225, q_226⟩ := hp_225
              refine lv_aload_n hx hb dX10_text_317 rfl (lv_at hl 1 rfl) ?_
              refine ti_get (ci := 10) (k := 17) (N := 67) (T := TX10) (v := .ref (A 60 18)) C hw iw_10 rfl ob_60 (by decide) (by decide) fl_X10_55 rfl rfl dX10_text_318 ?_
              refine ti_callSv (av := [.ref (A 60 18)]) C hw (s_X10_half_17 l D A cy hJ M_225 iM_225 ) ⟨ml_X10_306, ys_X10_half, yi_X10_half, yc_X10_half⟩ yd_X10_half rfl hl.1 (Nat.le_of_ble_eq_true rfl) ⟨by decide, by decide⟩ ⟨Nat.zero_le _, Nat.zero_le _⟩ dX10_text_321 (fun M_228 H locs hp_228 hw => ?_)
              obtain ⟨iM_228, q_229⟩ := hp_228
              refine lv_aload_n hx hb dX10_text_324 rfl (lv_at hl 1 rfl) ?_
              refine lv_iconst (v := 0) hx hb dX10_text_325 (by decide) ?_
              refine ti_putI (ci := 10) (k := 58) (N := 67) (T := TX10) C hw iw_10 tyX10 tyX10_ok nmX10 rfl ob_60 (by decide) (by decide) fl_X10_310 rfl rfl rfl rfl (fn_10 A _) fs_10_58 dX10_text_326 (fun H locs hw => ?_)
              obtain ⟨M_230, hM_230⟩ : ∃ z : ti_M, z = uI M_228 60 58 0 := ⟨_, rfl⟩
              have hw := hw.to hM_230.symm
              have iM_230 : mI (mG M_182) M_230 := mI_uI iM_228 hM_230 (by decide) (by decide) (ib_mk (lo := 0) (hi := 24) (by decide) (by decide))
              have vM_230 : (tI M_230 60 58).toInt = 0 := by rw [tI_uE hM_230]; decide
              refine lv_aload_n hx hb dX10_text_329 rfl (lv_at hl 1 rfl) ?_
              refine lv_iconst (v := (-1)) hx hb dX10_text_330 (by decide) ?_
              refine ti_putI (ci := 10) (k := 59) (N := 67) (T := TX10) C hw iw_10 tyX10 tyX10_ok nmX10 rfl ob_60 (by decide) (by decide) fl_X10_132 rfl rfl rfl rfl (fn_10 A _) fs_10_59 dX10_text_331 (fun H locs hw => ?_)
              obtain ⟨M_231, hM_231⟩ : ∃ z : ti_M, z = uI M_230 60 59 (-1) := ⟨_, rfl⟩
              have hw := hw.to hM_231.symm
              have iM_231 : mI (mG M_182) M_231 := mI_uI iM_230 hM_231 (by decide) (by decide) (ib_mk (lo := (-1)) (hi := 24) (by decide) (by decide))
              have vM_231 : (tI M_231 60 59).toInt = (-1) := by rw [tI_uE hM_231]; decide
              refine lv_aload_n hx hb dX10_text_334 rfl (lv_at hl 1 rfl) ?_
              refine lv_iconst (v := 0) hx hb dX10_text_335 (by decide) ?_
              refine ti_putI (ci := 10) (k := 51) (N := 67) (T := TX10) C hw iw_10 tyX10 tyX10_ok nmX10 rfl ob_60 (by decide) (by decide) fl_X10_313 rfl rfl rfl rfl (fn_10 A _) fs_10_51 dX10_text_336 (fun H locs hw => ?_)
              obtain ⟨M_232, hM_232⟩ : ∃ z : ti_M, z = uI M_231 60 51 0 := ⟨_, rfl⟩
              have hw := hw.to hM_232.symm
              have iM_232 : mI (mG M_182) M_232 := mI_uI iM_231 hM_232 (by decide) (by decide) trivial
              refine lv_aload_n hx hb dX10_text_339 rfl (lv_at hl 1 rfl) ?_
              refine lv_iconst (v := 0) hx hb dX10_text_340 (by decide) ?_
              refine ti_putI (ci := 10) (k := 52) (N := 67) (T := TX10) C hw iw_10 tyX10 tyX10_ok nmX10 rfl ob_60 (by decide) (by decide) fl_X10_317 rfl rfl rfl rfl (fn_10 A _) fs_10_52 dX10_text_341 (fun H locs hw => ?_)
              obtain ⟨M_233, hM_233⟩ : ∃ z : ti_M, z = uI M_232 60 52 0 := ⟨_, rfl⟩
              have hw := hw.to hM_233.symm
              have iM_233 : mI (mG M_182) M_233 := mI_uI iM_232 hM_233 (by decide) (by decide) (ib_mk (lo := 0) (hi := 20) (by decide) (by decide))
              have vM_233 : (tI M_233 60 52).toInt = 0 := by rw [tI_uE hM_233]; decide
              refine lv_aload_n hx hb dX10_text_344 rfl (lv_at hl 1 rfl) ?_
              refine ti_callVv (ci := 10) (av := []) C hw (x_X10_begins l D A cy hJ M_233 iM_233 ) ⟨ml_X10_151, ym_X10_begins, yv_X10_begins, yi_X10_begins, yc_X10_begins⟩ yd_X10_begins ob_60 (by decide) rfl rfl hl.1 (Nat.le_of_ble_eq_true rfl) ⟨by decide, by decide⟩ ⟨Nat.zero_le _, Nat.zero_le _⟩ dX10_text_345 (fun M_235 H locs hp_235 hw => ?_)
              obtain ⟨iM_235, q_236, q_237, q_238, q_239⟩ := hp_235
              have y19 : tI M_235 60 19 = tI M_132 60 19 := ((q_239).trans ((tI_nE hM_233 (nk (by decide))).trans ((tI_nE hM_232 (nk (by decide))).trans ((tI_nE hM_231 (nk (by decide))).trans ((tI_nE hM_230 (nk (by decide))).trans ((q_229.2.2 19).trans ((q_226.2.2 19).trans ((q_223.2.2 19).trans ((q_220.2.2 19).trans ((q_217.2.2 19).trans ((q_214.2.2 19).trans ((q_211.2.2 19).trans ((q_208.2.2 19).trans ((q_205.2.2 19).trans ((q_202.2.2 19).trans ((q_199.2.2 19).trans ((q_196.2.2 19).trans ((q_193.2.2 19).trans ((q_190.2.2 19).trans ((q_187.2.2 19).trans ((tI_nE hM_182 (nk (by decide))).trans (tI_nE hM_180 (nk (by decide))))))))))))))))))))))))
              refine lv_aload_n hx hb dX10_text_348 rfl (lv_at hl 1 rfl) ?_
              refine ti_get (ci := 10) (k := 19) (N := 67) (T := TX10) C hw iw_10 rfl ob_60 (by decide) (by decide) fl_X10_254 rfl rfl dX10_text_349 ?_
              refine lv_topi (fun x_240 ex_240 => ?_)
              have um9 : mU M_182 := ((um_l0 j_149 (l0.trans (l0_I hM_182 (by decide)) (l0_I hM_180 (by decide))) (by omega))).resolve_left (by omega)
              have mL9 : mL M_233 := mL_hv iM_182 um9 (fun i hi => ((cg (tY_uIE hM_233) i).trans ((cg (tY_uIE hM_232) i).trans ((cg (tY_uIE hM_231) i).trans ((cg (tY_uIE hM_230) i).trans ((cg (q_229.1 14 (by decide)) i).trans ((cg (q_226.1 14 (by decide)) i).trans ((cg (q_223.1 14 (by decide)) i).trans ((q_220.2.1 i hi).trans ((cg (q_217.1 14 (by decide)) _).trans ((cg (q_214.1 14 (by decide)) _).trans ((cg (q_211.1 14 (by decide)) _).trans ((cg (q_208.1 14 (by decide)) _).trans ((cg (q_205.1 14 (by decide)) _).trans ((cg (q_202.1 14 (by decide)) _).trans ((cg (q_199.1 14 (by decide)) _).trans ((cg (q_196.1 14 (by decide)) _).trans ((cg (q_193.1 14 (by decide)) _).trans ((cg (q_190.1 14 (by decide)) _).trans (cg (q_187.1 14 (by decide)) _)))))))))))))))))))) (fun i hi => ((cg (tY_uIE hM_233) i).trans ((cg (tY_uIE hM_232) i).trans ((cg (tY_uIE hM_231) i).trans ((cg (tY_uIE hM_230) i).trans ((cg (q_229.1 15 (by decide)) i).trans ((cg (q_226.1 15 (by decide)) i).trans ((q_223.2.1 i hi).trans ((cg (q_220.1 15 (by decide)) _).trans ((cg (q_217.1 15 (by decide)) _).trans ((cg (q_214.1 15 (by decide)) _).trans ((cg (q_211.1 15 (by decide)) _).trans ((cg (q_208.1 15 (by decide)) _).trans ((cg (q_205.1 15 (by decide)) _).trans ((cg (q_202.1 15 (by decide)) _).trans ((cg (q_199.1 15 (by decide)) _).trans ((cg (q_196.1 15 (by decide)) _).trans ((cg (q_193.1 15 (by decide)) _).trans ((cg (q_190.1 15 (by decide)) _).trans (cg (q_187.1 15 (by decide)) _)))))))))))))))))))) (fun i hi => ((cg (tY_uIE hM_233) i).trans ((cg (tY_uIE hM_232) i).trans ((cg (tY_uIE hM_231) i).trans ((cg (tY_uIE hM_230) i).trans ((cg (q_229.1 16 (by decide)) i).trans ((q_226.2.1 i hi).trans ((cg (q_223.1 16 (by decide)) _).trans ((cg (q_220.1 16 (by decide)) _).trans ((cg (q_217.1 16 (by decide)) _).trans ((cg (q_214.1 16 (by decide)) _).trans ((cg (q_211.1 16 (by decide)) _).trans ((cg (q_208.1 16 (by decide)) _).trans ((cg (q_205.1 16 (by decide)) _).trans ((cg (q_202.1 16 (by decide)) _).trans ((cg (q_199.1 16 (by decide)) _).trans ((cg (q_196.1 16 (by decide)) _).trans ((cg (q_193.1 16 (by decide)) _).trans ((cg (q_190.1 16 (by decide)) _).trans (cg (q_187.1 16 (by decide)) _)))))))))))))))))))) (fun i hi => ((cg (tY_uIE hM_233) i).trans ((cg (tY_uIE hM_232) i).trans ((cg (tY_uIE hM_231) i).trans ((cg (tY_uIE hM_230) i).trans ((q_229.2.1 i hi).trans ((cg (q_226.1 17 (by decide)) _).trans ((cg (q_223.1 17 (by decide)) _).trans ((cg (q_220.1 17 (by decide)) _).trans ((cg (q_217.1 17 (by decide)) _).trans ((cg (q_214.1 17 (by decide)) _).trans ((cg (q_211.1 17 (by decide)) _).trans ((cg (q_208.1 17 (by decide)) _).trans ((cg (q_205.1 17 (by decide)) _).trans ((cg (q_202.1 17 (by decide)) _).trans ((cg (q_199.1 17 (by decide)) _).trans ((cg (q_196.1 17 (by decide)) _).trans ((cg (q_193.1 17 (by decide)) _).trans ((cg (q_190.1 17 (by decide)) _).trans (cg (q_187.1 17 (by decide)) _))))))))))))))))))))
              exact hQ _ _ _ _ _ _ hw rfl (Or.inr ⟨by omega, ((q_236.2.1.1).trans ((tI_nE hM_233 (nk (by decide))).trans ((tI_nE hM_232 (nk (by decide))).trans ((tI_nE hM_231 (nk (by decide))).trans ((tI_nE hM_230 (nk (by decide))).trans ((q_229.2.2 2).trans ((q_226.2.2 2).trans ((q_223.2.2 2).trans ((q_220.2.2 2).trans ((q_217.2.2 2).trans ((q_214.2.2 2).trans ((q_211.2.2 2).trans ((q_208.2.2 2).trans ((q_205.2.2 2).trans ((q_202.2.2 2).trans ((q_199.2.2 2).trans ((q_196.2.2 2).trans ((q_193.2.2 2).trans ((q_190.2.2 2).trans ((q_187.2.2 2).trans ((tI_nE hM_182 (nk (by decide))).trans ((tI_nE hM_180 (nk (by decide))).trans f_134)))))))))))))))))))))), mF_self (mF_st iM_235 mL9 q_236 q_237 q_238 ((tI_nE hM_233 (nk (by decide))).trans (tI_uE hM_232)) (tI_uE hM_233)), (by rw [E9]; unfold pp_an; rw [if_pos h4]; exact (congrArg Int32.toInt (ex_240.symm)).symm.trans ((congrArg Int32.toInt y19).trans ((hs_136.2.2.2 h4).2.2.1.2.2).symm)), ((congrArg Int32.toInt ((congrArg (fun t => t.2.1) iM_235.2.2.2).trans ((tI_nE hM_182 (nk (by decide))).trans (tI_uE hM_180)))).trans ((congrArg Int32.toInt (ex_151.symm)).symm.trans (by rw [E9]; exact hs_136.2.1.symm))), ((congrArg Int32.toInt ((congrArg (fun t => t.2.2) iM_235.2.2.2).trans (tI_uE hM_182))).trans ((congrArg Int32.toInt ((show tI M_180 60 26 = tI M_132 60 26 from tI_nE hM_180 (nk (by decide))).symm.trans (ex_181.symm))).symm.trans (by rw [E9]; exact hs_136.2.2.1.1.symm)))⟩) dX10_text_352
            · have hs : pg M_132 = 2 * (tI M_132 60 21).toInt := pg_3 (by rw [(ex_155.symm)]; exact c_184_155)
              have rr0 := rQ_g0 hs_136 (show ff M_132 = 1 by omega)
              have n27 : g_135 0 ≠ 27 := fun q => by have e := (pt_Tnm (rQ_T hs_136 (by omega))).2.2.2.2.2 q; rw [(ex_155.symm)] at e; exact c_184_155 e
              have a3 := (hs_136.2.2.2 rr0).2.1
              refine lv_aload_n hx hb dX10_text_187 rfl (lv_at hl 1 rfl) ?_
              refine ti_callVvE (ci := 10) (av := []) C hE hw (x_X10_line l D A cy hJ M_132 iM_132 (by omega) j_149 (by omega) (by omega) hs B nn.toInt.toNat g_135 hs_136 (by omega)) ⟨ml_X10_300, ym_X10_line, yv_X10_line, yi_X10_line, yc_X10_line⟩ yd_X10_line ob_60 (by decide) rfl rfl hl.1 (Nat.le_of_ble_eq_true rfl) ⟨by decide, by decide⟩ ⟨Nat.zero_le _, Nat.zero_le _⟩ dX10_text_188 (fun M_158 H locs hp_158 hw => ?_)
              obtain ⟨hs_159, hp_160⟩ := hp_158
              obtain ⟨iM_158, q_161, z_162, z_163, z_164, z_165, z_166, z_167, z_168, z_169, z_170, z_171, z_172, u_173⟩ := hp_160
              obtain ⟨g_174, eg_174⟩ : ∃ z : Nat → Int, z = pp_ln B nn.toInt.toNat g_135 := ⟨_, rfl⟩
              rw [← eg_174] at hs_159
              have n9 : g_174 9 = g_135 9 + 1 := by rw [eg_174]; exact ln_9
              refine lv_goto (tgt := 172) hx hb dX10_text_191 (by decide) ?_
              exact ih_150 M_158 g_174 _ _ _ (by omega) iM_158 (lx.trans (lx_ln q_161) f_133) ((q_161.2.2.2.2 2 (by decide)).trans f_134) hs_159 (j_137.trans (rd_step ⟨n27, rr0⟩ eg_174 (by omega))) (by first | omega | decide) (by first | omega | decide) (by first | omega | decide) (by first | omega | decide) (by first | omega | decide) (by first | omega | decide) (by first | omega | decide) (by first | omega | decide) (by first | omega | decide) (by first | omega | decide) (by first | omega | decide) u_173 hw (lv_sub hl [0, 1, 2] rfl)
      exact hl_172_149 ((1401 - pg M_121 + ff M_121 : Int).toNat + 1) M_121 g_131 _ _ _ (Nat.lt_succ_self _) iM_121 (lx.trans (lx_ln (ln_l0 (l0_pr q_124 (by decide) (by decide)))) (lx.trans (lx_I hM_119 (by decide)) (lx.trans (lx_I hM_118 (by decide)) (lx.trans (lx_I hM_117 (by decide)) (lx.trans (lx_I hM_116 (by decide)) (lx.trans (lx_ln (ln_15 hM_114 (by decide))) (lx.trans (lx_ln (ln_14 hM_113 (by decide))) (lx.trans (lx_ln (ln_15 hM_111 (by decide))) (lx.trans (lx_ln (ln_14 hM_110 (by decide))) (lx.trans (lx_ln (ln_15 hM_108 (by decide))) (lx.trans (lx_ln (ln_14 hM_107 (by decide))) (lx.trans (lx_3 hM_103 (by decide)) (lx.trans (lx_3 hM_96 (by decide)) (lx.trans (lx_3 hM_86 (by decide)) (lx.trans (lx_3 hM_76 (by decide)) (lx.trans (lx_3 hM_66 (by decide)) (lx.trans (lx_3 hM_56 (by decide)) (lx.trans (lx_3 hM_46 (by decide)) (lx.trans (lx_3 hM_37 (by decide)) (lx.trans (lx_3 hM_29 (by decide)) (lx.trans (lx_3 hM_23 (by decide)) (lx.trans (lx_3 hM_19 (by decide)) (lx.trans (lx_I hM_10 (by decide)) (lx.trans (lx_I hM_9 (by decide)) (lx.trans (lx_I hM_8 (by decide)) (lx.trans (lx_I hM_7 (by decide)) (lx.trans (lx_I hM_6 (by decide)) (lx_I hM_1 (by decide))))))))))))))))))))))))))))) ((q_124.2 2 (by decide)).trans ((tI_nE hM_119 (nk (by decide))).trans ((tI_nE hM_118 (nk (by decide))).trans ((tI_nE hM_117 (nk (by decide))).trans ((tI_nE hM_116 (nk (by decide))).trans ((tI_uYE hM_114).trans ((tI_uYE hM_113).trans ((tI_uYE hM_111).trans ((tI_uYE hM_110).trans ((tI_uYE hM_108).trans ((tI_uYE hM_107).trans ((tI_uYE hM_103).trans ((tI_uYE hM_96).trans ((tI_uYE hM_86).trans ((tI_uYE hM_76).trans ((tI_uYE hM_66).trans ((tI_uYE hM_56).trans ((tI_uYE hM_46).trans ((tI_uYE hM_37).trans ((tI_uYE hM_29).trans ((tI_uYE hM_23).trans ((tI_uYE hM_19).trans ((tI_nE hM_10 (nk (by decide))).trans ((tI_nE hM_9 (nk (by decide))).trans ((tI_nE hM_8 (nk (by decide))).trans (tI_uE hM_7)))))))))))))))))))))))))) hs0 (by unfold pp_tx; rw [← eg_131, n0]; rfl) (by first | omega | decide) (by first | omega | decide) (by first | omega | decide) (by first | omega | decide) (by first | omega | decide) (by first | omega | decide) (by first | omega | decide) (by first | omega | decide) (by first | omega | decide) (by first | omega | decide) (by first | omega | decide) (um_l0 fu (l0_pr q_124 (by decide) (by decide)) (by omega)) hw (lv_sub hl [0, 1, 2] rfl)
    · exact hj_17_5  _ _ _ (by first | omega | decide) hw (lv_sub hl [0, 1] rfl)

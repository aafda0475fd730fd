variable {Tc : gC} {Tm : gM}
theorem lx_3 {i : Nat} {N M : ti_M} {v : Int32} (e : N = uY M 60 3 (upd (tY M 60 3) i v)) (h : 11 ≤ i) : lx N M := ⟨fun k2 h2 => tY_nE e (nk (by omega)), fun j => ⟨fun hj => by rw [tY_uE e, pk_un (by omega)], fun hj => by rw [tY_nE e (nk (by decide))]⟩, fun j hj => ⟨by rw [tY_nE e (nk (by decide))], by rw [tY_nE e (nk (by decide))]⟩, fun j hj => ⟨by rw [tY_nE e (nk (by decide))], by rw [tY_nE e (nk (by decide))]⟩, fun k2 _ => tI_uYE e⟩
section
variable {B J : Nat → Int} {n : Nat}
theorem r0_9 : pp_r0 B n J 9 = 0 := rfl
/-- the registers ahead of the first line -/
theorem rQ_st {M N : ti_M} (hB : ∀ i : Nat, i < n → (tY M 60 1 i).toInt = B i) (hn : (tI M 60 20).toInt.toNat = n) (h21 : (tI M 60 21).toInt = 0) (hp : pr 21 24 N M) (k2 : (tI N 60 22).toInt = ((pt_P (pt_rB M) (pt_rn0 M) (tI M 60 21).toInt.toNat : Nat) : Int)) (k3 : (tI N 60 21).toInt = pt_A (pt_rB M) (pt_rn0 M) (tI M 60 21).toInt.toNat) (kT : pt_T (pt_K (pt_rB M) (pt_rn0 M) (tI M 60 21).toInt.toNat) (pt_V (pt_rB M) (pt_rn0 M) (tI M 60 21).toInt.toNat) (tI N 60 23).toInt (tI N 60 24).toInt) (h25 : (tI M 60 25).toInt = 0) (h26 : (tI M 60 26).toInt = -1) (h19 : (tI M 60 19).toInt = 0) (h30 : (tI M 60 30).toInt = 0) (h18 : tI M 60 18 = 0) (h11 : (tY M 60 3 11).toInt = 0) : rQ B n (pp_r0 B n J) N := by
  have a1 : ∀ i : Nat, i < n → pt_rB M i = B i := hB
  have a2 : pt_rn0 M = n := hn
  rw [a2, h21] at k2 k3 kT
  rw [px_P a1] at k2
  rw [px_A a1] at k3
  rw [px_K a1, px_V a1] at kT
  have bz : ∀ k : Nat, pp_bt 0 k = 0 := fun k => by unfold pp_bt; simp
  have y : ∀ k : Nat, tY N 60 k = tY M 60 k := fun k => congrFun (congrFun hp.1 60) k
  refine ⟨⟨fun i hi => by rw [pr_B hp]; exact a1 i hi, by rw [pr_n hp (by decide)]; exact a2⟩, ?_, ⟨?_, fun q => absurd rfl q⟩, fun _ => ⟨kT, ⟨k2.symm, k3.symm, px_An (Nat.zero_le n)⟩, ⟨?_, ?_, ?_⟩, fun i hi hl => ?_, fun k h1 h2 => ?_, fun k hk => ⟨?_, ?_⟩⟩⟩
  · rw [hp.2 25 (by decide), h25]; rfl
  · rw [hp.2 26 (by decide), h26]; rfl
  · rw [y, h11]; rfl
  · rw [hp.2 30 (by decide), h30]; rfl
  · rw [hp.2 19 (by decide), h19]; rfl
  · have e : pp_r0 B n J 7 = 0 := rfl
    omega
  · rw [hp.2 18 (by decide), h18, bz]
    unfold pp_r0
    rw [if_neg (by omega), if_neg (by omega), if_neg (by omega), if_neg (by omega), if_neg (by omega), if_neg (by omega), if_neg (by omega), if_pos (by omega)]
  · rw [hp.2 18 (by decide), h18, bz]
    unfold pp_r0
    rw [if_neg (by omega), if_neg (by omega), if_neg (by omega), if_neg (by omega), if_neg (by omega), if_neg (by omega), if_neg (by omega), if_pos (by omega)]
  · rw [hp.2 18 (by decide), h18, bz]
    unfold pp_r0
    rw [if_neg (by omega), if_neg (by omega), if_neg (by omega), if_neg (by omega), if_neg (by omega), if_neg (by omega), if_neg (by omega), if_pos (by omega)]
end
set_option maxHeartbeats 4000000 in
set_option maxRecDepth 100000 in
theorem x_X10_starts_0 (l : Launch) (D : va_G) (A : Nat → Nat → Nat) (cy : Nat → ClassId) (hJ : ti_inj ti_LM A) (M : ti_M) (hI : mI Tm M)  : ti_Kv l yX10_starts cX10_starts 4 0 ti_LM D A cy M [.ref (A 60 0), .int 0] (fun M2 => mI Tm M2 ∧ rq 0 M2 M ∧ mC M2 0 ∧ mP M2 0 ∧ tI M2 60 19 = tI M 60 19) := by
  refine ti_eV yp_X10_starts hJ ti_LM_nd (Nat.le_of_ble_eq_true rfl) ?_
  intro p e s m args below meth c Q H0 C hQ hw ls hl
  have hx := C.1
  have hb := C.2.1
  have hl : lv_has ls 4 [(0, .ref (A 60 0)), (1, .int 0)] := hl
  refine lv_aload_n hx hb dX10_starts_0 rfl (lv_at hl 0 rfl) ?_
  refine ti_get (ci := 10) (k := 34) (N := 67) (T := TX10) (v := .ref (A 60 35)) C hw iw_10 rfl ob_60 (by decide) (by decide) fl_X10_69 rfl rfl dX10_starts_1 ?_
  refine lv_iload_n hx hb dX10_starts_4 rfl (lv_at hl 1 rfl) ?_
  refine lv_iconst (v := 0) hx hb dX10_starts_5 (by decide) ?_
  refine ti_iast (ci := 10) (k := 34) (n := 23) C hw ob_60 (by decide) (fun _ _ => rfl) (by unfold vp_in; decide) dX10_starts_6 (fun H locs hw => ?_)
  obtain ⟨M_1, hM_1⟩ : ∃ z : ti_M, z = uY M 60 34 (upd (tY M 60 34) (0 : Int32).toNatClampNeg 0) := ⟨_, rfl⟩
  have hw := hw.to hM_1.symm
  have iM_1 : mI Tm M_1 := mI_up (i := 0) hI hM_1 (fun _ => (ib_mk (lo := 0) (hi := 120) (by decide) (by decide)))
  refine lv_aload_n hx hb dX10_starts_7 rfl (lv_at hl 0 rfl) ?_
  refine ti_get (ci := 10) (k := 35) (N := 67) (T := TX10) (v := .ref (A 60 36)) C hw iw_10 rfl ob_60 (by decide) (by decide) fl_X10_72 rfl rfl dX10_starts_8 ?_
  refine lv_iload_n hx hb dX10_starts_11 rfl (lv_at hl 1 rfl) ?_
  refine lv_aload_n hx hb dX10_starts_12 rfl (lv_at hl 0 rfl) ?_
  refine ti_get (ci := 10) (k := 3) (N := 67) (T := TX10) (v := .ref (A 60 4)) C hw iw_10 rfl ob_60 (by decide) (by decide) fl_X10_13 rfl rfl dX10_starts_13 ?_
  refine lv_iconst (v := 1) hx hb dX10_starts_16 (by decide) ?_
  refine ti_iald (ci := 10) (k := 3) (n := 22) C hw ob_60 (by decide) (fun _ _ => rfl) (by unfold vp_in; decide) dX10_starts_17 ?_
  refine lv_topi (fun x_2 ex_2 => ?_)
  have yx_2 : tY M_1 60 3 1 = x_2 := ((congrArg _ (by decide)).symm.trans ex_2.symm)
  have zx_2 : (tY M_1 60 3 1).toInt = x_2.toInt := by rw [yx_2]
  have wx_2 : tY M 60 3 1 = x_2 := ((cg (tY_nE hM_1 (nk (by decide))) 1)).symm.trans yx_2
  have zwx_2 : (tY M 60 3 1).toInt = x_2.toInt := by rw [wx_2]
  refine ti_iast (ci := 10) (k := 35) (n := 23) C hw ob_60 (by decide) (fun _ _ => rfl) (by unfold vp_in; decide) dX10_starts_18 (fun H locs hw => ?_)
  obtain ⟨M_3, hM_3⟩ : ∃ z : ti_M, z = uY M_1 60 35 (upd (tY M_1 60 35) (0 : Int32).toNatClampNeg x_2) := ⟨_, rfl⟩
  have hw := hw.to hM_3.symm
  have iM_3 : mI Tm M_3 := mI_up (i := 0) iM_1 hM_3 trivial
  refine lv_aload_n hx hb dX10_starts_19 rfl (lv_at hl 0 rfl) ?_
  refine ti_get (ci := 10) (k := 36) (N := 67) (T := TX10) (v := .ref (A 60 37)) C hw iw_10 rfl ob_60 (by decide) (by decide) fl_X10_75 rfl rfl dX10_starts_20 ?_
  refine lv_iload_n hx hb dX10_starts_23 rfl (lv_at hl 1 rfl) ?_
  refine lv_aload_n hx hb dX10_starts_24 rfl (lv_at hl 0 rfl) ?_
  refine ti_get (ci := 10) (k := 3) (N := 67) (T := TX10) (v := .ref (A 60 4)) C hw iw_10 rfl ob_60 (by decide) (by decide) fl_X10_13 rfl rfl dX10_starts_25 ?_
  refine lv_bipush (v := 6) hx hb dX10_starts_28 (by decide) ?_
  refine ti_iald (ci := 10) (k := 3) (n := 22) C hw ob_60 (by decide) (fun _ _ => rfl) (by unfold vp_in; decide) dX10_starts_30 ?_
  refine lv_topi (fun x_4 ex_4 => ?_)
  have yx_4 : tY M_3 60 3 6 = x_4 := ((congrArg _ (by decide)).symm.trans ex_4.symm)
  have zx_4 : (tY M_3 60 3 6).toInt = x_4.toInt := by rw [yx_4]
  have wx_4 : tY M 60 3 6 = x_4 := (((cg (tY_nE hM_3 (nk (by decide))) 6).trans (cg (tY_nE hM_1 (nk (by decide))) 6))).symm.trans yx_4
  have zwx_4 : (tY M 60 3 6).toInt = x_4.toInt := by rw [wx_4]
  refine ti_iast (ci := 10) (k := 36) (n := 23) C hw ob_60 (by decide) (fun _ _ => rfl) (by unfold vp_in; decide) dX10_starts_31 (fun H locs hw => ?_)
  obtain ⟨M_5, hM_5⟩ : ∃ z : ti_M, z = uY M_3 60 36 (upd (tY M_3 60 36) (0 : Int32).toNatClampNeg x_4) := ⟨_, rfl⟩
  have hw := hw.to hM_5.symm
  have iM_5 : mI Tm M_5 := mI_up (i := 0) iM_3 hM_5 trivial
  refine lv_aload_n hx hb dX10_starts_32 rfl (lv_at hl 0 rfl) ?_
  refine ti_get (ci := 10) (k := 37) (N := 67) (T := TX10) (v := .ref (A 60 38)) C hw iw_10 rfl ob_60 (by decide) (by decide) fl_X10_78 rfl rfl dX10_starts_33 ?_
  refine lv_iload_n hx hb dX10_starts_36 rfl (lv_at hl 1 rfl) ?_
  refine lv_iconst (v := 0) hx hb dX10_starts_37 (by decide) ?_
  refine ti_iast (ci := 10) (k := 37) (n := 23) C hw ob_60 (by decide) (fun _ _ => rfl) (by unfold vp_in; decide) dX10_starts_38 (fun H locs hw => ?_)
  obtain ⟨M_6, hM_6⟩ : ∃ z : ti_M, z = uY M_5 60 37 (upd (tY M_5 60 37) (0 : Int32).toNatClampNeg 0) := ⟨_, rfl⟩
  have hw := hw.to hM_6.symm
  have iM_6 : mI Tm M_6 := mI_up (i := 0) iM_5 hM_6 trivial
  refine lv_aload_n hx hb dX10_starts_39 rfl (lv_at hl 0 rfl) ?_
  refine ti_get (ci := 10) (k := 38) (N := 67) (T := TX10) (v := .ref (A 60 39)) C hw iw_10 rfl ob_60 (by decide) (by decide) fl_X10_81 rfl rfl dX10_starts_40 ?_
  refine lv_iload_n hx hb dX10_starts_43 rfl (lv_at hl 1 rfl) ?_
  refine lv_iconst (v := 0) hx hb dX10_starts_44 (by decide) ?_
  refine ti_iast (ci := 10) (k := 38) (n := 23) C hw ob_60 (by decide) (fun _ _ => rfl) (by unfold vp_in; decide) dX10_starts_45 (fun H locs hw => ?_)
  obtain ⟨M_7, hM_7⟩ : ∃ z : ti_M, z = uY M_6 60 38 (upd (tY M_6 60 38) (0 : Int32).toNatClampNeg 0) := ⟨_, rfl⟩
  have hw := hw.to hM_7.symm
  have iM_7 : mI Tm M_7 := mI_up (i := 0) iM_6 hM_7 (ib_mk (lo := 0) (hi := 8) (by decide) (by decide))
  refine lv_iconst (v := 0) hx hb dX10_starts_46 (by decide) ?_
  refine lv_istore_n (lv' := [(2, .int 0), (0, .ref (A 60 0)), (1, .int 0)]) hx hb dX10_starts_47 rfl hl (by decide) rfl (fun ls hl => ?_)
  have hl_48_14 : ∀ (n_15 : Nat) (x_8 : Int32) (M_11 : ti_M) (H : Heap) (locs : List Loc) (ls : Array Slot), (8 - x_8.toInt : Int).toNat < n_15 → (0 ≤ x_8.toInt) → (x_8.toInt ≤ 8) → (mI Tm M_11) → (lk M_11 M) → (tI M_11 60 19 = tI M 60 19) → (stq M M_11 0 x_8.toInt) → ti_H ti_LM D A cy H0 M_11 H locs → lv_has ls 4 [(2, .int x_8), (0, .ref (A 60 0)), (1, .int 0)] → W p l e (ti_rm 0) s m args below meth c H locs 0 0 Q (F0 m 48 ls []) := by
    intro n_15
    induction n_15 with
    | zero => intro x_8 M_11 H locs ls hf_15; exact absurd hf_15 (Nat.not_lt_zero _)
    | succ n_15 ih_15 =>
      intro x_8 M_11 H locs ls hf_15 b_9 b_10 iM_11 f_12 f_13 j_14 hw hl
      refine lv_iload_n hx hb dX10_starts_48 rfl (lv_at hl 0 rfl) ?_
      refine lv_aload_n hx hb dX10_starts_49 rfl (lv_at hl 1 rfl) ?_
      refine ti_get (ci := 10) (k := 3) (N := 67) (T := TX10) (v := .ref (A 60 4)) C hw iw_10 rfl ob_60 (by decide) (by decide) fl_X10_13 rfl rfl dX10_starts_50 ?_
      refine lv_iconst (v := 0) hx hb dX10_starts_53 (by decide) ?_
      refine ti_iald (ci := 10) (k := 3) (n := 22) C hw ob_60 (by decide) (fun _ _ => rfl) (by unfold vp_in; decide) dX10_starts_54 ?_
      refine lv_topi (fun x_16 ex_16 => ?_)
      have yx_16 : tY M_11 60 3 0 = x_16 := ((congrArg _ (by decide)).symm.trans ex_16.symm)
      have bx_16 : 0 ≤ x_16.toInt ∧ x_16.toInt ≤ 8 := mI_rn (i := 0) iM_11 yx_16.symm (fun _ h => h)
      have zx_16 : (tY M_11 60 3 0).toInt = x_16.toInt := by rw [yx_16]
      have wx_16 : tY M 60 3 0 = x_16 := ((cg (f_12.1 3 (by decide) (by decide)) 0)).symm.trans yx_16
      have zwx_16 : (tY M 60 3 0).toInt = x_16.toInt := by rw [wx_16]
      refine sb_icmp_ge (tgt := 150) hx hb rfl rfl dX10_starts_55 (by decide) (fun c_55_16 => ?_) (fun c_55_16 => ?_)
      · refine lv_iconst (v := 0) hx hb dX10_starts_150 (by decide) ?_
        refine lv_istore_n (lv' := [(2, .int 0), (0, .ref (A 60 0)), (1, .int 0)]) hx hb dX10_starts_151 rfl hl (by decide) rfl (fun ls hl => ?_)
        have hl_152_38 : ∀ (n_39 : Nat) (x_32 : Int32) (M_35 : ti_M) (H : Heap) (locs : List Loc) (ls : Array Slot), (3 - x_32.toInt : Int).toNat < n_39 → (0 ≤ x_32.toInt) → (x_32.toInt ≤ 3) → (mI Tm M_35) → (lk M_35 M) → (tI M_35 60 19 = tI M 60 19) → (stq M M_35 0 (tY M 60 3 0).toInt) → ti_H ti_LM D A cy H0 M_35 H locs → lv_has ls 4 [(2, .int x_32), (0, .ref (A 60 0)), (1, .int 0)] → W p l e (ti_rm 0) s m args below meth c H locs 0 0 Q (F0 m 152 ls []) := by
          intro n_39
          induction n_39 with
          | zero => intro x_32 M_35 H locs ls hf_39; exact absurd hf_39 (Nat.not_lt_zero _)
          | succ n_39 ih_39 =>
            intro x_32 M_35 H locs ls hf_39 b_33 b_34 iM_35 f_36 f_37 j_38 hw hl
            refine lv_iload_n hx hb dX10_starts_152 rfl (lv_at hl 0 rfl) ?_
            refine lv_iconst (v := 3) hx hb dX10_starts_153 (by decide) ?_
            refine sb_icmp_ge (tgt := 182) hx hb rfl (by decide : (3 : Int32).toInt = 3) dX10_starts_154 (by decide) (fun c_154_39 => ?_) (fun c_154_39 => ?_)
            · have jj := q_start hI j_38 f_36
              exact hQ _ _ _ _ _ hw (⟨iM_35, jj.1, jj.2.1, jj.2.2, (f_37)⟩) dX10_starts_182
            · refine lv_aload_n hx hb dX10_starts_157 rfl (lv_at hl 1 rfl) ?_
              refine ti_get (ci := 10) (k := 49) (N := 67) (T := TX10) (v := .ref (A 60 50)) C hw iw_10 rfl ob_60 (by decide) (by decide) fl_X10_114 rfl rfl dX10_starts_158 ?_
              refine lv_iconst (v := 3) hx hb dX10_starts_161 (by decide) ?_
              refine lv_iload_n hx hb dX10_starts_162 rfl (lv_at hl 2 rfl) ?_
              refine lv_imul hx hb dX10_starts_163 ?_
              refine ti_top (y := 0) (by decide) ?_
              refine lv_iload_n hx hb dX10_starts_164 rfl (lv_at hl 0 rfl) ?_
              refine lv_iadd hx hb dX10_starts_165 ?_
              refine lv_topi (fun x_41 ex_41 => ?_)
              have tx_41 : x_41.toInt = 0 + x_32.toInt := i_add ex_41 (by decide : (0 : Int32).toInt = 0) rfl (by omega) (by omega)
              refine lv_aload_n hx hb dX10_starts_166 rfl (lv_at hl 1 rfl) ?_
              refine ti_get (ci := 10) (k := 3) (N := 67) (T := TX10) (v := .ref (A 60 4)) C hw iw_10 rfl ob_60 (by decide) (by decide) fl_X10_13 rfl rfl dX10_starts_167 ?_
              refine lv_bipush (v := 8) hx hb dX10_starts_170 (by decide) ?_
              refine lv_iload_n hx hb dX10_starts_172 rfl (lv_at hl 0 rfl) ?_
              refine lv_iadd hx hb dX10_starts_173 ?_
              refine lv_topi (fun x_42 ex_42 => ?_)
              have tx_42 : x_42.toInt = 8 + x_32.toInt := i_add ex_42 (by decide : (8 : Int32).toInt = 8) rfl (by omega) (by omega)
              refine ti_iald (ci := 10) (k := 3) (n := 22) C hw ob_60 (by decide) (fun _ _ => rfl) (vp_in_iff.mpr (by omega)) dX10_starts_174 ?_
              refine lv_topi (fun x_43 ex_43 => ?_)
              have yx_43 : tY M_35 60 3 x_42.toNatClampNeg = x_43 := (ex_43.symm)
              have bx_43 : 0 ≤ x_43.toInt ∧ x_43.toInt ≤ 7 := mI_rn (i := x_42.toNatClampNeg) iM_35 yx_43.symm (fun _ h => mN_p (by show 8 ≤ (x_42).toInt.toNat; omega) (by show (x_42).toInt.toNat ≤ 10; omega) h)
              have zx_43 : (tY M_35 60 3 x_42.toNatClampNeg).toInt = x_43.toInt := by rw [yx_43]
              have wx_43 : tY M 60 3 x_42.toNatClampNeg = x_43 := ((cg (f_36.1 3 (by decide) (by decide)) x_42.toNatClampNeg)).symm.trans yx_43
              have zwx_43 : (tY M 60 3 x_42.toNatClampNeg).toInt = x_43.toInt := by rw [wx_43]
              refine ti_iast (ci := 10) (k := 49) (n := 69) C hw ob_60 (by decide) (fun _ _ => rfl) (vp_in_iff.mpr (by omega)) dX10_starts_175 (fun H locs hw => ?_)
              obtain ⟨M_44, hM_44⟩ : ∃ z : ti_M, z = uY M_35 60 49 (upd (tY M_35 60 49) (x_41 : Int32).toNatClampNeg x_43) := ⟨_, rfl⟩
              have hw := hw.to hM_44.symm
              have iM_44 : mI Tm M_44 := mI_up (i := x_41.toNatClampNeg) iM_35 hM_44 (ib_mk (lo := 0) (hi := 7) (by omega) (by omega))
              obtain ⟨x_45, ex_45⟩ : ∃ z : Int32, z = x_32 + 1 := ⟨_, rfl⟩
              have tx_45 : x_45.toInt = x_32.toInt + 1 := i_add ex_45 rfl (by decide) (by omega) (by omega)
              refine lv_iinc (v := x_45) (lv' := [(2, .int x_45), (0, .ref (A 60 0)), (1, .int 0)]) hx hb dX10_starts_176 hl (k := 0) rfl (by rw [ex_45]; rfl) (by decide) rfl (fun ls hl => ?_)
              refine lv_goto (tgt := 152) hx hb dX10_starts_179 (by decide) ?_
              exact ih_39 x_45 M_44 _ _ _ (by omega) (by first | omega | decide) (by first | omega | decide) iM_44 (lk.trans (lk_Y hM_44 (by decide)) f_36) ((tI_uYE hM_44).trans f_37) (stq_qw j_38 (qw_Y hM_44 (by decide))) hw (lv_sub hl [0, 1, 2] rfl)
        exact hl_152_38 ((3 - 0 : Int).toNat + 1) 0 M_11 _ _ _ (Nat.lt_succ_self _) (by have lt0 : (0 : Int32).toInt = 0 := (by decide); first | omega | decide) (by have lt0 : (0 : Int32).toInt = 0 := (by decide); first | omega | decide) iM_11 f_12 (f_13) (stq_le j_14 (by omega)) hw (lv_sub hl [0, 1, 2] rfl)
      · refine lv_bipush (v := 8) hx hb dX10_starts_58 (by decide) ?_
        refine lv_iload_n hx hb dX10_starts_60 rfl (lv_at hl 2 rfl) ?_
        refine lv_imul hx hb dX10_starts_61 ?_
        refine ti_top (y := 0) (by decide) ?_
        refine lv_iload_n hx hb dX10_starts_62 rfl (lv_at hl 0 rfl) ?_
        refine lv_iadd hx hb dX10_starts_63 ?_
        refine lv_topi (fun x_18 ex_18 => ?_)
        have tx_18 : x_18.toInt = 0 + x_8.toInt := i_add ex_18 (by decide : (0 : Int32).toInt = 0) rfl (by omega) (by omega)
        refine lv_istore_n (lv' := [(3, .int x_18), (2, .int x_8), (0, .ref (A 60 0)), (1, .int 0)]) hx hb dX10_starts_64 rfl hl (by decide) rfl (fun ls hl => ?_)
        refine lv_aload_n hx hb dX10_starts_65 rfl (lv_at hl 2 rfl) ?_
        refine ti_get (ci := 10) (k := 40) (N := 67) (T := TX10) (v := .ref (A 60 41)) C hw iw_10 rfl ob_60 (by decide) (by decide) fl_X10_87 rfl rfl dX10_starts_66 ?_
        refine lv_iload_n hx hb dX10_starts_69 rfl (lv_at hl 0 rfl) ?_
        refine lv_iconst (v := 0) hx hb dX10_starts_70 (by decide) ?_
        refine ti_iast (ci := 10) (k := 40) (n := 184) C hw ob_60 (by decide) (fun _ _ => rfl) (vp_in_iff.mpr (by omega)) dX10_starts_71 (fun H locs hw => ?_)
        obtain ⟨M_19, hM_19⟩ : ∃ z : ti_M, z = uY M_11 60 40 (upd (tY M_11 60 40) (x_18 : Int32).toNatClampNeg 0) := ⟨_, rfl⟩
        have hw := hw.to hM_19.symm
        have iM_19 : mI Tm M_19 := mI_up (i := x_18.toNatClampNeg) iM_11 hM_19 trivial
        refine lv_aload_n hx hb dX10_starts_72 rfl (lv_at hl 2 rfl) ?_
        refine ti_get (ci := 10) (k := 41) (N := 67) (T := TX10) (v := .ref (A 60 42)) C hw iw_10 rfl ob_60 (by decide) (by decide) fl_X10_90 rfl rfl dX10_starts_73 ?_
        refine lv_iload_n hx hb dX10_starts_76 rfl (lv_at hl 0 rfl) ?_
        refine lv_aload_n hx hb dX10_starts_77 rfl (lv_at hl 2 rfl) ?_
        refine ti_get (ci := 10) (k := 7) (N := 67) (T := TX10) (v := .ref (A 60 8)) C hw iw_10 rfl ob_60 (by decide) (by decide) fl_X10_25 rfl rfl dX10_starts_78 ?_
        refine lv_iload_n hx hb dX10_starts_81 rfl (lv_at hl 1 rfl) ?_
        refine ti_iald (ci := 10) (k := 7) (n := 16) C hw ob_60 (by decide) (fun _ _ => rfl) (vp_in_iff.mpr (by omega)) dX10_starts_82 ?_
        refine lv_topi (fun x_20 ex_20 => ?_)
        have yx_20 : tY M_19 60 7 x_8.toNatClampNeg = x_20 := (ex_20.symm)
        have wx_20 : tY M 60 7 x_8.toNatClampNeg = x_20 := (((cg (tY_nE hM_19 (nk (by decide))) x_8.toNatClampNeg).trans (cg (f_12.1 7 (by decide) (by decide)) x_8.toNatClampNeg))).symm.trans yx_20
        refine ti_iast (ci := 10) (k := 41) (n := 184) C hw ob_60 (by decide) (fun _ _ => rfl) (vp_in_iff.mpr (by omega)) dX10_starts_83 (fun H locs hw => ?_)
        obtain ⟨M_21, hM_21⟩ : ∃ z : ti_M, z = uY M_19 60 41 (upd (tY M_19 60 41) (x_18 : Int32).toNatClampNeg x_20) := ⟨_, rfl⟩
        have hw := hw.to hM_21.symm
        have iM_21 : mI Tm M_21 := mI_up (i := x_18.toNatClampNeg) iM_19 hM_21 trivial
        refine lv_aload_n hx hb dX10_starts_84 rfl (lv_at hl 2 rfl) ?_
        refine ti_get (ci := 10) (k := 42) (N := 67) (T := TX10) (v := .ref (A 60 43)) C hw iw_10 rfl ob_60 (by decide) (by decide) fl_X10_93 rfl rfl dX10_starts_85 ?_
        refine lv_iload_n hx hb dX10_starts_88 rfl (lv_at hl 0 rfl) ?_
        refine lv_iconst (v := 0) hx hb dX10_starts_89 (by decide) ?_
        refine ti_iast (ci := 10) (k := 42) (n := 184) C hw ob_60 (by decide) (fun _ _ => rfl) (vp_in_iff.mpr (by omega)) dX10_starts_90 (fun H locs hw => ?_)
        obtain ⟨M_22, hM_22⟩ : ∃ z : ti_M, z = uY M_21 60 42 (upd (tY M_21 60 42) (x_18 : Int32).toNatClampNeg 0) := ⟨_, rfl⟩
        have hw := hw.to hM_22.symm
        have iM_22 : mI Tm M_22 := mI_up (i := x_18.toNatClampNeg) iM_21 hM_22 trivial
        refine lv_aload_n hx hb dX10_starts_91 rfl (lv_at hl 2 rfl) ?_
        refine ti_get (ci := 10) (k := 43) (N := 67) (T := TX10) (v := .ref (A 60 44)) C hw iw_10 rfl ob_60 (by decide) (by decide) fl_X10_96 rfl rfl dX10_starts_92 ?_
        refine lv_iload_n hx hb dX10_starts_95 rfl (lv_at hl 0 rfl) ?_
        refine lv_aload_n hx hb dX10_starts_96 rfl (lv_at hl 2 rfl) ?_
        refine ti_get (ci := 10) (k := 9) (N := 67) (T := TX10) (v := .ref (A 60 10)) C hw iw_10 rfl ob_60 (by decide) (by decide) fl_X10_31 rfl rfl dX10_starts_97 ?_
        refine lv_iload_n hx hb dX10_starts_100 rfl (lv_at hl 1 rfl) ?_
        refine ti_iald (ci := 10) (k := 9) (n := 16) C hw ob_60 (by decide) (fun _ _ => rfl) (vp_in_iff.mpr (by omega)) dX10_starts_101 ?_
        refine lv_topi (fun x_23 ex_23 => ?_)
        have yx_23 : tY M_22 60 9 x_8.toNatClampNeg = x_23 := (ex_23.symm)
        have wx_23 : tY M 60 9 x_8.toNatClampNeg = x_23 := (((cg (tY_nE hM_22 (nk (by decide))) x_8.toNatClampNeg).trans ((cg (tY_nE hM_21 (nk (by decide))) x_8.toNatClampNeg).trans ((cg (tY_nE hM_19 (nk (by decide))) x_8.toNatClampNeg).trans (cg (f_12.1 9 (by decide) (by decide)) x_8.toNatClampNeg))))).symm.trans yx_23
        refine ti_iast (ci := 10) (k := 43) (n := 184) C hw ob_60 (by decide) (fun _ _ => rfl) (vp_in_iff.mpr (by omega)) dX10_starts_102 (fun H locs hw => ?_)
        obtain ⟨M_24, hM_24⟩ : ∃ z : ti_M, z = uY M_22 60 43 (upd (tY M_22 60 43) (x_18 : Int32).toNatClampNeg x_23) := ⟨_, rfl⟩
        have hw := hw.to hM_24.symm
        have iM_24 : mI Tm M_24 := mI_up (i := x_18.toNatClampNeg) iM_22 hM_24 trivial
        refine lv_aload_n hx hb dX10_starts_103 rfl (lv_at hl 2 rfl) ?_
        refine ti_get (ci := 10) (k := 44) (N := 67) (T := TX10) (v := .ref (A 60 45)) C hw iw_10 rfl ob_60 (by decide) (by decide) fl_X10_99 rfl rfl dX10_starts_104 ?_
        refine lv_iload_n hx hb dX10_starts_107 rfl (lv_at hl 0 rfl) ?_
        refine lv_aload_n hx hb dX10_starts_108 rfl (lv_at hl 2 rfl) ?_
        refine ti_get (ci := 10) (k := 11) (N := 67) (T := TX10) (v := .ref (A 60 12)) C hw iw_10 rfl ob_60 (by decide) (by decide) fl_X10_37 rfl rfl dX10_starts_109 ?_
        refine lv_iload_n hx hb dX10_starts_112 rfl (lv_at hl 1 rfl) ?_
        refine ti_iald (ci := 10) (k := 11) (n := 16) C hw ob_60 (by decide) (fun _ _ => rfl) (vp_in_iff.mpr (by omega)) dX10_starts_113 ?_
        refine lv_topi (fun x_25 ex_25 => ?_)
        have yx_25 : tY M_24 60 11 x_8.toNatClampNeg = x_25 := (ex_25.symm)
        have wx_25 : tY M 60 11 x_8.toNatClampNeg = x_25 := (((cg (tY_nE hM_24 (nk (by decide))) x_8.toNatClampNeg).trans ((cg (tY_nE hM_22 (nk (by decide))) x_8.toNatClampNeg).trans ((cg (tY_nE hM_21 (nk (by decide))) x_8.toNatClampNeg).trans ((cg (tY_nE hM_19 (nk (by decide))) x_8.toNatClampNeg).trans (cg (f_12.1 11 (by decide) (by decide)) x_8.toNatClampNeg)))))).symm.trans yx_25
        refine ti_iast (ci := 10) (k := 44) (n := 184) C hw ob_60 (by decide) (fun _ _ => rfl) (vp_in_iff.mpr (by omega)) dX10_starts_114 (fun H locs hw => ?_)
        obtain ⟨M_26, hM_26⟩ : ∃ z : ti_M, z = uY M_24 60 44 (upd (tY M_24 60 44) (x_18 : Int32).toNatClampNeg x_25) := ⟨_, rfl⟩
        have hw := hw.to hM_26.symm
        have iM_26 : mI Tm M_26 := mI_up (i := x_18.toNatClampNeg) iM_24 hM_26 trivial
        refine lv_aload_n hx hb dX10_starts_115 rfl (lv_at hl 2 rfl) ?_
        refine ti_get (ci := 10) (k := 45) (N := 67) (T := TX10) (v := .ref (A 60 46)) C hw iw_10 rfl ob_60 (by decide) (by decide) fl_X10_102 rfl rfl dX10_starts_116 ?_
        refine lv_iload_n hx hb dX10_starts_119 rfl (lv_at hl 0 rfl) ?_
        refine lv_iconst (v := 0) hx hb dX10_starts_120 (by decide) ?_
        refine ti_iast (ci := 10) (k := 45) (n := 184) C hw ob_60 (by decide) (fun _ _ => rfl) (vp_in_iff.mpr (by omega)) dX10_starts_121 (fun H locs hw => ?_)
        obtain ⟨M_27, hM_27⟩ : ∃ z : ti_M, z = uY M_26 60 45 (upd (tY M_26 60 45) (x_18 : Int32).toNatClampNeg 0) := ⟨_, rfl⟩
        have hw := hw.to hM_27.symm
        have iM_27 : mI Tm M_27 := mI_up (i := x_18.toNatClampNeg) iM_26 hM_27 trivial
        refine lv_aload_n hx hb dX10_starts_122 rfl (lv_at hl 2 rfl) ?_
        refine ti_get (ci := 10) (k := 46) (N := 67) (T := TX10) (v := .ref (A 60 47)) C hw iw_10 rfl ob_60 (by decide) (by decide) fl_X10_105 rfl rfl dX10_starts_123 ?_
        refine lv_iload_n hx hb dX10_starts_126 rfl (lv_at hl 0 rfl) ?_
        refine lv_iconst (v := 0) hx hb dX10_starts_127 (by decide) ?_
        refine ti_iast (ci := 10) (k := 46) (n := 184) C hw ob_60 (by decide) (fun _ _ => rfl) (vp_in_iff.mpr (by omega)) dX10_starts_128 (fun H locs hw => ?_)
        obtain ⟨M_28, hM_28⟩ : ∃ z : ti_M, z = uY M_27 60 46 (upd (tY M_27 60 46) (x_18 : Int32).toNatClampNeg 0) := ⟨_, rfl⟩
        have hw := hw.to hM_28.symm
        have iM_28 : mI Tm M_28 := mI_up (i := x_18.toNatClampNeg) iM_27 hM_28 trivial
        refine lv_aload_n hx hb dX10_starts_129 rfl (lv_at hl 2 rfl) ?_
        refine ti_get (ci := 10) (k := 47) (N := 67) (T := TX10) (v := .ref (A 60 48)) C hw iw_10 rfl ob_60 (by decide) (by decide) fl_X10_108 rfl rfl dX10_starts_130 ?_
        refine lv_iload_n hx hb dX10_starts_133 rfl (lv_at hl 0 rfl) ?_
        refine lv_iconst (v := 0) hx hb dX10_starts_134 (by decide) ?_
        refine ti_iast (ci := 10) (k := 47) (n := 184) C hw ob_60 (by decide) (fun _ _ => rfl) (vp_in_iff.mpr (by omega)) dX10_starts_135 (fun H locs hw => ?_)
        obtain ⟨M_29, hM_29⟩ : ∃ z : ti_M, z = uY M_28 60 47 (upd (tY M_28 60 47) (x_18 : Int32).toNatClampNeg 0) := ⟨_, rfl⟩
        have hw := hw.to hM_29.symm
        have iM_29 : mI Tm M_29 := mI_up (i := x_18.toNatClampNeg) iM_28 hM_29 trivial
        refine lv_aload_n hx hb dX10_starts_136 rfl (lv_at hl 2 rfl) ?_
        refine ti_get (ci := 10) (k := 48) (N := 67) (T := TX10) (v := .ref (A 60 49)) C hw iw_10 rfl ob_60 (by decide) (by decide) fl_X10_111 rfl rfl dX10_starts_137 ?_
        refine lv_iload_n hx hb dX10_starts_140 rfl (lv_at hl 0 rfl) ?_
        refine lv_bipush (v := (-2)) hx hb dX10_starts_141 (by decide) ?_
        refine ti_iast (ci := 10) (k := 48) (n := 184) C hw ob_60 (by decide) (fun _ _ => rfl) (vp_in_iff.mpr (by omega)) dX10_starts_143 (fun H locs hw => ?_)
        obtain ⟨M_30, hM_30⟩ : ∃ z : ti_M, z = uY M_29 60 48 (upd (tY M_29 60 48) (x_18 : Int32).toNatClampNeg (-2)) := ⟨_, rfl⟩
        have hw := hw.to hM_30.symm
        have iM_30 : mI Tm M_30 := mI_up (i := x_18.toNatClampNeg) iM_29 hM_30 trivial
        obtain ⟨x_31, ex_31⟩ : ∃ z : Int32, z = x_8 + 1 := ⟨_, rfl⟩
        have tx_31 : x_31.toInt = x_8.toInt + 1 := i_add ex_31 rfl (by decide) (by omega) (by omega)
        refine lv_iinc (v := x_31) (lv' := [(2, .int x_31), (3, .int x_18), (0, .ref (A 60 0)), (1, .int 0)]) hx hb dX10_starts_144 hl (k := 1) rfl (by rw [ex_31]; rfl) (by decide) rfl (fun ls hl => ?_)
        refine lv_goto (tgt := 48) hx hb dX10_starts_147 (by decide) ?_
        exact ih_15 x_31 M_30 _ _ _ (by omega) (by first | omega | decide) (by first | omega | decide) iM_30 (lk.trans (lk_Y hM_30 (by decide)) (lk.trans (lk_Y hM_29 (by decide)) (lk.trans (lk_Y hM_28 (by decide)) (lk.trans (lk_Y hM_27 (by decide)) (lk.trans (lk_Y hM_26 (by decide)) (lk.trans (lk_Y hM_24 (by decide)) (lk.trans (lk_Y hM_22 (by decide)) (lk.trans (lk_Y hM_21 (by decide)) (lk.trans (lk_Y hM_19 (by decide)) f_12))))))))) ((tI_uYE hM_30).trans ((tI_uYE hM_29).trans ((tI_uYE hM_28).trans ((tI_uYE hM_27).trans ((tI_uYE hM_26).trans ((tI_uYE hM_24).trans ((tI_uYE hM_22).trans ((tI_uYE hM_21).trans ((tI_uYE hM_19).trans f_13))))))))) (stq_s j_14 hM_19 (qw.trans (qw_Y hM_30 (by decide)) (qw.trans (qw_Y hM_29 (by decide)) (qw.trans (qw_Y hM_28 (by decide)) (qw.trans (qw_Y hM_27 (by decide)) (qw.trans (qw_Y hM_26 (by decide)) (qw.trans (qw_Y hM_24 (by decide)) (qw.trans (qw_Y hM_22 (by decide)) (qw_Y hM_21 (by decide))))))))) (by show ((x_18.toInt.toNat : Nat) : Int) = _; omega) (by omega) (by omega) (by omega)) hw (lv_sub hl [0, 2, 3] rfl)
  exact hl_48_14 ((8 - 0 : Int).toNat + 1) 0 M_7 _ _ _ (Nat.lt_succ_self _) (by have lt0 : (0 : Int32).toInt = 0 := (by decide); first | omega | decide) (by have lt0 : (0 : Int32).toInt = 0 := (by decide); first | omega | decide) iM_7 (lk.trans (lk_Y hM_7 (by decide)) (lk.trans (lk_Y hM_6 (by decide)) (lk.trans (lk_Y hM_5 (by decide)) (lk.trans (lk_Y hM_3 (by decide)) (lk_Y hM_1 (by decide)))))) ((tI_uYE hM_7).trans ((tI_uYE hM_6).trans ((tI_uYE hM_5).trans ((tI_uYE hM_3).trans (tI_uYE hM_1))))) (stq_0 (qw.trans (qw_Y hM_6 (by decide)) (qw.trans (qw_Y hM_5 (by decide)) (qw.trans (qw_Y hM_3 (by decide)) (qw_Y hM_1 (by decide))))) hM_7 (by decide)) hw (lv_sub hl [0, 1, 2] rfl)
set_option maxHeartbeats 4000000 in
set_option maxRecDepth 100000 in
theorem x_X10_begins (l : Launch) (D : va_G) (A : Nat → Nat → Nat) (cy : Nat → ClassId) (hJ : ti_inj ti_LM A) (M : ti_M) (hI : mI Tm M)  : ti_Kv l yX10_begins cX10_begins 1 1 ti_LM D A cy M [.ref (A 60 0)] (fun M2 => mI Tm M2 ∧ rq 0 M2 M ∧ mC M2 0 ∧ mP M2 0 ∧ tI M2 60 19 = tI M 60 19) := by
  refine ti_eV yp_X10_begins hJ ti_LM_nd (Nat.le_of_ble_eq_true rfl) ?_
  intro p e s m args below meth c Q H0 C hQ hw ls hl
  have hx := C.1
  have hb := C.2.1
  have hl : lv_has ls 1 [(0, .ref (A 60 0))] := hl
  refine lv_aload_n hx hb dX10_begins_0 rfl (lv_at hl 0 rfl) ?_
  refine lv_iconst (v := 0) hx hb dX10_begins_1 (by decide) ?_
  refine ti_callVv (ci := 10) (av := [.int 0]) C hw (x_X10_starts_0 l D A cy hJ M hI ) ⟨ml_X10_353, ym_X10_starts, yv_X10_starts, yi_X10_starts, yc_X10_starts⟩ yd_X10_starts ob_60 (by decide) rfl rfl hl.1 (Nat.le_of_ble_eq_true rfl) ⟨by decide, by decide⟩ ⟨Nat.zero_le _, Nat.zero_le _⟩ dX10_begins_2 (fun M_2 H locs hp_2 hw => ?_)
  obtain ⟨iM_2, q_3, q_4, q_5, q_6⟩ := hp_2
  exact hQ _ _ _ _ _ hw (⟨iM_2, q_3, q_4, q_5, q_6⟩) dX10_begins_5
/-- the names of the men that are told, and how many, are in the registers -/
def tdR (M : ti_M) (rg : Nat → Int) : Prop := rg 7 = (tY M 60 3 0).toInt ∧ ∀ i : Nat, i < 8 → (i : Int) < rg 7 → rg (100 + i) = (tY M 60 4 i).toInt
theorem tdR_of {M N : ti_M} {rg : Nat → Int} (h : tdR M rg) (e3 : tY N 60 3 0 = tY M 60 3 0) (e4 : ∀ i : Nat, i < 8 → tY N 60 4 i = tY M 60 4 i) : tdR N rg := ⟨by rw [e3]; exact h.1, fun i hi hl => by rw [e4 i hi]; exact h.2 i hi hl⟩
theorem tdR_lw {M N : ti_M} {rg : Nat → Int} (h : tdR M rg) (x : lw N M) : tdR N rg := tdR_of h (by rw [x 3 (by decide) (by decide)]) (fun i _ => by rw [x 4 (by decide) (by decide)])
theorem tdR_lx {M N : ti_M} {rg : Nat → Int} (h : tdR M rg) (x : lx N M) : tdR N rg := tdR_of h ((x.2.1 0).1 (by decide)) (fun i hi => (x.2.1 i).2 hi)

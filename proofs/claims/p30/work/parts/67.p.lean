variable {Tc : gC} {Tm : gM}
theorem lx_3 {i : Nat} {N M : ti_M} {v : Int32} (e : N = uY M 60 3 (upd (tY M 60 3) i v)) (h : 11 ≤ i) : lx N M := ⟨fun k2 h2 => tY_nE e (nk (by omega)), fun j => ⟨fun hj => by rw [tY_uE e, pk_un (by omega)], fun hj => by rw [tY_nE e (nk (by decide))]⟩, fun j hj => ⟨by rw [tY_nE e (nk (by decide))], by rw [tY_nE e (nk (by decide))]⟩, fun j hj => ⟨by rw [tY_nE e (nk (by decide))], by rw [tY_nE e (nk (by decide))]⟩, fun k2 _ => tI_uYE e⟩
section
variable {B J : Nat → Int} {n : Nat}
theorem r0_9 : pp_r0 B n J 9 = 0 := rfl
/-- the registers ahead of the first line -/
theorem rQ_st {M N : ti_M} (hB : ∀ i : Nat, i < n → (tY M 60 1 i).toInt = B i) (hn : (tI M 60 20).toInt.toNat = n) (h21 : (tI M 60 21).toInt = 0) (hp : pr 21 24 N M) (k2 : (tI N 60 22).toInt = ((pt_P (pt_rB M) (pt_rn0 M) (tI M 60 21).toInt.toNat : Nat) : Int)) (k3 : (tI N 60 21).toInt = pt_A (pt_rB M) (pt_rn0 M) (tI M 60 21).toInt.toNat) (kT : pt_T (pt_K (pt_rB M) (pt_rn0 M) (tI M 60 21).toInt.toNat) (pt_V (pt_rB M) (pt_rn0 M) (tI M 60 21).toInt.toNat) (tI N 60 23).toInt (tI N 60 24).toInt) (h25 : (tI M 60 25).toInt = 0) (h26 : (tI M 60 26).toInt = -1) (h19 : (tI M 60 19).toInt = 0) (h30 : (tI M 60 30).toInt = 0) (h18 : tI M 60 18 = 0) (h11 : (tY M 60 3 11).toInt = 0) : rQ B n (pp_r0 B n J) N := by
  have a1 : ∀ i : Nat, i < n → pt_rB M i = B i := hB
  have a2 : pt_rn0 M = n := hn
  rw [a2, h21] at k2 k3 kT
  rw [px_P a1] at k2
  rw [px_A a1] at k3
  rw [px_K a1, px_V a1] at kT
  have bz : ∀ k : Nat, pp_bt 0 k = 0 := fun k => by unfold pp_bt; simp
  have y : ∀ k : Nat, tY N 60 k = tY M 60 k := fun k => congrFun (congrFun hp.1 60) k
  refine ⟨⟨fun i hi => by rw [pr_B hp]; exact a1 i hi, by rw [pr_n hp (by decide)]; exact a2⟩, ?_, ⟨?_, fun q => absurd rfl q⟩, fun _ => ⟨kT, ⟨k2.symm, k3.symm, px_An (Nat.zero_le n)⟩, ⟨?_, ?_, ?_⟩, fun i hi hl => ?_, fun k h1 h2 => ?_, fun k hk => ⟨?_, ?_⟩⟩⟩
  · rw [hp.2 25 (by decide), h25]; rfl
  · rw [hp.2 26 (by decide), h26]; rfl
  · rw [y, h11]; rfl
  · rw [hp.2 30 (by decide), h30]; rfl
  · rw [hp.2 19 (by decide), h19]; rfl
  · have e : pp_r0 B n J 7 = 0 := rfl
    omega
  · rw [hp.2 18 (by decide), h18, bz]
    unfold pp_r0
    rw [if_neg (by omega), if_neg (by omega), if_neg (by omega), if_neg (by omega), if_neg (by omega), if_neg (by omega), if_neg (by omega), if_pos (by omega)]
  · rw [hp.2 18 (by decide), h18, bz]
    unfold pp_r0
    rw [if_neg (by omega), if_neg (by omega), if_neg (by omega), if_neg (by omega), if_neg (by omega), if_neg (by omega), if_neg (by omega), if_pos (by omega)]
  · rw [hp.2 18 (by decide), h18, bz]
    unfold pp_r0
    rw [if_neg (by omega), if_neg (by omega), if_neg (by omega), if_neg (by omega), if_neg (by omega), if_neg (by omega), if_neg (by omega), if_pos (by omega)]
end
set_option maxHeartbeats 4000000 in
set_option maxRecDepth 100000 in
theorem x_X10_starts_0 (l : Launch) (D : va_G) (A : Nat → Nat → Nat) (cy : Nat → ClassId) (hJ : ti_inj ti_LM A) (M : ti_M) (hI : mI Tm M)  : ti_Kv l yX10_starts cX10_starts 4 0 ti_LM D A cy M [.ref (A 60 0), .int 0] (fun M2 => mI Tm M2 ∧ rq 0 M2 M ∧ mC M2 0 ∧ mP M2 0 ∧ tI M2 60 19 = tI M 60 19) := by
  refine ti_eV yp_X10_starts hJ ti_LM_nd (Nat.le_of_ble_eq_true rfl) ?_
  intro p e s m args below meth c Q H0 C hQ hw ls hl
  have hx := C.1
  have hb := C.2.1
  have hl : lv_has ls 4 [(0, .ref (A 60 0)), (1, .int 0)] := hl
  refine lv_aload_n hx hb dX10_starts_0 rfl (lv_at hl 0 rfl) ?_
  refine ti_get (ci := 10) (k := 34) (N := 67) (T := TX10) (v := .ref (A 60 35)) C hw iw_10 rfl ob_60 (by decide) (by decide) fl_X10_69 rfl rfl dX10_starts_1 ?_
  refine lv_iload_n hx hb dX10_starts_4 rfl (lv_at hl 1 rfl) ?_
  refine lv_iconst (v := 0) hx hb dX10_starts_5 (by decide) ?_
  refine ti_iast (ci := 10) (k := 34) (n := 23) C hw ob_60 (by decide) (fun _ _ => rfl) (by unfold vp_in; decide) dX10_starts_6 (fun H locs hw => ?_)
  obtain ⟨M_1, hM_1⟩ : ∃ z : ti_M, z = uY M 60 34 (upd (tY M 60 34) (0 : Int32).toNatClampNeg 0) := ⟨_, rfl⟩
  have hw := hw.to hM_1.symm
  have iM_1 : mI Tm M_1 := mI_up (i := 0) hI hM_1 (fun _ => (ib_mk (lo := 0) (hi := 120) (by decide) (by decide)))
  refine lv_aload_n hx hb dX10_starts_7 rfl (lv_at hl 0 rfl) ?_
  refine ti_get (ci := 10) (k := 35) (N := 67) (T := TX10) (v := .ref (A 60 36)) C hw iw_10 rfl ob_60 (by decide) (by decide) fl_X10_72 rfl rfl dX10_starts_8 ?_
  refine lv_iload_n hx hb dX10_starts_11 rfl (lv_at hl 1 rfl) ?_
  refine lv_aload_n hx hb dX10_starts_12 rfl (lv_at hl 0 rfl) ?_
  refine ti_get (ci := 10) (k := 3) (N := 67) (T := TX10) (v := .ref (A 60 4)) C hw iw_10 rfl ob_60 (by decide) (by decide) fl_X10_13 rfl rfl dX10_starts_13 ?_
  refine lv_iconst (v := 1) hx hb dX10_starts_16 (by decide) ?_
  refine ti_iald (ci := 10) (k := 3) (n := 22) C hw ob_60 (by decide) (fun _ _ => rfl) (by unfold vp_in; decide) dX10_starts_17 ?_
  refine lv_topi (fun x_2 ex_2 => ?_)
  have yx_2 : tY M_1 60 3 1 = x_2 := ((congrArg _ (by decide)).symm.trans ex_2.symm)
  have zx_2 : (tY M_1 60 3 1).toInt = x_2.toInt := by rw [yx_2]
  have wx_2 : tY M 60 3 1 = x_2 := ((cg (tY_nE hM_1 (nk (by decide))) 1)).symm.trans yx_2
  have zwx_2 : (tY M 60 3 1).toInt = x_2.toInt := by rw [wx_2]
  refine ti_iast (ci := 10) (k := 35) (n := 23) C hw ob_60 (by decide) (fun _ _ => rfl) (by unfold vp_in; decide) dX10_starts_18 (fun H locs hw => ?_)
  obtain ⟨M_3, hM_3⟩ : ∃ z : ti_M, z = uY M_1 60 35 (upd (tY M_1 60 35) (0 : Int32).toNatClampNeg x_2) := ⟨_, rfl⟩
  have hw := hw.to hM_3.symm
  have iM_3 : mI Tm M_3 := mI_up (i := 0) iM_1 hM_3 trivial
  refine lv_aload_n hx hb dX10_starts_19 rfl (lv_at hl 0 rfl) ?_
  refine ti_get (ci := 10) (k := 36) (N := 67) (T := TX10) (v := .ref (A 60 37)) C hw iw_10 rfl ob_60 (by decide) (by decide) fl_X10_75 rfl rfl dX10_starts_20 ?_
  refine lv_iload_n hx hb dX10_starts_23 rfl (lv_at hl 1 rfl) ?_
  refine lv_aload_n hx hb dX10_starts_24 rfl (lv_at hl 0 rfl) ?_
  refine ti_get (ci := 10) (k := 3) (N := 67) (T := TX10) (v := .ref (A 60 4)) C hw iw_10 rfl ob_60 (by decide) (by decide) fl_X10_13 rfl rfl dX10_starts_25 ?_
  refine lv_bipush (v := 6) hx hb dX10_starts_28 (by decide) ?_
  refine ti_iald (ci := 10) (k := 3) (n := 22) C hw ob_60 (by decide) (fun _ _ => rfl) (by unfold vp_in; decide) dX10_starts_30 ?_
  refine lv_topi (fun x_4 ex_4 => ?_)
  have yx_4 : tY M_3 60 3 6 = x_4 := ((congrArg _ (by decide)).symm.trans ex_4.symm)
  have zx_4 : (tY M_3 60 3 6).toInt = x_4.toInt := by rw [yx_4]
  have wx_4 : tY M 60 3 6 = x_4 := (((cg (tY_nE hM_3 (nk (by decide))) 6).trans (cg (tY_nE hM_1 (nk (by decide))) 6))).symm.trans yx_4
  have zwx_4 : (tY M 60 3 6).toInt = x_4.toInt := by rw [wx_4]
  refine ti_iast (ci := 10) (k := 36) (n := 23) C hw ob_60 (by decide) (fun _ _ => rfl) (by unfold vp_in; decide) dX10_starts_31 (fun H locs hw => ?_)
  obtain ⟨M_5, hM_5⟩ : ∃ z : ti_M, z = uY M_3 60 36 (upd (tY M_3 60 36) (0 : Int32).toNatClampNeg x_4) := ⟨_, rfl⟩
  have hw := hw.to hM_5.symm
  have iM_5 : mI Tm M_5 := mI_up (i := 0) iM_3 hM_5 trivial
  refine lv_aload_n hx hb dX10_starts_32 rfl (lv_at hl 0 rfl) ?_
  refine ti_get (ci := 10) (k := 37) (N := 67) (T := TX10) (v := .ref (A 60 38)) C hw iw_10 rfl ob_60 (by decide) (by decide) fl_X10_78 rfl rfl dX10_starts_33 ?_
  refine lv_iload_n hx hb dX10_starts_36 rfl (lv_at hl 1 rfl) ?_
  refine lv_iconst (v := 0) hx hb dX10_starts_37 (by decide) ?_
  refine ti_iast (ci := 10) (k := 37) (n := 23) C hw ob_60 (by decide) (fun _ _ => rfl) (by unfold vp_in; decide) dX10_starts_38 (fun H locs hw => ?_)
  obtain ⟨M_6, hM_6⟩ : ∃ z : ti_M, z = uY M_5 60 37 (upd (tY M_5 60 37) (0 : Int32).toNatClampNeg 0) := ⟨_, rfl⟩
  have hw := hw.to hM_6.symm
  have iM_6 : mI Tm M_6 := mI_up (i := 0) iM_5 hM_6 trivial
  refine lv_aload_n hx hb dX10_starts_39 rfl (lv_at hl 0 rfl) ?_
  refine ti_get (ci := 10) (k := 38) (N := 67) (T := TX10) (v := .ref (A 60 39)) C hw iw_10 rfl ob_60 (by decide) (by decide) fl_X10_81 rfl rfl dX10_starts_40 ?_
  refine lv_iload_n hx hb dX10_starts_43 rfl (lv_at hl 1 rfl) ?_
  refine lv_iconst (v := 0) hx hb dX10_starts_44 (by decide) ?_
  refine ti_iast (ci := 10) (k := 38) (n := 23) C hw ob_60 (by decide) (fun _ _ => rfl) (by unfold vp_in; decide) dX10_starts_45 (fun H locs hw => ?_)
  obtain ⟨M_7, hM_7⟩ : ∃ z : ti_M, z = uY M_6 60 38 (upd (tY M_6 60 38) (0 : Int32).toNatClampNeg 0) := ⟨_, rfl⟩
  have hw := hw.to hM_7.symm
  have iM_7 : mI Tm M_7 := mI_up (i := 0) iM_6 hM_7 (ib_mk (lo := 0) (hi := 8) (by decide) (by decide))
  refine lv_iconst (v := 0) hx hb dX10_starts_46 (by decide) ?_
  refine lv_istore_n (lv' := [(2, .int 0), (0, .ref (A 60 0)), (1, .int 0)]) hx hb dX10_starts_47 rfl hl (by decide) rfl (fun ls hl => ?_)
  have hl_48_14 : ∀ (n_15 : Nat) (x_8 : Int32) (M_11 : ti_M) (H : Heap) (locs : List Loc) (ls : Array Slot), (8 - x_8.toInt : Int).toNat < n_15 → (0 ≤ x_8.toInt) → (x_8.toInt ≤ 8) → (mI Tm M_11) → (lk M_11 M) → (tI M_11 60 19 = tI M 60 19) → (stq M M_11 0 x_8.toInt) → ti_H ti_LM D A cy H0 M_11 H locs → lv_has ls 4 [(2, .int x_8), (0, .ref (A 60 0)), (1, .int 0)] → W p l e (ti_rm 0) s m args below meth c H locs 0 0 Q (F0 m 48 ls []) := by
    intro n_15
    induction n_15 with
    | zero => intro x_8 M_11 H locs ls hf_15; exact absurd hf_15 (Nat.not_lt_zero _)
    | succ n_15 ih_15 =>
      intro x_8 M_11 H locs ls hf_15 b_9 b_10 iM_11 f_12 f_13 j_14 hw hl
      refine lv_iload_n hx hb dX10_starts_48 rfl (lv_at hl 0 rfl) ?_
      refine lv_aload_n hx hb dX10_starts_49 rfl (lv_at hl 1 rfl) ?_
      refine ti_get (ci := 10) (k := 3) (N := 67) (T := TX10) (v := .ref (A 60 4)) C hw iw_10 rfl ob_60 (by decide) (by decide) fl_X10_13 rfl rfl dX10_starts_50 ?_
      refine lv_iconst (v := 0) hx hb dX10_starts_53 (by decide) ?_
      refine ti_iald (ci := 10) (k := 3) (n := 22) C hw ob_60 (by decide) (fun _ _ => rfl) (by unfold vp_in; decide) dX10_starts_54 ?_
      refine lv_topi (fun x_16 ex_16 => ?_)
      have yx_16 : tY M_11 60 3 0 = x_16 := ((congrArg _ (by decide)).symm.trans ex_16.symm)
      have bx_16 : 0 ≤ x_16.toInt ∧ x_16.toInt ≤ 8 := mI_rn (i := 0) iM_11 yx_16.symm (fun _ h => h)
      have zx_16 : (tY M_11 60 3 0).toInt = x_16.toInt := by rw [yx_16]
      have wx_16 : tY M 60 3 0 = x_16 := ((cg (f_12.1 3 (by decide) (by decide)) 0)).symm.trans yx_16
      have zwx_16 : (tY M 60 3 0).toInt = x_16.toInt := by rw [wx_16]
      refine sb_icmp_ge (tgt := 150) hx hb rfl rfl dX10_starts_55 (by decide) (fun c_55_16 => ?_) (fun c_55_16 => ?_)
      · refine lv_iconst (v := 0) hx hb dX10_starts_150 (by decide) ?_
        refine lv_istore_n (lv' := [(2, .int 0), (0, .ref (A 60 0)), (1, .int 0)]) hx hb dX10_starts_151 rfl hl (by decide) rfl (fun ls hl => ?_)
        have hl_152_38 : ∀ (n_39 : Nat) (x_32 : Int32) (M_35 : ti_M) (H : Heap) (locs : List Loc) (ls : Array Slot), (3 - x_32.toInt : Int).toNat < n_39 → (0 ≤ x_32.toInt) → (x_32.toInt ≤ 3) → (mI Tm M_35) → (lk M_35 M) → (tI M_35 60 19 = tI M 60 19) → (stq M M_35 0 (tY M 60 3 0).toInt) → ti_H ti_LM D A cy H0 M_35 H locs → lv_has ls 4 [(2, .int x_32), (0, .ref (A 60 0)), (1, .int 0)] → W p l e (ti_rm 0) s m args below meth c H locs 0 0 Q (F0 m 152 ls []) := by
          intro n_39
          induction n_39 with
          | zero => intro x_32 M_35 H locs ls hf_39; exact absurd hf_39 (Nat.not_lt_zero _)
          | succ n_39 ih_39 =>
            intro x_32 M_35 H locs ls hf_39 b_33 b_34 iM_35 f_36 f_37 j_38 hw hl
            refine lv_iload_n hx hb dX10_starts_152 rfl (lv_at hl 0 rfl) ?_
            refine lv_iconst (v := 3) hx hb dX10_starts_153 (by decide) ?_
            refine sb_icmp_ge (tgt := 182) hx hb rfl (by decide : (3 : Int32).toInt = 3) dX10_starts_154 (by decide) (fun c_154_39 => ?_) (fun c_154_39 => ?_)
            · have jj := q_start hI j_38 f_36
              exact hQ _ _ _ _ _ hw (⟨iM_35, jj.1, jj.2.1, jj.2.2, (f_37)⟩) dX10_starts_182
            · refine lv_aload_n hx hb dX10_starts_157 rfl (lv_at hl 1 rfl) ?_
              refine ti_get (ci := 10) (k := 49) (N := 67) (T := TX10) (v := .ref (A 60 50)) C hw iw_10 rfl ob_60 (by decide) (by decide) fl_X10_114 rfl rfl dX10_starts_158 ?_
              refine lv_iconst (v := 3) hx hb dX10_starts_161 (by decide) ?_
              refine lv_iload_n hx hb dX10_starts_162 rfl (lv_at hl 2 rfl) ?_
              refine lv_imul hx hb dX10_starts_163 ?_
              refine ti_top (y := 0) (by decide) ?_
              refine lv_iload_n hx hb dX10_starts_164 rfl (lv_at hl 0 rfl) ?_
              refine lv_iadd hx hb dX10_starts_165 ?_
              refine lv_topi (fun x_41 ex_41 => ?_)
              have tx_41 : x_41.toInt = 0 + x_32.toInt := i_add ex_41 (by decide : (0 : Int32).toInt = 0) rfl (by omega) (by omega)
              refine lv_aload_n hx hb dX10_starts_166 rfl (lv_at hl 1 rfl) ?_
              refine ti_get (ci := 10) (k := 3) (N := 67) (T := TX10) (v := .ref (A 60 4)) C hw iw_10 rfl ob_60 (by decide) (by decide) fl_X10_13 rfl rfl dX10_starts_167 ?_
              refine lv_bipush (v := 8) hx hb dX10_starts_170 (by decide) ?_
              refine lv_iload_n hx hb dX10_starts_172 rfl (lv_at hl 0 rfl) ?_
              refine lv_iadd hx hb dX10_starts_173 ?_
              refine lv_topi (fun x_42 ex_42 => ?_)
              have tx_42 : x_42.toInt = 8 + x_32.toInt := i_add ex_42 (by decide : (8 : Int32).toInt = 8) rfl (by omega) (by omega)
              refine ti_iald (ci := 10) (k := 3) (n := 22) C hw ob_60 (by decide) (fun _ _ => rfl) (vp_in_iff.mpr (by omega)) dX10_starts_174 ?_
              refine lv_topi (fun x_43 ex_43 => ?_)
              have yx_43 : tY M_35 60 3 x_42.toNatClampNeg = x_43 := (ex_43.symm)
              have bx_43 : 0 ≤ x_43.toInt ∧ x_43.toInt ≤ 7 := mI_rn (i := x_42.toNatClampNeg) iM_35 yx_43.symm (fun _ h => mN_p (by show 8 ≤ (x_42).toInt.toNat; omega) (by show (x_42).toInt.toNat ≤ 10; omega) h)
              have zx_43 : (tY M_35 60 3 x_42.toNatClampNeg).toInt = x_43.toInt := by rw [yx_43]
              have wx_43 : tY M 60 3 x_42.toNatClampNeg = x_43 := ((cg (f_36.1 3 (by decide) (by decide)) x_42.toNatClampNeg)).symm.trans yx_43
              have zwx_43 : (tY M 60 3 x_42.toNatClampNeg).toInt = x_43.toInt := by rw [wx_43]
              refine ti_iast (ci := 10) (k := 49) (n := 69) C hw ob_60 (by decide) (fun _ _ => rfl) (vp_in_iff.mpr (by omega)) dX10_starts_175 (fun H locs hw => ?_)
              obtain ⟨M_44, hM_44⟩ : ∃ z : ti_M, z = uY M_35 60 49 (upd (tY M_35 60 49) (x_41 : Int32).toNatClampNeg x_43) := ⟨_, rfl⟩
              have hw := hw.to hM_44.symm
              have iM_44 : mI Tm M_44 := mI_up (i := x_41.toNatClampNeg) iM_35 hM_44 (ib_mk (lo := 0) (hi := 7) (by omega) (by omega))
              obtain ⟨x_45, ex_45⟩ : ∃ z : Int32, z = x_32 + 1 := ⟨_, rfl⟩
              have tx_45 : x_45.toInt = x_32.toInt + 1 := i_add ex_45 rfl (by decide) (by omega) (by omega)
              refine lv_iinc (v := x_45) (lv' := [(2, .int x_45), (0, .ref (A 60 0)), (1, .int 0)]) hx hb dX10_starts_176 hl (k := 0) rfl (by rw [ex_45]; rfl) (by decide) rfl (fun ls hl => ?_)
              refine lv_goto (tgt := 152) hx hb dX10_starts_179 (by decide) ?_
              exact ih_39 x_45 M_44 _ _ _ (by omega) (by first | omega | decide) (by first | omega | decide) iM_44 (lk.trans (lk_Y hM_44 (by decide)) f_36) ((tI_uYE hM_44).trans f_37) (stq_qw j_38 (qw_Y hM_44 (by decide))) hw (lv_sub hl [0, 1, 2] rfl)
        exact hl_152_38 ((3 - 0 : Int).toNat + 1) 0 M_11 _ _ _ (Nat.lt_succ_self _) (by have lt0 : (0 : Int32).toInt = 0 := (by decide); first | omega | decide) (by have lt0 : (0 : Int32).toInt = 0 := (by decide); first | omega | decide) iM_11 f_12 (f_13) (stq_le j_14 (by omega)) hw (lv_sub hl [0, 1, 2] rfl)
      · refine lv_bipush (v := 8) hx hb dX10_starts_58 (by decide) ?_
        refine lv_iload_n hx hb dX10_starts_60 rfl (lv_at hl 2 rfl) ?_
        refine lv_imul hx hb dX10_starts_61 ?_
        refine ti_top (y := 0) (by decide) ?_
        refine lv_iload_n hx hb dX10_starts_62 rfl (lv_at hl 0 rfl) ?_
        refine lv_iadd hx hb dX10_starts_63 ?_
        refine lv_topi (fun x_18 ex_18 => ?_)
        have tx_18 : x_18.toInt = 0 + x_8.toInt := i_add ex_18 (by decide : (0 : Int32).toInt = 0) rfl (by omega) (by omega)
        refine lv_istore_n (lv' := [(3, .int x_18), (2, .int x_8), (0, .ref (A 60 0)), (1, .int 0)]) hx hb dX10_starts_64 rfl hl (by decide) rfl (fun ls hl => ?_)
        refine lv_aload_n hx hb dX10_starts_65 rfl (lv_at hl 2 rfl) ?_
        refine ti_get (ci := 10) (k := 40) (N := 67) (T := TX10) (v := .ref (A 60 41)) C hw iw_10 rfl ob_60 (by decide) (by decide) fl_X10_87 rfl rfl dX10_starts_66 ?_
        refine lv_iload_n hx hb dX10_starts_69 rfl (lv_at hl 0 rfl) ?_
        refine lv_iconst (v := 0) hx hb dX10_starts_70 (by decide) ?_
        refine ti_iast (ci := 10) (k := 40) (n := 184) C hw ob_60 (by decide) (fun _ _ => rfl) (vp_in_iff.mpr (by omega)) dX10_starts_71 (fun H locs hw => ?_)
        obtain ⟨M_19, hM_19⟩ : ∃ z : ti_M, z = uY M_11 60 40 (upd (tY M_11 60 40) (x_18 : Int32).toNatClampNeg 0) := ⟨_, rfl⟩
        have hw := hw.to hM_19.symm
        have iM_19 : mI Tm M_19 := mI_up (i := x_18.toNatClampNeg) iM_11 hM_19 trivial
        refine lv_aload_n hx hb dX10_starts_72 rfl (lv_at hl 2 rfl) ?_
        refine ti_get (ci := 10) (k := 41) (N := 67) (T := TX10) (v := .ref (A 60 42)) C hw iw_10 rfl ob_60 (by decide) (by decide) fl_X10_90 rfl rfl dX10_starts_73 ?_
        refine lv_iload_n hx hb dX10_starts_76 rfl (lv_at hl 0 rfl) ?_
        refine lv_aload_n hx hb dX10_starts_77 rfl (lv_at hl 2 rfl) ?_
        refine ti_get (ci := 10) (k := 7) (N := 67) (T := TX10) (v := .ref (A 60 8)) C hw iw_10 rfl ob_60 (by decide) (by decide) fl_X10_25 rfl rfl dX10_starts_78 ?_
        refine lv_iload_n hx hb dX10_starts_81 rfl (lv_at hl 1 rfl) ?_
        refine ti_iald (ci := 10) (k := 7) (n := 16) C hw ob_60 (by decide) (fun _ _ => rfl) (vp_in_iff.mpr (by omega)) dX10_starts_82 ?_
        refine lv_topi (fun x_20 ex_20 => ?_)
        have yx_20 : tY M_19 60 7 x_8.toNatClampNeg = x_20 := (ex_20.symm)
        have wx_20 : tY M 60 7 x_8.toNatClampNeg = x_20 := (((cg (tY_nE hM_19 (nk (by decide))) x_8.toNatClampNeg).trans (cg (f_12.1 7 (by decide) (by decide)) x_8.toNatClampNeg))).symm.trans yx_20
        refine ti_iast (ci := 10) (k := 41) (n := 184) C hw ob_60 (by decide) (fun _ _ => rfl) (vp_in_iff.mpr (by omega)) dX10_starts_83 (fun H locs hw => ?_)
        obtain ⟨M_21, hM_21⟩ : ∃ z : ti_M, z = uY M_19 60 41 (upd (tY M_19 60 41) (x_18 : Int32).toNatClampNeg x_20) := ⟨_, rfl⟩
        have hw := hw.to hM_21.symm
        have iM_21 : mI Tm M_21 := mI_up (i := x_18.toNatClampNeg) iM_19 hM_21 trivial
        refine lv_aload_n hx hb dX10_starts_84 rfl (lv_at hl 2 rfl) ?_
        refine ti_get (ci := 10) (k := 42) (N := 67) (T := TX10) (v := .ref (A 60 43)) C hw iw_10 rfl ob_60 (by decide) (by decide) fl_X10_93 rfl rfl dX10_starts_85 ?_
        refine lv_iload_n hx hb dX10_starts_88 rfl (lv_at hl 0 rfl) ?_
        refine lv_iconst (v := 0) hx hb dX10_starts_89 (by decide) ?_
        refine ti_iast (ci := 10) (k := 42) (n := 184) C hw ob_60 (by decide) (fun _ _ => rfl) (vp_in_iff.mpr (by omega)) dX10_starts_90 (fun H locs hw => ?_)
        obtain ⟨M_22, hM_22⟩ : ∃ z : ti_M, z = uY M_21 60 42 (upd (tY M_21 60 42) (x_18 : Int32).toNatClampNeg 0) := ⟨_, rfl⟩
        have hw := hw.to hM_22.symm
        have iM_22 : mI Tm M_22 := mI_up (i := x_18.toNatClampNeg) iM_21 hM_22 trivial
        refine lv_aload_n hx hb dX10_starts_91 rfl (lv_at hl 2 rfl) ?_
        refine ti_get (ci := 10) (k := 43) (N := 67) (T := TX10) (v := .ref (A 60 44)) C hw iw_10 rfl ob_60 (by decide) (by decide) fl_X10_96 rfl rfl dX10_starts_92 ?_
        refine lv_iload_n hx hb dX10_starts_95 rfl (lv_at hl 0 rfl) ?_
        refine lv_aload_n hx hb dX10_starts_96 rfl (lv_at hl 2 rfl) ?_
        refine ti_get (ci := 10) (k := 9) (N := 67) (T := TX10) (v := .ref (A 60 10)) C hw iw_10 rfl ob_60 (by decide) (by decide) fl_X10_31 rfl rfl dX10_starts_97 ?_
        refine lv_iload_n hx hb dX10_starts_100 rfl (lv_at hl 1 rfl) ?_
        refine ti_iald (ci := 10) (k := 9) (n := 16) C hw ob_60 (by decide) (fun _ _ => rfl) (vp_in_iff.mpr (by omega)) dX10_starts_101 ?_
        refine lv_topi (fun x_23 ex_23 => ?_)
        have yx_23 : tY M_22 60 9 x_8.toNatClampNeg = x_23 := (ex_23.symm)
        have wx_23 : tY M 60 9 x_8.toNatClampNeg = x_23 := (((cg (tY_nE hM_22 (nk (by decide))) x_8.toNatClampNeg).trans ((cg (tY_nE hM_21 (nk (by decide))) x_8.toNatClampNeg).trans ((cg (tY_nE hM_19 (nk (by decide))) x_8.toNatClampNeg).trans (cg (f_12.1 9 (by decide) (by decide)) x_8.toNatClampNeg))))).symm.trans yx_23
        refine ti_iast (ci := 10) (k := 43) (n := 184) C hw ob_60 (by decide) (fun _ _ => rfl) (vp_in_iff.mpr (by omega)) dX10_starts_102 (fun H locs hw => ?_)
        obtain ⟨M_24, hM_24⟩ : ∃ z : ti_M, z = uY M_22 60 43 (upd (tY M_22 60 43) (x_18 : Int32).toNatClampNeg x_23) := ⟨_, rfl⟩
        have hw := hw.to hM_24.symm
        have iM_24 : mI Tm M_24 := mI_up (i := x_18.toNatClampNeg) iM_22 hM_24 trivial
        refine lv_aload_n hx hb dX10_starts_103 rfl (lv_at hl 2 rfl) ?_
        refine ti_get (ci := 10) (k := 44) (N := 67) (T := TX10) (v := .ref (A 60 45)) C hw iw_10 rfl ob_60 (by decide) (by decide) fl_X10_99 rfl rfl dX10_starts_104 ?_
        refine lv_iload_n hx hb dX10_starts_107 rfl (lv_at hl 0 rfl) ?_
        refine lv_aload_n hx hb dX10_starts_108 rfl (lv_at hl 2 rfl) ?_
        refine ti_get (ci := 10) (k := 11) (N := 67) (T := TX10) (v := .ref (A 60 12)) C hw iw_10 rfl ob_60 (by decide) (by decide) fl_X10_37 rfl rfl dX10_starts_109 ?_
        refine lv_iload_n hx hb dX10_starts_112 rfl (lv_at hl 1 rfl) ?_
        refine ti_iald (ci := 10) (k := 11) (n := 16) C hw ob_60 (by decide) (fun _ _ => rfl) (vp_in_iff.mpr (by omega)) dX10_starts_113 ?_
        refine lv_topi (fun x_25 ex_25 => ?_)
        have yx_25 : tY M_24 60 11 x_8.toNatClampNeg = x_25 := (ex_25.symm)
        have wx_25 : tY M 60 11 x_8.toNatClampNeg = x_25 := (((cg (tY_nE hM_24 (nk (by decide))) x_8.toNatClampNeg).trans ((cg (tY_nE hM_22 (nk (by decide))) x_8.toNatClampNeg).trans ((cg (tY_nE hM_21 (nk (by decide))) x_8.toNatClampNeg).trans ((cg (tY_nE hM_19 (nk (by decide))) x_8.toNatClampNeg).trans (cg (f_12.1 11 (by decide) (by decide)) x_8.toNatClampNeg)))))).symm.trans yx_25
        refine ti_iast (ci := 10) (k := 44) (n := 184) C hw ob_60 (by decide) (fun _ _ => rfl) (vp_in_iff.mpr (by omega)) dX10_starts_114 (fun H locs hw => ?_)
        obtain ⟨M_26, hM_26⟩ : ∃ z : ti_M, z = uY M_24 60 44 (upd (tY M_24 60 44) (x_18 : Int32).toNatClampNeg x_25) := ⟨_, rfl⟩
        have hw := hw.to hM_26.symm
        have iM_26 : mI Tm M_26 := mI_up (i := x_18.toNatClampNeg) iM_24 hM_26 trivial
        refine lv_aload_n hx hb dX10_starts_115 rfl (lv_at hl 2 rfl) ?_
        refine ti_get (ci := 10) (k := 45) (N := 67) (T := TX10) (v := .ref (A 60 46)) C hw iw_10 rfl ob_60 (by decide) (by decide) fl_X10_102 rfl rfl dX10_starts_116 ?_
        refine lv_iload_n hx hb dX10_starts_119 rfl (lv_at hl 0 rfl) ?_
        refine lv_iconst (v := 0) hx hb dX10_starts_120 (by decide) ?_
        refine ti_iast (ci := 10) (k := 45) (n := 184) C hw ob_60 (by decide) (fun _ _ => rfl) (vp_in_iff.mpr (by omega)) dX10_starts_121 (fun H locs hw => ?_)
        obtain ⟨M_27, hM_27⟩ : ∃ z : ti_M, z = uY M_26 60 45 (upd (tY M_26 60 45) (x_18 : Int32).toNatClampNeg 0) := ⟨_, rfl⟩
        have hw := hw.to hM_27.symm
        have iM_27 : mI Tm M_27 := mI_up (i := x_18.toNatClampNeg) iM_26 hM_27 trivial
        refine lv_aload_n hx hb dX10_starts_122 rfl (lv_at hl 2 rfl) ?_
        refine ti_get (ci := 10) (k := 46) (N := 67) (T := TX10) (v := .ref (A 60 47)) C hw iw_10 rfl ob_60 (by decide) (by decide) fl_X10_105 rfl rfl dX10_starts_123 ?_
        refine lv_iload_n hx hb dX10_starts_126 rfl (lv_at hl 0 rfl) ?_
        refine lv_iconst (v := 0) hx hb dX10_starts_127 (by decide) ?_
        refine ti_iast (ci := 10) (k := 46) (n := 184) C hw ob_60 (by decide) (fun _ _ => rfl) (vp_in_iff.mpr (by omega)) dX10_starts_128 (fun H locs hw => ?_)
        obtain ⟨M_28, hM_28⟩ : ∃ z : ti_M, z = uY M_27 60 46 (upd (tY M_27 60 46) (x_18 : Int32).toNatClampNeg 0) := ⟨_, rfl⟩
        have hw := hw.to hM_28.symm
        have iM_28 : mI Tm M_28 := mI_up (i := x_18.toNatClampNeg) iM_27 hM_28 trivial
        refine lv_aload_n hx hb dX10_starts_129 rfl (lv_at hl 2 rfl) ?_
        refine ti_get (ci := 10) (k := 47) (N := 67) (T := TX10) (v := .ref (A 60 48)) C hw iw_10 rfl ob_60 (by decide) (by decide) fl_X10_108 rfl rfl dX10_starts_130 ?_
        refine lv_iload_n hx hb dX10_starts_133 rfl (lv_at hl 0 rfl) ?_
        refine lv_iconst (v := 0) hx hb dX10_starts_134 (by decide) ?_
        refine ti_iast (ci := 10) (k := 47) (n := 184) C hw ob_60 (by decide) (fun _ _ => rfl) (vp_in_iff.mpr (by omega)) dX10_starts_135 (fun H locs hw => ?_)
        obtain ⟨M_29, hM_29⟩ : ∃ z : ti_M, z = uY M_28 60 47 (upd (tY M_28 60 47) (x_18 : Int32).toNatClampNeg 0) := ⟨_, rfl⟩
        have hw := hw.to hM_29.symm
        have iM_29 : mI Tm M_29 := mI_up (i := x_18.toNatClampNeg) iM_28 hM_29 trivial
        refine lv_aload_n hx hb dX10_starts_136 rfl (lv_at hl 2 rfl) ?_
        refine ti_get (ci := 10) (k := 48) (N := 67) (T := TX10) (v := .ref (A 60 49)) C hw iw_10 rfl ob_60 (by decide) (by decide) fl_X10_111 rfl rfl dX10_starts_137 ?_
        refine lv_iload_n hx hb dX10_starts_140 rfl (lv_at hl 0 rfl) ?_
        refine lv_bipush (v := (-2)) hx hb dX10_starts_141 (by decide) ?_
        refine ti_iast (ci := 10) (k := 48) (n := 184) C hw ob_60 (by decide) (fun _ _ => rfl) (vp_in_iff.mpr (by omega)) dX10_starts_143 (fun H locs hw => ?_)
        obtain ⟨M_30, hM_30⟩ : ∃ z : ti_M, z = uY M_29 60 48 (upd (tY M_29 60 48) (x_18 : Int32).toNatClampNeg (-2)) := ⟨_, rfl⟩
        have hw := hw.to hM_30.symm
        have iM_30 : mI Tm M_30 := mI_up (i := x_18.toNatClampNeg) iM_29 hM_30 trivial
        obtain ⟨x_31, ex_31⟩ : ∃ z : Int32, z = x_8 + 1 := ⟨_, rfl⟩
        have tx_31 : x_31.toInt = x_8.toInt + 1 := i_add ex_31 rfl (by decide) (by omega) (by omega)
        refine lv_iinc (v := x_31) (lv' := [(2, .int x_31), (3, .int x_18), (0, .ref (A 60 0)), (1, .int 0)]) hx hb dX10_starts_144 hl (k := 1) rfl (by rw [ex_31]; rfl) (by decide) rfl (fun ls hl => ?_)
        refine lv_goto (tgt := 48) hx hb dX10_starts_147 (by decide) ?_
        exact ih_15 x_31 M_30 _ _ _ (by omega) (by first | omega | decide) (by first | omega | decide) iM_30 (lk.trans (lk_Y hM_30 (by decide)) (lk.trans (lk_Y hM_29 (by decide)) (lk.trans (lk_Y hM_28 (by decide)) (lk.trans (lk_Y hM_27 (by decide)) (lk.trans (lk_Y hM_26 (by decide)) (lk.trans (lk_Y hM_24 (by decide)) (lk.trans (lk_Y hM_22 (by decide)) (lk.trans (lk_Y hM_21 (by decide)) (lk.trans (lk_Y hM_19 (by decide)) f_12))))))))) ((tI_uYE hM_30).trans ((tI_uYE hM_29).trans ((tI_uYE hM_28).trans ((tI_uYE hM_27).trans ((tI_uYE hM_26).trans ((tI_uYE hM_24).trans ((tI_uYE hM_22).trans ((tI_uYE hM_21).trans ((tI_uYE hM_19).trans f_13))))))))) (stq_s j_14 hM_19 (qw.trans (qw_Y hM_30 (by decide)) (qw.trans (qw_Y hM_29 (by decide)) (qw.trans (qw_Y hM_28 (by decide)) (qw.trans (qw_Y hM_27 (by decide)) (qw.trans (qw_Y hM_26 (by decide)) (qw.trans (qw_Y hM_24 (by decide)) (qw.trans (qw_Y hM_22 (by decide)) (qw_Y hM_21 (by decide))))))))) (by show ((x_18.toInt.toNat : Nat) : Int) = _; omega) (by omega) (by omega) (by omega)) hw (lv_sub hl [0, 2, 3] rfl)
  exact hl_48_14 ((8 - 0 : Int).toNat + 1) 0 M_7 _ _ _ (Nat.lt_succ_self _) (by have lt0 : (0 : Int32).toInt = 0 := (by decide); first | omega | decide) (by have lt0 : (0 : Int32).toInt = 0 := (by decide); first | omega | decide) iM_7 (lk.trans (lk_Y hM_7 (by decide)) (lk.trans (lk_Y hM_6 (by decide)) (lk.trans (lk_Y hM_5 (by decide)) (lk.trans (lk_Y hM_3 (by decide)) (lk_Y hM_1 (by decide)))))) ((tI_uYE hM_7).trans ((tI_uYE hM_6).trans ((tI_uYE hM_5).trans ((tI_uYE hM_3).trans (tI_uYE hM_1))))) (stq_0 (qw.trans (qw_Y hM_6 (by decide)) (qw.trans (qw_Y hM_5 (by decide)) (qw.trans (qw_Y hM_3 (by decide)) (qw_Y hM_1 (by decide))))) hM_7 (by decide)) hw (lv_sub hl [0, 1, 2] rfl)
set_option maxHeartbeats 4000000 in
set_option maxRecDepth 100000 in
theorem x_X10_begins (l : Launch) (D : va_G) (A : Nat → Nat → Nat) (cy : Nat → ClassId) (hJ : ti_inj ti_LM A) (M : ti_M) (hI : mI Tm M)  : ti_Kv l yX10_begins cX10_begins 1 1 ti_LM D A cy M [.ref (A 60 0)] (fun M2 => mI Tm M2 ∧ rq 0 M2 M ∧ mC M2 0 ∧ mP M2 0 ∧ tI M2 60 19 = tI M 60 19) := by
  refine ti_eV yp_X10_begins hJ ti_LM_nd (Nat.le_of_ble_eq_true rfl) ?_
  intro p e s m args below meth c Q H0 C hQ hw ls hl
  have hx := C.1
  have hb := C.2.1
  have hl : lv_has ls 1 [(0, .ref (A 60 0))] := hl
  refine lv_aload_n hx hb dX10_begins_0 rfl (lv_at hl 0 rfl) ?_
  refine lv_iconst (v := 0) hx hb dX10_begins_1 (by decide) ?_
  refine ti_callVv (ci := 10) (av := [.int 0]) C hw (x_X10_starts_0 l D A cy hJ M hI ) ⟨ml_X10_353, ym_X10_starts, yv_X10_starts, yi_X10_starts, yc_X10_starts⟩ yd_X10_starts ob_60 (by decide) rfl rfl hl.1 (Nat.le_of_ble_eq_true rfl) ⟨by decide, by decide⟩ ⟨Nat.zero_le _, Nat.zero_le _⟩ dX10_begins_2 (fun M_2 H locs hp_2 hw => ?_)
  obtain ⟨iM_2, q_3, q_4, q_5, q_6⟩ := hp_2
  exact hQ _ _ _ _ _ hw (⟨iM_2, q_3, q_4, q_5, q_6⟩) dX10_begins_5
/-- the names of the men that are told, and how many, are in the registers -/
def tdR (M : ti_M) (rg : Nat → Int) : Prop := rg 7 = (tY M 60 3 0).toInt ∧ ∀ i : Nat, i < 8 → (i : Int) < rg 7 → rg (100 + i) = (tY M 60 4 i).toInt
theorem tdR_of {M N : ti_M} {rg : Nat → Int} (h : tdR M rg) (e3 : tY N 60 3 0 = tY M 60 3 0) (e4 : ∀ i : Nat, i < 8 → tY N 60 4 i = tY M 60 4 i) : tdR N rg := ⟨by rw [e3]; exact h.1, fun i hi hl => by rw [e4 i hi]; exact h.2 i hi hl⟩
theorem tdR_lw {M N : ti_M} {rg : Nat → Int} (h : tdR M rg) (x : lw N M) : tdR N rg := tdR_of h (by rw [x 3 (by decide) (by decide)]) (fun i _ => by rw [x 4 (by decide) (by decide)])
theorem tdR_lx {M N : ti_M} {rg : Nat → Int} (h : tdR M rg) (x : lx N M) : tdR N rg := tdR_of h ((x.2.1 0).1 (by decide)) (fun i hi => (x.2.1 i).2 hi)
set_option maxHeartbeats 4000000 in
set_option maxRecDepth 100000 in
theorem x_X10_text_td (l : Launch) (D : va_G) (A : Nat → Nat → Nat) (cy : Nat → ClassId) (hJ : ti_inj ti_LM A) (M : ti_M) (hI : mI Tm M) (hF : mF Tm M) (nn : Int32) (B J : Nat → Int) (hB0 : nn.toInt ≤ (tI M 60 2).toInt → ∀ i : Nat, i < nn.toInt.toNat → (tY M 60 1 i).toInt = B i) (rg : Nat → Int) (htd : tdR M rg) : ti_KiE l yX10_text cX10_text 3 (some .int) 652 ti_LM D A cy M [.ref (A 60 0), .int nn] (fun r M2 => ((nn.toInt < 0 ∨ (tI M 60 2).toInt < nn.toInt) ∧ r.toInt = -2 ∧ mF Tm M2 ∧ tI M2 60 2 = tI M 60 2 ∧ tdR M2 rg) ∨ (¬ (nn.toInt < 0 ∨ (tI M 60 2).toInt < nn.toInt) ∧ tI M2 60 2 = 0 ∧ mF (mG M2) M2 ∧ r.toInt = pp_an (pp_tx B nn.toInt.toNat J) ∧ (tI M2 60 27).toInt = (pp_tx B nn.toInt.toNat J) 4 ∧ (tI M2 60 28).toInt = (pp_tx B nn.toInt.toNat J) 5 ∧ ((pp_tx B nn.toInt.toNat J) 4 ≠ 0 → tdR M2 rg ∧ tI M2 60 58 = tI M 60 58 ∧ tI M2 60 59 = tI M 60 59) ∧ ((pp_tx B nn.toInt.toNat J) 4 = 0 → tdR M2 (pp_tx B nn.toInt.toNat J) ∧ tI M2 60 58 = 0 ∧ tI M2 60 59 = -1))) := by
  refine ti_eIE yp_X10_text hJ ti_LM_nd (Nat.le_of_ble_eq_true rfl) ?_
  intro p e s m args below meth c Q H0 C hE hQ hw ls hl
  have hx := C.1
  have hb := C.2.1
  have hl : lv_has ls 3 [(0, .ref (A 60 0)), (1, .int nn)] := hl
  refine lv_aload_n hx hb dX10_text_0 rfl (lv_at hl 0 rfl) ?_
  refine lv_iconst (v := 0) hx hb dX10_text_1 (by decide) ?_
  refine ti_putI (ci := 10) (k := 0) (N := 67) (T := TX10) C hw iw_10 tyX10 tyX10_ok nmX10 rfl ob_60 (by decide) (by decide) fl_X10_154 rfl rfl rfl rfl (fn_10 A _) fs_10_0 dX10_text_2 (fun H locs hw => ?_)
  obtain ⟨M_1, hM_1⟩ : ∃ z : ti_M, z = uI M 60 0 0 := ⟨_, rfl⟩
  have hw := hw.to hM_1.symm
  have iM_1 : mI Tm M_1 := mI_uI hI hM_1 (by decide) (by decide) trivial
  refine lv_iload_n hx hb dX10_text_5 rfl (lv_at hl 1 rfl) ?_
  have hj_17_5 : ∀  (H : Heap) (locs : List Loc) (ls : Array Slot), ((nn.toInt < 0 ∨ (tI M 60 2).toInt < nn.toInt)) → ti_H ti_LM D A cy H0 M_1 H locs → lv_has ls 3 [(0, .ref (A 60 0)), (1, .int nn)] → W p l e (ti_rm 652) s m args below meth c H locs 0 0 Q (F0 m 17 ls []) := by
    intro  H locs ls j_5 hw hl
    refine lv_bipush (v := (-2)) hx hb dX10_text_17 (by decide) ?_
    exact hQ _ _ _ _ _ _ hw rfl (Or.inl ⟨by omega, by decide, mF_qw hF iM_1 (qw_I hM_1 (by decide)), (tI_nE hM_1 (nk (by decide))), tdR_lw htd (qw_I hM_1 (by decide)).1⟩) dX10_text_19
  refine sb_if_lt (tgt := 17) hx hb rfl dX10_text_6 (by decide) (fun c_6_1 => ?_) (fun c_6_1 => ?_)
  · exact hj_17_5  _ _ _ (by first | omega | decide) hw (lv_sub hl [0, 1] rfl)
  · refine lv_iload_n hx hb dX10_text_9 rfl (lv_at hl 1 rfl) ?_
    refine lv_aload_n hx hb dX10_text_10 rfl (lv_at hl 0 rfl) ?_
    refine ti_get (ci := 10) (k := 2) (N := 67) (T := TX10) C hw iw_10 rfl ob_60 (by decide) (by decide) fl_X10_157 rfl rfl dX10_text_11 ?_
    refine lv_topi (fun x_3 ex_3 => ?_)
    have bx_3 : 0 ≤ x_3.toInt ∧ x_3.toInt ≤ 700 := mI_rd iM_1 ex_3
    have ux_3 : (tI M_1 60 2).toInt = x_3.toInt := by rw [ex_3]
    have w2 : (tI M_1 60 2).toInt = (tI M 60 2).toInt := by rw [(tI_nE hM_1 (nk (by decide)))]
    refine sb_icmp_le (tgt := 20) hx hb rfl rfl dX10_text_14 (by decide) (fun c_14_3 => ?_) (fun c_14_3 => ?_)
    · refine lv_aload_n hx hb dX10_text_20 rfl (lv_at hl 0 rfl) ?_
      refine lv_iload_n hx hb dX10_text_21 rfl (lv_at hl 1 rfl) ?_
      refine ti_putI (ci := 10) (k := 20) (N := 67) (T := TX10) C hw iw_10 tyX10 tyX10_ok nmX10 rfl ob_60 (by decide) (by decide) fl_X10_163 rfl rfl rfl rfl (fn_10 A _) fs_10_20 dX10_text_22 (fun H locs hw => ?_)
      obtain ⟨M_6, hM_6⟩ : ∃ z : ti_M, z = uI M_1 60 20 nn := ⟨_, rfl⟩
      have hw := hw.to hM_6.symm
      have iM_6 : mI Tm M_6 := mI_uI iM_1 hM_6 (by decide) (by decide) (ib_mk (lo := 0) (hi := 700) (by omega) (by omega))
      have vM_6 : (tI M_6 60 20).toInt = (nn : Int32).toInt := by rw [tI_uE hM_6]
      refine lv_aload_n hx hb dX10_text_25 rfl (lv_at hl 0 rfl) ?_
      refine lv_iconst (v := 0) hx hb dX10_text_26 (by decide) ?_
      refine ti_putI (ci := 10) (k := 2) (N := 67) (T := TX10) C hw iw_10 tyX10 tyX10_ok nmX10 rfl ob_60 (by decide) (by decide) fl_X10_157 rfl rfl rfl rfl (fn_10 A _) fs_10_2 dX10_text_27 (fun H locs hw => ?_)
      obtain ⟨M_7, hM_7⟩ : ∃ z : ti_M, z = uI M_6 60 2 0 := ⟨_, rfl⟩
      have hw := hw.to hM_7.symm
      have iM_7 : mI Tm M_7 := mI_uI iM_6 hM_7 (by decide) (by decide) (ib_mk (lo := 0) (hi := 700) (by decide) (by decide))
      have vM_7 : (tI M_7 60 2).toInt = 0 := by rw [tI_uE hM_7]; decide
      refine lv_aload_n hx hb dX10_text_30 rfl (lv_at hl 0 rfl) ?_
      refine lv_iconst (v := 0) hx hb dX10_text_31 (by decide) ?_
      refine ti_putI (ci := 10) (k := 21) (N := 67) (T := TX10) C hw iw_10 tyX10 tyX10_ok nmX10 rfl ob_60 (by decide) (by decide) fl_X10_160 rfl rfl rfl rfl (fn_10 A _) fs_10_21 dX10_text_32 (fun H locs hw => ?_)
      obtain ⟨M_8, hM_8⟩ : ∃ z : ti_M, z = uI M_7 60 21 0 := ⟨_, rfl⟩
      have hw := hw.to hM_8.symm
      have iM_8 : mI Tm M_8 := mI_uI iM_7 hM_8 (by decide) (by decide) (ib_mk (lo := 0) (hi := 700) (by decide) (by decide))
      have vM_8 : (tI M_8 60 21).toInt = 0 := by rw [tI_uE hM_8]; decide
      refine lv_aload_n hx hb dX10_text_35 rfl (lv_at hl 0 rfl) ?_
      refine lv_iconst (v := 0) hx hb dX10_text_36 (by decide) ?_
      refine ti_putI (ci := 10) (k := 25) (N := 67) (T := TX10) C hw iw_10 tyX10 tyX10_ok nmX10 rfl ob_60 (by decide) (by decide) fl_X10_208 rfl rfl rfl rfl (fn_10 A _) fs_10_25 dX10_text_37 (fun H locs hw => ?_)
      obtain ⟨M_9, hM_9⟩ : ∃ z : ti_M, z = uI M_8 60 25 0 := ⟨_, rfl⟩
      have hw := hw.to hM_9.symm
      have iM_9 : mI Tm M_9 := mI_uI iM_8 hM_9 (by decide) (by decide) trivial
      refine lv_aload_n hx hb dX10_text_40 rfl (lv_at hl 0 rfl) ?_
      refine lv_iconst (v := (-1)) hx hb dX10_text_41 (by decide) ?_
      refine ti_putI (ci := 10) (k := 26) (N := 67) (T := TX10) C hw iw_10 tyX10 tyX10_ok nmX10 rfl ob_60 (by decide) (by decide) fl_X10_211 rfl rfl rfl rfl (fn_10 A _) fs_10_26 dX10_text_42 (fun H locs hw => ?_)
      obtain ⟨M_10, hM_10⟩ : ∃ z : ti_M, z = uI M_9 60 26 (-1) := ⟨_, rfl⟩
      have hw := hw.to hM_10.symm
      have iM_10 : mI Tm M_10 := mI_uI iM_9 hM_10 (by decide) (by decide) trivial
      refine lv_iconst (v := 0) hx hb dX10_text_45 (by decide) ?_
      refine lv_istore_n (lv' := [(2, .int 0), (0, .ref (A 60 0)), (1, .int nn)]) hx hb dX10_text_46 rfl hl (by decide) rfl (fun ls hl => ?_)
      refine lv_iload_n hx hb dX10_text_47 rfl (lv_at hl 0 rfl) ?_
      refine lv_bipush (v := 11) hx hb dX10_text_48 (by decide) ?_
      refine sb_icmp_ge (tgt := 120) hx hb (by decide : (0 : Int32).toInt = 0) (by decide : (11 : Int32).toInt = 11) dX10_text_50 (by decide) (fun h => absurd h (by decide)) (fun c_50_10 => ?_)
      refine lv_aload_n hx hb dX10_text_53 rfl (lv_at hl 1 rfl) ?_
      refine lv_iload_n hx hb dX10_text_54 rfl (lv_at hl 0 rfl) ?_
      refine lv_iload_n hx hb dX10_text_55 rfl (lv_at hl 0 rfl) ?_
      refine lv_iconst (v := 1) hx hb dX10_text_56 (by decide) ?_
      refine sb_icmp_ne (tgt := 66) hx hb (by decide : (0 : Int32).toInt = 0) (by decide : (1 : Int32).toInt = 1) dX10_text_57 (by decide) (fun c_57_11 => ?_) (fun h => absurd h (by decide))
      refine lv_iload_n hx hb dX10_text_66 rfl (lv_at hl 0 rfl) ?_
      refine lv_iconst (v := 2) hx hb dX10_text_67 (by decide) ?_
      refine sb_icmp_eq (tgt := 77) hx hb (by decide : (0 : Int32).toInt = 0) (by decide : (2 : Int32).toInt = 2) dX10_text_68 (by decide) (fun h => absurd h (by decide)) (fun c_68_12 => ?_)
      refine lv_iload_n hx hb dX10_text_71 rfl (lv_at hl 0 rfl) ?_
      refine lv_bipush (v := 10) hx hb dX10_text_72 (by decide) ?_
      refine sb_icmp_ne (tgt := 81) hx hb (by decide : (0 : Int32).toInt = 0) (by decide : (10 : Int32).toInt = 10) dX10_text_74 (by decide) (fun c_74_13 => ?_) (fun h => absurd h (by decide))
      refine lv_iload_n hx hb dX10_text_81 rfl (lv_at hl 0 rfl) ?_
      refine lv_iconst (v := 3) hx hb dX10_text_82 (by decide) ?_
      refine sb_icmp_ne (tgt := 91) hx hb (by decide : (0 : Int32).toInt = 0) (by decide : (3 : Int32).toInt = 3) dX10_text_83 (by decide) (fun c_83_14 => ?_) (fun h => absurd h (by decide))
      refine lv_iload_n hx hb dX10_text_91 rfl (lv_at hl 0 rfl) ?_
      refine lv_iconst (v := 4) hx hb dX10_text_92 (by decide) ?_
      refine sb_icmp_ne (tgt := 100) hx hb (by decide : (0 : Int32).toInt = 0) (by decide : (4 : Int32).toInt = 4) dX10_text_93 (by decide) (fun c_93_15 => ?_) (fun h => absurd h (by decide))
      refine lv_iload_n hx hb dX10_text_100 rfl (lv_at hl 0 rfl) ?_
      refine lv_bipush (v := 9) hx hb dX10_text_101 (by decide) ?_
      refine sb_icmp_ne (tgt := 110) hx hb (by decide : (0 : Int32).toInt = 0) (by decide : (9 : Int32).toInt = 9) dX10_text_103 (by decide) (fun c_103_16 => ?_) (fun h => absurd h (by decide))
      refine lv_iconst (v := 0) hx hb dX10_text_110 (by decide) ?_
      refine ti_callVv (ci := 10) (av := [.int 0, .int 0]) C hw (s_X10_reads l D A cy hJ M_10 iM_10 0 0 (by decide) (by decide) (by rw [show (11 + (0 : Int32).toInt).toNat = 11 by decide]; exact (ib_mk (lo := 0) (hi := 8) (by decide) (by decide)))) ⟨ml_X10_244, ym_X10_reads, yv_X10_reads, yi_X10_reads, yc_X10_reads⟩ yd_X10_reads ob_60 (by decide) rfl rfl hl.1 (Nat.le_of_ble_eq_true rfl) ⟨by decide, by decide⟩ ⟨Nat.zero_le _, Nat.zero_le _⟩ dX10_text_111 (fun M_19 H locs hp_19 hw => ?_)
      obtain ⟨iM_19, hM_19⟩ := hp_19
      rw [show (11 + (0 : Int32).toInt).toNat = 11 by decide] at hM_19
      refine lv_iinc (v := 1) (lv' := [(2, .int 1), (0, .ref (A 60 0)), (1, .int nn)]) hx hb dX10_text_114 hl (k := 0) rfl (by decide) (by decide) rfl (fun ls hl => ?_)
      refine lv_goto (tgt := 47) hx hb dX10_text_117 (by decide) ?_
      refine lv_iload_n hx hb dX10_text_47 rfl (lv_at hl 0 rfl) ?_
      refine lv_bipush (v := 11) hx hb dX10_text_48 (by decide) ?_
      refine sb_icmp_ge (tgt := 120) hx hb (by decide : (1 : Int32).toInt = 1) (by decide : (11 : Int32).toInt = 11) dX10_text_50 (by decide) (fun h => absurd h (by decide)) (fun c_50_19 => ?_)
      refine lv_aload_n hx hb dX10_text_53 rfl (lv_at hl 1 rfl) ?_
      refine lv_iload_n hx hb dX10_text_54 rfl (lv_at hl 0 rfl) ?_
      refine lv_iload_n hx hb dX10_text_55 rfl (lv_at hl 0 rfl) ?_
      refine lv_iconst (v := 1) hx hb dX10_text_56 (by decide) ?_
      refine sb_icmp_ne (tgt := 66) hx hb (by decide : (1 : Int32).toInt = 1) (by decide : (1 : Int32).toInt = 1) dX10_text_57 (by decide) (fun h => absurd h (by decide)) (fun c_57_20 => ?_)
      refine lv_sipush (v := 200) hx hb dX10_text_60 (by decide) ?_
      refine lv_goto (tgt := 111) hx hb dX10_text_63 (by decide) ?_
      refine ti_callVv (ci := 10) (av := [.int 1, .int 200]) C hw (s_X10_reads l D A cy hJ M_19 iM_19 1 200 (by decide) (by decide) (by rw [show (11 + (1 : Int32).toInt).toNat = 12 by decide]; exact trivial)) ⟨ml_X10_244, ym_X10_reads, yv_X10_reads, yi_X10_reads, yc_X10_reads⟩ yd_X10_reads ob_60 (by decide) rfl rfl hl.1 (Nat.le_of_ble_eq_true rfl) ⟨by decide, by decide⟩ ⟨Nat.zero_le _, Nat.zero_le _⟩ dX10_text_111 (fun M_23 H locs hp_23 hw => ?_)
      obtain ⟨iM_23, hM_23⟩ := hp_23
      rw [show (11 + (1 : Int32).toInt).toNat = 12 by decide] at hM_23
      refine lv_iinc (v := 2) (lv' := [(2, .int 2), (0, .ref (A 60 0)), (1, .int nn)]) hx hb dX10_text_114 hl (k := 0) rfl (by decide) (by decide) rfl (fun ls hl => ?_)
      refine lv_goto (tgt := 47) hx hb dX10_text_117 (by decide) ?_
      refine lv_iload_n hx hb dX10_text_47 rfl (lv_at hl 0 rfl) ?_
      refine lv_bipush (v := 11) hx hb dX10_text_48 (by decide) ?_
      refine sb_icmp_ge (tgt := 120) hx hb (by decide : (2 : Int32).toInt = 2) (by decide : (11 : Int32).toInt = 11) dX10_text_50 (by decide) (fun h => absurd h (by decide)) (fun c_50_23 => ?_)
      refine lv_aload_n hx hb dX10_text_53 rfl (lv_at hl 1 rfl) ?_
      refine lv_iload_n hx hb dX10_text_54 rfl (lv_at hl 0 rfl) ?_
      refine lv_iload_n hx hb dX10_text_55 rfl (lv_at hl 0 rfl) ?_
      refine lv_iconst (v := 1) hx hb dX10_text_56 (by decide) ?_
      refine sb_icmp_ne (tgt := 66) hx hb (by decide : (2 : Int32).toInt = 2) (by decide : (1 : Int32).toInt = 1) dX10_text_57 (by decide) (fun c_57_24 => ?_) (fun h => absurd h (by decide))
      refine lv_iload_n hx hb dX10_text_66 rfl (lv_at hl 0 rfl) ?_
      refine lv_iconst (v := 2) hx hb dX10_text_67 (by decide) ?_
      refine sb_icmp_eq (tgt := 77) hx hb (by decide : (2 : Int32).toInt = 2) (by decide : (2 : Int32).toInt = 2) dX10_text_68 (by decide) (fun c_68_25 => ?_) (fun h => absurd h (by decide))
      refine lv_iconst (v := 2) hx hb dX10_text_77 (by decide) ?_
      refine lv_goto (tgt := 111) hx hb dX10_text_78 (by decide) ?_
      refine ti_callVv (ci := 10) (av := [.int 2, .int 2]) C hw (s_X10_reads l D A cy hJ M_23 iM_23 2 2 (by decide) (by decide) (by rw [show (11 + (2 : Int32).toInt).toNat = 13 by decide]; exact trivial)) ⟨ml_X10_244, ym_X10_reads, yv_X10_reads, yi_X10_reads, yc_X10_reads⟩ yd_X10_reads ob_60 (by decide) rfl rfl hl.1 (Nat.le_of_ble_eq_true rfl) ⟨by decide, by decide⟩ ⟨Nat.zero_le _, Nat.zero_le _⟩ dX10_text_111 (fun M_28 H locs hp_28 hw => ?_)
      obtain ⟨iM_28, hM_28⟩ := hp_28
      rw [show (11 + (2 : Int32).toInt).toNat = 13 by decide] at hM_28
      refine lv_iinc (v := 3) (lv' := [(2, .int 3), (0, .ref (A 60 0)), (1, .int nn)]) hx hb dX10_text_114 hl (k := 0) rfl (by decide) (by decide) rfl (fun ls hl => ?_)
      refine lv_goto (tgt := 47) hx hb dX10_text_117 (by decide) ?_
      refine lv_iload_n hx hb dX10_text_47 rfl (lv_at hl 0 rfl) ?_
      refine lv_bipush (v := 11) hx hb dX10_text_48 (by decide) ?_
      refine sb_icmp_ge (tgt := 120) hx hb (by decide : (3 : Int32).toInt = 3) (by decide : (11 : Int32).toInt = 11) dX10_text_50 (by decide) (fun h => absurd h (by decide)) (fun c_50_28 => ?_)
      refine lv_aload_n hx hb dX10_text_53 rfl (lv_at hl 1 rfl) ?_
      refine lv_iload_n hx hb dX10_text_54 rfl (lv_at hl 0 rfl) ?_
      refine lv_iload_n hx hb dX10_text_55 rfl (lv_at hl 0 rfl) ?_
      refine lv_iconst (v := 1) hx hb dX10_text_56 (by decide) ?_
      refine sb_icmp_ne (tgt := 66) hx hb (by decide : (3 : Int32).toInt = 3) (by decide : (1 : Int32).toInt = 1) dX10_text_57 (by decide) (fun c_57_29 => ?_) (fun h => absurd h (by decide))
      refine lv_iload_n hx hb dX10_text_66 rfl (lv_at hl 0 rfl) ?_
      refine lv_iconst (v := 2) hx hb dX10_text_67 (by decide) ?_
      refine sb_icmp_eq (tgt := 77) hx hb (by decide : (3 : Int32).toInt = 3) (by decide : (2 : Int32).toInt = 2) dX10_text_68 (by decide) (fun h => absurd h (by decide)) (fun c_68_30 => ?_)
      refine lv_iload_n hx hb dX10_text_71 rfl (lv_at hl 0 rfl) ?_
      refine lv_bipush (v := 10) hx hb dX10_text_72 (by decide) ?_
      refine sb_icmp_ne (tgt := 81) hx hb (by decide : (3 : Int32).toInt = 3) (by decide : (10 : Int32).toInt = 10) dX10_text_74 (by decide) (fun c_74_31 => ?_) (fun h => absurd h (by decide))
      refine lv_iload_n hx hb dX10_text_81 rfl (lv_at hl 0 rfl) ?_
      refine lv_iconst (v := 3) hx hb dX10_text_82 (by decide) ?_
      refine sb_icmp_ne (tgt := 91) hx hb (by decide : (3 : Int32).toInt = 3) (by decide : (3 : Int32).toInt = 3) dX10_text_83 (by decide) (fun h => absurd h (by decide)) (fun c_83_32 => ?_)
      refine lv_bipush (v := 10) hx hb dX10_text_86 (by decide) ?_
      refine lv_goto (tgt := 111) hx hb dX10_text_88 (by decide) ?_
      refine ti_callVv (ci := 10) (av := [.int 3, .int 10]) C hw (s_X10_reads l D A cy hJ M_28 iM_28 3 10 (by decide) (by decide) (by rw [show (11 + (3 : Int32).toInt).toNat = 14 by decide]; exact (ib_mk (lo := 1) (hi := 30) (by decide) (by decide)))) ⟨ml_X10_244, ym_X10_reads, yv_X10_reads, yi_X10_reads, yc_X10_reads⟩ yd_X10_reads ob_60 (by decide) rfl rfl hl.1 (Nat.le_of_ble_eq_true rfl) ⟨by decide, by decide⟩ ⟨Nat.zero_le _, Nat.zero_le _⟩ dX10_text_111 (fun M_35 H locs hp_35 hw => ?_)
      obtain ⟨iM_35, hM_35⟩ := hp_35
      rw [show (11 + (3 : Int32).toInt).toNat = 14 by decide] at hM_35
      refine lv_iinc (v := 4) (lv' := [(2, .int 4), (0, .ref (A 60 0)), (1, .int nn)]) hx hb dX10_text_114 hl (k := 0) rfl (by decide) (by decide) rfl (fun ls hl => ?_)
      refine lv_goto (tgt := 47) hx hb dX10_text_117 (by decide) ?_
      refine lv_iload_n hx hb dX10_text_47 rfl (lv_at hl 0 rfl) ?_
      refine lv_bipush (v := 11) hx hb dX10_text_48 (by decide) ?_
      refine sb_icmp_ge (tgt := 120) hx hb (by decide : (4 : Int32).toInt = 4) (by decide : (11 : Int32).toInt = 11) dX10_text_50 (by decide) (fun h => absurd h (by decide)) (fun c_50_35 => ?_)
      refine lv_aload_n hx hb dX10_text_53 rfl (lv_at hl 1 rfl) ?_
      refine lv_iload_n hx hb dX10_text_54 rfl (lv_at hl 0 rfl) ?_
      refine lv_iload_n hx hb dX10_text_55 rfl (lv_at hl 0 rfl) ?_
      refine lv_iconst (v := 1) hx hb dX10_text_56 (by decide) ?_
      refine sb_icmp_ne (tgt := 66) hx hb (by decide : (4 : Int32).toInt = 4) (by decide : (1 : Int32).toInt = 1) dX10_text_57 (by decide) (fun c_57_36 => ?_) (fun h => absurd h (by decide))
      refine lv_iload_n hx hb dX10_text_66 rfl (lv_at hl 0 rfl) ?_
      refine lv_iconst (v := 2) hx hb dX10_text_67 (by decide) ?_
      refine sb_icmp_eq (tgt := 77) hx hb (by decide : (4 : Int32).toInt = 4) (by decide : (2 : Int32).toInt = 2) dX10_text_68 (by decide) (fun h => absurd h (by decide)) (fun c_68_37 => ?_)
      refine lv_iload_n hx hb dX10_text_71 rfl (lv_at hl 0 rfl) ?_
      refine lv_bipush (v := 10) hx hb dX10_text_72 (by decide) ?_
      refine sb_icmp_ne (tgt := 81) hx hb (by decide : (4 : Int32).toInt = 4) (by decide : (10 : Int32).toInt = 10) dX10_text_74 (by decide) (fun c_74_38 => ?_) (fun h => absurd h (by decide))
      refine lv_iload_n hx hb dX10_text_81 rfl (lv_at hl 0 rfl) ?_
      refine lv_iconst (v := 3) hx hb dX10_text_82 (by decide) ?_
      refine sb_icmp_ne (tgt := 91) hx hb (by decide : (4 : Int32).toInt = 4) (by decide : (3 : Int32).toInt = 3) dX10_text_83 (by decide) (fun c_83_39 => ?_) (fun h => absurd h (by decide))
      refine lv_iload_n hx hb dX10_text_91 rfl (lv_at hl 0 rfl) ?_
      refine lv_iconst (v := 4) hx hb dX10_text_92 (by decide) ?_
      refine sb_icmp_ne (tgt := 100) hx hb (by decide : (4 : Int32).toInt = 4) (by decide : (4 : Int32).toInt = 4) dX10_text_93 (by decide) (fun h => absurd h (by decide)) (fun c_93_40 => ?_)
      refine lv_iconst (v := 3) hx hb dX10_text_96 (by decide) ?_
      refine lv_goto (tgt := 111) hx hb dX10_text_97 (by decide) ?_
      refine ti_callVv (ci := 10) (av := [.int 4, .int 3]) C hw (s_X10_reads l D A cy hJ M_35 iM_35 4 3 (by decide) (by decide) (by rw [show (11 + (4 : Int32).toInt).toNat = 15 by decide]; exact trivial)) ⟨ml_X10_244, ym_X10_reads, yv_X10_reads, yi_X10_reads, yc_X10_reads⟩ yd_X10_reads ob_60 (by decide) rfl rfl hl.1 (Nat.le_of_ble_eq_true rfl) ⟨by decide, by decide⟩ ⟨Nat.zero_le _, Nat.zero_le _⟩ dX10_text_111 (fun M_43 H locs hp_43 hw => ?_)
      obtain ⟨iM_43, hM_43⟩ := hp_43
      rw [show (11 + (4 : Int32).toInt).toNat = 15 by decide] at hM_43
      refine lv_iinc (v := 5) (lv' := [(2, .int 5), (0, .ref (A 60 0)), (1, .int nn)]) hx hb dX10_text_114 hl (k := 0) rfl (by decide) (by decide) rfl (fun ls hl => ?_)
      refine lv_goto (tgt := 47) hx hb dX10_text_117 (by decide) ?_
      refine lv_iload_n hx hb dX10_text_47 rfl (lv_at hl 0 rfl) ?_
      refine lv_bipush (v := 11) hx hb dX10_text_48 (by decide) ?_
      refine sb_icmp_ge (tgt := 120) hx hb (by decide : (5 : Int32).toInt = 5) (by decide : (11 : Int32).toInt = 11) dX10_text_50 (by decide) (fun h => absurd h (by decide)) (fun c_50_43 => ?_)
      refine lv_aload_n hx hb dX10_text_53 rfl (lv_at hl 1 rfl) ?_
      refine lv_iload_n hx hb dX10_text_54 rfl (lv_at hl 0 rfl) ?_
      refine lv_iload_n hx hb dX10_text_55 rfl (lv_at hl 0 rfl) ?_
      refine lv_iconst (v := 1) hx hb dX10_text_56 (by decide) ?_
      refine sb_icmp_ne (tgt := 66) hx hb (by decide : (5 : Int32).toInt = 5) (by decide : (1 : Int32).toInt = 1) dX10_text_57 (by decide) (fun c_57_44 => ?_) (fun h => absurd h (by decide))
      refine lv_iload_n hx hb dX10_text_66 rfl (lv_at hl 0 rfl) ?_
      refine lv_iconst (v := 2) hx hb dX10_text_67 (by decide) ?_
      refine sb_icmp_eq (tgt := 77) hx hb (by decide : (5 : Int32).toInt = 5) (by decide : (2 : Int32).toInt = 2) dX10_text_68 (by decide) (fun h => absurd h (by decide)) (fun c_68_45 => ?_)
      refine lv_iload_n hx hb dX10_text_71 rfl (lv_at hl 0 rfl) ?_
      refine lv_bipush (v := 10) hx hb dX10_text_72 (by decide) ?_
      refine sb_icmp_ne (tgt := 81) hx hb (by decide : (5 : Int32).toInt = 5) (by decide : (10 : Int32).toInt = 10) dX10_text_74 (by decide) (fun c_74_46 => ?_) (fun h => absurd h (by decide))
      refine lv_iload_n hx hb dX10_text_81 rfl (lv_at hl 0 rfl) ?_
      refine lv_iconst (v := 3) hx hb dX10_text_82 (by decide) ?_
      refine sb_icmp_ne (tgt := 91) hx hb (by decide : (5 : Int32).toInt = 5) (by decide : (3 : Int32).toInt = 3) dX10_text_83 (by decide) (fun c_83_47 => ?_) (fun h => absurd h (by decide))
      refine lv_iload_n hx hb dX10_text_91 rfl (lv_at hl 0 rfl) ?_
      refine lv_iconst (v := 4) hx hb dX10_text_92 (by decide) ?_
      refine sb_icmp_ne (tgt := 100) hx hb (by decide : (5 : Int32).toInt = 5) (by decide : (4 : Int32).toInt = 4) dX10_text_93 (by decide) (fun c_93_48 => ?_) (fun h => absurd h (by decide))
      refine lv_iload_n hx hb dX10_text_100 rfl (lv_at hl 0 rfl) ?_
      refine lv_bipush (v := 9) hx hb dX10_text_101 (by decide) ?_
      refine sb_icmp_ne (tgt := 110) hx hb (by decide : (5 : Int32).toInt = 5) (by decide : (9 : Int32).toInt = 9) dX10_text_103 (by decide) (fun c_103_49 => ?_) (fun h => absurd h (by decide))
      refine lv_iconst (v := 0) hx hb dX10_text_110 (by decide) ?_
      refine ti_callVv (ci := 10) (av := [.int 5, .int 0]) C hw (s_X10_reads l D A cy hJ M_43 iM_43 5 0 (by decide) (by decide) (by rw [show (11 + (5 : Int32).toInt).toNat = 16 by decide]; exact trivial)) ⟨ml_X10_244, ym_X10_reads, yv_X10_reads, yi_X10_reads, yc_X10_reads⟩ yd_X10_reads ob_60 (by decide) rfl rfl hl.1 (Nat.le_of_ble_eq_true rfl) ⟨by decide, by decide⟩ ⟨Nat.zero_le _, Nat.zero_le _⟩ dX10_text_111 (fun M_52 H locs hp_52 hw => ?_)
      obtain ⟨iM_52, hM_52⟩ := hp_52
      rw [show (11 + (5 : Int32).toInt).toNat = 16 by decide] at hM_52
      refine lv_iinc (v := 6) (lv' := [(2, .int 6), (0, .ref (A 60 0)), (1, .int nn)]) hx hb dX10_text_114 hl (k := 0) rfl (by decide) (by decide) rfl (fun ls hl => ?_)
      refine lv_goto (tgt := 47) hx hb dX10_text_117 (by decide) ?_
      refine lv_iload_n hx hb dX10_text_47 rfl (lv_at hl 0 rfl) ?_
      refine lv_bipush (v := 11) hx hb dX10_text_48 (by decide) ?_
      refine sb_icmp_ge (tgt := 120) hx hb (by decide : (6 : Int32).toInt = 6) (by decide : (11 : Int32).toInt = 11) dX10_text_50 (by decide) (fun h => absurd h (by decide)) (fun c_50_52 => ?_)
      refine lv_aload_n hx hb dX10_text_53 rfl (lv_at hl 1 rfl) ?_
      refine lv_iload_n hx hb dX10_text_54 rfl (lv_at hl 0 rfl) ?_
      refine lv_iload_n hx hb dX10_text_55 rfl (lv_at hl 0 rfl) ?_
      refine lv_iconst (v := 1) hx hb dX10_text_56 (by decide) ?_
      refine sb_icmp_ne (tgt := 66) hx hb (by decide : (6 : Int32).toInt = 6) (by decide : (1 : Int32).toInt = 1) dX10_text_57 (by decide) (fun c_57_53 => ?_) (fun h => absurd h (by decide))
      refine lv_iload_n hx hb dX10_text_66 rfl (lv_at hl 0 rfl) ?_
      refine lv_iconst (v := 2) hx hb dX10_text_67 (by decide) ?_
      refine sb_icmp_eq (tgt := 77) hx hb (by decide : (6 : Int32).toInt = 6) (by decide : (2 : Int32).toInt = 2) dX10_text_68 (by decide) (fun h => absurd h (by decide)) (fun c_68_54 => ?_)
      refine lv_iload_n hx hb dX10_text_71 rfl (lv_at hl 0 rfl) ?_
      refine lv_bipush (v := 10) hx hb dX10_text_72 (by decide) ?_
      refine sb_icmp_ne (tgt := 81) hx hb (by decide : (6 : Int32).toInt = 6) (by decide : (10 : Int32).toInt = 10) dX10_text_74 (by decide) (fun c_74_55 => ?_) (fun h => absurd h (by decide))
      refine lv_iload_n hx hb dX10_text_81 rfl (lv_at hl 0 rfl) ?_
      refine lv_iconst (v := 3) hx hb dX10_text_82 (by decide) ?_
      refine sb_icmp_ne (tgt := 91) hx hb (by decide : (6 : Int32).toInt = 6) (by decide : (3 : Int32).toInt = 3) dX10_text_83 (by decide) (fun c_83_56 => ?_) (fun h => absurd h (by decide))
      refine lv_iload_n hx hb dX10_text_91 rfl (lv_at hl 0 rfl) ?_
      refine lv_iconst (v := 4) hx hb dX10_text_92 (by decide) ?_
      refine sb_icmp_ne (tgt := 100) hx hb (by decide : (6 : Int32).toInt = 6) (by decide : (4 : Int32).toInt = 4) dX10_text_93 (by decide) (fun c_93_57 => ?_) (fun h => absurd h (by decide))
      refine lv_iload_n hx hb dX10_text_100 rfl (lv_at hl 0 rfl) ?_
      refine lv_bipush (v := 9) hx hb dX10_text_101 (by decide) ?_
      refine sb_icmp_ne (tgt := 110) hx hb (by decide : (6 : Int32).toInt = 6) (by decide : (9 : Int32).toInt = 9) dX10_text_103 (by decide) (fun c_103_58 => ?_) (fun h => absurd h (by decide))
      refine lv_iconst (v := 0) hx hb dX10_text_110 (by decide) ?_
      refine ti_callVv (ci := 10) (av := [.int 6, .int 0]) C hw (s_X10_reads l D A cy hJ M_52 iM_52 6 0 (by decide) (by decide) (by rw [show (11 + (6 : Int32).toInt).toNat = 17 by decide]; exact trivial)) ⟨ml_X10_244, ym_X10_reads, yv_X10_reads, yi_X10_reads, yc_X10_reads⟩ yd_X10_reads ob_60 (by decide) rfl rfl hl.1 (Nat.le_of_ble_eq_true rfl) ⟨by decide, by decide⟩ ⟨Nat.zero_le _, Nat.zero_le _⟩ dX10_text_111 (fun M_61 H locs hp_61 hw => ?_)
      obtain ⟨iM_61, hM_61⟩ := hp_61
      rw [show (11 + (6 : Int32).toInt).toNat = 17 by decide] at hM_61
      refine lv_iinc (v := 7) (lv' := [(2, .int 7), (0, .ref (A 60 0)), (1, .int nn)]) hx hb dX10_text_114 hl (k := 0) rfl (by decide) (by decide) rfl (fun ls hl => ?_)
      refine lv_goto (tgt := 47) hx hb dX10_text_117 (by decide) ?_
      refine lv_iload_n hx hb dX10_text_47 rfl (lv_at hl 0 rfl) ?_
      refine lv_bipush (v := 11) hx hb dX10_text_48 (by decide) ?_
      refine sb_icmp_ge (tgt := 120) hx hb (by decide : (7 : Int32).toInt = 7) (by decide : (11 : Int32).toInt = 11) dX10_text_50 (by decide) (fun h => absurd h (by decide)) (fun c_50_61 => ?_)
      refine lv_aload_n hx hb dX10_text_53 rfl (lv_at hl 1 rfl) ?_
      refine lv_iload_n hx hb dX10_text_54 rfl (lv_at hl 0 rfl) ?_
      refine lv_iload_n hx hb dX10_text_55 rfl (lv_at hl 0 rfl) ?_
      refine lv_iconst (v := 1) hx hb dX10_text_56 (by decide) ?_
      refine sb_icmp_ne (tgt := 66) hx hb (by decide : (7 : Int32).toInt = 7) (by decide : (1 : Int32).toInt = 1) dX10_text_57 (by decide) (fun c_57_62 => ?_) (fun h => absurd h (by decide))
      refine lv_iload_n hx hb dX10_text_66 rfl (lv_at hl 0 rfl) ?_
      refine lv_iconst (v := 2) hx hb dX10_text_67 (by decide) ?_
      refine sb_icmp_eq (tgt := 77) hx hb (by decide : (7 : Int32).toInt = 7) (by decide : (2 : Int32).toInt = 2) dX10_text_68 (by decide) (fun h => absurd h (by decide)) (fun c_68_63 => ?_)
      refine lv_iload_n hx hb dX10_text_71 rfl (lv_at hl 0 rfl) ?_
      refine lv_bipush (v := 10) hx hb dX10_text_72 (by decide) ?_
      refine sb_icmp_ne (tgt := 81) hx hb (by decide : (7 : Int32).toInt = 7) (by decide : (10 : Int32).toInt = 10) dX10_text_74 (by decide) (fun c_74_64 => ?_) (fun h => absurd h (by decide))
      refine lv_iload_n hx hb dX10_text_81 rfl (lv_at hl 0 rfl) ?_
      refine lv_iconst (v := 3) hx hb dX10_text_82 (by decide) ?_
      refine sb_icmp_ne (tgt := 91) hx hb (by decide : (7 : Int32).toInt = 7) (by decide : (3 : Int32).toInt = 3) dX10_text_83 (by decide) (fun c_83_65 => ?_) (fun h => absurd h (by decide))
      refine lv_iload_n hx hb dX10_text_91 rfl (lv_at hl 0 rfl) ?_
      refine lv_iconst (v := 4) hx hb dX10_text_92 (by decide) ?_
      refine sb_icmp_ne (tgt := 100) hx hb (by decide : (7 : Int32).toInt = 7) (by decide : (4 : Int32).toInt = 4) dX10_text_93 (by decide) (fun c_93_66 => ?_) (fun h => absurd h (by decide))
      refine lv_iload_n hx hb dX10_text_100 rfl (lv_at hl 0 rfl) ?_
      refine lv_bipush (v := 9) hx hb dX10_text_101 (by decide) ?_
      refine sb_icmp_ne (tgt := 110) hx hb (by decide : (7 : Int32).toInt = 7) (by decide : (9 : Int32).toInt = 9) dX10_text_103 (by decide) (fun c_103_67 => ?_) (fun h => absurd h (by decide))
      refine lv_iconst (v := 0) hx hb dX10_text_110 (by decide) ?_
      refine ti_callVv (ci := 10) (av := [.int 7, .int 0]) C hw (s_X10_reads l D A cy hJ M_61 iM_61 7 0 (by decide) (by decide) (by rw [show (11 + (7 : Int32).toInt).toNat = 18 by decide]; exact (ib_mk (lo := 0) (hi := 64) (by decide) (by decide)))) ⟨ml_X10_244, ym_X10_reads, yv_X10_reads, yi_X10_reads, yc_X10_reads⟩ yd_X10_reads ob_60 (by decide) rfl rfl hl.1 (Nat.le_of_ble_eq_true rfl) ⟨by decide, by decide⟩ ⟨Nat.zero_le _, Nat.zero_le _⟩ dX10_text_111 (fun M_70 H locs hp_70 hw => ?_)
      obtain ⟨iM_70, hM_70⟩ := hp_70
      rw [show (11 + (7 : Int32).toInt).toNat = 18 by decide] at hM_70
      refine lv_iinc (v := 8) (lv' := [(2, .int 8), (0, .ref (A 60 0)), (1, .int nn)]) hx hb dX10_text_114 hl (k := 0) rfl (by decide) (by decide) rfl (fun ls hl => ?_)
      refine lv_goto (tgt := 47) hx hb dX10_text_117 (by decide) ?_
      refine lv_iload_n hx hb dX10_text_47 rfl (lv_at hl 0 rfl) ?_
      refine lv_bipush (v := 11) hx hb dX10_text_48 (by decide) ?_
      refine sb_icmp_ge (tgt := 120) hx hb (by decide : (8 : Int32).toInt = 8) (by decide : (11 : Int32).toInt = 11) dX10_text_50 (by decide) (fun h => absurd h (by decide)) (fun c_50_70 => ?_)
      refine lv_aload_n hx hb dX10_text_53 rfl (lv_at hl 1 rfl) ?_
      refine lv_iload_n hx hb dX10_text_54 rfl (lv_at hl 0 rfl) ?_
      refine lv_iload_n hx hb dX10_text_55 rfl (lv_at hl 0 rfl) ?_
      refine lv_iconst (v := 1) hx hb dX10_text_56 (by decide) ?_
      refine sb_icmp_ne (tgt := 66) hx hb (by decide : (8 : Int32).toInt = 8) (by decide : (1 : Int32).toInt = 1) dX10_text_57 (by decide) (fun c_57_71 => ?_) (fun h => absurd h (by decide))
      refine lv_iload_n hx hb dX10_text_66 rfl (lv_at hl 0 rfl) ?_
      refine lv_iconst (v := 2) hx hb dX10_text_67 (by decide) ?_
      refine sb_icmp_eq (tgt := 77) hx hb (by decide : (8 : Int32).toInt = 8) (by decide : (2 : Int32).toInt = 2) dX10_text_68 (by decide) (fun h => absurd h (by decide)) (fun c_68_72 => ?_)
      refine lv_iload_n hx hb dX10_text_71 rfl (lv_at hl 0 rfl) ?_
      refine lv_bipush (v := 10) hx hb dX10_text_72 (by decide) ?_
      refine sb_icmp_ne (tgt := 81) hx hb (by decide : (8 : Int32).toInt = 8) (by decide : (10 : Int32).toInt = 10) dX10_text_74 (by decide) (fun c_74_73 => ?_) (fun h => absurd h (by decide))
      refine lv_iload_n hx hb dX10_text_81 rfl (lv_at hl 0 rfl) ?_
      refine lv_iconst (v := 3) hx hb dX10_text_82 (by decide) ?_
      refine sb_icmp_ne (tgt := 91) hx hb (by decide : (8 : Int32).toInt = 8) (by decide : (3 : Int32).toInt = 3) dX10_text_83 (by decide) (fun c_83_74 => ?_) (fun h => absurd h (by decide))
      refine lv_iload_n hx hb dX10_text_91 rfl (lv_at hl 0 rfl) ?_
      refine lv_iconst (v := 4) hx hb dX10_text_92 (by decide) ?_
      refine sb_icmp_ne (tgt := 100) hx hb (by decide : (8 : Int32).toInt = 8) (by decide : (4 : Int32).toInt = 4) dX10_text_93 (by decide) (fun c_93_75 => ?_) (fun h => absurd h (by decide))
      refine lv_iload_n hx hb dX10_text_100 rfl (lv_at hl 0 rfl) ?_
      refine lv_bipush (v := 9) hx hb dX10_text_101 (by decide) ?_
      refine sb_icmp_ne (tgt := 110) hx hb (by decide : (8 : Int32).toInt = 8) (by decide : (9 : Int32).toInt = 9) dX10_text_103 (by decide) (fun c_103_76 => ?_) (fun h => absurd h (by decide))
      refine lv_iconst (v := 0) hx hb dX10_text_110 (by decide) ?_
      refine ti_callVv (ci := 10) (av := [.int 8, .int 0]) C hw (s_X10_reads l D A cy hJ M_70 iM_70 8 0 (by decide) (by decide) (by rw [show (11 + (8 : Int32).toInt).toNat = 19 by decide]; exact (ib_mk (lo := 0) (hi := 7) (by decide) (by decide)))) ⟨ml_X10_244, ym_X10_reads, yv_X10_reads, yi_X10_reads, yc_X10_reads⟩ yd_X10_reads ob_60 (by decide) rfl rfl hl.1 (Nat.le_of_ble_eq_true rfl) ⟨by decide, by decide⟩ ⟨Nat.zero_le _, Nat.zero_le _⟩ dX10_text_111 (fun M_79 H locs hp_79 hw => ?_)
      obtain ⟨iM_79, hM_79⟩ := hp_79
      rw [show (11 + (8 : Int32).toInt).toNat = 19 by decide] at hM_79
      refine lv_iinc (v := 9) (lv' := [(2, .int 9), (0, .ref (A 60 0)), (1, .int nn)]) hx hb dX10_text_114 hl (k := 0) rfl (by decide) (by decide) rfl (fun ls hl => ?_)
      refine lv_goto (tgt := 47) hx hb dX10_text_117 (by decide) ?_
      refine lv_iload_n hx hb dX10_text_47 rfl (lv_at hl 0 rfl) ?_
      refine lv_bipush (v := 11) hx hb dX10_text_48 (by decide) ?_
      refine sb_icmp_ge (tgt := 120) hx hb (by decide : (9 : Int32).toInt = 9) (by decide : (11 : Int32).toInt = 11) dX10_text_50 (by decide) (fun h => absurd h (by decide)) (fun c_50_79 => ?_)
      refine lv_aload_n hx hb dX10_text_53 rfl (lv_at hl 1 rfl) ?_
      refine lv_iload_n hx hb dX10_text_54 rfl (lv_at hl 0 rfl) ?_
      refine lv_iload_n hx hb dX10_text_55 rfl (lv_at hl 0 rfl) ?_
      refine lv_iconst (v := 1) hx hb dX10_text_56 (by decide) ?_
      refine sb_icmp_ne (tgt := 66) hx hb (by decide : (9 : Int32).toInt = 9) (by decide : (1 : Int32).toInt = 1) dX10_text_57 (by decide) (fun c_57_80 => ?_) (fun h => absurd h (by decide))
      refine lv_iload_n hx hb dX10_text_66 rfl (lv_at hl 0 rfl) ?_
      refine lv_iconst (v := 2) hx hb dX10_text_67 (by decide) ?_
      refine sb_icmp_eq (tgt := 77) hx hb (by decide : (9 : Int32).toInt = 9) (by decide : (2 : Int32).toInt = 2) dX10_text_68 (by decide) (fun h => absurd h (by decide)) (fun c_68_81 => ?_)
      refine lv_iload_n hx hb dX10_text_71 rfl (lv_at hl 0 rfl) ?_
      refine lv_bipush (v := 10) hx hb dX10_text_72 (by decide) ?_
      refine sb_icmp_ne (tgt := 81) hx hb (by decide : (9 : Int32).toInt = 9) (by decide : (10 : Int32).toInt = 10) dX10_text_74 (by decide) (fun c_74_82 => ?_) (fun h => absurd h (by decide))
      refine lv_iload_n hx hb dX10_text_81 rfl (lv_at hl 0 rfl) ?_
      refine lv_iconst (v := 3) hx hb dX10_text_82 (by decide) ?_
      refine sb_icmp_ne (tgt := 91) hx hb (by decide : (9 : Int32).toInt = 9) (by decide : (3 : Int32).toInt = 3) dX10_text_83 (by decide) (fun c_83_83 => ?_) (fun h => absurd h (by decide))
      refine lv_iload_n hx hb dX10_text_91 rfl (lv_at hl 0 rfl) ?_
      refine lv_iconst (v := 4) hx hb dX10_text_92 (by decide) ?_
      refine sb_icmp_ne (tgt := 100) hx hb (by decide : (9 : Int32).toInt = 9) (by decide : (4 : Int32).toInt = 4) dX10_text_93 (by decide) (fun c_93_84 => ?_) (fun h => absurd h (by decide))
      refine lv_iload_n hx hb dX10_text_100 rfl (lv_at hl 0 rfl) ?_
      refine lv_bipush (v := 9) hx hb dX10_text_101 (by decide) ?_
      refine sb_icmp_ne (tgt := 110) hx hb (by decide : (9 : Int32).toInt = 9) (by decide : (9 : Int32).toInt = 9) dX10_text_103 (by decide) (fun h => absurd h (by decide)) (fun c_103_85 => ?_)
      refine lv_iconst (v := 1) hx hb dX10_text_106 (by decide) ?_
      refine lv_goto (tgt := 111) hx hb dX10_text_107 (by decide) ?_
      refine ti_callVv (ci := 10) (av := [.int 9, .int 1]) C hw (s_X10_reads l D A cy hJ M_79 iM_79 9 1 (by decide) (by decide) (by rw [show (11 + (9 : Int32).toInt).toNat = 20 by decide]; exact (ib_mk (lo := 0) (hi := 7) (by decide) (by decide)))) ⟨ml_X10_244, ym_X10_reads, yv_X10_reads, yi_X10_reads, yc_X10_reads⟩ yd_X10_reads ob_60 (by decide) rfl rfl hl.1 (Nat.le_of_ble_eq_true rfl) ⟨by decide, by decide⟩ ⟨Nat.zero_le _, Nat.zero_le _⟩ dX10_text_111 (fun M_88 H locs hp_88 hw => ?_)
      obtain ⟨iM_88, hM_88⟩ := hp_88
      rw [show (11 + (9 : Int32).toInt).toNat = 20 by decide] at hM_88
      refine lv_iinc (v := 10) (lv' := [(2, .int 10), (0, .ref (A 60 0)), (1, .int nn)]) hx hb dX10_text_114 hl (k := 0) rfl (by decide) (by decide) rfl (fun ls hl => ?_)
      refine lv_goto (tgt := 47) hx hb dX10_text_117 (by decide) ?_
      refine lv_iload_n hx hb dX10_text_47 rfl (lv_at hl 0 rfl) ?_
      refine lv_bipush (v := 11) hx hb dX10_text_48 (by decide) ?_
      refine sb_icmp_ge (tgt := 120) hx hb (by decide : (10 : Int32).toInt = 10) (by decide : (11 : Int32).toInt = 11) dX10_text_50 (by decide) (fun h => absurd h (by decide)) (fun c_50_88 => ?_)
      refine lv_aload_n hx hb dX10_text_53 rfl (lv_at hl 1 rfl) ?_
      refine lv_iload_n hx hb dX10_text_54 rfl (lv_at hl 0 rfl) ?_
      refine lv_iload_n hx hb dX10_text_55 rfl (lv_at hl 0 rfl) ?_
      refine lv_iconst (v := 1) hx hb dX10_text_56 (by decide) ?_
      refine sb_icmp_ne (tgt := 66) hx hb (by decide : (10 : Int32).toInt = 10) (by decide : (1 : Int32).toInt = 1) dX10_text_57 (by decide) (fun c_57_89 => ?_) (fun h => absurd h (by decide))
      refine lv_iload_n hx hb dX10_text_66 rfl (lv_at hl 0 rfl) ?_
      refine lv_iconst (v := 2) hx hb dX10_text_67 (by decide) ?_
      refine sb_icmp_eq (tgt := 77) hx hb (by decide : (10 : Int32).toInt = 10) (by decide : (2 : Int32).toInt = 2) dX10_text_68 (by decide) (fun h => absurd h (by decide)) (fun c_68_90 => ?_)
      refine lv_iload_n hx hb dX10_text_71 rfl (lv_at hl 0 rfl) ?_
      refine lv_bipush (v := 10) hx hb dX10_text_72 (by decide) ?_
      refine sb_icmp_ne (tgt := 81) hx hb (by decide : (10 : Int32).toInt = 10) (by decide : (10 : Int32).toInt = 10) dX10_text_74 (by decide) (fun h => absurd h (by decide)) (fun c_74_91 => ?_)
      refine lv_iconst (v := 2) hx hb dX10_text_77 (by decide) ?_
      refine lv_goto (tgt := 111) hx hb dX10_text_78 (by decide) ?_
      refine ti_callVv (ci := 10) (av := [.int 10, .int 2]) C hw (s_X10_reads l D A cy hJ M_88 iM_88 10 2 (by decide) (by decide) (by rw [show (11 + (10 : Int32).toInt).toNat = 21 by decide]; exact (ib_mk (lo := 0) (hi := 7) (by decide) (by decide)))) ⟨ml_X10_244, ym_X10_reads, yv_X10_reads, yi_X10_reads, yc_X10_reads⟩ yd_X10_reads ob_60 (by decide) rfl rfl hl.1 (Nat.le_of_ble_eq_true rfl) ⟨by decide, by decide⟩ ⟨Nat.zero_le _, Nat.zero_le _⟩ dX10_text_111 (fun M_94 H locs hp_94 hw => ?_)
      obtain ⟨iM_94, hM_94⟩ := hp_94
      rw [show (11 + (10 : Int32).toInt).toNat = 21 by decide] at hM_94
      refine lv_iinc (v := 11) (lv' := [(2, .int 11), (0, .ref (A 60 0)), (1, .int nn)]) hx hb dX10_text_114 hl (k := 0) rfl (by decide) (by decide) rfl (fun ls hl => ?_)
      refine lv_goto (tgt := 47) hx hb dX10_text_117 (by decide) ?_
      refine lv_iload_n hx hb dX10_text_47 rfl (lv_at hl 0 rfl) ?_
      refine lv_bipush (v := 11) hx hb dX10_text_48 (by decide) ?_
      refine sb_icmp_ge (tgt := 120) hx hb (by decide : (11 : Int32).toInt = 11) (by decide : (11 : Int32).toInt = 11) dX10_text_50 (by decide) (fun c_50_94 => ?_) (fun h => absurd h (by decide))
      refine lv_iconst (v := 3) hx hb dX10_text_120 (by decide) ?_
      refine lv_istore_n (lv' := [(2, .int 3), (0, .ref (A 60 0)), (1, .int nn)]) hx hb dX10_text_121 rfl hl (by decide) rfl (fun ls hl => ?_)
      refine lv_iload_n hx hb dX10_text_122 rfl (lv_at hl 0 rfl) ?_
      refine lv_bipush (v := 6) hx hb dX10_text_123 (by decide) ?_
      refine sb_icmp_ge (tgt := 148) hx hb (by decide : (3 : Int32).toInt = 3) (by decide : (6 : Int32).toInt = 6) dX10_text_125 (by decide) (fun h => absurd h (by decide)) (fun c_125_95 => ?_)
      refine lv_aload_n hx hb dX10_text_128 rfl (lv_at hl 1 rfl) ?_
      refine ti_get (ci := 10) (k := 14) (N := 67) (T := TX10) (v := .ref (A 60 15)) C hw iw_10 rfl ob_60 (by decide) (by decide) fl_X10_46 rfl rfl dX10_text_129 ?_
      refine lv_iload_n hx hb dX10_text_132 rfl (lv_at hl 0 rfl) ?_
      refine lv_iconst (v := 0) hx hb dX10_text_133 (by decide) ?_
      refine ti_iast (ci := 10) (k := 14) (n := 6) C hw ob_60 (by decide) (fun _ _ => rfl) (by unfold vp_in; decide) dX10_text_134 (fun H locs hw => ?_)
      obtain ⟨M_97, hM_97⟩ : ∃ z : ti_M, z = uY M_94 60 14 (upd (tY M_94 60 14) (3 : Int32).toNatClampNeg 0) := ⟨_, rfl⟩
      have hw := hw.to hM_97.symm
      have iM_97 : mI Tm M_97 := mI_up (i := 3) iM_94 hM_97 (ib_mk (lo := 0) (hi := 64) (by decide) (by decide))
      refine lv_aload_n hx hb dX10_text_135 rfl (lv_at hl 1 rfl) ?_
      refine ti_get (ci := 10) (k := 15) (N := 67) (T := TX10) (v := .ref (A 60 16)) C hw iw_10 rfl ob_60 (by decide) (by decide) fl_X10_49 rfl rfl dX10_text_136 ?_
      refine lv_iload_n hx hb dX10_text_139 rfl (lv_at hl 0 rfl) ?_
      refine lv_iconst (v := 0) hx hb dX10_text_140 (by decide) ?_
      refine ti_iast (ci := 10) (k := 15) (n := 6) C hw ob_60 (by decide) (fun _ _ => rfl) (by unfold vp_in; decide) dX10_text_141 (fun H locs hw => ?_)
      obtain ⟨M_98, hM_98⟩ : ∃ z : ti_M, z = uY M_97 60 15 (upd (tY M_97 60 15) (3 : Int32).toNatClampNeg 0) := ⟨_, rfl⟩
      have hw := hw.to hM_98.symm
      have iM_98 : mI Tm M_98 := mI_up (i := 3) iM_97 hM_98 (ib_mk (lo := 0) (hi := 64) (by decide) (by decide))
      refine lv_iinc (v := 4) (lv' := [(2, .int 4), (0, .ref (A 60 0)), (1, .int nn)]) hx hb dX10_text_142 hl (k := 0) rfl (by decide) (by decide) rfl (fun ls hl => ?_)
      refine lv_goto (tgt := 122) hx hb dX10_text_145 (by decide) ?_
      refine lv_iload_n hx hb dX10_text_122 rfl (lv_at hl 0 rfl) ?_
      refine lv_bipush (v := 6) hx hb dX10_text_123 (by decide) ?_
      refine sb_icmp_ge (tgt := 148) hx hb (by decide : (4 : Int32).toInt = 4) (by decide : (6 : Int32).toInt = 6) dX10_text_125 (by decide) (fun h => absurd h (by decide)) (fun c_125_98 => ?_)
      refine lv_aload_n hx hb dX10_text_128 rfl (lv_at hl 1 rfl) ?_
      refine ti_get (ci := 10) (k := 14) (N := 67) (T := TX10) (v := .ref (A 60 15)) C hw iw_10 rfl ob_60 (by decide) (by decide) fl_X10_46 rfl rfl dX10_text_129 ?_
      refine lv_iload_n hx hb dX10_text_132 rfl (lv_at hl 0 rfl) ?_
      refine lv_iconst (v := 0) hx hb dX10_text_133 (by decide) ?_
      refine ti_iast (ci := 10) (k := 14) (n := 6) C hw ob_60 (by decide) (fun _ _ => rfl) (by unfold vp_in; decide) dX10_text_134 (fun H locs hw => ?_)
      obtain ⟨M_100, hM_100⟩ : ∃ z : ti_M, z = uY M_98 60 14 (upd (tY M_98 60 14) (4 : Int32).toNatClampNeg 0) := ⟨_, rfl⟩
      have hw := hw.to hM_100.symm
      have iM_100 : mI Tm M_100 := mI_up (i := 4) iM_98 hM_100 (ib_mk (lo := 0) (hi := 64) (by decide) (by decide))
      refine lv_aload_n hx hb dX10_text_135 rfl (lv_at hl 1 rfl) ?_
      refine ti_get (ci := 10) (k := 15) (N := 67) (T := TX10) (v := .ref (A 60 16)) C hw iw_10 rfl ob_60 (by decide) (by decide) fl_X10_49 rfl rfl dX10_text_136 ?_
      refine lv_iload_n hx hb dX10_text_139 rfl (lv_at hl 0 rfl) ?_
      refine lv_iconst (v := 0) hx hb dX10_text_140 (by decide) ?_
      refine ti_iast (ci := 10) (k := 15) (n := 6) C hw ob_60 (by decide) (fun _ _ => rfl) (by unfold vp_in; decide) dX10_text_141 (fun H locs hw => ?_)
      obtain ⟨M_101, hM_101⟩ : ∃ z : ti_M, z = uY M_100 60 15 (upd (tY M_100 60 15) (4 : Int32).toNatClampNeg 0) := ⟨_, rfl⟩
      have hw := hw.to hM_101.symm
      have iM_101 : mI Tm M_101 := mI_up (i := 4) iM_100 hM_101 (ib_mk (lo := 0) (hi := 64) (by decide) (by decide))
      refine lv_iinc (v := 5) (lv' := [(2, .int 5), (0, .ref (A 60 0)), (1, .int nn)]) hx hb dX10_text_142 hl (k := 0) rfl (by decide) (by decide) rfl (fun ls hl => ?_)
      refine lv_goto (tgt := 122) hx hb dX10_text_145 (by decide) ?_
      refine lv_iload_n hx hb dX10_text_122 rfl (lv_at hl 0 rfl) ?_
      refine lv_bipush (v := 6) hx hb dX10_text_123 (by decide) ?_
      refine sb_icmp_ge (tgt := 148) hx hb (by decide : (5 : Int32).toInt = 5) (by decide : (6 : Int32).toInt = 6) dX10_text_125 (by decide) (fun h => absurd h (by decide)) (fun c_125_101 => ?_)
      refine lv_aload_n hx hb dX10_text_128 rfl (lv_at hl 1 rfl) ?_
      refine ti_get (ci := 10) (k := 14) (N := 67) (T := TX10) (v := .ref (A 60 15)) C hw iw_10 rfl ob_60 (by decide) (by decide) fl_X10_46 rfl rfl dX10_text_129 ?_
      refine lv_iload_n hx hb dX10_text_132 rfl (lv_at hl 0 rfl) ?_
      refine lv_iconst (v := 0) hx hb dX10_text_133 (by decide) ?_
      refine ti_iast (ci := 10) (k := 14) (n := 6) C hw ob_60 (by decide) (fun _ _ => rfl) (by unfold vp_in; decide) dX10_text_134 (fun H locs hw => ?_)
      obtain ⟨M_103, hM_103⟩ : ∃ z : ti_M, z = uY M_101 60 14 (upd (tY M_101 60 14) (5 : Int32).toNatClampNeg 0) := ⟨_, rfl⟩
      have hw := hw.to hM_103.symm
      have iM_103 : mI Tm M_103 := mI_up (i := 5) iM_101 hM_103 (ib_mk (lo := 0) (hi := 64) (by decide) (by decide))
      refine lv_aload_n hx hb dX10_text_135 rfl (lv_at hl 1 rfl) ?_
      refine ti_get (ci := 10) (k := 15) (N := 67) (T := TX10) (v := .ref (A 60 16)) C hw iw_10 rfl ob_60 (by decide) (by decide) fl_X10_49 rfl rfl dX10_text_136 ?_
      refine lv_iload_n hx hb dX10_text_139 rfl (lv_at hl 0 rfl) ?_
      refine lv_iconst (v := 0) hx hb dX10_text_140 (by decide) ?_
      refine ti_iast (ci := 10) (k := 15) (n := 6) C hw ob_60 (by decide) (fun _ _ => rfl) (by unfold vp_in; decide) dX10_text_141 (fun H locs hw => ?_)
      obtain ⟨M_104, hM_104⟩ : ∃ z : ti_M, z = uY M_103 60 15 (upd (tY M_103 60 15) (5 : Int32).toNatClampNeg 0) := ⟨_, rfl⟩
      have hw := hw.to hM_104.symm
      have iM_104 : mI Tm M_104 := mI_up (i := 5) iM_103 hM_104 (ib_mk (lo := 0) (hi := 64) (by decide) (by decide))
      refine lv_iinc (v := 6) (lv' := [(2, .int 6), (0, .ref (A 60 0)), (1, .int nn)]) hx hb dX10_text_142 hl (k := 0) rfl (by decide) (by decide) rfl (fun ls hl => ?_)
      refine lv_goto (tgt := 122) hx hb dX10_text_145 (by decide) ?_
      refine lv_iload_n hx hb dX10_text_122 rfl (lv_at hl 0 rfl) ?_
      refine lv_bipush (v := 6) hx hb dX10_text_123 (by decide) ?_
      refine sb_icmp_ge (tgt := 148) hx hb (by decide : (6 : Int32).toInt = 6) (by decide : (6 : Int32).toInt = 6) dX10_text_125 (by decide) (fun c_125_104 => ?_) (fun h => absurd h (by decide))
      refine lv_aload_n hx hb dX10_text_148 rfl (lv_at hl 1 rfl) ?_
      refine lv_iconst (v := 0) hx hb dX10_text_149 (by decide) ?_
      refine ti_putI (ci := 10) (k := 18) (N := 67) (T := TX10) C hw iw_10 tyX10 tyX10_ok nmX10 rfl ob_60 (by decide) (by decide) fl_X10_228 rfl rfl rfl rfl (fn_10 A _) fs_10_18 dX10_text_150 (fun H locs hw => ?_)
      obtain ⟨M_106, hM_106⟩ : ∃ z : ti_M, z = uI M_104 60 18 0 := ⟨_, rfl⟩
      have hw := hw.to hM_106.symm
      have iM_106 : mI Tm M_106 := mI_uI iM_104 hM_106 (by decide) (by decide) trivial
      refine lv_aload_n hx hb dX10_text_153 rfl (lv_at hl 1 rfl) ?_
      refine lv_iconst (v := 0) hx hb dX10_text_154 (by decide) ?_
      refine ti_putI (ci := 10) (k := 19) (N := 67) (T := TX10) C hw iw_10 tyX10 tyX10_ok nmX10 rfl ob_60 (by decide) (by decide) fl_X10_254 rfl rfl rfl rfl (fn_10 A _) fs_10_19 dX10_text_155 (fun H locs hw => ?_)
      obtain ⟨M_107, hM_107⟩ : ∃ z : ti_M, z = uI M_106 60 19 0 := ⟨_, rfl⟩
      have hw := hw.to hM_107.symm
      have iM_107 : mI Tm M_107 := mI_uI iM_106 hM_107 (by decide) (by decide) trivial
      refine lv_aload_n hx hb dX10_text_158 rfl (lv_at hl 1 rfl) ?_
      refine lv_iconst (v := 0) hx hb dX10_text_159 (by decide) ?_
      refine ti_putI (ci := 10) (k := 29) (N := 67) (T := TX10) C hw iw_10 tyX10 tyX10_ok nmX10 rfl ob_60 (by decide) (by decide) fl_X10_297 rfl rfl rfl rfl (fn_10 A _) fs_10_29 dX10_text_160 (fun H locs hw => ?_)
      obtain ⟨M_108, hM_108⟩ : ∃ z : ti_M, z = uI M_107 60 29 0 := ⟨_, rfl⟩
      have hw := hw.to hM_108.symm
      have iM_108 : mI Tm M_108 := mI_uI iM_107 hM_108 (by decide) (by decide) (ib_mk (lo := 0) (hi := 8) (by decide) (by decide))
      have vM_108 : (tI M_108 60 29).toInt = 0 := by rw [tI_uE hM_108]; decide
      refine lv_aload_n hx hb dX10_text_163 rfl (lv_at hl 1 rfl) ?_
      refine lv_iconst (v := 0) hx hb dX10_text_164 (by decide) ?_
      refine ti_putI (ci := 10) (k := 30) (N := 67) (T := TX10) C hw iw_10 tyX10 tyX10_ok nmX10 rfl ob_60 (by decide) (by decide) fl_X10_273 rfl rfl rfl rfl (fn_10 A _) fs_10_30 dX10_text_165 (fun H locs hw => ?_)
      obtain ⟨M_109, hM_109⟩ : ∃ z : ti_M, z = uI M_108 60 30 0 := ⟨_, rfl⟩
      have hw := hw.to hM_109.symm
      have iM_109 : mI Tm M_109 := mI_uI iM_108 hM_109 (by decide) (by decide) (ib_mk (lo := 0) (hi := 64) (by decide) (by decide))
      have vM_109 : (tI M_109 60 30).toInt = 0 := by rw [tI_uE hM_109]; decide
      have hB := hB0 (by omega)
      have f1 : ff M_109 = 1 := ff_1 (by rw [((tI_nE hM_109 (nk (by decide))).trans ((tI_nE hM_108 (nk (by decide))).trans ((tI_nE hM_107 (nk (by decide))).trans ((tI_nE hM_106 (nk (by decide))).trans ((tI_uYE hM_104).trans ((tI_uYE hM_103).trans ((tI_uYE hM_101).trans ((tI_uYE hM_100).trans ((tI_uYE hM_98).trans ((tI_uYE hM_97).trans ((tI_uYE hM_94).trans ((tI_uYE hM_88).trans ((tI_uYE hM_79).trans ((tI_uYE hM_70).trans ((tI_uYE hM_61).trans ((tI_uYE hM_52).trans ((tI_uYE hM_43).trans ((tI_uYE hM_35).trans ((tI_uYE hM_28).trans ((tI_uYE hM_23).trans ((tI_uYE hM_19).trans ((tI_nE hM_10 (nk (by decide))).trans (tI_uE hM_9)))))))))))))))))))))))]; decide)
      have f29 : (tI M_109 60 29).toInt = 0 := by rw [((tI_nE hM_109 (nk (by decide))).trans (tI_uE hM_108))]; decide
      have f30 : (tI M_109 60 30).toInt = 0 := by rw [(tI_uE hM_109)]; decide
      have f18 : (tY M_109 60 3 18).toInt = 0 := by rw [((cg (tY_uIE hM_109) 18).trans ((cg (tY_uIE hM_108) 18).trans ((cg (tY_uIE hM_107) 18).trans ((cg (tY_uIE hM_106) 18).trans ((cg (tY_nE hM_104 (nk (by decide))) 18).trans ((cg (tY_nE hM_103 (nk (by decide))) 18).trans ((cg (tY_nE hM_101 (nk (by decide))) 18).trans ((cg (tY_nE hM_100 (nk (by decide))) 18).trans ((cg (tY_nE hM_98 (nk (by decide))) 18).trans ((cg (tY_nE hM_97 (nk (by decide))) 18).trans (((cg (tY_uE hM_94) 18).trans (pk_un (by decide))).trans (((cg (tY_uE hM_88) 18).trans (pk_un (by decide))).trans (((cg (tY_uE hM_79) 18).trans (pk_un (by decide))).trans ((cg (tY_uE hM_70) 18).trans (upl (by decide))))))))))))))))]; decide
      have fu : um M_109 := um_0 iM_109 ((cg (tY_uIE hM_109) 3).trans ((cg (tY_uIE hM_108) 3).trans ((cg (tY_uIE hM_107) 3).trans ((cg (tY_uIE hM_106) 3).trans ((cg (tY_nE hM_104 (nk (by decide))) 3).trans (((cg (tY_uE hM_103) 3).trans (pk_un (by decide))).trans ((cg (tY_nE hM_101 (nk (by decide))) 3).trans (((cg (tY_uE hM_100) 3).trans (pk_un (by decide))).trans ((cg (tY_nE hM_98 (nk (by decide))) 3).trans ((cg (tY_uE hM_97) 3).trans (upl (by decide)))))))))))) ((cg (tY_uIE hM_109) 4).trans ((cg (tY_uIE hM_108) 4).trans ((cg (tY_uIE hM_107) 4).trans ((cg (tY_uIE hM_106) 4).trans ((cg (tY_nE hM_104 (nk (by decide))) 4).trans (((cg (tY_uE hM_103) 4).trans (pk_un (by decide))).trans ((cg (tY_nE hM_101 (nk (by decide))) 4).trans ((cg (tY_uE hM_100) 4).trans (upl (by decide)))))))))) ((cg (tY_uIE hM_109) 5).trans ((cg (tY_uIE hM_108) 5).trans ((cg (tY_uIE hM_107) 5).trans ((cg (tY_uIE hM_106) 5).trans ((cg (tY_nE hM_104 (nk (by decide))) 5).trans ((cg (tY_uE hM_103) 5).trans (upl (by decide)))))))) ((cg (tY_uIE hM_109) 3).trans ((cg (tY_uIE hM_108) 3).trans ((cg (tY_uIE hM_107) 3).trans ((cg (tY_uIE hM_106) 3).trans (((cg (tY_uE hM_104) 3).trans (pk_un (by decide))).trans ((cg (tY_nE hM_103 (nk (by decide))) 3).trans (((cg (tY_uE hM_101) 3).trans (pk_un (by decide))).trans ((cg (tY_nE hM_100 (nk (by decide))) 3).trans ((cg (tY_uE hM_98) 3).trans (upl (by decide))))))))))) ((cg (tY_uIE hM_109) 4).trans ((cg (tY_uIE hM_108) 4).trans ((cg (tY_uIE hM_107) 4).trans ((cg (tY_uIE hM_106) 4).trans (((cg (tY_uE hM_104) 4).trans (pk_un (by decide))).trans ((cg (tY_nE hM_103 (nk (by decide))) 4).trans ((cg (tY_uE hM_101) 4).trans (upl (by decide))))))))) ((cg (tY_uIE hM_109) 5).trans ((cg (tY_uIE hM_108) 5).trans ((cg (tY_uIE hM_107) 5).trans ((cg (tY_uIE hM_106) 5).trans ((cg (tY_uE hM_104) 5).trans (upl (by decide)))))))
      refine lv_aload_n hx hb dX10_text_168 rfl (lv_at hl 1 rfl) ?_
      refine ti_callVvE (ci := 10) (av := []) C hE hw (x_X10_token l D A cy hJ M_109 iM_109 ) ⟨ml_X10_214, ym_X10_token, yv_X10_token, yi_X10_token, yc_X10_token⟩ yd_X10_token ob_60 (by decide) rfl rfl hl.1 (Nat.le_of_ble_eq_true rfl) ⟨by decide, by decide⟩ ⟨Nat.zero_le _, Nat.zero_le _⟩ dX10_text_169 (fun M_111 H locs hp_111 hw => ?_)
      obtain ⟨iM_111, q_114, z_112, z_113, k2M_111, k3M_111, k4M_111⟩ := hp_111
      have hs0 := rQ_st (J := J) (fun i hi => (congrArg Int32.toInt (congrFun (show tY M_109 60 1 = tY M 60 1 from ((tY_uIE hM_109).trans ((tY_uIE hM_108).trans ((tY_uIE hM_107).trans ((tY_uIE hM_106).trans ((tY_nE hM_104 (nk (by decide))).trans ((tY_nE hM_103 (nk (by decide))).trans ((tY_nE hM_101 (nk (by decide))).trans ((tY_nE hM_100 (nk (by decide))).trans ((tY_nE hM_98 (nk (by decide))).trans ((tY_nE hM_97 (nk (by decide))).trans ((tY_nE hM_94 (nk (by decide))).trans ((tY_nE hM_88 (nk (by decide))).trans ((tY_nE hM_79 (nk (by decide))).trans ((tY_nE hM_70 (nk (by decide))).trans ((tY_nE hM_61 (nk (by decide))).trans ((tY_nE hM_52 (nk (by decide))).trans ((tY_nE hM_43 (nk (by decide))).trans ((tY_nE hM_35 (nk (by decide))).trans ((tY_nE hM_28 (nk (by decide))).trans ((tY_nE hM_23 (nk (by decide))).trans ((tY_nE hM_19 (nk (by decide))).trans ((tY_uIE hM_10).trans ((tY_uIE hM_9).trans ((tY_uIE hM_8).trans ((tY_uIE hM_7).trans ((tY_uIE hM_6).trans (tY_uIE hM_1)))))))))))))))))))))))))))) i)).trans (hB i hi)) (by rw [((tI_nE hM_109 (nk (by decide))).trans ((tI_nE hM_108 (nk (by decide))).trans ((tI_nE hM_107 (nk (by decide))).trans ((tI_nE hM_106 (nk (by decide))).trans ((tI_uYE hM_104).trans ((tI_uYE hM_103).trans ((tI_uYE hM_101).trans ((tI_uYE hM_100).trans ((tI_uYE hM_98).trans ((tI_uYE hM_97).trans ((tI_uYE hM_94).trans ((tI_uYE hM_88).trans ((tI_uYE hM_79).trans ((tI_uYE hM_70).trans ((tI_uYE hM_61).trans ((tI_uYE hM_52).trans ((tI_uYE hM_43).trans ((tI_uYE hM_35).trans ((tI_uYE hM_28).trans ((tI_uYE hM_23).trans ((tI_uYE hM_19).trans ((tI_nE hM_10 (nk (by decide))).trans ((tI_nE hM_9 (nk (by decide))).trans ((tI_nE hM_8 (nk (by decide))).trans ((tI_nE hM_7 (nk (by decide))).trans (tI_uE hM_6))))))))))))))))))))))))))]) (by rw [((tI_nE hM_109 (nk (by decide))).trans ((tI_nE hM_108 (nk (by decide))).trans ((tI_nE hM_107 (nk (by decide))).trans ((tI_nE hM_106 (nk (by decide))).trans ((tI_uYE hM_104).trans ((tI_uYE hM_103).trans ((tI_uYE hM_101).trans ((tI_uYE hM_100).trans ((tI_uYE hM_98).trans ((tI_uYE hM_97).trans ((tI_uYE hM_94).trans ((tI_uYE hM_88).trans ((tI_uYE hM_79).trans ((tI_uYE hM_70).trans ((tI_uYE hM_61).trans ((tI_uYE hM_52).trans ((tI_uYE hM_43).trans ((tI_uYE hM_35).trans ((tI_uYE hM_28).trans ((tI_uYE hM_23).trans ((tI_uYE hM_19).trans ((tI_nE hM_10 (nk (by decide))).trans ((tI_nE hM_9 (nk (by decide))).trans (tI_uE hM_8))))))))))))))))))))))))]; decide) q_114 k2M_111 k3M_111 k4M_111 (by rw [((tI_nE hM_109 (nk (by decide))).trans ((tI_nE hM_108 (nk (by decide))).trans ((tI_nE hM_107 (nk (by decide))).trans ((tI_nE hM_106 (nk (by decide))).trans ((tI_uYE hM_104).trans ((tI_uYE hM_103).trans ((tI_uYE hM_101).trans ((tI_uYE hM_100).trans ((tI_uYE hM_98).trans ((tI_uYE hM_97).trans ((tI_uYE hM_94).trans ((tI_uYE hM_88).trans ((tI_uYE hM_79).trans ((tI_uYE hM_70).trans ((tI_uYE hM_61).trans ((tI_uYE hM_52).trans ((tI_uYE hM_43).trans ((tI_uYE hM_35).trans ((tI_uYE hM_28).trans ((tI_uYE hM_23).trans ((tI_uYE hM_19).trans ((tI_nE hM_10 (nk (by decide))).trans (tI_uE hM_9)))))))))))))))))))))))]; decide) (by rw [((tI_nE hM_109 (nk (by decide))).trans ((tI_nE hM_108 (nk (by decide))).trans ((tI_nE hM_107 (nk (by decide))).trans ((tI_nE hM_106 (nk (by decide))).trans ((tI_uYE hM_104).trans ((tI_uYE hM_103).trans ((tI_uYE hM_101).trans ((tI_uYE hM_100).trans ((tI_uYE hM_98).trans ((tI_uYE hM_97).trans ((tI_uYE hM_94).trans ((tI_uYE hM_88).trans ((tI_uYE hM_79).trans ((tI_uYE hM_70).trans ((tI_uYE hM_61).trans ((tI_uYE hM_52).trans ((tI_uYE hM_43).trans ((tI_uYE hM_35).trans ((tI_uYE hM_28).trans ((tI_uYE hM_23).trans ((tI_uYE hM_19).trans (tI_uE hM_10))))))))))))))))))))))]; decide) (by rw [((tI_nE hM_109 (nk (by decide))).trans ((tI_nE hM_108 (nk (by decide))).trans (tI_uE hM_107)))]; decide) (by rw [(tI_uE hM_109)]; decide) (((tI_nE hM_109 (nk (by decide))).trans ((tI_nE hM_108 (nk (by decide))).trans ((tI_nE hM_107 (nk (by decide))).trans (tI_uE hM_106))))) (by rw [((cg (tY_uIE hM_109) 11).trans ((cg (tY_uIE hM_108) 11).trans ((cg (tY_uIE hM_107) 11).trans ((cg (tY_uIE hM_106) 11).trans ((cg (tY_nE hM_104 (nk (by decide))) 11).trans ((cg (tY_nE hM_103 (nk (by decide))) 11).trans ((cg (tY_nE hM_101 (nk (by decide))) 11).trans ((cg (tY_nE hM_100 (nk (by decide))) 11).trans ((cg (tY_nE hM_98 (nk (by decide))) 11).trans ((cg (tY_nE hM_97 (nk (by decide))) 11).trans (((cg (tY_uE hM_94) 11).trans (pk_un (by decide))).trans (((cg (tY_uE hM_88) 11).trans (pk_un (by decide))).trans (((cg (tY_uE hM_79) 11).trans (pk_un (by decide))).trans (((cg (tY_uE hM_70) 11).trans (pk_un (by decide))).trans (((cg (tY_uE hM_61) 11).trans (pk_un (by decide))).trans (((cg (tY_uE hM_52) 11).trans (pk_un (by decide))).trans (((cg (tY_uE hM_43) 11).trans (pk_un (by decide))).trans (((cg (tY_uE hM_35) 11).trans (pk_un (by decide))).trans (((cg (tY_uE hM_28) 11).trans (pk_un (by decide))).trans (((cg (tY_uE hM_23) 11).trans (pk_un (by decide))).trans ((cg (tY_uE hM_19) 11).trans (upl (by decide)))))))))))))))))))))))]; decide)
      obtain ⟨-, -, z_115, z_116, z_117, z_118, z_119, z_120⟩ := l_tk ⟨iM_111, q_114, z_112, z_113⟩
      clear z_112 z_113 k2M_111 k3M_111 k4M_111
      obtain ⟨g_121, eg_121⟩ : ∃ z : Nat → Int, z = pp_r0 B nn.toInt.toNat J := ⟨_, rfl⟩
      rw [← eg_121] at hs0
      have n0 : g_121 9 = 0 := by rw [eg_121]; exact r0_9
      have gb0 := pg_b M_111
      have gc0 := b21 iM_111
      have fb0 := ff_b M_111
      have hl_172_139 : ∀ (n_140 : Nat) (M_122 : ti_M) (g_125 : Nat → Int) (H : Heap) (locs : List Loc) (ls : Array Slot), (1401 - pg M_122 + ff M_122 : Int).toNat < n_140 → (mI Tm M_122) → (lx M_122 M) → (tI M_122 60 2 = 0) → (rQ B nn.toInt.toNat g_125 M_122) → (pp_tx B nn.toInt.toNat J = pp_rd B nn.toInt.toNat (nn.toInt.toNat + 1 - (g_125 9).toNat) g_125) → (0 ≤ g_125 9 ∧ 2 * g_125 9 ≤ pg M_122 + 2 - 2 * ff M_122) → (0 ≤ ff M_122) → (ff M_122 ≤ 1) → ((tY M_122 60 3 18).toInt ≤ (tI M_122 60 30).toInt + 64 - 64 * ff M_122) → ((tI M_122 60 29).toInt ≤ 8 - 8 * ff M_122) → (0 ≤ (tY M_122 60 3 18).toInt) → ((tY M_122 60 3 18).toInt ≤ 64) → (0 ≤ (tI M_122 60 29).toInt) → ((tI M_122 60 29).toInt ≤ 8) → (0 ≤ (tI M_122 60 30).toInt) → ((tI M_122 60 30).toInt ≤ 64) → (um M_122) → ti_H ti_LM D A cy H0 M_122 H locs → lv_has ls 3 [(2, .int 6), (0, .ref (A 60 0)), (1, .int nn)] → W p l e (ti_rm 652) s m args below meth c H locs 0 0 Q (F0 m 172 ls []) := by
        intro n_140
        induction n_140 with
        | zero => intro M_122 g_125 H locs ls hf_140; exact absurd hf_140 (Nat.not_lt_zero _)
        | succ n_140 ih_140 =>
          intro M_122 g_125 H locs ls hf_140 iM_122 f_123 f_124 hs_126 j_127 j_128 j_129 j_130 j_131 j_132 j_133 j_134 j_135 j_136 j_137 j_138 j_139 hw hl
          have gb := pg_b M_122
          have gc := b21 iM_122
          refine lv_aload_n hx hb dX10_text_172 rfl (lv_at hl 1 rfl) ?_
          refine ti_get (ci := 10) (k := 25) (N := 67) (T := TX10) C hw iw_10 rfl ob_60 (by decide) (by decide) fl_X10_208 rfl rfl dX10_text_173 ?_
          refine lv_topi (fun x_141 ex_141 => ?_)
          have u_142 : (tI M_122 60 25).toInt = x_141.toInt := by rw [ex_141]
          have ufx_141 : (tI M_122 60 25).toInt = x_141.toInt := by rw [ex_141]
          refine sb_if_ne (tgt := 194) hx hb rfl dX10_text_176 (by decide) (fun c_176_142 => ?_) (fun c_176_142 => ?_)
          · have z_144 : ff M_122 = 0 := ff_0 (fun h => c_176_142 (ufx_141.symm.trans h))
            clear c_176_142
            have h4 := rQ_g1 hs_126 (by omega)
            have E9 : pp_tx B nn.toInt.toNat J = g_125 := (j_127).trans (rd_end (Or.inr (Or.inr h4)))
            refine lv_aload_n hx hb dX10_text_194 rfl (lv_at hl 1 rfl) ?_
            refine lv_aload_n hx hb dX10_text_195 rfl (lv_at hl 1 rfl) ?_
            refine ti_get (ci := 10) (k := 25) (N := 67) (T := TX10) C hw iw_10 rfl ob_60 (by decide) (by decide) fl_X10_208 rfl rfl dX10_text_196 ?_
            refine ti_top (y := x_141) (ex_141.symm) ?_
            refine ti_putI (ci := 10) (k := 27) (N := 67) (T := TX10) C hw iw_10 tyX10 tyX10_ok nmX10 rfl ob_60 (by decide) (by decide) fl_X10_303 rfl rfl rfl rfl (fn_10 A _) fs_10_27 dX10_text_199 (fun H locs hw => ?_)
            obtain ⟨M_165, hM_165⟩ : ∃ z : ti_M, z = uI M_122 60 27 x_141 := ⟨_, rfl⟩
            have hw := hw.to hM_165.symm
            have iM_165 : mI (mG M_165) M_165 := mI_lf iM_122 hM_165 (Or.inl rfl) trivial
            have z_166 : ff M_165 = ff M_122 := ff_I hM_165 (by decide)
            have z_167 : pg M_165 = pg M_122 := pg_I hM_165 (by decide)
            refine lv_aload_n hx hb dX10_text_202 rfl (lv_at hl 1 rfl) ?_
            refine lv_aload_n hx hb dX10_text_203 rfl (lv_at hl 1 rfl) ?_
            refine ti_get (ci := 10) (k := 26) (N := 67) (T := TX10) C hw iw_10 rfl ob_60 (by decide) (by decide) fl_X10_211 rfl rfl dX10_text_204 ?_
            refine lv_topi (fun x_168 ex_168 => ?_)
            refine ti_putI (ci := 10) (k := 28) (N := 67) (T := TX10) C hw iw_10 tyX10 tyX10_ok nmX10 rfl ob_60 (by decide) (by decide) fl_X10_58 rfl rfl rfl rfl (fn_10 A _) fs_10_28 dX10_text_207 (fun H locs hw => ?_)
            obtain ⟨M_169, hM_169⟩ : ∃ z : ti_M, z = uI M_165 60 28 x_168 := ⟨_, rfl⟩
            have hw := hw.to hM_169.symm
            have iM_169 : mI (mG M_169) M_169 := mI_lf iM_165 hM_169 (Or.inr rfl) trivial
            have z_170 : ff M_169 = ff M_165 := ff_I hM_169 (by decide)
            have z_171 : pg M_169 = pg M_165 := pg_I hM_169 (by decide)
            refine lv_aload_n hx hb dX10_text_210 rfl (lv_at hl 1 rfl) ?_
            refine ti_get (ci := 10) (k := 25) (N := 67) (T := TX10) C hw iw_10 rfl ob_60 (by decide) (by decide) fl_X10_208 rfl rfl dX10_text_211 ?_
            refine ti_top (y := x_141) ((tI_nE hM_169 (nk (by decide))).trans ((tI_nE hM_165 (nk (by decide))).trans ex_141.symm)) ?_
            refine sb_if_eq (tgt := 219) hx hb rfl dX10_text_214 (by decide) (fun c_214_171 => by have z_173 : ff M_122 = 1 := ff_1 (ufx_141.trans c_214_171); omega) (fun c_214_171 => ?_)
            have z_173 : ff M_122 = 0 := ff_0 (fun h => c_214_171 (ufx_141.symm.trans h))
            clear c_214_171
            refine lv_iconst (v := (-1)) hx hb dX10_text_217 (by decide) ?_
            exact hQ _ _ _ _ _ _ hw rfl (Or.inr ⟨by omega, ((tI_nE hM_169 (nk (by decide))).trans ((tI_nE hM_165 (nk (by decide))).trans f_124)), mF_self (mF_lx hF iM_169 (lx.trans (lx_I hM_169 (by decide)) (lx.trans (lx_I hM_165 (by decide)) f_123))), (by rw [E9]; unfold pp_an; rw [if_neg h4]; decide), ((congrArg Int32.toInt ((congrArg (fun t => t.2.1) iM_169.2.2.2).trans ((tI_nE hM_169 (nk (by decide))).trans (tI_uE hM_165)))).trans ((congrArg Int32.toInt (ex_141.symm)).symm.trans (by rw [E9]; exact hs_126.2.1.symm))), ((congrArg Int32.toInt ((congrArg (fun t => t.2.2.1) iM_169.2.2.2).trans (tI_uE hM_169))).trans ((congrArg Int32.toInt ((show tI M_165 60 26 = tI M_122 60 26 from tI_nE hM_165 (nk (by decide))).symm.trans (ex_168.symm))).symm.trans (by rw [E9]; exact hs_126.2.2.1.1.symm))), (fun _ => ⟨tdR_lx htd (lx.trans (lx_I hM_169 (by decide)) (lx.trans (lx_I hM_165 (by decide)) f_123)), ((tI_nE hM_169 (nk (by decide))).trans ((tI_nE hM_165 (nk (by decide))).trans (congrArg (fun t => t.2.2.2.1) (iM_122.2.2.2.trans hI.2.2.2.symm)))), ((tI_nE hM_169 (nk (by decide))).trans ((tI_nE hM_165 (nk (by decide))).trans (congrArg (fun t => t.2.2.2.2.1) (iM_122.2.2.2.trans hI.2.2.2.symm))))⟩), (fun q => absurd ((congrFun E9 4).symm.trans q) h4)⟩) dX10_text_218
          · have z_144 : ff M_122 = 1 := ff_1 (ufx_141.trans c_176_142)
            clear c_176_142
            refine lv_aload_n hx hb dX10_text_179 rfl (lv_at hl 1 rfl) ?_
            refine ti_get (ci := 10) (k := 23) (N := 67) (T := TX10) C hw iw_10 rfl ob_60 (by decide) (by decide) fl_X10_173 rfl rfl dX10_text_180 ?_
            refine lv_topi (fun x_145 ex_145 => ?_)
            refine lv_iconst (v := 4) hx hb dX10_text_183 (by decide) ?_
            refine sb_icmp_eq (tgt := 194) hx hb rfl (by decide : (4 : Int32).toInt = 4) dX10_text_184 (by decide) (fun c_184_145 => ?_) (fun c_184_145 => ?_)
            · have h4 := rQ_g0 hs_126 (show ff M_122 = 1 by omega)
              have h27 : g_125 0 = 27 := (pt_Tnm (rQ_T hs_126 (by omega))).2.2.2.2.1 (by rw [(ex_145.symm)]; exact c_184_145)
              have E9 : pp_tx B nn.toInt.toNat J = g_125 := (j_127).trans (rd_end (Or.inr (Or.inl h27)))
              refine lv_aload_n hx hb dX10_text_194 rfl (lv_at hl 1 rfl) ?_
              refine lv_aload_n hx hb dX10_text_195 rfl (lv_at hl 1 rfl) ?_
              refine ti_get (ci := 10) (k := 25) (N := 67) (T := TX10) C hw iw_10 rfl ob_60 (by decide) (by decide) fl_X10_208 rfl rfl dX10_text_196 ?_
              refine ti_top (y := x_141) (ex_141.symm) ?_
              refine ti_putI (ci := 10) (k := 27) (N := 67) (T := TX10) C hw iw_10 tyX10 tyX10_ok nmX10 rfl ob_60 (by decide) (by decide) fl_X10_303 rfl rfl rfl rfl (fn_10 A _) fs_10_27 dX10_text_199 (fun H locs hw => ?_)
              obtain ⟨M_174, hM_174⟩ : ∃ z : ti_M, z = uI M_122 60 27 x_141 := ⟨_, rfl⟩
              have hw := hw.to hM_174.symm
              have iM_174 : mI (mG M_174) M_174 := mI_lf iM_122 hM_174 (Or.inl rfl) trivial
              have z_175 : ff M_174 = ff M_122 := ff_I hM_174 (by decide)
              have z_176 : pg M_174 = pg M_122 := pg_I hM_174 (by decide)
              refine lv_aload_n hx hb dX10_text_202 rfl (lv_at hl 1 rfl) ?_
              refine lv_aload_n hx hb dX10_text_203 rfl (lv_at hl 1 rfl) ?_
              refine ti_get (ci := 10) (k := 26) (N := 67) (T := TX10) C hw iw_10 rfl ob_60 (by decide) (by decide) fl_X10_211 rfl rfl dX10_text_204 ?_
              refine lv_topi (fun x_177 ex_177 => ?_)
              refine ti_putI (ci := 10) (k := 28) (N := 67) (T := TX10) C hw iw_10 tyX10 tyX10_ok nmX10 rfl ob_60 (by decide) (by decide) fl_X10_58 rfl rfl rfl rfl (fn_10 A _) fs_10_28 dX10_text_207 (fun H locs hw => ?_)
              obtain ⟨M_178, hM_178⟩ : ∃ z : ti_M, z = uI M_174 60 28 x_177 := ⟨_, rfl⟩
              have hw := hw.to hM_178.symm
              have iM_178 : mI (mG M_178) M_178 := mI_lf iM_174 hM_178 (Or.inr rfl) trivial
              have z_179 : ff M_178 = ff M_174 := ff_I hM_178 (by decide)
              have z_180 : pg M_178 = pg M_174 := pg_I hM_178 (by decide)
              refine lv_aload_n hx hb dX10_text_210 rfl (lv_at hl 1 rfl) ?_
              refine ti_get (ci := 10) (k := 25) (N := 67) (T := TX10) C hw iw_10 rfl ob_60 (by decide) (by decide) fl_X10_208 rfl rfl dX10_text_211 ?_
              refine ti_top (y := x_141) ((tI_nE hM_178 (nk (by decide))).trans ((tI_nE hM_174 (nk (by decide))).trans ex_141.symm)) ?_
              refine sb_if_eq (tgt := 219) hx hb rfl dX10_text_214 (by decide) (fun c_214_180 => ?_) (fun c_214_180 => by have z_182 : ff M_122 = 0 := ff_0 (fun h => c_214_180 (ufx_141.symm.trans h)); omega)
              have z_182 : ff M_122 = 1 := ff_1 (ufx_141.trans c_214_180)
              clear c_214_180
              refine lv_aload_n hx hb dX10_text_219 rfl (lv_at hl 1 rfl) ?_
              refine ti_get (ci := 10) (k := 3) (N := 67) (T := TX10) (v := .ref (A 60 4)) C hw iw_10 rfl ob_60 (by decide) (by decide) fl_X10_13 rfl rfl dX10_text_220 ?_
              refine ti_callSv (av := [.ref (A 60 4)]) C hw (s_X10_half_3 l D A cy hJ M_178 iM_178 ) ⟨ml_X10_306, ys_X10_half, yi_X10_half, yc_X10_half⟩ yd_X10_half rfl hl.1 (Nat.le_of_ble_eq_true rfl) ⟨by decide, by decide⟩ ⟨Nat.zero_le _, Nat.zero_le _⟩ dX10_text_223 (fun M_184 H locs hp_184 hw => ?_)
              obtain ⟨iM_184, q_185⟩ := hp_184
              refine lv_aload_n hx hb dX10_text_226 rfl (lv_at hl 1 rfl) ?_
              refine ti_get (ci := 10) (k := 4) (N := 67) (T := TX10) (v := .ref (A 60 5)) C hw iw_10 rfl ob_60 (by decide) (by decide) fl_X10_16 rfl rfl dX10_text_227 ?_
              refine ti_callSv (av := [.ref (A 60 5)]) C hw (s_X10_half_4 l D A cy hJ M_184 iM_184 ) ⟨ml_X10_306, ys_X10_half, yi_X10_half, yc_X10_half⟩ yd_X10_half rfl hl.1 (Nat.le_of_ble_eq_true rfl) ⟨by decide, by decide⟩ ⟨Nat.zero_le _, Nat.zero_le _⟩ dX10_text_230 (fun M_187 H locs hp_187 hw => ?_)
              obtain ⟨iM_187, q_188⟩ := hp_187
              refine lv_aload_n hx hb dX10_text_233 rfl (lv_at hl 1 rfl) ?_
              refine ti_get (ci := 10) (k := 5) (N := 67) (T := TX10) (v := .ref (A 60 6)) C hw iw_10 rfl ob_60 (by decide) (by decide) fl_X10_19 rfl rfl dX10_text_234 ?_
              refine ti_callSv (av := [.ref (A 60 6)]) C hw (s_X10_half_5 l D A cy hJ M_187 iM_187 ) ⟨ml_X10_306, ys_X10_half, yi_X10_half, yc_X10_half⟩ yd_X10_half rfl hl.1 (Nat.le_of_ble_eq_true rfl) ⟨by decide, by decide⟩ ⟨Nat.zero_le _, Nat.zero_le _⟩ dX10_text_237 (fun M_190 H locs hp_190 hw => ?_)
              obtain ⟨iM_190, q_191⟩ := hp_190
              refine lv_aload_n hx hb dX10_text_240 rfl (lv_at hl 1 rfl) ?_
              refine ti_get (ci := 10) (k := 6) (N := 67) (T := TX10) (v := .ref (A 60 7)) C hw iw_10 rfl ob_60 (by decide) (by decide) fl_X10_22 rfl rfl dX10_text_241 ?_
              refine ti_callSv (av := [.ref (A 60 7)]) C hw (s_X10_half_6 l D A cy hJ M_190 iM_190 ) ⟨ml_X10_306, ys_X10_half, yi_X10_half, yc_X10_half⟩ yd_X10_half rfl hl.1 (Nat.le_of_ble_eq_true rfl) ⟨by decide, by decide⟩ ⟨Nat.zero_le _, Nat.zero_le _⟩ dX10_text_244 (fun M_193 H locs hp_193 hw => ?_)
              obtain ⟨iM_193, q_194⟩ := hp_193
              refine lv_aload_n hx hb dX10_text_247 rfl (lv_at hl 1 rfl) ?_
              refine ti_get (ci := 10) (k := 7) (N := 67) (T := TX10) (v := .ref (A 60 8)) C hw iw_10 rfl ob_60 (by decide) (by decide) fl_X10_25 rfl rfl dX10_text_248 ?_
              refine ti_callSv (av := [.ref (A 60 8)]) C hw (s_X10_half_7 l D A cy hJ M_193 iM_193 ) ⟨ml_X10_306, ys_X10_half, yi_X10_half, yc_X10_half⟩ yd_X10_half rfl hl.1 (Nat.le_of_ble_eq_true rfl) ⟨by decide, by decide⟩ ⟨Nat.zero_le _, Nat.zero_le _⟩ dX10_text_251 (fun M_196 H locs hp_196 hw => ?_)
              obtain ⟨iM_196, q_197⟩ := hp_196
              refine lv_aload_n hx hb dX10_text_254 rfl (lv_at hl 1 rfl) ?_
              refine ti_get (ci := 10) (k := 8) (N := 67) (T := TX10) (v := .ref (A 60 9)) C hw iw_10 rfl ob_60 (by decide) (by decide) fl_X10_28 rfl rfl dX10_text_255 ?_
              refine ti_callSv (av := [.ref (A 60 9)]) C hw (s_X10_half_8 l D A cy hJ M_196 iM_196 ) ⟨ml_X10_306, ys_X10_half, yi_X10_half, yc_X10_half⟩ yd_X10_half rfl hl.1 (Nat.le_of_ble_eq_true rfl) ⟨by decide, by decide⟩ ⟨Nat.zero_le _, Nat.zero_le _⟩ dX10_text_258 (fun M_199 H locs hp_199 hw => ?_)
              obtain ⟨iM_199, q_200⟩ := hp_199
              refine lv_aload_n hx hb dX10_text_261 rfl (lv_at hl 1 rfl) ?_
              refine ti_get (ci := 10) (k := 9) (N := 67) (T := TX10) (v := .ref (A 60 10)) C hw iw_10 rfl ob_60 (by decide) (by decide) fl_X10_31 rfl rfl dX10_text_262 ?_
              refine ti_callSv (av := [.ref (A 60 10)]) C hw (s_X10_half_9 l D A cy hJ M_199 iM_199 ) ⟨ml_X10_306, ys_X10_half, yi_X10_half, yc_X10_half⟩ yd_X10_half rfl hl.1 (Nat.le_of_ble_eq_true rfl) ⟨by decide, by decide⟩ ⟨Nat.zero_le _, Nat.zero_le _⟩ dX10_text_265 (fun M_202 H locs hp_202 hw => ?_)
              obtain ⟨iM_202, q_203⟩ := hp_202
              refine lv_aload_n hx hb dX10_text_268 rfl (lv_at hl 1 rfl) ?_
              refine ti_get (ci := 10) (k := 10) (N := 67) (T := TX10) (v := .ref (A 60 11)) C hw iw_10 rfl ob_60 (by decide) (by decide) fl_X10_34 rfl rfl dX10_text_269 ?_
              refine ti_callSv (av := [.ref (A 60 11)]) C hw (s_X10_half_10 l D A cy hJ M_202 iM_202 ) ⟨ml_X10_306, ys_X10_half, yi_X10_half, yc_X10_half⟩ yd_X10_half rfl hl.1 (Nat.le_of_ble_eq_true rfl) ⟨by decide, by decide⟩ ⟨Nat.zero_le _, Nat.zero_le _⟩ dX10_text_272 (fun M_205 H locs hp_205 hw => ?_)
              obtain ⟨iM_205, q_206⟩ := hp_205
              refine lv_aload_n hx hb dX10_text_275 rfl (lv_at hl 1 rfl) ?_
              refine ti_get (ci := 10) (k := 11) (N := 67) (T := TX10) (v := .ref (A 60 12)) C hw iw_10 rfl ob_60 (by decide) (by decide) fl_X10_37 rfl rfl dX10_text_276 ?_
              refine ti_callSv (av := [.ref (A 60 12)]) C hw (s_X10_half_11 l D A cy hJ M_205 iM_205 ) ⟨ml_X10_306, ys_X10_half, yi_X10_half, yc_X10_half⟩ yd_X10_half rfl hl.1 (Nat.le_of_ble_eq_true rfl) ⟨by decide, by decide⟩ ⟨Nat.zero_le _, Nat.zero_le _⟩ dX10_text_279 (fun M_208 H locs hp_208 hw => ?_)
              obtain ⟨iM_208, q_209⟩ := hp_208
              refine lv_aload_n hx hb dX10_text_282 rfl (lv_at hl 1 rfl) ?_
              refine ti_get (ci := 10) (k := 12) (N := 67) (T := TX10) (v := .ref (A 60 13)) C hw iw_10 rfl ob_60 (by decide) (by decide) fl_X10_40 rfl rfl dX10_text_283 ?_
              refine ti_callSv (av := [.ref (A 60 13)]) C hw (s_X10_half_12 l D A cy hJ M_208 iM_208 ) ⟨ml_X10_306, ys_X10_half, yi_X10_half, yc_X10_half⟩ yd_X10_half rfl hl.1 (Nat.le_of_ble_eq_true rfl) ⟨by decide, by decide⟩ ⟨Nat.zero_le _, Nat.zero_le _⟩ dX10_text_286 (fun M_211 H locs hp_211 hw => ?_)
              obtain ⟨iM_211, q_212⟩ := hp_211
              refine lv_aload_n hx hb dX10_text_289 rfl (lv_at hl 1 rfl) ?_
              refine ti_get (ci := 10) (k := 13) (N := 67) (T := TX10) (v := .ref (A 60 14)) C hw iw_10 rfl ob_60 (by decide) (by decide) fl_X10_43 rfl rfl dX10_text_290 ?_
              refine ti_callSv (av := [.ref (A 60 14)]) C hw (s_X10_half_13 l D A cy hJ M_211 iM_211 ) ⟨ml_X10_306, ys_X10_half, yi_X10_half, yc_X10_half⟩ yd_X10_half rfl hl.1 (Nat.le_of_ble_eq_true rfl) ⟨by decide, by decide⟩ ⟨Nat.zero_le _, Nat.zero_le _⟩ dX10_text_293 (fun M_214 H locs hp_214 hw => ?_)
              obtain ⟨iM_214, q_215⟩ := hp_214
              refine lv_aload_n hx hb dX10_text_296 rfl (lv_at hl 1 rfl) ?_
              refine ti_get (ci := 10) (k := 14) (N := 67) (T := TX10) (v := .ref (A 60 15)) C hw iw_10 rfl ob_60 (by decide) (by decide) fl_X10_46 rfl rfl dX10_text_297 ?_
              refine ti_callSv (av := [.ref (A 60 15)]) C hw (s_X10_half_14 l D A cy hJ M_214 iM_214 ) ⟨ml_X10_306, ys_X10_half, yi_X10_half, yc_X10_half⟩ yd_X10_half rfl hl.1 (Nat.le_of_ble_eq_true rfl) ⟨by decide, by decide⟩ ⟨Nat.zero_le _, Nat.zero_le _⟩ dX10_text_300 (fun M_217 H locs hp_217 hw => ?_)
              obtain ⟨iM_217, q_218⟩ := hp_217
              refine lv_aload_n hx hb dX10_text_303 rfl (lv_at hl 1 rfl) ?_
              refine ti_get (ci := 10) (k := 15) (N := 67) (T := TX10) (v := .ref (A 60 16)) C hw iw_10 rfl ob_60 (by decide) (by decide) fl_X10_49 rfl rfl dX10_text_304 ?_
              refine ti_callSv (av := [.ref (A 60 16)]) C hw (s_X10_half_15 l D A cy hJ M_217 iM_217 ) ⟨ml_X10_306, ys_X10_half, yi_X10_half, yc_X10_half⟩ yd_X10_half rfl hl.1 (Nat.le_of_ble_eq_true rfl) ⟨by decide, by decide⟩ ⟨Nat.zero_le _, Nat.zero_le _⟩ dX10_text_307 (fun M_220 H locs hp_220 hw => ?_)
              obtain ⟨iM_220, q_221⟩ := hp_220
              refine lv_aload_n hx hb dX10_text_310 rfl (lv_at hl 1 rfl) ?_
              refine ti_get (ci := 10) (k := 16) (N := 67) (T := TX10) (v := .ref (A 60 17)) C hw iw_10 rfl ob_60 (by decide) (by decide) fl_X10_52 rfl rfl dX10_text_311 ?_
              refine ti_callSv (av := [.ref (A 60 17)]) C hw (s_X10_half_16 l D A cy hJ M_220 iM_220 ) ⟨ml_X10_306, ys_X10_half, yi_X10_half, yc_X10_half⟩ yd_X10_half rfl hl.1 (Nat.le_of_ble_eq_true rfl) ⟨by decide, by decide⟩ ⟨Nat.zero_le _, Nat.zero_le _⟩ dX10_text_314 (fun M_223 H locs hp_223 hw => ?_)
              obtain ⟨iM_223, q_224⟩ := hp_223
              refine lv_aload_n hx hb dX10_text_317 rfl (lv_at hl 1 rfl) ?_
              refine ti_get (ci := 10) (k := 17) (N := 67) (T := TX10) (v := .ref (A 60 18)) C hw iw_10 rfl ob_60 (by decide) (by decide) fl_X10_55 rfl rfl dX10_text_318 ?_
              refine ti_callSv (av := [.ref (A 60 18)]) C hw (s_X10_half_17 l D A cy hJ M_223 iM_223 ) ⟨ml_X10_306, ys_X10_half, yi_X10_half, yc_X10_half⟩ yd_X10_half rfl hl.1 (Nat.le_of_ble_eq_true rfl) ⟨by decide, by decide⟩ ⟨Nat.zero_le _, Nat.zero_le _⟩ dX10_text_321 (fun M_226 H locs hp_226 hw => ?_)
              obtain ⟨iM_226, q_227⟩ := hp_226
              refine lv_aload_n hx hb dX10_text_324 rfl (lv_at hl 1 rfl) ?_
              refine lv_iconst (v := 0) hx hb dX10_text_325 (by decide) ?_
              refine ti_putI (ci := 10) (k := 58) (N := 67) (T := TX10) C hw iw_10 tyX10 tyX10_ok nmX10 rfl ob_60 (by decide) (by decide) fl_X10_310 rfl rfl rfl rfl (fn_10 A _) fs_10_58 dX10_text_326 (fun H locs hw => ?_)
              obtain ⟨M_228, hM_228⟩ : ∃ z : ti_M, z = uI M_226 60 58 0 := ⟨_, rfl⟩
              have hw := hw.to hM_228.symm
              have iM_228 : mI (mG M_228) M_228 := mI_ls iM_226 hM_228 (Or.inl rfl) (ib_mk (lo := 0) (hi := 24) (by decide) (by decide))
              have vM_228 : (tI M_228 60 58).toInt = 0 := by rw [tI_uE hM_228]; decide
              refine lv_aload_n hx hb dX10_text_329 rfl (lv_at hl 1 rfl) ?_
              refine lv_iconst (v := (-1)) hx hb dX10_text_330 (by decide) ?_
              refine ti_putI (ci := 10) (k := 59) (N := 67) (T := TX10) C hw iw_10 tyX10 tyX10_ok nmX10 rfl ob_60 (by decide) (by decide) fl_X10_132 rfl rfl rfl rfl (fn_10 A _) fs_10_59 dX10_text_331 (fun H locs hw => ?_)
              obtain ⟨M_229, hM_229⟩ : ∃ z : ti_M, z = uI M_228 60 59 (-1) := ⟨_, rfl⟩
              have hw := hw.to hM_229.symm
              have iM_229 : mI (mG M_229) M_229 := mI_ls iM_228 hM_229 (Or.inr rfl) (ib_mk (lo := (-1)) (hi := 24) (by decide) (by decide))
              have vM_229 : (tI M_229 60 59).toInt = (-1) := by rw [tI_uE hM_229]; decide
              refine lv_aload_n hx hb dX10_text_334 rfl (lv_at hl 1 rfl) ?_
              refine lv_iconst (v := 0) hx hb dX10_text_335 (by decide) ?_
              refine ti_putI (ci := 10) (k := 51) (N := 67) (T := TX10) C hw iw_10 tyX10 tyX10_ok nmX10 rfl ob_60 (by decide) (by decide) fl_X10_313 rfl rfl rfl rfl (fn_10 A _) fs_10_51 dX10_text_336 (fun H locs hw => ?_)
              obtain ⟨M_230, hM_230⟩ : ∃ z : ti_M, z = uI M_229 60 51 0 := ⟨_, rfl⟩
              have hw := hw.to hM_230.symm
              have iM_230 : mI (mG M_229) M_230 := mI_uI iM_229 hM_230 (by decide) (by decide) trivial
              refine lv_aload_n hx hb dX10_text_339 rfl (lv_at hl 1 rfl) ?_
              refine lv_iconst (v := 0) hx hb dX10_text_340 (by decide) ?_
              refine ti_putI (ci := 10) (k := 52) (N := 67) (T := TX10) C hw iw_10 tyX10 tyX10_ok nmX10 rfl ob_60 (by decide) (by decide) fl_X10_317 rfl rfl rfl rfl (fn_10 A _) fs_10_52 dX10_text_341 (fun H locs hw => ?_)
              obtain ⟨M_231, hM_231⟩ : ∃ z : ti_M, z = uI M_230 60 52 0 := ⟨_, rfl⟩
              have hw := hw.to hM_231.symm
              have iM_231 : mI (mG M_229) M_231 := mI_uI iM_230 hM_231 (by decide) (by decide) (ib_mk (lo := 0) (hi := 20) (by decide) (by decide))
              have vM_231 : (tI M_231 60 52).toInt = 0 := by rw [tI_uE hM_231]; decide
              refine lv_aload_n hx hb dX10_text_344 rfl (lv_at hl 1 rfl) ?_
              refine ti_callVv (ci := 10) (av := []) C hw (x_X10_begins l D A cy hJ M_231 iM_231 ) ⟨ml_X10_151, ym_X10_begins, yv_X10_begins, yi_X10_begins, yc_X10_begins⟩ yd_X10_begins ob_60 (by decide) rfl rfl hl.1 (Nat.le_of_ble_eq_true rfl) ⟨by decide, by decide⟩ ⟨Nat.zero_le _, Nat.zero_le _⟩ dX10_text_345 (fun M_233 H locs hp_233 hw => ?_)
              obtain ⟨iM_233, q_234, q_235, q_236, q_237⟩ := hp_233
              have y19 : tI M_233 60 19 = tI M_122 60 19 := ((q_237).trans ((tI_nE hM_231 (nk (by decide))).trans ((tI_nE hM_230 (nk (by decide))).trans ((tI_nE hM_229 (nk (by decide))).trans ((tI_nE hM_228 (nk (by decide))).trans ((q_227.2.2 19).trans ((q_224.2.2 19).trans ((q_221.2.2 19).trans ((q_218.2.2 19).trans ((q_215.2.2 19).trans ((q_212.2.2 19).trans ((q_209.2.2 19).trans ((q_206.2.2 19).trans ((q_203.2.2 19).trans ((q_200.2.2 19).trans ((q_197.2.2 19).trans ((q_194.2.2 19).trans ((q_191.2.2 19).trans ((q_188.2.2 19).trans ((q_185.2.2 19).trans ((tI_nE hM_178 (nk (by decide))).trans (tI_nE hM_174 (nk (by decide))))))))))))))))))))))))
              refine lv_aload_n hx hb dX10_text_348 rfl (lv_at hl 1 rfl) ?_
              refine ti_get (ci := 10) (k := 19) (N := 67) (T := TX10) C hw iw_10 rfl ob_60 (by decide) (by decide) fl_X10_254 rfl rfl dX10_text_349 ?_
              refine lv_topi (fun x_238 ex_238 => ?_)
              have um9 : mU M_178 := ((um_l0 j_139 (l0.trans (l0_I hM_178 (by decide)) (l0_I hM_174 (by decide))) (by omega))).resolve_left (by omega)
              have mL9 : mL M_231 := mL_hv iM_178 um9 (fun i hi => ((cg (tY_uIE hM_231) i).trans ((cg (tY_uIE hM_230) i).trans ((cg (tY_uIE hM_229) i).trans ((cg (tY_uIE hM_228) i).trans ((cg (q_227.1 14 (by decide)) i).trans ((cg (q_224.1 14 (by decide)) i).trans ((cg (q_221.1 14 (by decide)) i).trans ((q_218.2.1 i hi).trans ((cg (q_215.1 14 (by decide)) _).trans ((cg (q_212.1 14 (by decide)) _).trans ((cg (q_209.1 14 (by decide)) _).trans ((cg (q_206.1 14 (by decide)) _).trans ((cg (q_203.1 14 (by decide)) _).trans ((cg (q_200.1 14 (by decide)) _).trans ((cg (q_197.1 14 (by decide)) _).trans ((cg (q_194.1 14 (by decide)) _).trans ((cg (q_191.1 14 (by decide)) _).trans ((cg (q_188.1 14 (by decide)) _).trans (cg (q_185.1 14 (by decide)) _)))))))))))))))))))) (fun i hi => ((cg (tY_uIE hM_231) i).trans ((cg (tY_uIE hM_230) i).trans ((cg (tY_uIE hM_229) i).trans ((cg (tY_uIE hM_228) i).trans ((cg (q_227.1 15 (by decide)) i).trans ((cg (q_224.1 15 (by decide)) i).trans ((q_221.2.1 i hi).trans ((cg (q_218.1 15 (by decide)) _).trans ((cg (q_215.1 15 (by decide)) _).trans ((cg (q_212.1 15 (by decide)) _).trans ((cg (q_209.1 15 (by decide)) _).trans ((cg (q_206.1 15 (by decide)) _).trans ((cg (q_203.1 15 (by decide)) _).trans ((cg (q_200.1 15 (by decide)) _).trans ((cg (q_197.1 15 (by decide)) _).trans ((cg (q_194.1 15 (by decide)) _).trans ((cg (q_191.1 15 (by decide)) _).trans ((cg (q_188.1 15 (by decide)) _).trans (cg (q_185.1 15 (by decide)) _)))))))))))))))))))) (fun i hi => ((cg (tY_uIE hM_231) i).trans ((cg (tY_uIE hM_230) i).trans ((cg (tY_uIE hM_229) i).trans ((cg (tY_uIE hM_228) i).trans ((cg (q_227.1 16 (by decide)) i).trans ((q_224.2.1 i hi).trans ((cg (q_221.1 16 (by decide)) _).trans ((cg (q_218.1 16 (by decide)) _).trans ((cg (q_215.1 16 (by decide)) _).trans ((cg (q_212.1 16 (by decide)) _).trans ((cg (q_209.1 16 (by decide)) _).trans ((cg (q_206.1 16 (by decide)) _).trans ((cg (q_203.1 16 (by decide)) _).trans ((cg (q_200.1 16 (by decide)) _).trans ((cg (q_197.1 16 (by decide)) _).trans ((cg (q_194.1 16 (by decide)) _).trans ((cg (q_191.1 16 (by decide)) _).trans ((cg (q_188.1 16 (by decide)) _).trans (cg (q_185.1 16 (by decide)) _)))))))))))))))))))) (fun i hi => ((cg (tY_uIE hM_231) i).trans ((cg (tY_uIE hM_230) i).trans ((cg (tY_uIE hM_229) i).trans ((cg (tY_uIE hM_228) i).trans ((q_227.2.1 i hi).trans ((cg (q_224.1 17 (by decide)) _).trans ((cg (q_221.1 17 (by decide)) _).trans ((cg (q_218.1 17 (by decide)) _).trans ((cg (q_215.1 17 (by decide)) _).trans ((cg (q_212.1 17 (by decide)) _).trans ((cg (q_209.1 17 (by decide)) _).trans ((cg (q_206.1 17 (by decide)) _).trans ((cg (q_203.1 17 (by decide)) _).trans ((cg (q_200.1 17 (by decide)) _).trans ((cg (q_197.1 17 (by decide)) _).trans ((cg (q_194.1 17 (by decide)) _).trans ((cg (q_191.1 17 (by decide)) _).trans ((cg (q_188.1 17 (by decide)) _).trans (cg (q_185.1 17 (by decide)) _))))))))))))))))))))
              exact hQ _ _ _ _ _ _ hw rfl (Or.inr ⟨by omega, ((q_234.2.1.1).trans ((tI_nE hM_231 (nk (by decide))).trans ((tI_nE hM_230 (nk (by decide))).trans ((tI_nE hM_229 (nk (by decide))).trans ((tI_nE hM_228 (nk (by decide))).trans ((q_227.2.2 2).trans ((q_224.2.2 2).trans ((q_221.2.2 2).trans ((q_218.2.2 2).trans ((q_215.2.2 2).trans ((q_212.2.2 2).trans ((q_209.2.2 2).trans ((q_206.2.2 2).trans ((q_203.2.2 2).trans ((q_200.2.2 2).trans ((q_197.2.2 2).trans ((q_194.2.2 2).trans ((q_191.2.2 2).trans ((q_188.2.2 2).trans ((q_185.2.2 2).trans ((tI_nE hM_178 (nk (by decide))).trans ((tI_nE hM_174 (nk (by decide))).trans f_124)))))))))))))))))))))), mF_self (mF_st iM_233 mL9 q_234 q_235 q_236 ((tI_nE hM_231 (nk (by decide))).trans (tI_uE hM_230)) (tI_uE hM_231)), (by rw [E9]; unfold pp_an; rw [if_pos h4]; exact (congrArg Int32.toInt (ex_238.symm)).symm.trans ((congrArg Int32.toInt y19).trans ((hs_126.2.2.2 h4).2.2.1.2.2).symm)), ((congrArg Int32.toInt ((congrArg (fun t => t.2.1) iM_233.2.2.2).trans (((tI_nE hM_229 (nk (by decide))).trans ((tI_nE hM_228 (nk (by decide))).trans (congrArg (fun t => t.2.1) iM_226.2.2.2))).trans ((tI_nE hM_178 (nk (by decide))).trans (tI_uE hM_174))))).trans ((congrArg Int32.toInt (ex_141.symm)).symm.trans (by rw [E9]; exact hs_126.2.1.symm))), ((congrArg Int32.toInt ((congrArg (fun t => t.2.2.1) iM_233.2.2.2).trans (((tI_nE hM_229 (nk (by decide))).trans ((tI_nE hM_228 (nk (by decide))).trans (congrArg (fun t => t.2.2.1) iM_226.2.2.2))).trans (tI_uE hM_178)))).trans ((congrArg Int32.toInt ((show tI M_174 60 26 = tI M_122 60 26 from tI_nE hM_174 (nk (by decide))).symm.trans (ex_177.symm))).symm.trans (by rw [E9]; exact hs_126.2.2.1.1.symm))), (fun q => absurd ((congrFun E9 4).trans h4) q), (fun _ => ⟨by rw [E9]; exact ⟨(hs_126.2.2.2 h4).2.2.1.1.trans (congrArg Int32.toInt ((cg (q_234.1 3 (by decide) (by decide)) 0).trans ((cg (tY_uIE hM_231) 0).trans ((cg (tY_uIE hM_230) 0).trans ((cg (tY_uIE hM_229) 0).trans ((cg (tY_uIE hM_228) 0).trans ((cg (q_227.1 3 (by decide)) 0).trans ((cg (q_224.1 3 (by decide)) 0).trans ((cg (q_221.1 3 (by decide)) 0).trans ((cg (q_218.1 3 (by decide)) 0).trans ((cg (q_215.1 3 (by decide)) 0).trans ((cg (q_212.1 3 (by decide)) 0).trans ((cg (q_209.1 3 (by decide)) 0).trans ((cg (q_206.1 3 (by decide)) 0).trans ((cg (q_203.1 3 (by decide)) 0).trans ((cg (q_200.1 3 (by decide)) 0).trans ((cg (q_197.1 3 (by decide)) 0).trans ((cg (q_194.1 3 (by decide)) 0).trans ((cg (q_191.1 3 (by decide)) 0).trans ((cg (q_188.1 3 (by decide)) 0).trans ((q_185.2.1 0 (by decide)).trans ((cg (tY_uIE hM_178) _).trans (cg (tY_uIE hM_174) _))))))))))))))))))))))).symm, fun i hi hl => ((hs_126.2.2.2 h4).2.2.2.1 i hi hl).1.trans (congrArg Int32.toInt ((cg (q_234.1 4 (by decide) (by decide)) i).trans ((cg (tY_uIE hM_231) i).trans ((cg (tY_uIE hM_230) i).trans ((cg (tY_uIE hM_229) i).trans ((cg (tY_uIE hM_228) i).trans ((cg (q_227.1 4 (by decide)) i).trans ((cg (q_224.1 4 (by decide)) i).trans ((cg (q_221.1 4 (by decide)) i).trans ((cg (q_218.1 4 (by decide)) i).trans ((cg (q_215.1 4 (by decide)) i).trans ((cg (q_212.1 4 (by decide)) i).trans ((cg (q_209.1 4 (by decide)) i).trans ((cg (q_206.1 4 (by decide)) i).trans ((cg (q_203.1 4 (by decide)) i).trans ((cg (q_200.1 4 (by decide)) i).trans ((cg (q_197.1 4 (by decide)) i).trans ((cg (q_194.1 4 (by decide)) i).trans ((cg (q_191.1 4 (by decide)) i).trans ((q_188.2.1 i hi).trans ((cg (q_185.1 4 (by decide)) _).trans ((cg (tY_uIE hM_178) _).trans (cg (tY_uIE hM_174) _))))))))))))))))))))))).symm⟩, (congrArg (fun t => t.2.2.2.1) iM_233.2.2.2).trans ((tI_nE hM_229 (nk (by decide))).trans (tI_uE hM_228)), (congrArg (fun t => t.2.2.2.2.1) iM_233.2.2.2).trans (tI_uE hM_229)⟩)⟩) dX10_text_352
            · have hs : pg M_122 = 2 * (tI M_122 60 21).toInt := pg_3 (by rw [(ex_145.symm)]; exact c_184_145)
              have rr0 := rQ_g0 hs_126 (show ff M_122 = 1 by omega)
              have n27 : g_125 0 ≠ 27 := fun q => by have e := (pt_Tnm (rQ_T hs_126 (by omega))).2.2.2.2.2 q; rw [(ex_145.symm)] at e; exact c_184_145 e
              have a3 := (hs_126.2.2.2 rr0).2.1
              refine lv_aload_n hx hb dX10_text_187 rfl (lv_at hl 1 rfl) ?_
              refine ti_callVvE (ci := 10) (av := []) C hE hw (x_X10_line l D A cy hJ M_122 iM_122 (by omega) j_139 (by omega) (by omega) hs B nn.toInt.toNat g_125 hs_126 (by omega)) ⟨ml_X10_300, ym_X10_line, yv_X10_line, yi_X10_line, yc_X10_line⟩ yd_X10_line ob_60 (by decide) rfl rfl hl.1 (Nat.le_of_ble_eq_true rfl) ⟨by decide, by decide⟩ ⟨Nat.zero_le _, Nat.zero_le _⟩ dX10_text_188 (fun M_148 H locs hp_148 hw => ?_)
              obtain ⟨hs_149, hp_150⟩ := hp_148
              obtain ⟨iM_148, q_151, z_152, z_153, z_154, z_155, z_156, z_157, z_158, z_159, z_160, z_161, z_162, u_163⟩ := hp_150
              obtain ⟨g_164, eg_164⟩ : ∃ z : Nat → Int, z = pp_ln B nn.toInt.toNat g_125 := ⟨_, rfl⟩
              rw [← eg_164] at hs_149
              have n9 : g_164 9 = g_125 9 + 1 := by rw [eg_164]; exact ln_9
              refine lv_goto (tgt := 172) hx hb dX10_text_191 (by decide) ?_
              exact ih_140 M_148 g_164 _ _ _ (by omega) iM_148 (lx.trans (lx_ln q_151) f_123) ((q_151.2.2.2.2 2 (by decide)).trans f_124) hs_149 (j_127.trans (rd_step ⟨n27, rr0⟩ eg_164 (by omega))) (by first | omega | decide) (by first | omega | decide) (by first | omega | decide) (by first | omega | decide) (by first | omega | decide) (by first | omega | decide) (by first | omega | decide) (by first | omega | decide) (by first | omega | decide) (by first | omega | decide) (by first | omega | decide) u_163 hw (lv_sub hl [0, 1, 2] rfl)
      exact hl_172_139 ((1401 - pg M_111 + ff M_111 : Int).toNat + 1) M_111 g_121 _ _ _ (Nat.lt_succ_self _) iM_111 (lx.trans (lx_ln (ln_l0 (l0_pr q_114 (by decide) (by decide)))) (lx.trans (lx_I hM_109 (by decide)) (lx.trans (lx_I hM_108 (by decide)) (lx.trans (lx_I hM_107 (by decide)) (lx.trans (lx_I hM_106 (by decide)) (lx.trans (lx_ln (ln_15 hM_104 (by decide))) (lx.trans (lx_ln (ln_14 hM_103 (by decide))) (lx.trans (lx_ln (ln_15 hM_101 (by decide))) (lx.trans (lx_ln (ln_14 hM_100 (by decide))) (lx.trans (lx_ln (ln_15 hM_98 (by decide))) (lx.trans (lx_ln (ln_14 hM_97 (by decide))) (lx.trans (lx_3 hM_94 (by decide)) (lx.trans (lx_3 hM_88 (by decide)) (lx.trans (lx_3 hM_79 (by decide)) (lx.trans (lx_3 hM_70 (by decide)) (lx.trans (lx_3 hM_61 (by decide)) (lx.trans (lx_3 hM_52 (by decide)) (lx.trans (lx_3 hM_43 (by decide)) (lx.trans (lx_3 hM_35 (by decide)) (lx.trans (lx_3 hM_28 (by decide)) (lx.trans (lx_3 hM_23 (by decide)) (lx.trans (lx_3 hM_19 (by decide)) (lx.trans (lx_I hM_10 (by decide)) (lx.trans (lx_I hM_9 (by decide)) (lx.trans (lx_I hM_8 (by decide)) (lx.trans (lx_I hM_7 (by decide)) (lx.trans (lx_I hM_6 (by decide)) (lx_I hM_1 (by decide))))))))))))))))))))))))))))) ((q_114.2 2 (by decide)).trans ((tI_nE hM_109 (nk (by decide))).trans ((tI_nE hM_108 (nk (by decide))).trans ((tI_nE hM_107 (nk (by decide))).trans ((tI_nE hM_106 (nk (by decide))).trans ((tI_uYE hM_104).trans ((tI_uYE hM_103).trans ((tI_uYE hM_101).trans ((tI_uYE hM_100).trans ((tI_uYE hM_98).trans ((tI_uYE hM_97).trans ((tI_uYE hM_94).trans ((tI_uYE hM_88).trans ((tI_uYE hM_79).trans ((tI_uYE hM_70).trans ((tI_uYE hM_61).trans ((tI_uYE hM_52).trans ((tI_uYE hM_43).trans ((tI_uYE hM_35).trans ((tI_uYE hM_28).trans ((tI_uYE hM_23).trans ((tI_uYE hM_19).trans ((tI_nE hM_10 (nk (by decide))).trans ((tI_nE hM_9 (nk (by decide))).trans ((tI_nE hM_8 (nk (by decide))).trans (tI_uE hM_7)))))))))))))))))))))))))) hs0 (by unfold pp_tx; rw [← eg_121, n0]; rfl) (by first | omega | decide) (by first | omega | decide) (by first | omega | decide) (by first | omega | decide) (by first | omega | decide) (by first | omega | decide) (by first | omega | decide) (by first | omega | decide) (by first | omega | decide) (by first | omega | decide) (by first | omega | decide) (um_l0 fu (l0_pr q_114 (by decide) (by decide)) (by omega)) hw (lv_sub hl [0, 1, 2] rfl)
    · exact hj_17_5  _ _ _ (by first | omega | decide) hw (lv_sub hl [0, 1] rfl)

variable {Tc : gC} {Tm : gM}
theorem pb_k {a b c d e v x y z : Int32} {k : Nat} (hv : v = if k < 4 then a else if k < 8 then b else if k < 12 then c else if k < 16 then d else e) (ex : x = v >>> (y &&& 31)) (hy : y.toInt = 24 - 8 * ((k % 4 : Nat) : Int)) (ez : z = x &&& 255) : z.toInt = pp_fb a b c d e k := by
  have ey : y = nI (24 - 8 * (k % 4)) := Int32.toInt_inj.mp (by rw [nI_toInt (by omega)]; omega)
  rw [ez, ex, ey, hv]
  rfl
theorem mI_tp {M N : ti_M} {f : Nat → Int32} (h : mI Tm M) (e : N = uY M 60 1 f) (hb : ∀ i, mBY 1 i (f i)) : mI (mG N) N := by
  refine mI_mk h (fun k => by rw [tI_uYE e]; exact h.1 k) (fun k i => ?_) (tI_uYE e) (tI_uYE e)
  by_cases q : k = 1
  · subst q; rw [tY_uE e]; exact hb i
  · rw [tY_nE e (nk q)]; exact h.2.1 k i
def mJ (M : ti_M) : Prop := mI (mG M) M
theorem mF_qx {M N : ti_M} {Tn : gM} (h : mF Tm M) (hI : mI Tn N) (q : qw N M) : mF Tn N := by
  obtain ⟨-, hL, h1, h3, h4⟩ := h
  refine ⟨hI, mL_lw q.1 hL, ⟨mC_qw q h1.1, mP_qw q h1.2⟩, ?_, ?_⟩
  · rw [q.2.1.2.1]; exact fun p => ⟨mC_qw q (h3 p).1, mP_qw q (h3 p).2⟩
  · rw [q.2.1.2.2]; exact fun k hk => ⟨mC_qw q (h4 k hk).1, mP_qw q (h4 k hk).2⟩
theorem mF_tp {M X N : ti_M} {Tn To : gM} {v : Int32} (h : mF Tm M) (hX : mI To X) (q : qw X M) (hI : mI Tn N) (e : N = uI X 60 2 v) : mF Tn N := by
  obtain ⟨-, hL, h1, h3, h4⟩ := h
  have i51 : tI N 60 51 = tI M 60 51 := (tI_nE e (nk (by decide))).trans q.2.1.2.1
  have i52 : tI N 60 52 = tI M 60 52 := (tI_nE e (nk (by decide))).trans q.2.1.2.2
  refine ⟨hI, mL_lw (fun k a b => (tY_uIE e).trans (q.1 k a b)) hL, gq_I e ⟨mC_qw q h1.1, mP_qw q h1.2⟩, ?_, ?_⟩
  · rw [i51]; exact fun p => gq_I e ⟨mC_qw q (h3 p).1, mP_qw q (h3 p).2⟩
  · rw [i52]; exact fun k hk => gq_I e ⟨mC_qw q (h4 k hk).1, mP_qw q (h4 k hk).2⟩
set_option maxHeartbeats 4000000 in
set_option maxRecDepth 100000 in
theorem x_X10_feed (l : Launch) (D : va_G) (A : Nat → Nat → Nat) (cy : Nat → ClassId) (hJ : ti_inj ti_LM A) (M : ti_M) (hI : mJ M) (hF : mF Tm M) (z1 : Int32) (z2 : Int32) (z3 : Int32) (z4 : Int32) (z5 : Int32) : ti_Ki l yX10_feed cX10_feed 8 (some .int) 0 ti_LM D A cy M [.ref (A 60 0), .int z1, .int z2, .int z3, .int z4, .int z5] (fun r M2 => (680 < (tI M 60 2).toInt ∧ r.toInt = -1 ∧ mF (mG M2) M2 ∧ tI M2 60 2 = tI M 60 2 ∧ tY M2 60 1 = tY M 60 1 ∧ tI M2 60 27 = tI M 60 27 ∧ tI M2 60 28 = tI M 60 28) ∨ ((tI M 60 2).toInt ≤ 680 ∧ r.toInt = (tI M 60 2).toInt + 20 ∧ mF (mG M2) M2 ∧ (tI M2 60 2).toInt = (tI M 60 2).toInt + 20 ∧ (∀ i : Nat, (i : Int) < (tI M 60 2).toInt → tY M2 60 1 i = tY M 60 1 i) ∧ (∀ j : Nat, j < 20 → (tY M2 60 1 ((tI M 60 2).toInt.toNat + j)).toInt = pp_fb z1 z2 z3 z4 z5 j) ∧ tI M2 60 27 = tI M 60 27 ∧ tI M2 60 28 = tI M 60 28)) := by
  refine ti_eI yp_X10_feed hJ ti_LM_nd (Nat.le_of_ble_eq_true rfl) ?_
  intro p e s m args below meth c Q H0 C hQ hw ls hl
  have hx := C.1
  have hb := C.2.1
  have hl : lv_has ls 8 [(0, .ref (A 60 0)), (1, .int z1), (2, .int z2), (3, .int z3), (4, .int z4), (5, .int z5)] := hl
  refine lv_aload_n hx hb dX10_feed_0 rfl (lv_at hl 0 rfl) ?_
  refine lv_iconst (v := 0) hx hb dX10_feed_1 (by decide) ?_
  refine ti_putI (ci := 10) (k := 0) (N := 67) (T := TX10) C hw iw_10 tyX10 tyX10_ok nmX10 rfl ob_60 (by decide) (by decide) fl_X10_154 rfl rfl rfl rfl (fn_10 A _) fs_10_0 dX10_feed_2 (fun H locs hw => ?_)
  obtain ⟨M_1, hM_1⟩ : ∃ z : ti_M, z = uI M 60 0 0 := ⟨_, rfl⟩
  have hw := hw.to hM_1.symm
  have iM_1 : mJ M_1 := mI_self (mI_uI hI hM_1 (by decide) (by decide) trivial)
  refine lv_aload_n hx hb dX10_feed_5 rfl (lv_at hl 0 rfl) ?_
  refine ti_get (ci := 10) (k := 2) (N := 67) (T := TX10) C hw iw_10 rfl ob_60 (by decide) (by decide) fl_X10_157 rfl rfl dX10_feed_6 ?_
  refine lv_topi (fun x_2 ex_2 => ?_)
  have bx_2 : 0 ≤ x_2.toInt ∧ x_2.toInt ≤ 700 := mI_rd iM_1 ex_2
  have ux_2 : (tI M_1 60 2).toInt = x_2.toInt := by rw [ex_2]
  refine lv_sipush (v := 680) hx hb dX10_feed_9 (by decide) ?_
  refine sb_icmp_le (tgt := 17) hx hb rfl (by decide : (680 : Int32).toInt = 680) dX10_feed_12 (by decide) (fun c_12_2 => ?_) (fun c_12_2 => ?_)
  · refine lv_iconst (v := 0) hx hb dX10_feed_17 (by decide) ?_
    refine lv_istore (lv' := [(6, .int 0), (0, .ref (A 60 0)), (1, .int z1), (2, .int z2), (3, .int z3), (4, .int z4), (5, .int z5)]) hx hb dX10_feed_18 hl (by decide) rfl (fun ls hl => ?_)
    have hl_20_13 : ∀ (n_14 : Nat) (x_4 : Int32) (M_7 : ti_M) (H : Heap) (locs : List Loc) (ls : Array Slot), (20 - x_4.toInt : Int).toNat < n_14 → (0 ≤ x_4.toInt) → (x_4.toInt ≤ 20) → (mJ M_7) → (qw M_7 M) → (tI M_7 60 27 = tI M 60 27) → (tI M_7 60 28 = tI M 60 28) → (tI M_7 60 2 = x_2) → (∀ i : Nat, (i : Int) < (tI M 60 2).toInt → tY M_7 60 1 i = tY M 60 1 i) → (∀ j : Nat, (j : Int) < x_4.toInt → (tY M_7 60 1 ((tI M 60 2).toInt.toNat + j)).toInt = pp_fb z1 z2 z3 z4 z5 j) → ti_H ti_LM D A cy H0 M_7 H locs → lv_has ls 8 [(6, .int x_4), (0, .ref (A 60 0)), (1, .int z1), (2, .int z2), (3, .int z3), (4, .int z4), (5, .int z5)] → W p l e (ti_rm 0) s m args below meth c H locs 0 0 Q (F0 m 20 ls []) := by
      intro n_14
      induction n_14 with
      | zero => intro x_4 M_7 H locs ls hf_14; exact absurd hf_14 (Nat.not_lt_zero _)
      | succ n_14 ih_14 =>
        intro x_4 M_7 H locs ls hf_14 b_5 b_6 iM_7 f_8 f_9 f_10 f_11 j_12 j_13 hw hl
        have v_15 : (tI M_7 60 2).toInt = (tI M 60 2).toInt := by rw [f_8.2.1.1]
        refine lv_iload hx hb dX10_feed_20 (lv_at hl 0 rfl) ?_
        refine lv_bipush (v := 20) hx hb dX10_feed_22 (by decide) ?_
        refine sb_icmp_ge (tgt := 110) hx hb rfl (by decide : (20 : Int32).toInt = 20) dX10_feed_24 (by decide) (fun c_24_15 => ?_) (fun c_24_15 => ?_)
        · refine lv_aload_n hx hb dX10_feed_110 rfl (lv_at hl 1 rfl) ?_
          refine lv_dup hx hb dX10_feed_111 rfl ?_
          refine ti_get (ci := 10) (k := 2) (N := 67) (T := TX10) C hw iw_10 rfl ob_60 (by decide) (by decide) fl_X10_157 rfl rfl dX10_feed_112 ?_
          refine ti_top (y := x_2) (f_11) ?_
          have u_66 : (tI M_7 60 2).toInt = (x_2 : Int32).toInt := by rw [(f_11)]
          refine lv_bipush (v := 20) hx hb dX10_feed_115 (by decide) ?_
          refine lv_iadd hx hb dX10_feed_117 ?_
          refine lv_topi (fun x_67 ex_67 => ?_)
          have tx_67 : x_67.toInt = x_2.toInt + 20 := i_add ex_67 rfl (by decide : (20 : Int32).toInt = 20) (by omega) (by omega)
          refine ti_putI (ci := 10) (k := 2) (N := 67) (T := TX10) C hw iw_10 tyX10 tyX10_ok nmX10 rfl ob_60 (by decide) (by decide) fl_X10_157 rfl rfl rfl rfl (fn_10 A _) fs_10_2 dX10_feed_118 (fun H locs hw => ?_)
          obtain ⟨M_68, hM_68⟩ : ∃ z : ti_M, z = uI M_7 60 2 x_67 := ⟨_, rfl⟩
          have hw := hw.to hM_68.symm
          have iM_68 : mJ M_68 := mI_self (mI_uI iM_7 hM_68 (by decide) (by decide) (ib_mk (lo := 0) (hi := 700) (by omega) (by omega)))
          have vM_68 : (tI M_68 60 2).toInt = (x_67 : Int32).toInt := by rw [tI_uE hM_68]
          refine lv_aload_n hx hb dX10_feed_121 rfl (lv_at hl 1 rfl) ?_
          refine ti_get (ci := 10) (k := 2) (N := 67) (T := TX10) C hw iw_10 rfl ob_60 (by decide) (by decide) fl_X10_157 rfl rfl dX10_feed_122 ?_
          refine ti_top (y := x_67) (tI_uE hM_68) ?_
          have u_69 : (tI M_68 60 2).toInt = (x_67 : Int32).toInt := by rw [(tI_uE hM_68)]
          exact hQ _ _ _ _ _ _ hw rfl (Or.inr ⟨by omega, by omega, mF_tp hF iM_7 f_8 iM_68 hM_68, by omega, (fun i hi => by rw [tY_uIE hM_68]; exact j_12 i hi), (fun j hj => by rw [tY_uIE hM_68]; exact j_13 j (by omega)), ((tI_nE hM_68 (nk (by decide))).trans f_9), ((tI_nE hM_68 (nk (by decide))).trans f_10)⟩) dX10_feed_125
        · refine lv_iload hx hb dX10_feed_27 (lv_at hl 0 rfl) ?_
          refine lv_iconst (v := 4) hx hb dX10_feed_29 (by decide) ?_
          refine sb_icmp_ge (tgt := 37) hx hb rfl (by decide : (4 : Int32).toInt = 4) dX10_feed_30 (by decide) (fun c_30_16 => ?_) (fun c_30_16 => ?_)
          · refine lv_iload hx hb dX10_feed_37 (lv_at hl 0 rfl) ?_
            refine lv_bipush (v := 8) hx hb dX10_feed_39 (by decide) ?_
            refine sb_icmp_ge (tgt := 48) hx hb rfl (by decide : (8 : Int32).toInt = 8) dX10_feed_41 (by decide) (fun c_41_17 => ?_) (fun c_41_17 => ?_)
            · refine lv_iload hx hb dX10_feed_48 (lv_at hl 0 rfl) ?_
              refine lv_bipush (v := 12) hx hb dX10_feed_50 (by decide) ?_
              refine sb_icmp_ge (tgt := 59) hx hb rfl (by decide : (12 : Int32).toInt = 12) dX10_feed_52 (by decide) (fun c_52_18 => ?_) (fun c_52_18 => ?_)
              · refine lv_iload hx hb dX10_feed_59 (lv_at hl 0 rfl) ?_
                refine lv_bipush (v := 16) hx hb dX10_feed_61 (by decide) ?_
                refine sb_icmp_ge (tgt := 71) hx hb rfl (by decide : (16 : Int32).toInt = 16) dX10_feed_63 (by decide) (fun c_63_19 => ?_) (fun c_63_19 => ?_)
                · refine lv_iload hx hb dX10_feed_71 (lv_at hl 6 rfl) ?_
                  refine lv_istore (lv' := [(7, .int z5), (6, .int x_4), (0, .ref (A 60 0)), (1, .int z1), (2, .int z2), (3, .int z3), (4, .int z4), (5, .int z5)]) hx hb dX10_feed_73 hl (by decide) rfl (fun ls hl => ?_)
                  refine lv_aload_n hx hb dX10_feed_75 rfl (lv_at hl 2 rfl) ?_
                  refine ti_get (ci := 10) (k := 1) (N := 67) (T := TX10) (v := .ref (A 60 2)) C hw iw_10 rfl ob_60 (by decide) (by decide) fl_X10_7 rfl rfl dX10_feed_76 ?_
                  refine lv_aload_n hx hb dX10_feed_79 rfl (lv_at hl 2 rfl) ?_
                  refine ti_get (ci := 10) (k := 2) (N := 67) (T := TX10) C hw iw_10 rfl ob_60 (by decide) (by decide) fl_X10_157 rfl rfl dX10_feed_80 ?_
                  refine ti_top (y := x_2) (f_11) ?_
                  have u_57 : (tI M_7 60 2).toInt = (x_2 : Int32).toInt := by rw [(f_11)]
                  refine lv_iload hx hb dX10_feed_83 (lv_at hl 1 rfl) ?_
                  refine lv_iadd hx hb dX10_feed_85 ?_
                  refine lv_topi (fun x_58 ex_58 => ?_)
                  have tx_58 : x_58.toInt = x_2.toInt + x_4.toInt := i_add ex_58 rfl rfl (by omega) (by omega)
                  refine lv_iload hx hb dX10_feed_86 (lv_at hl 0 rfl) ?_
                  refine lv_bipush (v := 24) hx hb dX10_feed_88 (by decide) ?_
                  refine lv_bipush (v := 8) hx hb dX10_feed_90 (by decide) ?_
                  refine lv_iload hx hb dX10_feed_92 (lv_at hl 1 rfl) ?_
                  refine lv_iconst (v := 4) hx hb dX10_feed_94 (by decide) ?_
                  refine lv_irem hx hb dX10_feed_95 (by decide) ?_
                  refine lv_topi (fun x_59 ex_59 => ?_)
                  have bx_59 := i_rem ex_59 rfl (by decide : (4 : Int32).toInt = 4) (by omega) (by decide)
                  refine lv_imul hx hb dX10_feed_96 ?_
                  refine lv_topi (fun x_60 ex_60 => ?_)
                  have tx_60 : x_60.toInt = 8 * x_59.toInt := i_mul ex_60 (by decide : (8 : Int32).toInt = 8) rfl (by omega) (by omega)
                  refine lv_isub hx hb dX10_feed_97 ?_
                  refine lv_topi (fun x_61 ex_61 => ?_)
                  have tx_61 : x_61.toInt = 24 - x_60.toInt := i_sub ex_61 (by decide : (24 : Int32).toInt = 24) rfl (by omega) (by omega)
                  refine lv_ishr hx hb dX10_feed_98 ?_
                  refine lv_topi (fun x_62 ex_62 => ?_)
                  refine lv_sipush (v := 255) hx hb dX10_feed_99 (by decide) ?_
                  refine lv_iand hx hb dX10_feed_102 ?_
                  refine lv_topi (fun x_63 ex_63 => ?_)
                  have bx_63 := i_and 8 ex_63 (by decide) (by decide)
                  refine ti_iast (ci := 10) (k := 1) (n := 700) C hw ob_60 (by decide) (fun _ _ => rfl) (vp_in_iff.mpr (by omega)) dX10_feed_103 (fun H locs hw => ?_)
                  obtain ⟨M_64, hM_64⟩ : ∃ z : ti_M, z = uY M_7 60 1 (upd (tY M_7 60 1) (x_58 : Int32).toNatClampNeg x_63) := ⟨_, rfl⟩
                  have hw := hw.to hM_64.symm
                  have iM_64 : mJ M_64 := mI_tp iM_7 hM_64 (fun j => by by_cases q : j = (x_58 : Int32).toNatClampNeg; (subst q; rw [pk_us]; exact ib_mk (lo := 0) (hi := 255) (by omega) (by omega)); (rw [pk_un q]; exact iM_7.2.1 1 j))
                  obtain ⟨x_65, ex_65⟩ : ∃ z : Int32, z = x_4 + 1 := ⟨_, rfl⟩
                  have tx_65 : x_65.toInt = x_4.toInt + 1 := i_add ex_65 rfl (by decide) (by omega) (by omega)
                  refine lv_iinc (v := x_65) (lv' := [(6, .int x_65), (7, .int z5), (0, .ref (A 60 0)), (1, .int z1), (2, .int z2), (3, .int z3), (4, .int z4), (5, .int z5)]) hx hb dX10_feed_104 hl (k := 1) rfl (by rw [ex_65]; rfl) (by decide) rfl (fun ls hl => ?_)
                  refine lv_goto (tgt := 20) hx hb dX10_feed_107 (by decide) ?_
                  exact ih_14 x_65 M_64 _ _ _ (by omega) (by first | omega | decide) (by first | omega | decide) iM_64 (qw.trans (qw_Y hM_64 (by decide)) f_8) ((tI_uYE hM_64).trans f_9) ((tI_uYE hM_64).trans f_10) ((tI_uYE hM_64).trans f_11) (fun i hi => by rw [tY_uE hM_64, pk_un (show i ≠ (x_58 : Int32).toNatClampNeg by (show i ≠ (x_58 : Int32).toInt.toNat; omega))]; exact j_12 i hi) (fun j hj => by
      rw [tY_uE hM_64]
      by_cases q : j = x_4.toInt.toNat
      · rw [show (tI M 60 2).toInt.toNat + j = (x_58 : Int32).toNatClampNeg by (show _ = (x_58 : Int32).toInt.toNat; omega), pk_us]; subst q; exact pb_k (k := x_4.toInt.toNat) (by rw [if_neg (by omega), if_neg (by omega), if_neg (by omega), if_neg (by omega)]) ex_62 (by omega) ex_63
      · rw [pk_un (show (tI M 60 2).toInt.toNat + j ≠ (x_58 : Int32).toNatClampNeg by (show _ ≠ (x_58 : Int32).toInt.toNat; omega))]; exact j_13 j (by omega)) hw (lv_sub hl [0, 2, 3, 4, 5, 6, 7] rfl)
                · refine lv_iload hx hb dX10_feed_66 (lv_at hl 5 rfl) ?_
                  refine lv_goto (tgt := 73) hx hb dX10_feed_68 (by decide) ?_
                  refine lv_istore (lv' := [(7, .int z4), (6, .int x_4), (0, .ref (A 60 0)), (1, .int z1), (2, .int z2), (3, .int z3), (4, .int z4), (5, .int z5)]) hx hb dX10_feed_73 hl (by decide) rfl (fun ls hl => ?_)
                  refine lv_aload_n hx hb dX10_feed_75 rfl (lv_at hl 2 rfl) ?_
                  refine ti_get (ci := 10) (k := 1) (N := 67) (T := TX10) (v := .ref (A 60 2)) C hw iw_10 rfl ob_60 (by decide) (by decide) fl_X10_7 rfl rfl dX10_feed_76 ?_
                  refine lv_aload_n hx hb dX10_feed_79 rfl (lv_at hl 2 rfl) ?_
                  refine ti_get (ci := 10) (k := 2) (N := 67) (T := TX10) C hw iw_10 rfl ob_60 (by decide) (by decide) fl_X10_157 rfl rfl dX10_feed_80 ?_
                  refine ti_top (y := x_2) (f_11) ?_
                  have u_48 : (tI M_7 60 2).toInt = (x_2 : Int32).toInt := by rw [(f_11)]
                  refine lv_iload hx hb dX10_feed_83 (lv_at hl 1 rfl) ?_
                  refine lv_iadd hx hb dX10_feed_85 ?_
                  refine lv_topi (fun x_49 ex_49 => ?_)
                  have tx_49 : x_49.toInt = x_2.toInt + x_4.toInt := i_add ex_49 rfl rfl (by omega) (by omega)
                  refine lv_iload hx hb dX10_feed_86 (lv_at hl 0 rfl) ?_
                  refine lv_bipush (v := 24) hx hb dX10_feed_88 (by decide) ?_
                  refine lv_bipush (v := 8) hx hb dX10_feed_90 (by decide) ?_
                  refine lv_iload hx hb dX10_feed_92 (lv_at hl 1 rfl) ?_
                  refine lv_iconst (v := 4) hx hb dX10_feed_94 (by decide) ?_
                  refine lv_irem hx hb dX10_feed_95 (by decide) ?_
                  refine lv_topi (fun x_50 ex_50 => ?_)
                  have bx_50 := i_rem ex_50 rfl (by decide : (4 : Int32).toInt = 4) (by omega) (by decide)
                  refine lv_imul hx hb dX10_feed_96 ?_
                  refine lv_topi (fun x_51 ex_51 => ?_)
                  have tx_51 : x_51.toInt = 8 * x_50.toInt := i_mul ex_51 (by decide : (8 : Int32).toInt = 8) rfl (by omega) (by omega)
                  refine lv_isub hx hb dX10_feed_97 ?_
                  refine lv_topi (fun x_52 ex_52 => ?_)
                  have tx_52 : x_52.toInt = 24 - x_51.toInt := i_sub ex_52 (by decide : (24 : Int32).toInt = 24) rfl (by omega) (by omega)
                  refine lv_ishr hx hb dX10_feed_98 ?_
                  refine lv_topi (fun x_53 ex_53 => ?_)
                  refine lv_sipush (v := 255) hx hb dX10_feed_99 (by decide) ?_
                  refine lv_iand hx hb dX10_feed_102 ?_
                  refine lv_topi (fun x_54 ex_54 => ?_)
                  have bx_54 := i_and 8 ex_54 (by decide) (by decide)
                  refine ti_iast (ci := 10) (k := 1) (n := 700) C hw ob_60 (by decide) (fun _ _ => rfl) (vp_in_iff.mpr (by omega)) dX10_feed_103 (fun H locs hw => ?_)
                  obtain ⟨M_55, hM_55⟩ : ∃ z : ti_M, z = uY M_7 60 1 (upd (tY M_7 60 1) (x_49 : Int32).toNatClampNeg x_54) := ⟨_, rfl⟩
                  have hw := hw.to hM_55.symm
                  have iM_55 : mJ M_55 := mI_tp iM_7 hM_55 (fun j => by by_cases q : j = (x_49 : Int32).toNatClampNeg; (subst q; rw [pk_us]; exact ib_mk (lo := 0) (hi := 255) (by omega) (by omega)); (rw [pk_un q]; exact iM_7.2.1 1 j))
                  obtain ⟨x_56, ex_56⟩ : ∃ z : Int32, z = x_4 + 1 := ⟨_, rfl⟩
                  have tx_56 : x_56.toInt = x_4.toInt + 1 := i_add ex_56 rfl (by decide) (by omega) (by omega)
                  refine lv_iinc (v := x_56) (lv' := [(6, .int x_56), (7, .int z4), (0, .ref (A 60 0)), (1, .int z1), (2, .int z2), (3, .int z3), (4, .int z4), (5, .int z5)]) hx hb dX10_feed_104 hl (k := 1) rfl (by rw [ex_56]; rfl) (by decide) rfl (fun ls hl => ?_)
                  refine lv_goto (tgt := 20) hx hb dX10_feed_107 (by decide) ?_
                  exact ih_14 x_56 M_55 _ _ _ (by omega) (by first | omega | decide) (by first | omega | decide) iM_55 (qw.trans (qw_Y hM_55 (by decide)) f_8) ((tI_uYE hM_55).trans f_9) ((tI_uYE hM_55).trans f_10) ((tI_uYE hM_55).trans f_11) (fun i hi => by rw [tY_uE hM_55, pk_un (show i ≠ (x_49 : Int32).toNatClampNeg by (show i ≠ (x_49 : Int32).toInt.toNat; omega))]; exact j_12 i hi) (fun j hj => by
      rw [tY_uE hM_55]
      by_cases q : j = x_4.toInt.toNat
      · rw [show (tI M 60 2).toInt.toNat + j = (x_49 : Int32).toNatClampNeg by (show _ = (x_49 : Int32).toInt.toNat; omega), pk_us]; subst q; exact pb_k (k := x_4.toInt.toNat) (by rw [if_neg (by omega), if_neg (by omega), if_neg (by omega), if_pos (by omega)]) ex_53 (by omega) ex_54
      · rw [pk_un (show (tI M 60 2).toInt.toNat + j ≠ (x_49 : Int32).toNatClampNeg by (show _ ≠ (x_49 : Int32).toInt.toNat; omega))]; exact j_13 j (by omega)) hw (lv_sub hl [0, 2, 3, 4, 5, 6, 7] rfl)
              · refine lv_iload_n hx hb dX10_feed_55 rfl (lv_at hl 4 rfl) ?_
                refine lv_goto (tgt := 73) hx hb dX10_feed_56 (by decide) ?_
                refine lv_istore (lv' := [(7, .int z3), (6, .int x_4), (0, .ref (A 60 0)), (1, .int z1), (2, .int z2), (3, .int z3), (4, .int z4), (5, .int z5)]) hx hb dX10_feed_73 hl (by decide) rfl (fun ls hl => ?_)
                refine lv_aload_n hx hb dX10_feed_75 rfl (lv_at hl 2 rfl) ?_
                refine ti_get (ci := 10) (k := 1) (N := 67) (T := TX10) (v := .ref (A 60 2)) C hw iw_10 rfl ob_60 (by decide) (by decide) fl_X10_7 rfl rfl dX10_feed_76 ?_
                refine lv_aload_n hx hb dX10_feed_79 rfl (lv_at hl 2 rfl) ?_
                refine ti_get (ci := 10) (k := 2) (N := 67) (T := TX10) C hw iw_10 rfl ob_60 (by decide) (by decide) fl_X10_157 rfl rfl dX10_feed_80 ?_
                refine ti_top (y := x_2) (f_11) ?_
                have u_39 : (tI M_7 60 2).toInt = (x_2 : Int32).toInt := by rw [(f_11)]
                refine lv_iload hx hb dX10_feed_83 (lv_at hl 1 rfl) ?_
                refine lv_iadd hx hb dX10_feed_85 ?_
                refine lv_topi (fun x_40 ex_40 => ?_)
                have tx_40 : x_40.toInt = x_2.toInt + x_4.toInt := i_add ex_40 rfl rfl (by omega) (by omega)
                refine lv_iload hx hb dX10_feed_86 (lv_at hl 0 rfl) ?_
                refine lv_bipush (v := 24) hx hb dX10_feed_88 (by decide) ?_
                refine lv_bipush (v := 8) hx hb dX10_feed_90 (by decide) ?_
                refine lv_iload hx hb dX10_feed_92 (lv_at hl 1 rfl) ?_
                refine lv_iconst (v := 4) hx hb dX10_feed_94 (by decide) ?_
                refine lv_irem hx hb dX10_feed_95 (by decide) ?_
                refine lv_topi (fun x_41 ex_41 => ?_)
                have bx_41 := i_rem ex_41 rfl (by decide : (4 : Int32).toInt = 4) (by omega) (by decide)
                refine lv_imul hx hb dX10_feed_96 ?_
                refine lv_topi (fun x_42 ex_42 => ?_)
                have tx_42 : x_42.toInt = 8 * x_41.toInt := i_mul ex_42 (by decide : (8 : Int32).toInt = 8) rfl (by omega) (by omega)
                refine lv_isub hx hb dX10_feed_97 ?_
                refine lv_topi (fun x_43 ex_43 => ?_)
                have tx_43 : x_43.toInt = 24 - x_42.toInt := i_sub ex_43 (by decide : (24 : Int32).toInt = 24) rfl (by omega) (by omega)
                refine lv_ishr hx hb dX10_feed_98 ?_
                refine lv_topi (fun x_44 ex_44 => ?_)
                refine lv_sipush (v := 255) hx hb dX10_feed_99 (by decide) ?_
                refine lv_iand hx hb dX10_feed_102 ?_
                refine lv_topi (fun x_45 ex_45 => ?_)
                have bx_45 := i_and 8 ex_45 (by decide) (by decide)
                refine ti_iast (ci := 10) (k := 1) (n := 700) C hw ob_60 (by decide) (fun _ _ => rfl) (vp_in_iff.mpr (by omega)) dX10_feed_103 (fun H locs hw => ?_)
                obtain ⟨M_46, hM_46⟩ : ∃ z : ti_M, z = uY M_7 60 1 (upd (tY M_7 60 1) (x_40 : Int32).toNatClampNeg x_45) := ⟨_, rfl⟩
                have hw := hw.to hM_46.symm
                have iM_46 : mJ M_46 := mI_tp iM_7 hM_46 (fun j => by by_cases q : j = (x_40 : Int32).toNatClampNeg; (subst q; rw [pk_us]; exact ib_mk (lo := 0) (hi := 255) (by omega) (by omega)); (rw [pk_un q]; exact iM_7.2.1 1 j))
                obtain ⟨x_47, ex_47⟩ : ∃ z : Int32, z = x_4 + 1 := ⟨_, rfl⟩
                have tx_47 : x_47.toInt = x_4.toInt + 1 := i_add ex_47 rfl (by decide) (by omega) (by omega)
                refine lv_iinc (v := x_47) (lv' := [(6, .int x_47), (7, .int z3), (0, .ref (A 60 0)), (1, .int z1), (2, .int z2), (3, .int z3), (4, .int z4), (5, .int z5)]) hx hb dX10_feed_104 hl (k := 1) rfl (by rw [ex_47]; rfl) (by decide) rfl (fun ls hl => ?_)
                refine lv_goto (tgt := 20) hx hb dX10_feed_107 (by decide) ?_
                exact ih_14 x_47 M_46 _ _ _ (by omega) (by first | omega | decide) (by first | omega | decide) iM_46 (qw.trans (qw_Y hM_46 (by decide)) f_8) ((tI_uYE hM_46).trans f_9) ((tI_uYE hM_46).trans f_10) ((tI_uYE hM_46).trans f_11) (fun i hi => by rw [tY_uE hM_46, pk_un (show i ≠ (x_40 : Int32).toNatClampNeg by (show i ≠ (x_40 : Int32).toInt.toNat; omega))]; exact j_12 i hi) (fun j hj => by
      rw [tY_uE hM_46]
      by_cases q : j = x_4.toInt.toNat
      · rw [show (tI M 60 2).toInt.toNat + j = (x_40 : Int32).toNatClampNeg by (show _ = (x_40 : Int32).toInt.toNat; omega), pk_us]; subst q; exact pb_k (k := x_4.toInt.toNat) (by rw [if_neg (by omega), if_neg (by omega), if_pos (by omega)]) ex_44 (by omega) ex_45
      · rw [pk_un (show (tI M 60 2).toInt.toNat + j ≠ (x_40 : Int32).toNatClampNeg by (show _ ≠ (x_40 : Int32).toInt.toNat; omega))]; exact j_13 j (by omega)) hw (lv_sub hl [0, 2, 3, 4, 5, 6, 7] rfl)
            · refine lv_iload_n hx hb dX10_feed_44 rfl (lv_at hl 3 rfl) ?_
              refine lv_goto (tgt := 73) hx hb dX10_feed_45 (by decide) ?_
              refine lv_istore (lv' := [(7, .int z2), (6, .int x_4), (0, .ref (A 60 0)), (1, .int z1), (2, .int z2), (3, .int z3), (4, .int z4), (5, .int z5)]) hx hb dX10_feed_73 hl (by decide) rfl (fun ls hl => ?_)
              refine lv_aload_n hx hb dX10_feed_75 rfl (lv_at hl 2 rfl) ?_
              refine ti_get (ci := 10) (k := 1) (N := 67) (T := TX10) (v := .ref (A 60 2)) C hw iw_10 rfl ob_60 (by decide) (by decide) fl_X10_7 rfl rfl dX10_feed_76 ?_
              refine lv_aload_n hx hb dX10_feed_79 rfl (lv_at hl 2 rfl) ?_
              refine ti_get (ci := 10) (k := 2) (N := 67) (T := TX10) C hw iw_10 rfl ob_60 (by decide) (by decide) fl_X10_157 rfl rfl dX10_feed_80 ?_
              refine ti_top (y := x_2) (f_11) ?_
              have u_30 : (tI M_7 60 2).toInt = (x_2 : Int32).toInt := by rw [(f_11)]
              refine lv_iload hx hb dX10_feed_83 (lv_at hl 1 rfl) ?_
              refine lv_iadd hx hb dX10_feed_85 ?_
              refine lv_topi (fun x_31 ex_31 => ?_)
              have tx_31 : x_31.toInt = x_2.toInt + x_4.toInt := i_add ex_31 rfl rfl (by omega) (by omega)
              refine lv_iload hx hb dX10_feed_86 (lv_at hl 0 rfl) ?_
              refine lv_bipush (v := 24) hx hb dX10_feed_88 (by decide) ?_
              refine lv_bipush (v := 8) hx hb dX10_feed_90 (by decide) ?_
              refine lv_iload hx hb dX10_feed_92 (lv_at hl 1 rfl) ?_
              refine lv_iconst (v := 4) hx hb dX10_feed_94 (by decide) ?_
              refine lv_irem hx hb dX10_feed_95 (by decide) ?_
              refine lv_topi (fun x_32 ex_32 => ?_)
              have bx_32 := i_rem ex_32 rfl (by decide : (4 : Int32).toInt = 4) (by omega) (by decide)
              refine lv_imul hx hb dX10_feed_96 ?_
              refine lv_topi (fun x_33 ex_33 => ?_)
              have tx_33 : x_33.toInt = 8 * x_32.toInt := i_mul ex_33 (by decide : (8 : Int32).toInt = 8) rfl (by omega) (by omega)
              refine lv_isub hx hb dX10_feed_97 ?_
              refine lv_topi (fun x_34 ex_34 => ?_)
              have tx_34 : x_34.toInt = 24 - x_33.toInt := i_sub ex_34 (by decide : (24 : Int32).toInt = 24) rfl (by omega) (by omega)
              refine lv_ishr hx hb dX10_feed_98 ?_
              refine lv_topi (fun x_35 ex_35 => ?_)
              refine lv_sipush (v := 255) hx hb dX10_feed_99 (by decide) ?_
              refine lv_iand hx hb dX10_feed_102 ?_
              refine lv_topi (fun x_36 ex_36 => ?_)
              have bx_36 := i_and 8 ex_36 (by decide) (by decide)
              refine ti_iast (ci := 10) (k := 1) (n := 700) C hw ob_60 (by decide) (fun _ _ => rfl) (vp_in_iff.mpr (by omega)) dX10_feed_103 (fun H locs hw => ?_)
              obtain ⟨M_37, hM_37⟩ : ∃ z : ti_M, z = uY M_7 60 1 (upd (tY M_7 60 1) (x_31 : Int32).toNatClampNeg x_36) := ⟨_, rfl⟩
              have hw := hw.to hM_37.symm
              have iM_37 : mJ M_37 := mI_tp iM_7 hM_37 (fun j => by by_cases q : j = (x_31 : Int32).toNatClampNeg; (subst q; rw [pk_us]; exact ib_mk (lo := 0) (hi := 255) (by omega) (by omega)); (rw [pk_un q]; exact iM_7.2.1 1 j))
              obtain ⟨x_38, ex_38⟩ : ∃ z : Int32, z = x_4 + 1 := ⟨_, rfl⟩
              have tx_38 : x_38.toInt = x_4.toInt + 1 := i_add ex_38 rfl (by decide) (by omega) (by omega)
              refine lv_iinc (v := x_38) (lv' := [(6, .int x_38), (7, .int z2), (0, .ref (A 60 0)), (1, .int z1), (2, .int z2), (3, .int z3), (4, .int z4), (5, .int z5)]) hx hb dX10_feed_104 hl (k := 1) rfl (by rw [ex_38]; rfl) (by decide) rfl (fun ls hl => ?_)
              refine lv_goto (tgt := 20) hx hb dX10_feed_107 (by decide) ?_
              exact ih_14 x_38 M_37 _ _ _ (by omega) (by first | omega | decide) (by first | omega | decide) iM_37 (qw.trans (qw_Y hM_37 (by decide)) f_8) ((tI_uYE hM_37).trans f_9) ((tI_uYE hM_37).trans f_10) ((tI_uYE hM_37).trans f_11) (fun i hi => by rw [tY_uE hM_37, pk_un (show i ≠ (x_31 : Int32).toNatClampNeg by (show i ≠ (x_31 : Int32).toInt.toNat; omega))]; exact j_12 i hi) (fun j hj => by
      rw [tY_uE hM_37]
      by_cases q : j = x_4.toInt.toNat
      · rw [show (tI M 60 2).toInt.toNat + j = (x_31 : Int32).toNatClampNeg by (show _ = (x_31 : Int32).toInt.toNat; omega), pk_us]; subst q; exact pb_k (k := x_4.toInt.toNat) (by rw [if_neg (by omega), if_pos (by omega)]) ex_35 (by omega) ex_36
      · rw [pk_un (show (tI M 60 2).toInt.toNat + j ≠ (x_31 : Int32).toNatClampNeg by (show _ ≠ (x_31 : Int32).toInt.toNat; omega))]; exact j_13 j (by omega)) hw (lv_sub hl [0, 2, 3, 4, 5, 6, 7] rfl)
          · refine lv_iload_n hx hb dX10_feed_33 rfl (lv_at hl 2 rfl) ?_
            refine lv_goto (tgt := 73) hx hb dX10_feed_34 (by decide) ?_
            refine lv_istore (lv' := [(7, .int z1), (6, .int x_4), (0, .ref (A 60 0)), (1, .int z1), (2, .int z2), (3, .int z3), (4, .int z4), (5, .int z5)]) hx hb dX10_feed_73 hl (by decide) rfl (fun ls hl => ?_)
            refine lv_aload_n hx hb dX10_feed_75 rfl (lv_at hl 2 rfl) ?_
            refine ti_get (ci := 10) (k := 1) (N := 67) (T := TX10) (v := .ref (A 60 2)) C hw iw_10 rfl ob_60 (by decide) (by decide) fl_X10_7 rfl rfl dX10_feed_76 ?_
            refine lv_aload_n hx hb dX10_feed_79 rfl (lv_at hl 2 rfl) ?_
            refine ti_get (ci := 10) (k := 2) (N := 67) (T := TX10) C hw iw_10 rfl ob_60 (by decide) (by decide) fl_X10_157 rfl rfl dX10_feed_80 ?_
            refine ti_top (y := x_2) (f_11) ?_
            have u_21 : (tI M_7 60 2).toInt = (x_2 : Int32).toInt := by rw [(f_11)]
            refine lv_iload hx hb dX10_feed_83 (lv_at hl 1 rfl) ?_
            refine lv_iadd hx hb dX10_feed_85 ?_
            refine lv_topi (fun x_22 ex_22 => ?_)
            have tx_22 : x_22.toInt = x_2.toInt + x_4.toInt := i_add ex_22 rfl rfl (by omega) (by omega)
            refine lv_iload hx hb dX10_feed_86 (lv_at hl 0 rfl) ?_
            refine lv_bipush (v := 24) hx hb dX10_feed_88 (by decide) ?_
            refine lv_bipush (v := 8) hx hb dX10_feed_90 (by decide) ?_
            refine lv_iload hx hb dX10_feed_92 (lv_at hl 1 rfl) ?_
            refine lv_iconst (v := 4) hx hb dX10_feed_94 (by decide) ?_
            refine lv_irem hx hb dX10_feed_95 (by decide) ?_
            refine lv_topi (fun x_23 ex_23 => ?_)
            have bx_23 := i_rem ex_23 rfl (by decide : (4 : Int32).toInt = 4) (by omega) (by decide)
            refine lv_imul hx hb dX10_feed_96 ?_
            refine lv_topi (fun x_24 ex_24 => ?_)
            have tx_24 : x_24.toInt = 8 * x_23.toInt := i_mul ex_24 (by decide : (8 : Int32).toInt = 8) rfl (by omega) (by omega)
            refine lv_isub hx hb dX10_feed_97 ?_
            refine lv_topi (fun x_25 ex_25 => ?_)
            have tx_25 : x_25.toInt = 24 - x_24.toInt := i_sub ex_25 (by decide : (24 : Int32).toInt = 24) rfl (by omega) (by omega)
            refine lv_ishr hx hb dX10_feed_98 ?_
            refine lv_topi (fun x_26 ex_26 => ?_)
            refine lv_sipush (v := 255) hx hb dX10_feed_99 (by decide) ?_
            refine lv_iand hx hb dX10_feed_102 ?_
            refine lv_topi (fun x_27 ex_27 => ?_)
            have bx_27 := i_and 8 ex_27 (by decide) (by decide)
            refine ti_iast (ci := 10) (k := 1) (n := 700) C hw ob_60 (by decide) (fun _ _ => rfl) (vp_in_iff.mpr (by omega)) dX10_feed_103 (fun H locs hw => ?_)
            obtain ⟨M_28, hM_28⟩ : ∃ z : ti_M, z = uY M_7 60 1 (upd (tY M_7 60 1) (x_22 : Int32).toNatClampNeg x_27) := ⟨_, rfl⟩
            have hw := hw.to hM_28.symm
            have iM_28 : mJ M_28 := mI_tp iM_7 hM_28 (fun j => by by_cases q : j = (x_22 : Int32).toNatClampNeg; (subst q; rw [pk_us]; exact ib_mk (lo := 0) (hi := 255) (by omega) (by omega)); (rw [pk_un q]; exact iM_7.2.1 1 j))
            obtain ⟨x_29, ex_29⟩ : ∃ z : Int32, z = x_4 + 1 := ⟨_, rfl⟩
            have tx_29 : x_29.toInt = x_4.toInt + 1 := i_add ex_29 rfl (by decide) (by omega) (by omega)
            refine lv_iinc (v := x_29) (lv' := [(6, .int x_29), (7, .int z1), (0, .ref (A 60 0)), (1, .int z1), (2, .int z2), (3, .int z3), (4, .int z4), (5, .int z5)]) hx hb dX10_feed_104 hl (k := 1) rfl (by rw [ex_29]; rfl) (by decide) rfl (fun ls hl => ?_)
            refine lv_goto (tgt := 20) hx hb dX10_feed_107 (by decide) ?_
            exact ih_14 x_29 M_28 _ _ _ (by omega) (by first | omega | decide) (by first | omega | decide) iM_28 (qw.trans (qw_Y hM_28 (by decide)) f_8) ((tI_uYE hM_28).trans f_9) ((tI_uYE hM_28).trans f_10) ((tI_uYE hM_28).trans f_11) (fun i hi => by rw [tY_uE hM_28, pk_un (show i ≠ (x_22 : Int32).toNatClampNeg by (show i ≠ (x_22 : Int32).toInt.toNat; omega))]; exact j_12 i hi) (fun j hj => by
      rw [tY_uE hM_28]
      by_cases q : j = x_4.toInt.toNat
      · rw [show (tI M 60 2).toInt.toNat + j = (x_22 : Int32).toNatClampNeg by (show _ = (x_22 : Int32).toInt.toNat; omega), pk_us]; subst q; exact pb_k (k := x_4.toInt.toNat) (by rw [if_pos (by omega)]) ex_26 (by omega) ex_27
      · rw [pk_un (show (tI M 60 2).toInt.toNat + j ≠ (x_22 : Int32).toNatClampNeg by (show _ ≠ (x_22 : Int32).toInt.toNat; omega))]; exact j_13 j (by omega)) hw (lv_sub hl [0, 2, 3, 4, 5, 6, 7] rfl)
    exact hl_20_13 ((20 - 0 : Int).toNat + 1) 0 M_1 _ _ _ (Nat.lt_succ_self _) (by have lt0 : (0 : Int32).toInt = 0 := (by decide); first | omega | decide) (by have lt0 : (0 : Int32).toInt = 0 := (by decide); first | omega | decide) iM_1 (qw_I hM_1 (by decide)) (tI_nE hM_1 (nk (by decide))) (tI_nE hM_1 (nk (by decide))) (ex_2.symm) (fun i _ => by rw [(tY_uIE hM_1)]) (fun j hj => absurd hj (by have z0 : (0 : Int32).toInt = 0 := (by decide); omega)) hw (lv_sub hl [0, 1, 2, 3, 4, 5, 6] rfl)
  · have e2 : (tI M_1 60 2).toInt = (tI M 60 2).toInt := congrArg Int32.toInt (tI_nE hM_1 (nk (by decide)))
    refine lv_iconst (v := (-1)) hx hb dX10_feed_15 (by decide) ?_
    exact hQ _ _ _ _ _ _ hw rfl (Or.inl ⟨by omega, by decide, mF_qx hF iM_1 (qw_I hM_1 (by decide)), (tI_nE hM_1 (nk (by decide))), (tY_uIE hM_1), (tI_nE hM_1 (nk (by decide))), (tI_nE hM_1 (nk (by decide)))⟩) dX10_feed_16

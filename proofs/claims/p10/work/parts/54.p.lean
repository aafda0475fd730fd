variable {Tc : gC} {Tm : gM}
theorem pt_n25 {n k : Int} (h : k = ((pt_st.getD n.toNat 0 : Nat) : Int)) (h0 : 0 ≤ n) (h1 : n ≤ 25) (hk : k < 125) : n < 25 := by
  by_cases q : n = 25
  · subst q
    rw [show (25 : Int).toNat = 25 by decide, pt_s25] at h
    omega
  · omega
theorem pt_m25 {n k : Int} (h : k = ((pt_st.getD n.toNat 0 : Nat) : Int)) (h0 : 0 ≤ n) (h1 : n ≤ 25) (hk : 125 ≤ k) : n = 25 := by
  by_cases q : n = 25
  · exact q
  · have g := pt_s1 n.toNat (by omega)
    omega
theorem pt_nx {n k : Nat} (hn : n < 25) (h1 : pt_st.getD n 0 ≤ k) (h2 : k ≤ pt_st.getD n 0 + pt_ln.getD n 0) (hc : pt_rc k = 32) : k + 1 = pt_st.getD (n + 1) 0 := by
  have g := pt_s1 n hn
  have q := pt_eq (w := n) (i := k - pt_st.getD n 0) hn (by omega) (by rw [Nat.add_sub_cancel' h1]; exact hc)
  omega
theorem pt_ny {n k : Nat} (hn : n < 25) (h1 : pt_st.getD n 0 ≤ k) (h2 : k ≤ pt_st.getD n 0 + pt_ln.getD n 0) (hc : ¬ pt_rc k = 32) : k + 1 ≤ pt_st.getD n 0 + pt_ln.getD n 0 := by
  have q := pt_lt (w := n) (i := k - pt_st.getD n 0) hn (by omega) (by rw [Nat.add_sub_cancel' h1]; exact hc)
  omega
theorem pt_rcy {x z : Int32} (e : z = tx_mb.getD x.toNatClampNeg 0 &&& 255) : z.toInt = pt_rc x.toInt.toNat := by
  rw [e]
  rfl
set_option maxHeartbeats 4000000 in
set_option maxRecDepth 100000 in
theorem x_X10_word (l : Launch) (D : va_G) (A : Nat → Nat → Nat) (cy : Nat → ClassId) (hJ : ti_inj ti_LM A) (M : ti_M) (hI : mI Tm M) (hpa : (tI M 60 22).toInt ≤ (tI M 60 21).toInt) : ti_KiE l yX10_word cX10_word 4 (some .int) 4 ti_LM D A cy M [.ref (A 60 0)] (fun r M2 => M2 = M ∧ -1 ≤ r.toInt ∧ r.toInt ≤ 24 ∧ ((r.toInt = -1 ∧ ∀ w : Nat, w < 25 → ¬ pt_mt (pt_rB M) (tI M 60 22).toInt.toNat (tI M 60 21).toInt.toNat w) ∨ (0 ≤ r.toInt ∧ pt_mt (pt_rB M) (tI M 60 22).toInt.toNat (tI M 60 21).toInt.toNat r.toInt.toNat))) := by
  refine ti_eIE yp_X10_word hJ ti_LM_nd (Nat.le_of_ble_eq_true rfl) ?_
  intro p e s m args below meth c Q H0 C hE hQ hw ls hl
  have hx := C.1
  have hb := C.2.1
  have hl : lv_has ls 4 [(0, .ref (A 60 0))] := hl
  obtain ⟨⟨a1, v1, hR1, hs1⟩, ⟨a2, v2, hR2, hs2⟩, hg1⟩ := id hE
  have hpl : 0 ≤ (tI M 60 22).toInt ∧ (tI M 60 22).toInt ≤ 700 := hI.1 22
  have hat : 0 ≤ (tI M 60 21).toInt ∧ (tI M 60 21).toInt ≤ 700 := hI.1 21
  refine lv_iconst (v := 0) hx hb dX10_word_0 (by decide) ?_
  refine lv_istore_n (lv' := [(1, .int 0), (0, .ref (A 60 0))]) hx hb dX10_word_1 rfl hl (by decide) rfl (fun ls hl => ?_)
  refine lv_iconst (v := 0) hx hb dX10_word_2 (by decide) ?_
  refine lv_istore_n (lv' := [(2, .int 0), (1, .int 0), (0, .ref (A 60 0))]) hx hb dX10_word_3 rfl hl (by decide) rfl (fun ls hl => ?_)
  have hl_4_8 : ∀ (n_9 : Nat) (x_1 : Int32) (x_4 : Int32) (H : Heap) (locs : List Loc) (ls : Array Slot), (125 - x_1.toInt : Int).toNat < n_9 → (0 ≤ x_1.toInt) → (x_1.toInt ≤ 125) → (0 ≤ x_4.toInt) → (x_4.toInt ≤ 25) → (x_1.toInt = ((pt_st.getD (x_4.toInt).toNat 0 : Nat) : Int)) → (∀ w : Nat, w < (x_4.toInt).toNat → ¬ pt_mt (pt_rB M) (tI M 60 22).toInt.toNat (tI M 60 21).toInt.toNat w) → ti_H ti_LM D A cy H0 M H locs → lv_has ls 4 [(2, .int x_1), (1, .int x_4), (0, .ref (A 60 0))] → W p l e (ti_rm 4) s m args below meth c H locs 0 0 Q (F0 m 4 ls []) := by
    intro n_9
    induction n_9 with
    | zero => intro x_1 x_4 H locs ls hf_9; exact absurd hf_9 (Nat.not_lt_zero _)
    | succ n_9 ih_9 =>
      intro x_1 x_4 H locs ls hf_9 b_2 b_3 b_5 b_6 j_7 j_8 hw hl
      refine lv_iload_n hx hb dX10_word_4 rfl (lv_at hl 0 rfl) ?_
      refine va_ldcS hx hb C.2.2.2.1 hR2 dX10_word_5 ?_
      refine ti_length C hs2 hg1 hw ml_X10_199 hl.1 (Nat.le_of_ble_eq_true rfl) ⟨by decide, by decide⟩ ⟨Nat.zero_le _, Nat.zero_le _⟩ dX10_word_7 (fun H locs hw => ?_)
      refine sb_icmp_ge (tgt := 123) hx hb rfl (by decide : (125 : Int32).toInt = 125) dX10_word_10 (by decide) (fun c_10_9 => ?_) (fun c_10_9 => ?_)
      · refine lv_iconst (v := (-1)) hx hb dX10_word_123 (by decide) ?_
        exact hQ _ _ _ _ _ _ hw rfl (⟨rfl, by decide, by decide, Or.inl ⟨by decide, (by have q := pt_m25 j_7 (by omega) (by omega) (by omega); have q2 := j_8; rw [q] at q2; exact q2)⟩⟩) dX10_word_124
      · have hn25 := pt_n25 j_7 (by omega) (by omega) (by omega)
        have g1 := pt_s1 x_4.toInt.toNat (by omega)
        refine lv_iconst (v := 0) hx hb dX10_word_13 (by decide) ?_
        refine lv_istore_n (lv' := [(3, .int 0), (2, .int x_1), (1, .int x_4), (0, .ref (A 60 0))]) hx hb dX10_word_14 rfl hl (by decide) rfl (fun ls hl => ?_)
        have hl_15_16 : ∀ (n_17 : Nat) (x_11 : Int32) (H : Heap) (locs : List Loc) (ls : Array Slot), (125 - x_11.toInt : Int).toNat < n_17 → (0 ≤ x_11.toInt) → (x_11.toInt ≤ 124) → (x_11.toInt ≤ ((pt_ln.getD (x_4.toInt).toNat 0 : Nat) : Int)) → (∀ j : Nat, j < (x_11.toInt).toNat → pt_rB M ((tI M 60 22).toInt.toNat + j) = pt_rc (pt_st.getD (x_4.toInt).toNat 0 + j)) → (x_11.toInt + (tI M 60 22).toInt ≤ (tI M 60 21).toInt) → ti_H ti_LM D A cy H0 M H locs → lv_has ls 4 [(3, .int x_11), (2, .int x_1), (1, .int x_4), (0, .ref (A 60 0))] → W p l e (ti_rm 4) s m args below meth c H locs 0 0 Q (F0 m 15 ls []) := by
          intro n_17
          induction n_17 with
          | zero => intro x_11 H locs ls hf_17; exact absurd hf_17 (Nat.not_lt_zero _)
          | succ n_17 ih_17 =>
            intro x_11 H locs ls hf_17 b_12 b_13 j_14 j_15 j_16 hw hl
            refine va_ldcS hx hb C.2.2.2.1 hR2 dX10_word_15 ?_
            refine lv_iload_n hx hb dX10_word_17 rfl (lv_at hl 1 rfl) ?_
            refine lv_iload_n hx hb dX10_word_18 rfl (lv_at hl 0 rfl) ?_
            refine lv_iadd hx hb dX10_word_19 ?_
            refine lv_topi (fun x_18 ex_18 => ?_)
            have tx_18 : x_18.toInt = x_1.toInt + x_11.toInt := i_add ex_18 rfl rfl (by omega) (by omega)
            refine ti_charAt (n := 125) C hs2 hg1 hw ml_X10_204 hl.1 (Nat.le_of_ble_eq_true rfl) ⟨by decide, by decide⟩ ⟨Nat.zero_le _, Nat.zero_le _⟩ (by decide) (by omega) (by omega) dX10_word_20 (fun H locs hw => ?_)
            refine lv_topi (fun x_20 ex_20 => ?_)
            have bx_20 := i_and 8 ex_20 (by decide) (by decide)
            have rcx_20 : x_20.toInt = pt_rc (pt_st.getD x_4.toInt.toNat 0 + x_11.toInt.toNat) := pt_rcx (s := pt_st.getD x_4.toInt.toNat 0) (i := x_11.toInt.toNat) ex_20 (by omega)
            refine lv_bipush (v := 32) hx hb dX10_word_23 (by decide) ?_
            have hl_97_63 : ∀ (n_64 : Nat) (x_58 : Int32) (H : Heap) (locs : List Loc) (ls : Array Slot), (125 - x_58.toInt : Int).toNat < n_64 → (0 ≤ x_58.toInt) → (x_58.toInt ≤ 125) → (((pt_st.getD (x_4.toInt).toNat 0 : Nat) : Int) ≤ x_58.toInt) → (x_58.toInt ≤ ((pt_st.getD (x_4.toInt).toNat 0 + pt_ln.getD (x_4.toInt).toNat 0 : Nat) : Int)) → (¬ pt_mt (pt_rB M) (tI M 60 22).toInt.toNat (tI M 60 21).toInt.toNat (x_4.toInt).toNat) → ti_H ti_LM D A cy H0 M H locs → lv_has ls 4 [(3, .int x_11), (2, .int x_58), (1, .int x_4), (0, .ref (A 60 0))] → W p l e (ti_rm 4) s m args below meth c H locs 0 0 Q (F0 m 97 ls []) := by
              intro n_64
              induction n_64 with
              | zero => intro x_58 H locs ls hf_64; exact absurd hf_64 (Nat.not_lt_zero _)
              | succ n_64 ih_64 =>
                intro x_58 H locs ls hf_64 b_59 b_60 j_61 j_62 j_63 hw hl
                refine va_ldcS hx hb C.2.2.2.1 hR2 dX10_word_97 ?_
                refine lv_iload_n hx hb dX10_word_99 rfl (lv_at hl 1 rfl) ?_
                refine ti_charAt (n := 125) C hs2 hg1 hw ml_X10_204 hl.1 (Nat.le_of_ble_eq_true rfl) ⟨by decide, by decide⟩ ⟨Nat.zero_le _, Nat.zero_le _⟩ (by decide) (by omega) (by omega) dX10_word_100 (fun H locs hw => ?_)
                refine lv_topi (fun x_66 ex_66 => ?_)
                have bx_66 := i_and 8 ex_66 (by decide) (by decide)
                have ryx_66 := pt_rcy ex_66
                refine lv_bipush (v := 32) hx hb dX10_word_103 (by decide) ?_
                refine sb_icmp_eq (tgt := 114) hx hb rfl (by decide : (32 : Int32).toInt = 32) dX10_word_105 (by decide) (fun c_105_66 => ?_) (fun c_105_66 => ?_)
                · obtain ⟨x_69, ex_69⟩ : ∃ z : Int32, z = x_58 + 1 := ⟨_, rfl⟩
                  have tx_69 : x_69.toInt = x_58.toInt + 1 := i_add ex_69 rfl (by decide) (by omega) (by omega)
                  refine lv_iinc (v := x_69) (lv' := [(2, .int x_69), (3, .int x_11), (1, .int x_4), (0, .ref (A 60 0))]) hx hb dX10_word_114 hl (k := 1) rfl (by rw [ex_69]; rfl) (by decide) rfl (fun ls hl => ?_)
                  obtain ⟨x_70, ex_70⟩ : ∃ z : Int32, z = x_4 + 1 := ⟨_, rfl⟩
                  have tx_70 : x_70.toInt = x_4.toInt + 1 := i_add ex_70 rfl (by decide) (by omega) (by omega)
                  refine lv_iinc (v := x_70) (lv' := [(1, .int x_70), (2, .int x_69), (3, .int x_11), (0, .ref (A 60 0))]) hx hb dX10_word_117 hl (k := 2) rfl (by rw [ex_70]; rfl) (by decide) rfl (fun ls hl => ?_)
                  refine lv_goto (tgt := 4) hx hb dX10_word_120 (by decide) ?_
                  exact ih_9 x_69 x_70 _ _ _ (by omega) (by first | omega | decide) (by first | omega | decide) (by first | omega | decide) (by first | omega | decide) (by have q := pt_nx (n := x_4.toInt.toNat) (k := x_58.toInt.toNat) (by omega) (by omega) (by omega) (by rw [← ryx_66]; omega); rw [show x_70.toInt.toNat = x_4.toInt.toNat + 1 by omega, ← q]; omega) (fun w h => (Nat.lt_or_eq_of_le (show w ≤ x_4.toInt.toNat by omega)).elim (fun q => j_8 w q) (fun q => by rw [q]; exact j_63)) hw (lv_sub hl [1, 0, 3] rfl)
                · obtain ⟨x_68, ex_68⟩ : ∃ z : Int32, z = x_58 + 1 := ⟨_, rfl⟩
                  have tx_68 : x_68.toInt = x_58.toInt + 1 := i_add ex_68 rfl (by decide) (by omega) (by omega)
                  refine lv_iinc (v := x_68) (lv' := [(2, .int x_68), (3, .int x_11), (1, .int x_4), (0, .ref (A 60 0))]) hx hb dX10_word_108 hl (k := 1) rfl (by rw [ex_68]; rfl) (by decide) rfl (fun ls hl => ?_)
                  refine lv_goto (tgt := 97) hx hb dX10_word_111 (by decide) ?_
                  exact ih_64 x_68 _ _ _ (by omega) (by first | omega | decide) (by first | omega | decide) (by first | omega | decide) (by have q := pt_ny (n := x_4.toInt.toNat) (k := x_58.toInt.toNat) (by omega) (by omega) (by omega) (by rw [← ryx_66]; omega); omega) j_63 hw (lv_sub hl [1, 0, 2, 3] rfl)
            refine sb_icmp_eq (tgt := 69) hx hb rfl (by decide : (32 : Int32).toInt = 32) dX10_word_25 (by decide) (fun c_25_20 => ?_) (fun c_25_20 => ?_)
            · refine va_ldcS hx hb C.2.2.2.1 hR2 dX10_word_69 ?_
              refine lv_iload_n hx hb dX10_word_71 rfl (lv_at hl 1 rfl) ?_
              refine lv_iload_n hx hb dX10_word_72 rfl (lv_at hl 0 rfl) ?_
              refine lv_iadd hx hb dX10_word_73 ?_
              refine lv_topi (fun x_34 ex_34 => ?_)
              have tx_34 : x_34.toInt = x_1.toInt + x_11.toInt := i_add ex_34 rfl rfl (by omega) (by omega)
              refine ti_charAt (n := 125) C hs2 hg1 hw ml_X10_204 hl.1 (Nat.le_of_ble_eq_true rfl) ⟨by decide, by decide⟩ ⟨Nat.zero_le _, Nat.zero_le _⟩ (by decide) (by omega) (by omega) dX10_word_74 (fun H locs hw => ?_)
              refine lv_topi (fun x_36 ex_36 => ?_)
              have bx_36 := i_and 8 ex_36 (by decide) (by decide)
              have rcx_36 : x_36.toInt = pt_rc (pt_st.getD x_4.toInt.toNat 0 + x_11.toInt.toNat) := pt_rcx (s := pt_st.getD x_4.toInt.toNat 0) (i := x_11.toInt.toNat) ex_36 (by omega)
              refine lv_bipush (v := 32) hx hb dX10_word_77 (by decide) ?_
              refine sb_icmp_ne (tgt := 97) hx hb rfl (by decide : (32 : Int32).toInt = 32) dX10_word_79 (by decide) (fun c_79_36 => ?_) (fun c_79_36 => ?_)
              · exact hl_97_63 ((125 - x_1.toInt : Int).toNat + 1) x_1 _ _ _ (Nat.lt_succ_self _) (by first | omega | decide) (by first | omega | decide) (by first | omega | decide) (by omega) (pt_no (i := x_11.toInt.toNat) (by omega) (by omega) (by first | exact Or.inl ⟨by omega, by omega⟩ | exact Or.inr ⟨by omega, Or.inl (by omega)⟩ | exact Or.inr ⟨by omega, Or.inr (by omega)⟩)) hw (lv_sub hl [0, 1, 2, 3] rfl)
              · refine lv_aload_n hx hb dX10_word_82 rfl (lv_at hl 3 rfl) ?_
                refine ti_get (ci := 10) (k := 22) (N := 67) (T := TX10) C hw iw_10 rfl ob_60 (by decide) (by decide) fl_X10_170 rfl rfl dX10_word_83 ?_
                refine lv_topi (fun x_46 ex_46 => ?_)
                have bx_46 : 0 ≤ x_46.toInt ∧ x_46.toInt ≤ 700 := mI_rd hI ex_46
                have ux_46 : (tI M 60 22).toInt = x_46.toInt := by rw [ex_46]
                refine lv_iload_n hx hb dX10_word_86 rfl (lv_at hl 0 rfl) ?_
                refine lv_iadd hx hb dX10_word_87 ?_
                refine lv_topi (fun x_47 ex_47 => ?_)
                have tx_47 : x_47.toInt = x_46.toInt + x_11.toInt := i_add ex_47 rfl rfl (by omega) (by omega)
                refine lv_aload_n hx hb dX10_word_88 rfl (lv_at hl 3 rfl) ?_
                refine ti_get (ci := 10) (k := 21) (N := 67) (T := TX10) C hw iw_10 rfl ob_60 (by decide) (by decide) fl_X10_160 rfl rfl dX10_word_89 ?_
                refine lv_topi (fun x_48 ex_48 => ?_)
                have bx_48 : 0 ≤ x_48.toInt ∧ x_48.toInt ≤ 700 := mI_rd hI ex_48
                have ux_48 : (tI M 60 21).toInt = x_48.toInt := by rw [ex_48]
                refine sb_icmp_ne (tgt := 97) hx hb rfl rfl dX10_word_92 (by decide) (fun c_92_48 => ?_) (fun c_92_48 => ?_)
                · exact hl_97_63 ((125 - x_1.toInt : Int).toNat + 1) x_1 _ _ _ (Nat.lt_succ_self _) (by first | omega | decide) (by first | omega | decide) (by first | omega | decide) (by omega) (pt_no (i := x_11.toInt.toNat) (by omega) (by omega) (by first | exact Or.inl ⟨by omega, by omega⟩ | exact Or.inr ⟨by omega, Or.inl (by omega)⟩ | exact Or.inr ⟨by omega, Or.inr (by omega)⟩)) hw (lv_sub hl [0, 1, 2, 3] rfl)
                · refine lv_iload_n hx hb dX10_word_95 rfl (lv_at hl 2 rfl) ?_
                  exact hQ _ _ _ _ _ _ hw rfl (⟨rfl, by omega, by omega, Or.inr ⟨by omega, pt_is (i := x_11.toInt.toNat) (by omega) (by omega) (by rw [← rcx_36]; omega) (by omega) j_15⟩⟩) dX10_word_96
            · refine lv_aload_n hx hb dX10_word_28 rfl (lv_at hl 3 rfl) ?_
              refine ti_get (ci := 10) (k := 22) (N := 67) (T := TX10) C hw iw_10 rfl ob_60 (by decide) (by decide) fl_X10_170 rfl rfl dX10_word_29 ?_
              refine lv_topi (fun x_22 ex_22 => ?_)
              have bx_22 : 0 ≤ x_22.toInt ∧ x_22.toInt ≤ 700 := mI_rd hI ex_22
              have ux_22 : (tI M 60 22).toInt = x_22.toInt := by rw [ex_22]
              refine lv_iload_n hx hb dX10_word_32 rfl (lv_at hl 0 rfl) ?_
              refine lv_iadd hx hb dX10_word_33 ?_
              refine lv_topi (fun x_23 ex_23 => ?_)
              have tx_23 : x_23.toInt = x_22.toInt + x_11.toInt := i_add ex_23 rfl rfl (by omega) (by omega)
              refine lv_aload_n hx hb dX10_word_34 rfl (lv_at hl 3 rfl) ?_
              refine ti_get (ci := 10) (k := 21) (N := 67) (T := TX10) C hw iw_10 rfl ob_60 (by decide) (by decide) fl_X10_160 rfl rfl dX10_word_35 ?_
              refine lv_topi (fun x_24 ex_24 => ?_)
              have bx_24 : 0 ≤ x_24.toInt ∧ x_24.toInt ≤ 700 := mI_rd hI ex_24
              have ux_24 : (tI M 60 21).toInt = x_24.toInt := by rw [ex_24]
              refine sb_icmp_ge (tgt := 69) hx hb rfl rfl dX10_word_38 (by decide) (fun c_38_24 => ?_) (fun c_38_24 => ?_)
              · refine va_ldcS hx hb C.2.2.2.1 hR2 dX10_word_69 ?_
                refine lv_iload_n hx hb dX10_word_71 rfl (lv_at hl 1 rfl) ?_
                refine lv_iload_n hx hb dX10_word_72 rfl (lv_at hl 0 rfl) ?_
                refine lv_iadd hx hb dX10_word_73 ?_
                refine lv_topi (fun x_38 ex_38 => ?_)
                have tx_38 : x_38.toInt = x_1.toInt + x_11.toInt := i_add ex_38 rfl rfl (by omega) (by omega)
                refine ti_charAt (n := 125) C hs2 hg1 hw ml_X10_204 hl.1 (Nat.le_of_ble_eq_true rfl) ⟨by decide, by decide⟩ ⟨Nat.zero_le _, Nat.zero_le _⟩ (by decide) (by omega) (by omega) dX10_word_74 (fun H locs hw => ?_)
                refine lv_topi (fun x_40 ex_40 => ?_)
                have bx_40 := i_and 8 ex_40 (by decide) (by decide)
                have rcx_40 : x_40.toInt = pt_rc (pt_st.getD x_4.toInt.toNat 0 + x_11.toInt.toNat) := pt_rcx (s := pt_st.getD x_4.toInt.toNat 0) (i := x_11.toInt.toNat) ex_40 (by omega)
                refine lv_bipush (v := 32) hx hb dX10_word_77 (by decide) ?_
                refine sb_icmp_ne (tgt := 97) hx hb rfl (by decide : (32 : Int32).toInt = 32) dX10_word_79 (by decide) (fun c_79_40 => ?_) (fun c_79_40 => ?_)
                · exact hl_97_63 ((125 - x_1.toInt : Int).toNat + 1) x_1 _ _ _ (Nat.lt_succ_self _) (by first | omega | decide) (by first | omega | decide) (by first | omega | decide) (by omega) (pt_no (i := x_11.toInt.toNat) (by omega) (by omega) (by first | exact Or.inl ⟨by omega, by omega⟩ | exact Or.inr ⟨by omega, Or.inl (by omega)⟩ | exact Or.inr ⟨by omega, Or.inr (by omega)⟩)) hw (lv_sub hl [0, 1, 2, 3] rfl)
                · refine lv_aload_n hx hb dX10_word_82 rfl (lv_at hl 3 rfl) ?_
                  refine ti_get (ci := 10) (k := 22) (N := 67) (T := TX10) C hw iw_10 rfl ob_60 (by decide) (by decide) fl_X10_170 rfl rfl dX10_word_83 ?_
                  refine ti_top (y := x_22) (ex_22.symm) ?_
                  have u_50 : (tI M 60 22).toInt = (x_22 : Int32).toInt := by rw [(ex_22.symm)]
                  refine lv_iload_n hx hb dX10_word_86 rfl (lv_at hl 0 rfl) ?_
                  refine lv_iadd hx hb dX10_word_87 ?_
                  refine lv_topi (fun x_51 ex_51 => ?_)
                  have tx_51 : x_51.toInt = x_22.toInt + x_11.toInt := i_add ex_51 rfl rfl (by omega) (by omega)
                  refine lv_aload_n hx hb dX10_word_88 rfl (lv_at hl 3 rfl) ?_
                  refine ti_get (ci := 10) (k := 21) (N := 67) (T := TX10) C hw iw_10 rfl ob_60 (by decide) (by decide) fl_X10_160 rfl rfl dX10_word_89 ?_
                  refine ti_top (y := x_24) (ex_24.symm) ?_
                  have u_52 : (tI M 60 21).toInt = (x_24 : Int32).toInt := by rw [(ex_24.symm)]
                  refine sb_icmp_ne (tgt := 97) hx hb rfl rfl dX10_word_92 (by decide) (fun c_92_52 => ?_) (fun c_92_52 => ?_)
                  · exact hl_97_63 ((125 - x_1.toInt : Int).toNat + 1) x_1 _ _ _ (Nat.lt_succ_self _) (by first | omega | decide) (by first | omega | decide) (by first | omega | decide) (by omega) (pt_no (i := x_11.toInt.toNat) (by omega) (by omega) (by first | exact Or.inl ⟨by omega, by omega⟩ | exact Or.inr ⟨by omega, Or.inl (by omega)⟩ | exact Or.inr ⟨by omega, Or.inr (by omega)⟩)) hw (lv_sub hl [0, 1, 2, 3] rfl)
                  · refine lv_iload_n hx hb dX10_word_95 rfl (lv_at hl 2 rfl) ?_
                    exact hQ _ _ _ _ _ _ hw rfl (⟨rfl, by omega, by omega, Or.inr ⟨by omega, pt_is (i := x_11.toInt.toNat) (by omega) (by omega) (by rw [← rcx_40]; omega) (by omega) j_15⟩⟩) dX10_word_96
              · refine lv_aload_n hx hb dX10_word_41 rfl (lv_at hl 3 rfl) ?_
                refine ti_get (ci := 10) (k := 1) (N := 67) (T := TX10) (v := .ref (A 60 2)) C hw iw_10 rfl ob_60 (by decide) (by decide) fl_X10_7 rfl rfl dX10_word_42 ?_
                refine lv_aload_n hx hb dX10_word_45 rfl (lv_at hl 3 rfl) ?_
                refine ti_get (ci := 10) (k := 22) (N := 67) (T := TX10) C hw iw_10 rfl ob_60 (by decide) (by decide) fl_X10_170 rfl rfl dX10_word_46 ?_
                refine ti_top (y := x_22) (ex_22.symm) ?_
                have u_26 : (tI M 60 22).toInt = (x_22 : Int32).toInt := by rw [(ex_22.symm)]
                refine lv_iload_n hx hb dX10_word_49 rfl (lv_at hl 0 rfl) ?_
                refine lv_iadd hx hb dX10_word_50 ?_
                refine lv_topi (fun x_27 ex_27 => ?_)
                have tx_27 : x_27.toInt = x_22.toInt + x_11.toInt := i_add ex_27 rfl rfl (by omega) (by omega)
                refine ti_iald (ci := 10) (k := 1) (n := 700) C hw ob_60 (by decide) (fun _ _ => rfl) (vp_in_iff.mpr (by omega)) dX10_word_51 ?_
                refine lv_topi (fun x_28 ex_28 => ?_)
                have yx_28 : tY M 60 1 x_27.toNatClampNeg = x_28 := (ex_28.symm)
                have bx_28 : 0 ≤ x_28.toInt ∧ x_28.toInt ≤ 255 := mI_ry (k := 1) (i := x_27.toNatClampNeg) hI yx_28.symm
                have elx_28 : x_28.toInt = pt_rB M ((tI M 60 22).toInt.toNat + x_11.toInt.toNat) := pt_rbx (s := (tI M 60 22).toInt.toNat + x_11.toInt.toNat) yx_28 (by omega)
                refine va_ldcS hx hb C.2.2.2.1 hR2 dX10_word_52 ?_
                refine lv_iload_n hx hb dX10_word_54 rfl (lv_at hl 1 rfl) ?_
                refine lv_iload_n hx hb dX10_word_55 rfl (lv_at hl 0 rfl) ?_
                refine lv_iadd hx hb dX10_word_56 ?_
                refine lv_topi (fun x_29 ex_29 => ?_)
                have tx_29 : x_29.toInt = x_1.toInt + x_11.toInt := i_add ex_29 rfl rfl (by omega) (by omega)
                refine ti_charAt (n := 125) C hs2 hg1 hw ml_X10_204 hl.1 (Nat.le_of_ble_eq_true rfl) ⟨by decide, by decide⟩ ⟨Nat.zero_le _, Nat.zero_le _⟩ (by decide) (by omega) (by omega) dX10_word_57 (fun H locs hw => ?_)
                refine lv_topi (fun x_31 ex_31 => ?_)
                have bx_31 := i_and 8 ex_31 (by decide) (by decide)
                have rcx_31 : x_31.toInt = pt_rc (pt_st.getD x_4.toInt.toNat 0 + x_11.toInt.toNat) := pt_rcx (s := pt_st.getD x_4.toInt.toNat 0) (i := x_11.toInt.toNat) ex_31 (by omega)
                refine sb_icmp_ne (tgt := 69) hx hb rfl rfl dX10_word_60 (by decide) (fun c_60_31 => ?_) (fun c_60_31 => ?_)
                · refine va_ldcS hx hb C.2.2.2.1 hR2 dX10_word_69 ?_
                  refine lv_iload_n hx hb dX10_word_71 rfl (lv_at hl 1 rfl) ?_
                  refine lv_iload_n hx hb dX10_word_72 rfl (lv_at hl 0 rfl) ?_
                  refine lv_iadd hx hb dX10_word_73 ?_
                  refine lv_topi (fun x_42 ex_42 => ?_)
                  have tx_42 : x_42.toInt = x_1.toInt + x_11.toInt := i_add ex_42 rfl rfl (by omega) (by omega)
                  refine ti_charAt (n := 125) C hs2 hg1 hw ml_X10_204 hl.1 (Nat.le_of_ble_eq_true rfl) ⟨by decide, by decide⟩ ⟨Nat.zero_le _, Nat.zero_le _⟩ (by decide) (by omega) (by omega) dX10_word_74 (fun H locs hw => ?_)
                  refine lv_topi (fun x_44 ex_44 => ?_)
                  have bx_44 := i_and 8 ex_44 (by decide) (by decide)
                  have rcx_44 : x_44.toInt = pt_rc (pt_st.getD x_4.toInt.toNat 0 + x_11.toInt.toNat) := pt_rcx (s := pt_st.getD x_4.toInt.toNat 0) (i := x_11.toInt.toNat) ex_44 (by omega)
                  refine lv_bipush (v := 32) hx hb dX10_word_77 (by decide) ?_
                  refine sb_icmp_ne (tgt := 97) hx hb rfl (by decide : (32 : Int32).toInt = 32) dX10_word_79 (by decide) (fun c_79_44 => ?_) (fun c_79_44 => ?_)
                  · exact hl_97_63 ((125 - x_1.toInt : Int).toNat + 1) x_1 _ _ _ (Nat.lt_succ_self _) (by first | omega | decide) (by first | omega | decide) (by first | omega | decide) (by omega) (pt_no (i := x_11.toInt.toNat) (by omega) (by omega) (by first | exact Or.inl ⟨by omega, by omega⟩ | exact Or.inr ⟨by omega, Or.inl (by omega)⟩ | exact Or.inr ⟨by omega, Or.inr (by omega)⟩)) hw (lv_sub hl [0, 1, 2, 3] rfl)
                  · refine lv_aload_n hx hb dX10_word_82 rfl (lv_at hl 3 rfl) ?_
                    refine ti_get (ci := 10) (k := 22) (N := 67) (T := TX10) C hw iw_10 rfl ob_60 (by decide) (by decide) fl_X10_170 rfl rfl dX10_word_83 ?_
                    refine ti_top (y := x_22) (ex_22.symm) ?_
                    have u_54 : (tI M 60 22).toInt = (x_22 : Int32).toInt := by rw [(ex_22.symm)]
                    refine lv_iload_n hx hb dX10_word_86 rfl (lv_at hl 0 rfl) ?_
                    refine lv_iadd hx hb dX10_word_87 ?_
                    refine lv_topi (fun x_55 ex_55 => ?_)
                    have tx_55 : x_55.toInt = x_22.toInt + x_11.toInt := i_add ex_55 rfl rfl (by omega) (by omega)
                    refine lv_aload_n hx hb dX10_word_88 rfl (lv_at hl 3 rfl) ?_
                    refine ti_get (ci := 10) (k := 21) (N := 67) (T := TX10) C hw iw_10 rfl ob_60 (by decide) (by decide) fl_X10_160 rfl rfl dX10_word_89 ?_
                    refine ti_top (y := x_24) (ex_24.symm) ?_
                    have u_56 : (tI M 60 21).toInt = (x_24 : Int32).toInt := by rw [(ex_24.symm)]
                    refine sb_icmp_ne (tgt := 97) hx hb rfl rfl dX10_word_92 (by decide) (fun c_92_56 => ?_) (fun c_92_56 => ?_)
                    · exact hl_97_63 ((125 - x_1.toInt : Int).toNat + 1) x_1 _ _ _ (Nat.lt_succ_self _) (by first | omega | decide) (by first | omega | decide) (by first | omega | decide) (by omega) (pt_no (i := x_11.toInt.toNat) (by omega) (by omega) (by first | exact Or.inl ⟨by omega, by omega⟩ | exact Or.inr ⟨by omega, Or.inl (by omega)⟩ | exact Or.inr ⟨by omega, Or.inr (by omega)⟩)) hw (lv_sub hl [0, 1, 2, 3] rfl)
                    · refine lv_iload_n hx hb dX10_word_95 rfl (lv_at hl 2 rfl) ?_
                      exact hQ _ _ _ _ _ _ hw rfl (⟨rfl, by omega, by omega, Or.inr ⟨by omega, pt_is (i := x_11.toInt.toNat) (by omega) (by omega) (by rw [← rcx_44]; omega) (by omega) j_15⟩⟩) dX10_word_96
                · obtain ⟨x_33, ex_33⟩ : ∃ z : Int32, z = x_11 + 1 := ⟨_, rfl⟩
                  have tx_33 : x_33.toInt = x_11.toInt + 1 := i_add ex_33 rfl (by decide) (by omega) (by omega)
                  refine lv_iinc (v := x_33) (lv' := [(3, .int x_33), (2, .int x_1), (1, .int x_4), (0, .ref (A 60 0))]) hx hb dX10_word_63 hl (k := 0) rfl (by rw [ex_33]; rfl) (by decide) rfl (fun ls hl => ?_)
                  refine lv_goto (tgt := 15) hx hb dX10_word_66 (by decide) ?_
                  exact ih_17 x_33 _ _ _ (by omega) (by first | omega | decide) (by first | omega | decide) (by have q := pt_lt (w := x_4.toInt.toNat) (i := x_11.toInt.toNat) (by omega) (by omega) (by rw [← rcx_20]; omega); omega) (fun j h => (Nat.lt_or_eq_of_le (show j ≤ x_11.toInt.toNat by omega)).elim (fun q => j_15 j q) (fun q => by rw [q, ← elx_28, ← rcx_31]; exact c_60_31)) (by first | omega | decide) hw (lv_sub hl [0, 1, 2, 3] rfl)
        exact hl_15_16 ((125 - 0 : Int).toNat + 1) 0 _ _ _ (Nat.lt_succ_self _) (by have lt0 : (0 : Int32).toInt = 0 := (by decide); first | omega | decide) (by have lt0 : (0 : Int32).toInt = 0 := (by decide); first | omega | decide) (by rw [show (0 : Int32).toInt = 0 by decide]; exact Int.natCast_nonneg _) (fun j h => absurd h (by rw [show (0 : Int32).toInt = 0 by decide]; exact Nat.not_lt_zero _)) (by have lt0 : (0 : Int32).toInt = 0 := (by decide); first | omega | decide) hw (lv_sub hl [0, 1, 2, 3] rfl)
  exact hl_4_8 ((125 - 0 : Int).toNat + 1) 0 0 _ _ _ (Nat.lt_succ_self _) (by have lt0 : (0 : Int32).toInt = 0 := (by decide); first | omega | decide) (by have lt0 : (0 : Int32).toInt = 0 := (by decide); first | omega | decide) (by have lt0 : (0 : Int32).toInt = 0 := (by decide); first | omega | decide) (by have lt0 : (0 : Int32).toInt = 0 := (by decide); first | omega | decide) (by decide) (fun w h => absurd h (by rw [show (0 : Int32).toInt = 0 by decide]; exact Nat.not_lt_zero _)) hw (lv_sub hl [0, 1, 2] rfl)

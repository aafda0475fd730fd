variable {Tc : gC} {Tm : gM}
variable {Tc : gC} {Tm : gM}
set_option maxHeartbeats 4000000 in
set_option maxRecDepth 100000 in
theorem z_X10_runs (l : Launch) (D : va_G) (A : Nat → Nat → Nat) (cy : Nat → ClassId) (hJ : ti_inj ti_LM A) (M : ti_M) (hI : mI Tm M) (hC : mC M 1) (hL : mL M) (n : Int32) (tx rg : Nat → Int) (htr : tR tx M) (ht4 : 0 ≤ tx 4 ∧ tx 4 ≤ 8) (hr : qR (tx 4).toNat 1 rg M) (hV : qV (tx 4).toNat 1 rg M) (hwf : wF tx rg) (htw : tI M 60 53 = -1) (htW : tW tx) (h1 : rg 1 = 3) (h2 : 0 ≤ rg 2) (hn2 : rg 2 + n.toInt ≤ 2147483647) : ti_Kv l yX10_runs cX10_runs 3 7 ti_LM D A cy M [.ref (A 60 0), .int n] (fun M2 => eR 1 M2 M ∧ qR (tx 4).toNat 1 (bq_pl tx n.toInt.toNat rg) M2 ∧ qV (tx 4).toNat 1 (bq_pl tx n.toInt.toNat rg) M2 ∧ mI Tm M2 ∧ rq 1 M2 M ∧ mC M2 1) := by
  refine ti_eV yp_X10_runs hJ ti_LM_nd (Nat.le_of_ble_eq_true rfl) ?_
  intro p e s m args below meth c Q H0 C hQ hw ls hl
  have hx := C.1
  have hb := C.2.1
  have hl : lv_has ls 3 [(0, .ref (A 60 0)), (1, .int n)] := hl
  have hn := n.toInt_lt
  refine lv_iconst (v := 0) hx hb dX10_runs_0 (by decide) ?_
  refine lv_istore_n (lv' := [(2, .int 0), (0, .ref (A 60 0)), (1, .int n)]) hx hb dX10_runs_1 rfl hl (by decide) rfl (fun ls hl => ?_)
  have hl_2_13 : ∀ (n_14 : Nat) (x_1 : Int32) (M_3 : ti_M) (g_7 : Nat → Int) (H : Heap) (locs : List Loc) (ls : Array Slot), (n.toInt - x_1.toInt : Int).toNat < n_14 → (0 ≤ x_1.toInt) → (mI Tm M_3) → (rq 1 M_3 M) → (mC M_3 1) → (eR 1 M_3 M) → (qR (tx 4).toNat 1 g_7 M_3) → (bq_pl tx (n.toInt - (x_1.toInt)).toNat g_7 = bq_pl tx n.toInt.toNat rg) → (wF tx g_7) → (qV (tx 4).toNat 1 g_7 M_3) → (g_7 1 = 3) → (g_7 2 = rg 2 + x_1.toInt) → ti_H ti_LM D A cy H0 M_3 H locs → lv_has ls 3 [(2, .int x_1), (0, .ref (A 60 0)), (1, .int n)] → W p l e (ti_rm 7) s m args below meth c H locs 0 0 Q (F0 m 2 ls []) := by
    intro n_14
    induction n_14 with
    | zero => intro x_1 M_3 g_7 H locs ls hf_14; exact absurd hf_14 (Nat.not_lt_zero _)
    | succ n_14 ih_14 =>
      intro x_1 M_3 g_7 H locs ls hf_14 b_2 iM_3 f_4 f_5 f_6 hs_8 j_9 j_10 j_11 j_12 j_13 hw hl
      refine lv_iload_n hx hb dX10_runs_2 rfl (lv_at hl 0 rfl) ?_
      refine lv_iload_n hx hb dX10_runs_3 rfl (lv_at hl 2 rfl) ?_
      refine sb_icmp_ge (tgt := 19) hx hb rfl rfl dX10_runs_4 (by decide) (fun c_4_14 => ?_) (fun c_4_14 => ?_)
      · exact hQ _ _ _ _ _ hw (⟨f_6, (by rw [← j_9, show (n.toInt - x_1.toInt).toNat = 0 by omega]; exact hs_8), (by rw [← j_9, show (n.toInt - x_1.toInt).toNat = 0 by omega]; exact j_11), iM_3, f_4, f_5⟩) dX10_runs_19
      · refine lv_aload_n hx hb dX10_runs_7 rfl (lv_at hl 1 rfl) ?_
        refine lv_iconst (v := 1) hx hb dX10_runs_8 (by decide) ?_
        refine lv_iconst (v := 0) hx hb dX10_runs_9 (by decide) ?_
        refine ti_callVv (ci := 10) (av := [.int 1, .int 0]) C hw (z_X10_passes_1 l D A cy hJ M_3 iM_3 f_5 (mL_lw (lk_of f_4.1 f_4.2.1).1 hL) 0 tx g_7 (tR_lw htr (eR_lw (q := 1) f_6)) ht4 hs_8 j_11 j_10 ((f_6.1 53 (by decide)).trans htw) htW (Or.inr (by omega)) ⟨fun _ => by omega, fun _ => by decide⟩ (by omega)) ⟨ml_X10_407, ym_X10_passes, yv_X10_passes, yi_X10_passes, yc_X10_passes⟩ yd_X10_passes ob_60 (by decide) rfl rfl hl.1 (Nat.le_of_ble_eq_true rfl) ⟨by decide, by decide⟩ ⟨Nat.zero_le _, Nat.zero_le _⟩ dX10_runs_10 (fun M_17 H locs hp_17 hw => ?_)
        obtain ⟨erM_17, hrM_17, qvM_17, hqM_17⟩ := hp_17
        obtain ⟨iM_17, q_18, q_19⟩ := hqM_17
        obtain ⟨g_20, eg_20⟩ : ∃ z : Nat → Int, z = bq_ps tx g_7 := ⟨_, rfl⟩
        rw [← eg_20] at hrM_17
        have w1g_20 : g_20 1 = g_7 1 := by rw [eg_20]; exact ps_1
        have w2g_20 : g_20 2 = g_7 2 + 1 := by rw [eg_20, ps_2, bw_id (by omega) (by omega)]
        have wpg_20 : wF tx g_20 := by rw [eg_20]; exact wF_ps htW j_10
        rw [← eg_20] at qvM_17
        obtain ⟨x_21, ex_21⟩ : ∃ z : Int32, z = x_1 + 1 := ⟨_, rfl⟩
        have lox_21 := x_1.le_toInt
        have hix_21 := x_1.toInt_lt
        have tx_21 : x_21.toInt = x_1.toInt + 1 := i_add ex_21 rfl (by decide) (by omega) (by omega)
        refine lv_iinc (v := x_21) (lv' := [(2, .int x_21), (0, .ref (A 60 0)), (1, .int n)]) hx hb dX10_runs_13 hl (k := 0) rfl (by rw [ex_21]; rfl) (by decide) rfl (fun ls hl => ?_)
        refine lv_goto (tgt := 2) hx hb dX10_runs_16 (by decide) ?_
        exact ih_14 x_21 M_17 g_20 _ _ _ (by omega) (by first | omega | decide) iM_17 (rq.trans q_18 f_4) q_19 (eR.trans erM_17 f_6) hrM_17 (by rw [← j_9, pl_go (tx := tx) (s := g_7) (f := (n.toInt - x_1.toInt).toNat) (f' := (n.toInt - x_21.toInt).toNat) (by omega), ← eg_20]) wpg_20 qvM_17 (by first | omega | decide) (by first | omega | decide) hw (lv_sub hl [0, 1, 2] rfl)
  exact hl_2_13 ((n.toInt - 0 : Int).toNat + 1) 0 M rg _ _ _ (Nat.lt_succ_self _) (by have lt0 : (0 : Int32).toInt = 0 := (by decide); first | omega | decide) hI rq.refl hC eR.refl hr (congrArg (fun k => bq_pl tx k rg) (by have z0 : (0 : Int32).toInt = 0 := (by decide); omega)) hwf hV (by have lt0 : (0 : Int32).toInt = 0 := (by decide); first | omega | decide) (by have lt0 : (0 : Int32).toInt = 0 := (by decide); first | omega | decide) hw (lv_sub hl [0, 1, 2] rfl)

theorem ti_ntr {x y : Int32} (e : x = y) (h : ¬ y < 0) : ¬ x < 0 := by rw [e]; exact h
theorem ti_ixc {x : Int32} {c i N : Nat} (e : x = nI c + nI i) (h : c + i < N) (hN : N < 2 ^ 31) : vp_in x N := by
  rw [e, nI_add]; exact vp_in_nI h hN
theorem ti_ltn {i n : Nat} (h : ¬ nI n ≤ nI i) (hn : n < 2 ^ 31) (hi : i ≤ n) : i < n := by
  rcases Nat.lt_or_ge i n with q | q
  · exact q
  · exact absurd ((nI_leI hn (Nat.lt_of_le_of_lt hi hn)).mpr q) h
set_option maxHeartbeats 4000000 in
set_option maxRecDepth 100000 in
theorem k_copies_1 (l : Launch) (D : va_G) (A : Nat → Nat → Nat) (cy : Nat → ClassId) (hJ : ti_inj ti_LM A) (M : ti_M) (hF : ti_FM M)  : ti_Kv l yX10_copies cX10_copies 6 0 ti_LM D A cy M [.ref (A 60 0), .int 1, .int 0] (fun M2 => ti_FM M2 ∧ tY M2 60 34 1 = 0 ∧ tY M2 60 38 1 = 0 ∧ tY M2 60 49 5 = 2) := by
  refine ti_eV yp_X10_copies hJ ti_LM_nd (Nat.le_of_ble_eq_true rfl) ?_
  intro p e s m args below meth c Q H0 C hQ hw ls hl
  have hx := C.1
  have hb := C.2.1
  have hl : lv_has ls 6 [(0, .ref (A 60 0)), (1, .int 1), (2, .int 0)] := hl
  obtain ⟨m_taped, m_lf, m_lp, m_hi, m_un, m_st, m_kb, n0, n3, n5, n7, mi0, wa0, co0, ma0, pw0, pw1, pw2, sf, sto⟩ := id hF
  refine lv_aload_n hx hb dX10_copies_0 rfl (lv_at hl 0 rfl) ?_
  refine ti_get (ci := 10) (k := 34) (N := 67) (T := TX10) (v := .ref (A 60 35)) C hw iw_10 rfl ob_60 (by decide) (by decide) fl_X10_69 rfl rfl dX10_copies_1 ?_
  refine lv_iload_n hx hb dX10_copies_4 rfl (lv_at hl 1 rfl) ?_
  refine lv_aload_n hx hb dX10_copies_5 rfl (lv_at hl 0 rfl) ?_
  refine ti_get (ci := 10) (k := 34) (N := 67) (T := TX10) (v := .ref (A 60 35)) C hw iw_10 rfl ob_60 (by decide) (by decide) fl_X10_69 rfl rfl dX10_copies_6 ?_
  refine lv_iload_n hx hb dX10_copies_9 rfl (lv_at hl 2 rfl) ?_
  refine ti_iald (ci := 10) (k := 34) (n := 23) C hw ob_60 (by decide) (fun _ _ => rfl) (by unfold vp_in; decide) dX10_copies_10 ?_
  refine ti_top (y := 0) ((congrFun (rfl) 0).trans mi0) ?_
  refine ti_iastG (ci := 10) (k := 34) (n := 23) C hw ob_60 (by decide) (fun _ _ => rfl) (by unfold vp_in; decide) dX10_copies_11 (fun H locs g_1 eg_1 hw => ?_)
  refine lv_aload_n hx hb dX10_copies_12 rfl (lv_at hl 0 rfl) ?_
  refine ti_get (ci := 10) (k := 35) (N := 67) (T := TX10) (v := .ref (A 60 36)) C hw iw_10 rfl ob_60 (by decide) (by decide) fl_X10_72 rfl rfl dX10_copies_13 ?_
  refine lv_iload_n hx hb dX10_copies_16 rfl (lv_at hl 1 rfl) ?_
  refine lv_aload_n hx hb dX10_copies_17 rfl (lv_at hl 0 rfl) ?_
  refine ti_get (ci := 10) (k := 35) (N := 67) (T := TX10) (v := .ref (A 60 36)) C hw iw_10 rfl ob_60 (by decide) (by decide) fl_X10_72 rfl rfl dX10_copies_18 ?_
  refine lv_iload_n hx hb dX10_copies_21 rfl (lv_at hl 2 rfl) ?_
  refine ti_iald (ci := 10) (k := 35) (n := 23) C hw ob_60 (by decide) (fun _ _ => rfl) (by unfold vp_in; decide) dX10_copies_22 ?_
  refine ti_top (y := 200) ((congrFun ((tY_k _ _ _ _ (by decide)).trans rfl) 0).trans wa0) ?_
  refine ti_iastG (ci := 10) (k := 35) (n := 23) C hw ob_60 (by decide) (fun _ _ => rfl) (by unfold vp_in; decide) dX10_copies_23 (fun H locs g_2 eg_2 hw => ?_)
  refine lv_aload_n hx hb dX10_copies_24 rfl (lv_at hl 0 rfl) ?_
  refine ti_get (ci := 10) (k := 36) (N := 67) (T := TX10) (v := .ref (A 60 37)) C hw iw_10 rfl ob_60 (by decide) (by decide) fl_X10_75 rfl rfl dX10_copies_25 ?_
  refine lv_iload_n hx hb dX10_copies_28 rfl (lv_at hl 1 rfl) ?_
  refine lv_aload_n hx hb dX10_copies_29 rfl (lv_at hl 0 rfl) ?_
  refine ti_get (ci := 10) (k := 36) (N := 67) (T := TX10) (v := .ref (A 60 37)) C hw iw_10 rfl ob_60 (by decide) (by decide) fl_X10_75 rfl rfl dX10_copies_30 ?_
  refine lv_iload_n hx hb dX10_copies_33 rfl (lv_at hl 2 rfl) ?_
  refine ti_iald (ci := 10) (k := 36) (n := 23) C hw ob_60 (by decide) (fun _ _ => rfl) (by unfold vp_in; decide) dX10_copies_34 ?_
  refine lv_topi (fun x_3 ex_3 => ?_)
  refine ti_iastG (ci := 10) (k := 36) (n := 23) C hw ob_60 (by decide) (fun _ _ => rfl) (by unfold vp_in; decide) dX10_copies_35 (fun H locs g_4 eg_4 hw => ?_)
  refine lv_aload_n hx hb dX10_copies_36 rfl (lv_at hl 0 rfl) ?_
  refine ti_get (ci := 10) (k := 37) (N := 67) (T := TX10) (v := .ref (A 60 38)) C hw iw_10 rfl ob_60 (by decide) (by decide) fl_X10_78 rfl rfl dX10_copies_37 ?_
  refine lv_iload_n hx hb dX10_copies_40 rfl (lv_at hl 1 rfl) ?_
  refine lv_aload_n hx hb dX10_copies_41 rfl (lv_at hl 0 rfl) ?_
  refine ti_get (ci := 10) (k := 37) (N := 67) (T := TX10) (v := .ref (A 60 38)) C hw iw_10 rfl ob_60 (by decide) (by decide) fl_X10_78 rfl rfl dX10_copies_42 ?_
  refine lv_iload_n hx hb dX10_copies_45 rfl (lv_at hl 2 rfl) ?_
  refine ti_iald (ci := 10) (k := 37) (n := 23) C hw ob_60 (by decide) (fun _ _ => rfl) (by unfold vp_in; decide) dX10_copies_46 ?_
  refine ti_top (y := 0) ((congrFun ((tY_k _ _ _ _ (by decide)).trans ((tY_k _ _ _ _ (by decide)).trans ((tY_k _ _ _ _ (by decide)).trans rfl))) 0).trans co0) ?_
  refine ti_iastG (ci := 10) (k := 37) (n := 23) C hw ob_60 (by decide) (fun _ _ => rfl) (by unfold vp_in; decide) dX10_copies_47 (fun H locs g_5 eg_5 hw => ?_)
  refine lv_aload_n hx hb dX10_copies_48 rfl (lv_at hl 0 rfl) ?_
  refine ti_get (ci := 10) (k := 38) (N := 67) (T := TX10) (v := .ref (A 60 39)) C hw iw_10 rfl ob_60 (by decide) (by decide) fl_X10_81 rfl rfl dX10_copies_49 ?_
  refine lv_iload_n hx hb dX10_copies_52 rfl (lv_at hl 1 rfl) ?_
  refine lv_aload_n hx hb dX10_copies_53 rfl (lv_at hl 0 rfl) ?_
  refine ti_get (ci := 10) (k := 38) (N := 67) (T := TX10) (v := .ref (A 60 39)) C hw iw_10 rfl ob_60 (by decide) (by decide) fl_X10_81 rfl rfl dX10_copies_54 ?_
  refine lv_iload_n hx hb dX10_copies_57 rfl (lv_at hl 2 rfl) ?_
  refine ti_iald (ci := 10) (k := 38) (n := 23) C hw ob_60 (by decide) (fun _ _ => rfl) (by unfold vp_in; decide) dX10_copies_58 ?_
  refine ti_top (y := 0) ((congrFun ((tY_k _ _ _ _ (by decide)).trans ((tY_k _ _ _ _ (by decide)).trans ((tY_k _ _ _ _ (by decide)).trans ((tY_k _ _ _ _ (by decide)).trans rfl)))) 0).trans ma0) ?_
  refine ti_iastG (ci := 10) (k := 38) (n := 23) C hw ob_60 (by decide) (fun _ _ => rfl) (by unfold vp_in; decide) dX10_copies_59 (fun H locs g_6 eg_6 hw => ?_)
  refine lv_iconst (v := 0) hx hb dX10_copies_60 (by decide) ?_
  refine lv_istore_n (lv' := [(3, .int 0), (0, .ref (A 60 0)), (1, .int 1), (2, .int 0)]) hx hb dX10_copies_61 rfl hl (by decide) rfl (fun ls hl => ?_)
  suffices hloop : ∀ (n : Nat) (i : Nat) (Mx : ti_M) (H : Heap) (locs : List Loc) (ls : Array Slot), (8 < i + n) → (i ≤ 8) → (ti_FM Mx) → (tY Mx 60 34 1 = 0) → (tY Mx 60 38 1 = 0) → ti_H ti_LM D A cy H0 Mx H locs → lv_has ls 6 [(3, .int (nI i)), (0, .ref (A 60 0)), (1, .int 1), (2, .int 0)] → W p l e (ti_rm 0) s m args below meth c H locs 0 0 Q (F0 m 62 ls []) from hloop 9 0 (uY (uY (uY (uY (uY M 60 34 g_1) 60 35 g_2) 60 36 g_4) 60 37 g_5) 60 38 g_6) _ _ _ (by omega) (by omega) ⟨((tI_uY _ _ _ _ _ _).trans ((tI_uY _ _ _ _ _ _).trans ((tI_uY _ _ _ _ _ _).trans ((tI_uY _ _ _ _ _ _).trans ((tI_uY _ _ _ _ _ _).trans m_taped))))), ((tI_uY _ _ _ _ _ _).trans ((tI_uY _ _ _ _ _ _).trans ((tI_uY _ _ _ _ _ _).trans ((tI_uY _ _ _ _ _ _).trans ((tI_uY _ _ _ _ _ _).trans m_lf))))), ((tI_uY _ _ _ _ _ _).trans ((tI_uY _ _ _ _ _ _).trans ((tI_uY _ _ _ _ _ _).trans ((tI_uY _ _ _ _ _ _).trans ((tI_uY _ _ _ _ _ _).trans m_lp))))), ((tI_uY _ _ _ _ _ _).trans ((tI_uY _ _ _ _ _ _).trans ((tI_uY _ _ _ _ _ _).trans ((tI_uY _ _ _ _ _ _).trans ((tI_uY _ _ _ _ _ _).trans m_hi))))), ((tI_uY _ _ _ _ _ _).trans ((tI_uY _ _ _ _ _ _).trans ((tI_uY _ _ _ _ _ _).trans ((tI_uY _ _ _ _ _ _).trans ((tI_uY _ _ _ _ _ _).trans m_un))))), ((tI_uY _ _ _ _ _ _).trans ((tI_uY _ _ _ _ _ _).trans ((tI_uY _ _ _ _ _ _).trans ((tI_uY _ _ _ _ _ _).trans ((tI_uY _ _ _ _ _ _).trans m_st))))), ((tI_uY _ _ _ _ _ _).trans ((tI_uY _ _ _ _ _ _).trans ((tI_uY _ _ _ _ _ _).trans ((tI_uY _ _ _ _ _ _).trans ((tI_uY _ _ _ _ _ _).trans m_kb))))), ((congrFun ((tY_k _ _ _ _ (by decide)).trans ((tY_k _ _ _ _ (by decide)).trans ((tY_k _ _ _ _ (by decide)).trans ((tY_k _ _ _ _ (by decide)).trans ((tY_k _ _ _ _ (by decide)).trans rfl))))) 0).trans n0), ((congrFun ((tY_k _ _ _ _ (by decide)).trans ((tY_k _ _ _ _ (by decide)).trans ((tY_k _ _ _ _ (by decide)).trans ((tY_k _ _ _ _ (by decide)).trans ((tY_k _ _ _ _ (by decide)).trans rfl))))) 3).trans n3), ((congrFun ((tY_k _ _ _ _ (by decide)).trans ((tY_k _ _ _ _ (by decide)).trans ((tY_k _ _ _ _ (by decide)).trans ((tY_k _ _ _ _ (by decide)).trans ((tY_k _ _ _ _ (by decide)).trans rfl))))) 5).trans n5), ((congrFun ((tY_k _ _ _ _ (by decide)).trans ((tY_k _ _ _ _ (by decide)).trans ((tY_k _ _ _ _ (by decide)).trans ((tY_k _ _ _ _ (by decide)).trans ((tY_k _ _ _ _ (by decide)).trans rfl))))) 7).trans n7), ((congrFun ((tY_k _ _ _ _ (by decide)).trans ((tY_k _ _ _ _ (by decide)).trans ((tY_k _ _ _ _ (by decide)).trans ((tY_k _ _ _ _ (by decide)).trans (tY_u _ _ _ _))))) 0).trans ((congrFun eg_1 0).trans mi0)), ((congrFun ((tY_k _ _ _ _ (by decide)).trans ((tY_k _ _ _ _ (by decide)).trans ((tY_k _ _ _ _ (by decide)).trans (tY_u _ _ _ _)))) 0).trans ((congrFun eg_2 0).trans wa0)), ((congrFun ((tY_k _ _ _ _ (by decide)).trans (tY_u _ _ _ _)) 0).trans ((congrFun eg_5 0).trans co0)), ((congrFun (tY_u _ _ _ _) 0).trans ((congrFun eg_6 0).trans ma0)), ((congrFun ((tY_k _ _ _ _ (by decide)).trans ((tY_k _ _ _ _ (by decide)).trans ((tY_k _ _ _ _ (by decide)).trans ((tY_k _ _ _ _ (by decide)).trans ((tY_k _ _ _ _ (by decide)).trans rfl))))) 0).trans pw0), ((congrFun ((tY_k _ _ _ _ (by decide)).trans ((tY_k _ _ _ _ (by decide)).trans ((tY_k _ _ _ _ (by decide)).trans ((tY_k _ _ _ _ (by decide)).trans ((tY_k _ _ _ _ (by decide)).trans rfl))))) 1).trans pw1), ((congrFun ((tY_k _ _ _ _ (by decide)).trans ((tY_k _ _ _ _ (by decide)).trans ((tY_k _ _ _ _ (by decide)).trans ((tY_k _ _ _ _ (by decide)).trans ((tY_k _ _ _ _ (by decide)).trans rfl))))) 2).trans pw2), sf, sto⟩ ((congrFun ((tY_k _ _ _ _ (by decide)).trans ((tY_k _ _ _ _ (by decide)).trans ((tY_k _ _ _ _ (by decide)).trans ((tY_k _ _ _ _ (by decide)).trans (tY_u _ _ _ _))))) 1).trans ((congrFun eg_1 1).trans rfl)) ((congrFun (tY_u _ _ _ _) 1).trans ((congrFun eg_6 1).trans rfl)) hw (lv_sub hl [0, 1, 2, 3] rfl)
  clear hw hl ls
  intro n
  induction n with
  | zero => intro i Mx H locs ls hfuel hi hF c34 c38 hw hl; exact absurd hfuel (by omega)
  | succ n ih =>
    intro i Mx H locs ls hfuel hi hF c34 c38 hw hl
    obtain ⟨m_taped, m_lf, m_lp, m_hi, m_un, m_st, m_kb, n0, n3, n5, n7, mi0, wa0, co0, ma0, pw0, pw1, pw2, sf, sto⟩ := id hF
    refine lv_iload_n hx hb dX10_copies_62 rfl (lv_at hl 0 rfl) ?_
    refine lv_bipush (v := 8) hx hb dX10_copies_63 (by decide) ?_
    refine lv_icmp_ge (tgt := 230) hx hb dX10_copies_65 (by decide) (fun c_65 => ?_) (fun c_65 => ?_)
    · refine lv_iconst (v := 0) hx hb dX10_copies_230 (by decide) ?_
      refine lv_istore_n (lv' := [(3, .int 0), (0, .ref (A 60 0)), (1, .int 1), (2, .int 0)]) hx hb dX10_copies_231 rfl hl (by decide) rfl (fun ls hl => ?_)
      refine lv_iload_n hx hb dX10_copies_232 rfl (lv_at hl 0 rfl) ?_
      refine lv_iconst (v := 3) hx hb dX10_copies_233 (by decide) ?_
      refine lv_icmp_ge (tgt := 263) hx hb dX10_copies_234 (by decide) (fun c => absurd c (by decide)) (fun c_234 => ?_)
      refine lv_aload_n hx hb dX10_copies_237 rfl (lv_at hl 1 rfl) ?_
      refine ti_get (ci := 10) (k := 49) (N := 67) (T := TX10) (v := .ref (A 60 50)) C hw iw_10 rfl ob_60 (by decide) (by decide) fl_X10_114 rfl rfl dX10_copies_238 ?_
      refine lv_iconst (v := 3) hx hb dX10_copies_241 (by decide) ?_
      refine lv_iload_n hx hb dX10_copies_242 rfl (lv_at hl 2 rfl) ?_
      refine lv_imul hx hb dX10_copies_243 ?_
      refine ti_top (y := 3) (by decide) ?_
      refine lv_iload_n hx hb dX10_copies_244 rfl (lv_at hl 0 rfl) ?_
      refine lv_iadd hx hb dX10_copies_245 ?_
      refine ti_top (y := 3) (by decide) ?_
      refine lv_aload_n hx hb dX10_copies_246 rfl (lv_at hl 1 rfl) ?_
      refine ti_get (ci := 10) (k := 49) (N := 67) (T := TX10) (v := .ref (A 60 50)) C hw iw_10 rfl ob_60 (by decide) (by decide) fl_X10_114 rfl rfl dX10_copies_247 ?_
      refine lv_iconst (v := 3) hx hb dX10_copies_250 (by decide) ?_
      refine lv_iload_n hx hb dX10_copies_251 rfl (lv_at hl 3 rfl) ?_
      refine lv_imul hx hb dX10_copies_252 ?_
      refine ti_top (y := 0) (by decide) ?_
      refine lv_iload_n hx hb dX10_copies_253 rfl (lv_at hl 0 rfl) ?_
      refine lv_iadd hx hb dX10_copies_254 ?_
      refine ti_top (y := 0) (by decide) ?_
      refine ti_iald (ci := 10) (k := 49) (n := 69) C hw ob_60 (by decide) (fun _ _ => rfl) (by unfold vp_in; decide) dX10_copies_255 ?_
      refine ti_top (y := 0) ((congrFun (rfl) 0).trans pw0) ?_
      refine ti_iastG (ci := 10) (k := 49) (n := 69) C hw ob_60 (by decide) (fun _ _ => rfl) (by unfold vp_in; decide) dX10_copies_256 (fun H locs g_7 eg_7 hw => ?_)
      refine lv_iinc (v := 1) (lv' := [(3, .int 1), (0, .ref (A 60 0)), (1, .int 1), (2, .int 0)]) hx hb dX10_copies_257 hl (k := 0) rfl (by decide) (by decide) rfl (fun ls hl => ?_)
      refine lv_goto (tgt := 232) hx hb dX10_copies_260 (by decide) ?_
      refine lv_iload_n hx hb dX10_copies_232 rfl (lv_at hl 0 rfl) ?_
      refine lv_iconst (v := 3) hx hb dX10_copies_233 (by decide) ?_
      refine lv_icmp_ge (tgt := 263) hx hb dX10_copies_234 (by decide) (fun c => absurd c (by decide)) (fun c_234 => ?_)
      refine lv_aload_n hx hb dX10_copies_237 rfl (lv_at hl 1 rfl) ?_
      refine ti_get (ci := 10) (k := 49) (N := 67) (T := TX10) (v := .ref (A 60 50)) C hw iw_10 rfl ob_60 (by decide) (by decide) fl_X10_114 rfl rfl dX10_copies_238 ?_
      refine lv_iconst (v := 3) hx hb dX10_copies_241 (by decide) ?_
      refine lv_iload_n hx hb dX10_copies_242 rfl (lv_at hl 2 rfl) ?_
      refine lv_imul hx hb dX10_copies_243 ?_
      refine ti_top (y := 3) (by decide) ?_
      refine lv_iload_n hx hb dX10_copies_244 rfl (lv_at hl 0 rfl) ?_
      refine lv_iadd hx hb dX10_copies_245 ?_
      refine ti_top (y := 4) (by decide) ?_
      refine lv_aload_n hx hb dX10_copies_246 rfl (lv_at hl 1 rfl) ?_
      refine ti_get (ci := 10) (k := 49) (N := 67) (T := TX10) (v := .ref (A 60 50)) C hw iw_10 rfl ob_60 (by decide) (by decide) fl_X10_114 rfl rfl dX10_copies_247 ?_
      refine lv_iconst (v := 3) hx hb dX10_copies_250 (by decide) ?_
      refine lv_iload_n hx hb dX10_copies_251 rfl (lv_at hl 3 rfl) ?_
      refine lv_imul hx hb dX10_copies_252 ?_
      refine ti_top (y := 0) (by decide) ?_
      refine lv_iload_n hx hb dX10_copies_253 rfl (lv_at hl 0 rfl) ?_
      refine lv_iadd hx hb dX10_copies_254 ?_
      refine ti_top (y := 1) (by decide) ?_
      refine ti_iald (ci := 10) (k := 49) (n := 69) C hw ob_60 (by decide) (fun _ _ => rfl) (by unfold vp_in; decide) dX10_copies_255 ?_
      refine ti_top (y := 1) ((congrFun (tY_u _ _ _ _) 1).trans ((congrFun eg_7 1).trans pw1)) ?_
      refine ti_iastG (ci := 10) (k := 49) (n := 69) C hw ob_60 (by decide) (fun _ _ => rfl) (by unfold vp_in; decide) dX10_copies_256 (fun H locs g_8 eg_8 hw => ?_)
      refine lv_iinc (v := 2) (lv' := [(3, .int 2), (0, .ref (A 60 0)), (1, .int 1), (2, .int 0)]) hx hb dX10_copies_257 hl (k := 0) rfl (by decide) (by decide) rfl (fun ls hl => ?_)
      refine lv_goto (tgt := 232) hx hb dX10_copies_260 (by decide) ?_
      refine lv_iload_n hx hb dX10_copies_232 rfl (lv_at hl 0 rfl) ?_
      refine lv_iconst (v := 3) hx hb dX10_copies_233 (by decide) ?_
      refine lv_icmp_ge (tgt := 263) hx hb dX10_copies_234 (by decide) (fun c => absurd c (by decide)) (fun c_234 => ?_)
      refine lv_aload_n hx hb dX10_copies_237 rfl (lv_at hl 1 rfl) ?_
      refine ti_get (ci := 10) (k := 49) (N := 67) (T := TX10) (v := .ref (A 60 50)) C hw iw_10 rfl ob_60 (by decide) (by decide) fl_X10_114 rfl rfl dX10_copies_238 ?_
      refine lv_iconst (v := 3) hx hb dX10_copies_241 (by decide) ?_
      refine lv_iload_n hx hb dX10_copies_242 rfl (lv_at hl 2 rfl) ?_
      refine lv_imul hx hb dX10_copies_243 ?_
      refine ti_top (y := 3) (by decide) ?_
      refine lv_iload_n hx hb dX10_copies_244 rfl (lv_at hl 0 rfl) ?_
      refine lv_iadd hx hb dX10_copies_245 ?_
      refine ti_top (y := 5) (by decide) ?_
      refine lv_aload_n hx hb dX10_copies_246 rfl (lv_at hl 1 rfl) ?_
      refine ti_get (ci := 10) (k := 49) (N := 67) (T := TX10) (v := .ref (A 60 50)) C hw iw_10 rfl ob_60 (by decide) (by decide) fl_X10_114 rfl rfl dX10_copies_247 ?_
      refine lv_iconst (v := 3) hx hb dX10_copies_250 (by decide) ?_
      refine lv_iload_n hx hb dX10_copies_251 rfl (lv_at hl 3 rfl) ?_
      refine lv_imul hx hb dX10_copies_252 ?_
      refine ti_top (y := 0) (by decide) ?_
      refine lv_iload_n hx hb dX10_copies_253 rfl (lv_at hl 0 rfl) ?_
      refine lv_iadd hx hb dX10_copies_254 ?_
      refine ti_top (y := 2) (by decide) ?_
      refine ti_iald (ci := 10) (k := 49) (n := 69) C hw ob_60 (by decide) (fun _ _ => rfl) (by unfold vp_in; decide) dX10_copies_255 ?_
      refine ti_top (y := 2) ((congrFun (tY_u _ _ _ _) 2).trans ((congrFun eg_8 2).trans ((congrFun eg_7 2).trans pw2))) ?_
      refine ti_iastG (ci := 10) (k := 49) (n := 69) C hw ob_60 (by decide) (fun _ _ => rfl) (by unfold vp_in; decide) dX10_copies_256 (fun H locs g_9 eg_9 hw => ?_)
      refine lv_iinc (v := 3) (lv' := [(3, .int 3), (0, .ref (A 60 0)), (1, .int 1), (2, .int 0)]) hx hb dX10_copies_257 hl (k := 0) rfl (by decide) (by decide) rfl (fun ls hl => ?_)
      refine lv_goto (tgt := 232) hx hb dX10_copies_260 (by decide) ?_
      refine lv_iload_n hx hb dX10_copies_232 rfl (lv_at hl 0 rfl) ?_
      refine lv_iconst (v := 3) hx hb dX10_copies_233 (by decide) ?_
      refine lv_icmp_ge (tgt := 263) hx hb dX10_copies_234 (by decide) (fun c_234 => ?_) (fun c => absurd (by decide) c)
      exact hQ _ _ _ _ _ hw (⟨⟨((tI_uY _ _ _ _ _ _).trans ((tI_uY _ _ _ _ _ _).trans ((tI_uY _ _ _ _ _ _).trans m_taped))), ((tI_uY _ _ _ _ _ _).trans ((tI_uY _ _ _ _ _ _).trans ((tI_uY _ _ _ _ _ _).trans m_lf))), ((tI_uY _ _ _ _ _ _).trans ((tI_uY _ _ _ _ _ _).trans ((tI_uY _ _ _ _ _ _).trans m_lp))), ((tI_uY _ _ _ _ _ _).trans ((tI_uY _ _ _ _ _ _).trans ((tI_uY _ _ _ _ _ _).trans m_hi))), ((tI_uY _ _ _ _ _ _).trans ((tI_uY _ _ _ _ _ _).trans ((tI_uY _ _ _ _ _ _).trans m_un))), ((tI_uY _ _ _ _ _ _).trans ((tI_uY _ _ _ _ _ _).trans ((tI_uY _ _ _ _ _ _).trans m_st))), ((tI_uY _ _ _ _ _ _).trans ((tI_uY _ _ _ _ _ _).trans ((tI_uY _ _ _ _ _ _).trans m_kb))), ((congrFun ((tY_k _ _ _ _ (by decide)).trans ((tY_k _ _ _ _ (by decide)).trans ((tY_k _ _ _ _ (by decide)).trans rfl))) 0).trans n0), ((congrFun ((tY_k _ _ _ _ (by decide)).trans ((tY_k _ _ _ _ (by decide)).trans ((tY_k _ _ _ _ (by decide)).trans rfl))) 3).trans n3), ((congrFun ((tY_k _ _ _ _ (by decide)).trans ((tY_k _ _ _ _ (by decide)).trans ((tY_k _ _ _ _ (by decide)).trans rfl))) 5).trans n5), ((congrFun ((tY_k _ _ _ _ (by decide)).trans ((tY_k _ _ _ _ (by decide)).trans ((tY_k _ _ _ _ (by decide)).trans rfl))) 7).trans n7), ((congrFun ((tY_k _ _ _ _ (by decide)).trans ((tY_k _ _ _ _ (by decide)).trans ((tY_k _ _ _ _ (by decide)).trans rfl))) 0).trans mi0), ((congrFun ((tY_k _ _ _ _ (by decide)).trans ((tY_k _ _ _ _ (by decide)).trans ((tY_k _ _ _ _ (by decide)).trans rfl))) 0).trans wa0), ((congrFun ((tY_k _ _ _ _ (by decide)).trans ((tY_k _ _ _ _ (by decide)).trans ((tY_k _ _ _ _ (by decide)).trans rfl))) 0).trans co0), ((congrFun ((tY_k _ _ _ _ (by decide)).trans ((tY_k _ _ _ _ (by decide)).trans ((tY_k _ _ _ _ (by decide)).trans rfl))) 0).trans ma0), ((congrFun (tY_u _ _ _ _) 0).trans ((congrFun eg_9 0).trans ((congrFun eg_8 0).trans ((congrFun eg_7 0).trans pw0)))), ((congrFun (tY_u _ _ _ _) 1).trans ((congrFun eg_9 1).trans ((congrFun eg_8 1).trans ((congrFun eg_7 1).trans pw1)))), ((congrFun (tY_u _ _ _ _) 2).trans ((congrFun eg_9 2).trans ((congrFun eg_8 2).trans ((congrFun eg_7 2).trans pw2)))), sf, sto⟩, ((congrFun ((tY_k _ _ _ _ (by decide)).trans ((tY_k _ _ _ _ (by decide)).trans ((tY_k _ _ _ _ (by decide)).trans rfl))) 1).trans c34), ((congrFun ((tY_k _ _ _ _ (by decide)).trans ((tY_k _ _ _ _ (by decide)).trans ((tY_k _ _ _ _ (by decide)).trans rfl))) 1).trans c38), ((congrFun (tY_u _ _ _ _) 5).trans ((congrFun eg_9 5).trans rfl))⟩) dX10_copies_263
    · refine lv_bipush (v := 8) hx hb dX10_copies_68 (by decide) ?_
      refine lv_iload_n hx hb dX10_copies_70 rfl (lv_at hl 2 rfl) ?_
      refine lv_imul hx hb dX10_copies_71 ?_
      refine ti_top (y := 8) (by decide) ?_
      refine lv_iload_n hx hb dX10_copies_72 rfl (lv_at hl 0 rfl) ?_
      refine lv_iadd hx hb dX10_copies_73 ?_
      refine lv_topi (fun x_10 ex_10 => ?_)
      refine lv_istore (lv' := [(4, .int x_10), (3, .int (nI i)), (0, .ref (A 60 0)), (1, .int 1), (2, .int 0)]) hx hb dX10_copies_74 hl (by decide) rfl (fun ls hl => ?_)
      refine lv_bipush (v := 8) hx hb dX10_copies_76 (by decide) ?_
      refine lv_iload_n hx hb dX10_copies_78 rfl (lv_at hl 4 rfl) ?_
      refine lv_imul hx hb dX10_copies_79 ?_
      refine ti_top (y := 0) (by decide) ?_
      refine lv_iload_n hx hb dX10_copies_80 rfl (lv_at hl 1 rfl) ?_
      refine lv_iadd hx hb dX10_copies_81 ?_
      refine lv_topi (fun x_11 ex_11 => ?_)
      refine lv_istore (lv' := [(5, .int x_11), (4, .int x_10), (3, .int (nI i)), (0, .ref (A 60 0)), (1, .int 1), (2, .int 0)]) hx hb dX10_copies_82 hl (by decide) rfl (fun ls hl => ?_)
      refine lv_aload_n hx hb dX10_copies_84 rfl (lv_at hl 3 rfl) ?_
      refine ti_get (ci := 10) (k := 39) (N := 67) (T := TX10) (v := .ref (A 60 40)) C hw iw_10 rfl ob_60 (by decide) (by decide) fl_X10_84 rfl rfl dX10_copies_85 ?_
      refine lv_iload hx hb dX10_copies_88 (lv_at hl 1 rfl) ?_
      refine lv_aload_n hx hb dX10_copies_90 rfl (lv_at hl 3 rfl) ?_
      refine ti_get (ci := 10) (k := 39) (N := 67) (T := TX10) (v := .ref (A 60 40)) C hw iw_10 rfl ob_60 (by decide) (by decide) fl_X10_84 rfl rfl dX10_copies_91 ?_
      refine lv_iload hx hb dX10_copies_94 (lv_at hl 0 rfl) ?_
      refine ti_iald (ci := 10) (k := 39) (n := 184) C hw ob_60 (by decide) (fun _ _ => rfl) (ti_ixc (c := 0) (N := 184) ex_11 (by have := ti_ltn (n := 8) c_65 (by decide) hi; omega) (by decide)) dX10_copies_96 ?_
      refine lv_topi (fun x_12 ex_12 => ?_)
      refine ti_iastG (ci := 10) (k := 39) (n := 184) C hw ob_60 (by decide) (fun _ _ => rfl) (ti_ixc (c := 8) (N := 184) ex_10 (by have := ti_ltn (n := 8) c_65 (by decide) hi; omega) (by decide)) dX10_copies_97 (fun H locs g_13 eg_13 hw => ?_)
      refine lv_aload_n hx hb dX10_copies_98 rfl (lv_at hl 3 rfl) ?_
      refine ti_get (ci := 10) (k := 40) (N := 67) (T := TX10) (v := .ref (A 60 41)) C hw iw_10 rfl ob_60 (by decide) (by decide) fl_X10_87 rfl rfl dX10_copies_99 ?_
      refine lv_iload hx hb dX10_copies_102 (lv_at hl 1 rfl) ?_
      refine lv_aload_n hx hb dX10_copies_104 rfl (lv_at hl 3 rfl) ?_
      refine ti_get (ci := 10) (k := 40) (N := 67) (T := TX10) (v := .ref (A 60 41)) C hw iw_10 rfl ob_60 (by decide) (by decide) fl_X10_87 rfl rfl dX10_copies_105 ?_
      refine lv_iload hx hb dX10_copies_108 (lv_at hl 0 rfl) ?_
      refine ti_iald (ci := 10) (k := 40) (n := 184) C hw ob_60 (by decide) (fun _ _ => rfl) (ti_ixc (c := 0) (N := 184) ex_11 (by have := ti_ltn (n := 8) c_65 (by decide) hi; omega) (by decide)) dX10_copies_110 ?_
      refine lv_topi (fun x_14 ex_14 => ?_)
      refine ti_iastG (ci := 10) (k := 40) (n := 184) C hw ob_60 (by decide) (fun _ _ => rfl) (ti_ixc (c := 8) (N := 184) ex_10 (by have := ti_ltn (n := 8) c_65 (by decide) hi; omega) (by decide)) dX10_copies_111 (fun H locs g_15 eg_15 hw => ?_)
      refine lv_aload_n hx hb dX10_copies_112 rfl (lv_at hl 3 rfl) ?_
      refine ti_get (ci := 10) (k := 41) (N := 67) (T := TX10) (v := .ref (A 60 42)) C hw iw_10 rfl ob_60 (by decide) (by decide) fl_X10_90 rfl rfl dX10_copies_113 ?_
      refine lv_iload hx hb dX10_copies_116 (lv_at hl 1 rfl) ?_
      refine lv_aload_n hx hb dX10_copies_118 rfl (lv_at hl 3 rfl) ?_
      refine ti_get (ci := 10) (k := 41) (N := 67) (T := TX10) (v := .ref (A 60 42)) C hw iw_10 rfl ob_60 (by decide) (by decide) fl_X10_90 rfl rfl dX10_copies_119 ?_
      refine lv_iload hx hb dX10_copies_122 (lv_at hl 0 rfl) ?_
      refine ti_iald (ci := 10) (k := 41) (n := 184) C hw ob_60 (by decide) (fun _ _ => rfl) (ti_ixc (c := 0) (N := 184) ex_11 (by have := ti_ltn (n := 8) c_65 (by decide) hi; omega) (by decide)) dX10_copies_124 ?_
      refine lv_topi (fun x_16 ex_16 => ?_)
      refine ti_iastG (ci := 10) (k := 41) (n := 184) C hw ob_60 (by decide) (fun _ _ => rfl) (ti_ixc (c := 8) (N := 184) ex_10 (by have := ti_ltn (n := 8) c_65 (by decide) hi; omega) (by decide)) dX10_copies_125 (fun H locs g_17 eg_17 hw => ?_)
      refine lv_aload_n hx hb dX10_copies_126 rfl (lv_at hl 3 rfl) ?_
      refine ti_get (ci := 10) (k := 42) (N := 67) (T := TX10) (v := .ref (A 60 43)) C hw iw_10 rfl ob_60 (by decide) (by decide) fl_X10_93 rfl rfl dX10_copies_127 ?_
      refine lv_iload hx hb dX10_copies_130 (lv_at hl 1 rfl) ?_
      refine lv_aload_n hx hb dX10_copies_132 rfl (lv_at hl 3 rfl) ?_
      refine ti_get (ci := 10) (k := 42) (N := 67) (T := TX10) (v := .ref (A 60 43)) C hw iw_10 rfl ob_60 (by decide) (by decide) fl_X10_93 rfl rfl dX10_copies_133 ?_
      refine lv_iload hx hb dX10_copies_136 (lv_at hl 0 rfl) ?_
      refine ti_iald (ci := 10) (k := 42) (n := 184) C hw ob_60 (by decide) (fun _ _ => rfl) (ti_ixc (c := 0) (N := 184) ex_11 (by have := ti_ltn (n := 8) c_65 (by decide) hi; omega) (by decide)) dX10_copies_138 ?_
      refine lv_topi (fun x_18 ex_18 => ?_)
      refine ti_iastG (ci := 10) (k := 42) (n := 184) C hw ob_60 (by decide) (fun _ _ => rfl) (ti_ixc (c := 8) (N := 184) ex_10 (by have := ti_ltn (n := 8) c_65 (by decide) hi; omega) (by decide)) dX10_copies_139 (fun H locs g_19 eg_19 hw => ?_)
      refine lv_aload_n hx hb dX10_copies_140 rfl (lv_at hl 3 rfl) ?_
      refine ti_get (ci := 10) (k := 43) (N := 67) (T := TX10) (v := .ref (A 60 44)) C hw iw_10 rfl ob_60 (by decide) (by decide) fl_X10_96 rfl rfl dX10_copies_141 ?_
      refine lv_iload hx hb dX10_copies_144 (lv_at hl 1 rfl) ?_
      refine lv_aload_n hx hb dX10_copies_146 rfl (lv_at hl 3 rfl) ?_
      refine ti_get (ci := 10) (k := 43) (N := 67) (T := TX10) (v := .ref (A 60 44)) C hw iw_10 rfl ob_60 (by decide) (by decide) fl_X10_96 rfl rfl dX10_copies_147 ?_
      refine lv_iload hx hb dX10_copies_150 (lv_at hl 0 rfl) ?_
      refine ti_iald (ci := 10) (k := 43) (n := 184) C hw ob_60 (by decide) (fun _ _ => rfl) (ti_ixc (c := 0) (N := 184) ex_11 (by have := ti_ltn (n := 8) c_65 (by decide) hi; omega) (by decide)) dX10_copies_152 ?_
      refine lv_topi (fun x_20 ex_20 => ?_)
      refine ti_iastG (ci := 10) (k := 43) (n := 184) C hw ob_60 (by decide) (fun _ _ => rfl) (ti_ixc (c := 8) (N := 184) ex_10 (by have := ti_ltn (n := 8) c_65 (by decide) hi; omega) (by decide)) dX10_copies_153 (fun H locs g_21 eg_21 hw => ?_)
      refine lv_aload_n hx hb dX10_copies_154 rfl (lv_at hl 3 rfl) ?_
      refine ti_get (ci := 10) (k := 44) (N := 67) (T := TX10) (v := .ref (A 60 45)) C hw iw_10 rfl ob_60 (by decide) (by decide) fl_X10_99 rfl rfl dX10_copies_155 ?_
      refine lv_iload hx hb dX10_copies_158 (lv_at hl 1 rfl) ?_
      refine lv_aload_n hx hb dX10_copies_160 rfl (lv_at hl 3 rfl) ?_
      refine ti_get (ci := 10) (k := 44) (N := 67) (T := TX10) (v := .ref (A 60 45)) C hw iw_10 rfl ob_60 (by decide) (by decide) fl_X10_99 rfl rfl dX10_copies_161 ?_
      refine lv_iload hx hb dX10_copies_164 (lv_at hl 0 rfl) ?_
      refine ti_iald (ci := 10) (k := 44) (n := 184) C hw ob_60 (by decide) (fun _ _ => rfl) (ti_ixc (c := 0) (N := 184) ex_11 (by have := ti_ltn (n := 8) c_65 (by decide) hi; omega) (by decide)) dX10_copies_166 ?_
      refine lv_topi (fun x_22 ex_22 => ?_)
      refine ti_iastG (ci := 10) (k := 44) (n := 184) C hw ob_60 (by decide) (fun _ _ => rfl) (ti_ixc (c := 8) (N := 184) ex_10 (by have := ti_ltn (n := 8) c_65 (by decide) hi; omega) (by decide)) dX10_copies_167 (fun H locs g_23 eg_23 hw => ?_)
      refine lv_aload_n hx hb dX10_copies_168 rfl (lv_at hl 3 rfl) ?_
      refine ti_get (ci := 10) (k := 45) (N := 67) (T := TX10) (v := .ref (A 60 46)) C hw iw_10 rfl ob_60 (by decide) (by decide) fl_X10_102 rfl rfl dX10_copies_169 ?_
      refine lv_iload hx hb dX10_copies_172 (lv_at hl 1 rfl) ?_
      refine lv_aload_n hx hb dX10_copies_174 rfl (lv_at hl 3 rfl) ?_
      refine ti_get (ci := 10) (k := 45) (N := 67) (T := TX10) (v := .ref (A 60 46)) C hw iw_10 rfl ob_60 (by decide) (by decide) fl_X10_102 rfl rfl dX10_copies_175 ?_
      refine lv_iload hx hb dX10_copies_178 (lv_at hl 0 rfl) ?_
      refine ti_iald (ci := 10) (k := 45) (n := 184) C hw ob_60 (by decide) (fun _ _ => rfl) (ti_ixc (c := 0) (N := 184) ex_11 (by have := ti_ltn (n := 8) c_65 (by decide) hi; omega) (by decide)) dX10_copies_180 ?_
      refine lv_topi (fun x_24 ex_24 => ?_)
      refine ti_iastG (ci := 10) (k := 45) (n := 184) C hw ob_60 (by decide) (fun _ _ => rfl) (ti_ixc (c := 8) (N := 184) ex_10 (by have := ti_ltn (n := 8) c_65 (by decide) hi; omega) (by decide)) dX10_copies_181 (fun H locs g_25 eg_25 hw => ?_)
      refine lv_aload_n hx hb dX10_copies_182 rfl (lv_at hl 3 rfl) ?_
      refine ti_get (ci := 10) (k := 46) (N := 67) (T := TX10) (v := .ref (A 60 47)) C hw iw_10 rfl ob_60 (by decide) (by decide) fl_X10_105 rfl rfl dX10_copies_183 ?_
      refine lv_iload hx hb dX10_copies_186 (lv_at hl 1 rfl) ?_
      refine lv_aload_n hx hb dX10_copies_188 rfl (lv_at hl 3 rfl) ?_
      refine ti_get (ci := 10) (k := 46) (N := 67) (T := TX10) (v := .ref (A 60 47)) C hw iw_10 rfl ob_60 (by decide) (by decide) fl_X10_105 rfl rfl dX10_copies_189 ?_
      refine lv_iload hx hb dX10_copies_192 (lv_at hl 0 rfl) ?_
      refine ti_iald (ci := 10) (k := 46) (n := 184) C hw ob_60 (by decide) (fun _ _ => rfl) (ti_ixc (c := 0) (N := 184) ex_11 (by have := ti_ltn (n := 8) c_65 (by decide) hi; omega) (by decide)) dX10_copies_194 ?_
      refine lv_topi (fun x_26 ex_26 => ?_)
      refine ti_iastG (ci := 10) (k := 46) (n := 184) C hw ob_60 (by decide) (fun _ _ => rfl) (ti_ixc (c := 8) (N := 184) ex_10 (by have := ti_ltn (n := 8) c_65 (by decide) hi; omega) (by decide)) dX10_copies_195 (fun H locs g_27 eg_27 hw => ?_)
      refine lv_aload_n hx hb dX10_copies_196 rfl (lv_at hl 3 rfl) ?_
      refine ti_get (ci := 10) (k := 47) (N := 67) (T := TX10) (v := .ref (A 60 48)) C hw iw_10 rfl ob_60 (by decide) (by decide) fl_X10_108 rfl rfl dX10_copies_197 ?_
      refine lv_iload hx hb dX10_copies_200 (lv_at hl 1 rfl) ?_
      refine lv_aload_n hx hb dX10_copies_202 rfl (lv_at hl 3 rfl) ?_
      refine ti_get (ci := 10) (k := 47) (N := 67) (T := TX10) (v := .ref (A 60 48)) C hw iw_10 rfl ob_60 (by decide) (by decide) fl_X10_108 rfl rfl dX10_copies_203 ?_
      refine lv_iload hx hb dX10_copies_206 (lv_at hl 0 rfl) ?_
      refine ti_iald (ci := 10) (k := 47) (n := 184) C hw ob_60 (by decide) (fun _ _ => rfl) (ti_ixc (c := 0) (N := 184) ex_11 (by have := ti_ltn (n := 8) c_65 (by decide) hi; omega) (by decide)) dX10_copies_208 ?_
      refine lv_topi (fun x_28 ex_28 => ?_)
      refine ti_iastG (ci := 10) (k := 47) (n := 184) C hw ob_60 (by decide) (fun _ _ => rfl) (ti_ixc (c := 8) (N := 184) ex_10 (by have := ti_ltn (n := 8) c_65 (by decide) hi; omega) (by decide)) dX10_copies_209 (fun H locs g_29 eg_29 hw => ?_)
      refine lv_aload_n hx hb dX10_copies_210 rfl (lv_at hl 3 rfl) ?_
      refine ti_get (ci := 10) (k := 48) (N := 67) (T := TX10) (v := .ref (A 60 49)) C hw iw_10 rfl ob_60 (by decide) (by decide) fl_X10_111 rfl rfl dX10_copies_211 ?_
      refine lv_iload hx hb dX10_copies_214 (lv_at hl 1 rfl) ?_
      refine lv_aload_n hx hb dX10_copies_216 rfl (lv_at hl 3 rfl) ?_
      refine ti_get (ci := 10) (k := 48) (N := 67) (T := TX10) (v := .ref (A 60 49)) C hw iw_10 rfl ob_60 (by decide) (by decide) fl_X10_111 rfl rfl dX10_copies_217 ?_
      refine lv_iload hx hb dX10_copies_220 (lv_at hl 0 rfl) ?_
      refine ti_iald (ci := 10) (k := 48) (n := 184) C hw ob_60 (by decide) (fun _ _ => rfl) (ti_ixc (c := 0) (N := 184) ex_11 (by have := ti_ltn (n := 8) c_65 (by decide) hi; omega) (by decide)) dX10_copies_222 ?_
      refine lv_topi (fun x_30 ex_30 => ?_)
      refine ti_iastG (ci := 10) (k := 48) (n := 184) C hw ob_60 (by decide) (fun _ _ => rfl) (ti_ixc (c := 8) (N := 184) ex_10 (by have := ti_ltn (n := 8) c_65 (by decide) hi; omega) (by decide)) dX10_copies_223 (fun H locs g_31 eg_31 hw => ?_)
      refine lv_iinc (v := nI (i + 1)) (lv' := [(3, .int (nI (i + 1))), (5, .int x_11), (4, .int x_10), (0, .ref (A 60 0)), (1, .int 1), (2, .int 0)]) hx hb dX10_copies_224 hl (k := 2) rfl (nI_1 i) (by decide) rfl (fun ls hl => ?_)
      refine lv_goto (tgt := 62) hx hb dX10_copies_227 (by decide) ?_
      exact ih (i + 1) (uY (uY (uY (uY (uY (uY (uY (uY (uY (uY Mx 60 39 g_13) 60 40 g_15) 60 41 g_17) 60 42 g_19) 60 43 g_21) 60 44 g_23) 60 45 g_25) 60 46 g_27) 60 47 g_29) 60 48 g_31) _ _ _ (by omega) (ti_ltn (n := 8) c_65 (by decide) hi) ⟨((tI_uY _ _ _ _ _ _).trans ((tI_uY _ _ _ _ _ _).trans ((tI_uY _ _ _ _ _ _).trans ((tI_uY _ _ _ _ _ _).trans ((tI_uY _ _ _ _ _ _).trans ((tI_uY _ _ _ _ _ _).trans ((tI_uY _ _ _ _ _ _).trans ((tI_uY _ _ _ _ _ _).trans ((tI_uY _ _ _ _ _ _).trans ((tI_uY _ _ _ _ _ _).trans m_taped)))))))))), ((tI_uY _ _ _ _ _ _).trans ((tI_uY _ _ _ _ _ _).trans ((tI_uY _ _ _ _ _ _).trans ((tI_uY _ _ _ _ _ _).trans ((tI_uY _ _ _ _ _ _).trans ((tI_uY _ _ _ _ _ _).trans ((tI_uY _ _ _ _ _ _).trans ((tI_uY _ _ _ _ _ _).trans ((tI_uY _ _ _ _ _ _).trans ((tI_uY _ _ _ _ _ _).trans m_lf)))))))))), ((tI_uY _ _ _ _ _ _).trans ((tI_uY _ _ _ _ _ _).trans ((tI_uY _ _ _ _ _ _).trans ((tI_uY _ _ _ _ _ _).trans ((tI_uY _ _ _ _ _ _).trans ((tI_uY _ _ _ _ _ _).trans ((tI_uY _ _ _ _ _ _).trans ((tI_uY _ _ _ _ _ _).trans ((tI_uY _ _ _ _ _ _).trans ((tI_uY _ _ _ _ _ _).trans m_lp)))))))))), ((tI_uY _ _ _ _ _ _).trans ((tI_uY _ _ _ _ _ _).trans ((tI_uY _ _ _ _ _ _).trans ((tI_uY _ _ _ _ _ _).trans ((tI_uY _ _ _ _ _ _).trans ((tI_uY _ _ _ _ _ _).trans ((tI_uY _ _ _ _ _ _).trans ((tI_uY _ _ _ _ _ _).trans ((tI_uY _ _ _ _ _ _).trans ((tI_uY _ _ _ _ _ _).trans m_hi)))))))))), ((tI_uY _ _ _ _ _ _).trans ((tI_uY _ _ _ _ _ _).trans ((tI_uY _ _ _ _ _ _).trans ((tI_uY _ _ _ _ _ _).trans ((tI_uY _ _ _ _ _ _).trans ((tI_uY _ _ _ _ _ _).trans ((tI_uY _ _ _ _ _ _).trans ((tI_uY _ _ _ _ _ _).trans ((tI_uY _ _ _ _ _ _).trans ((tI_uY _ _ _ _ _ _).trans m_un)))))))))), ((tI_uY _ _ _ _ _ _).trans ((tI_uY _ _ _ _ _ _).trans ((tI_uY _ _ _ _ _ _).trans ((tI_uY _ _ _ _ _ _).trans ((tI_uY _ _ _ _ _ _).trans ((tI_uY _ _ _ _ _ _).trans ((tI_uY _ _ _ _ _ _).trans ((tI_uY _ _ _ _ _ _).trans ((tI_uY _ _ _ _ _ _).trans ((tI_uY _ _ _ _ _ _).trans m_st)))))))))), ((tI_uY _ _ _ _ _ _).trans ((tI_uY _ _ _ _ _ _).trans ((tI_uY _ _ _ _ _ _).trans ((tI_uY _ _ _ _ _ _).trans ((tI_uY _ _ _ _ _ _).trans ((tI_uY _ _ _ _ _ _).trans ((tI_uY _ _ _ _ _ _).trans ((tI_uY _ _ _ _ _ _).trans ((tI_uY _ _ _ _ _ _).trans ((tI_uY _ _ _ _ _ _).trans m_kb)))))))))), ((congrFun ((tY_k _ _ _ _ (by decide)).trans ((tY_k _ _ _ _ (by decide)).trans ((tY_k _ _ _ _ (by decide)).trans ((tY_k _ _ _ _ (by decide)).trans ((tY_k _ _ _ _ (by decide)).trans ((tY_k _ _ _ _ (by decide)).trans ((tY_k _ _ _ _ (by decide)).trans ((tY_k _ _ _ _ (by decide)).trans ((tY_k _ _ _ _ (by decide)).trans ((tY_k _ _ _ _ (by decide)).trans rfl)))))))))) 0).trans n0), ((congrFun ((tY_k _ _ _ _ (by decide)).trans ((tY_k _ _ _ _ (by decide)).trans ((tY_k _ _ _ _ (by decide)).trans ((tY_k _ _ _ _ (by decide)).trans ((tY_k _ _ _ _ (by decide)).trans ((tY_k _ _ _ _ (by decide)).trans ((tY_k _ _ _ _ (by decide)).trans ((tY_k _ _ _ _ (by decide)).trans ((tY_k _ _ _ _ (by decide)).trans ((tY_k _ _ _ _ (by decide)).trans rfl)))))))))) 3).trans n3), ((congrFun ((tY_k _ _ _ _ (by decide)).trans ((tY_k _ _ _ _ (by decide)).trans ((tY_k _ _ _ _ (by decide)).trans ((tY_k _ _ _ _ (by decide)).trans ((tY_k _ _ _ _ (by decide)).trans ((tY_k _ _ _ _ (by decide)).trans ((tY_k _ _ _ _ (by decide)).trans ((tY_k _ _ _ _ (by decide)).trans ((tY_k _ _ _ _ (by decide)).trans ((tY_k _ _ _ _ (by decide)).trans rfl)))))))))) 5).trans n5), ((congrFun ((tY_k _ _ _ _ (by decide)).trans ((tY_k _ _ _ _ (by decide)).trans ((tY_k _ _ _ _ (by decide)).trans ((tY_k _ _ _ _ (by decide)).trans ((tY_k _ _ _ _ (by decide)).trans ((tY_k _ _ _ _ (by decide)).trans ((tY_k _ _ _ _ (by decide)).trans ((tY_k _ _ _ _ (by decide)).trans ((tY_k _ _ _ _ (by decide)).trans ((tY_k _ _ _ _ (by decide)).trans rfl)))))))))) 7).trans n7), ((congrFun ((tY_k _ _ _ _ (by decide)).trans ((tY_k _ _ _ _ (by decide)).trans ((tY_k _ _ _ _ (by decide)).trans ((tY_k _ _ _ _ (by decide)).trans ((tY_k _ _ _ _ (by decide)).trans ((tY_k _ _ _ _ (by decide)).trans ((tY_k _ _ _ _ (by decide)).trans ((tY_k _ _ _ _ (by decide)).trans ((tY_k _ _ _ _ (by decide)).trans ((tY_k _ _ _ _ (by decide)).trans rfl)))))))))) 0).trans mi0), ((congrFun ((tY_k _ _ _ _ (by decide)).trans ((tY_k _ _ _ _ (by decide)).trans ((tY_k _ _ _ _ (by decide)).trans ((tY_k _ _ _ _ (by decide)).trans ((tY_k _ _ _ _ (by decide)).trans ((tY_k _ _ _ _ (by decide)).trans ((tY_k _ _ _ _ (by decide)).trans ((tY_k _ _ _ _ (by decide)).trans ((tY_k _ _ _ _ (by decide)).trans ((tY_k _ _ _ _ (by decide)).trans rfl)))))))))) 0).trans wa0), ((congrFun ((tY_k _ _ _ _ (by decide)).trans ((tY_k _ _ _ _ (by decide)).trans ((tY_k _ _ _ _ (by decide)).trans ((tY_k _ _ _ _ (by decide)).trans ((tY_k _ _ _ _ (by decide)).trans ((tY_k _ _ _ _ (by decide)).trans ((tY_k _ _ _ _ (by decide)).trans ((tY_k _ _ _ _ (by decide)).trans ((tY_k _ _ _ _ (by decide)).trans ((tY_k _ _ _ _ (by decide)).trans rfl)))))))))) 0).trans co0), ((congrFun ((tY_k _ _ _ _ (by decide)).trans ((tY_k _ _ _ _ (by decide)).trans ((tY_k _ _ _ _ (by decide)).trans ((tY_k _ _ _ _ (by decide)).trans ((tY_k _ _ _ _ (by decide)).trans ((tY_k _ _ _ _ (by decide)).trans ((tY_k _ _ _ _ (by decide)).trans ((tY_k _ _ _ _ (by decide)).trans ((tY_k _ _ _ _ (by decide)).trans ((tY_k _ _ _ _ (by decide)).trans rfl)))))))))) 0).trans ma0), ((congrFun ((tY_k _ _ _ _ (by decide)).trans ((tY_k _ _ _ _ (by decide)).trans ((tY_k _ _ _ _ (by decide)).trans ((tY_k _ _ _ _ (by decide)).trans ((tY_k _ _ _ _ (by decide)).trans ((tY_k _ _ _ _ (by decide)).trans ((tY_k _ _ _ _ (by decide)).trans ((tY_k _ _ _ _ (by decide)).trans ((tY_k _ _ _ _ (by decide)).trans ((tY_k _ _ _ _ (by decide)).trans rfl)))))))))) 0).trans pw0), ((congrFun ((tY_k _ _ _ _ (by decide)).trans ((tY_k _ _ _ _ (by decide)).trans ((tY_k _ _ _ _ (by decide)).trans ((tY_k _ _ _ _ (by decide)).trans ((tY_k _ _ _ _ (by decide)).trans ((tY_k _ _ _ _ (by decide)).trans ((tY_k _ _ _ _ (by decide)).trans ((tY_k _ _ _ _ (by decide)).trans ((tY_k _ _ _ _ (by decide)).trans ((tY_k _ _ _ _ (by decide)).trans rfl)))))))))) 1).trans pw1), ((congrFun ((tY_k _ _ _ _ (by decide)).trans ((tY_k _ _ _ _ (by decide)).trans ((tY_k _ _ _ _ (by decide)).trans ((tY_k _ _ _ _ (by decide)).trans ((tY_k _ _ _ _ (by decide)).trans ((tY_k _ _ _ _ (by decide)).trans ((tY_k _ _ _ _ (by decide)).trans ((tY_k _ _ _ _ (by decide)).trans ((tY_k _ _ _ _ (by decide)).trans ((tY_k _ _ _ _ (by decide)).trans rfl)))))))))) 2).trans pw2), sf, sto⟩ ((congrFun ((tY_k _ _ _ _ (by decide)).trans ((tY_k _ _ _ _ (by decide)).trans ((tY_k _ _ _ _ (by decide)).trans ((tY_k _ _ _ _ (by decide)).trans ((tY_k _ _ _ _ (by decide)).trans ((tY_k _ _ _ _ (by decide)).trans ((tY_k _ _ _ _ (by decide)).trans ((tY_k _ _ _ _ (by decide)).trans ((tY_k _ _ _ _ (by decide)).trans ((tY_k _ _ _ _ (by decide)).trans rfl)))))))))) 1).trans c34) ((congrFun ((tY_k _ _ _ _ (by decide)).trans ((tY_k _ _ _ _ (by decide)).trans ((tY_k _ _ _ _ (by decide)).trans ((tY_k _ _ _ _ (by decide)).trans ((tY_k _ _ _ _ (by decide)).trans ((tY_k _ _ _ _ (by decide)).trans ((tY_k _ _ _ _ (by decide)).trans ((tY_k _ _ _ _ (by decide)).trans ((tY_k _ _ _ _ (by decide)).trans ((tY_k _ _ _ _ (by decide)).trans rfl)))))))))) 1).trans c38) hw (lv_sub hl [0, 3, 4, 5] rfl)
set_option maxHeartbeats 4000000 in
set_option maxRecDepth 100000 in
theorem k_copies_2 (l : Launch) (D : va_G) (A : Nat → Nat → Nat) (cy : Nat → ClassId) (hJ : ti_inj ti_LM A) (M : ti_M) (hF : ti_FM M)  : ti_Kv l yX10_copies cX10_copies 6 0 ti_LM D A cy M [.ref (A 60 0), .int 2, .int 0] (fun M2 => ti_FM M2 ∧ tY M2 60 34 2 = 0 ∧ tY M2 60 38 2 = 0 ∧ tY M2 60 49 8 = 2) := by
  refine ti_eV yp_X10_copies hJ ti_LM_nd (Nat.le_of_ble_eq_true rfl) ?_
  intro p e s m args below meth c Q H0 C hQ hw ls hl
  have hx := C.1
  have hb := C.2.1
  have hl : lv_has ls 6 [(0, .ref (A 60 0)), (1, .int 2), (2, .int 0)] := hl
  obtain ⟨m_taped, m_lf, m_lp, m_hi, m_un, m_st, m_kb, n0, n3, n5, n7, mi0, wa0, co0, ma0, pw0, pw1, pw2, sf, sto⟩ := id hF
  refine lv_aload_n hx hb dX10_copies_0 rfl (lv_at hl 0 rfl) ?_
  refine ti_get (ci := 10) (k := 34) (N := 67) (T := TX10) (v := .ref (A 60 35)) C hw iw_10 rfl ob_60 (by decide) (by decide) fl_X10_69 rfl rfl dX10_copies_1 ?_
  refine lv_iload_n hx hb dX10_copies_4 rfl (lv_at hl 1 rfl) ?_
  refine lv_aload_n hx hb dX10_copies_5 rfl (lv_at hl 0 rfl) ?_
  refine ti_get (ci := 10) (k := 34) (N := 67) (T := TX10) (v := .ref (A 60 35)) C hw iw_10 rfl ob_60 (by decide) (by decide) fl_X10_69 rfl rfl dX10_copies_6 ?_
  refine lv_iload_n hx hb dX10_copies_9 rfl (lv_at hl 2 rfl) ?_
  refine ti_iald (ci := 10) (k := 34) (n := 23) C hw ob_60 (by decide) (fun _ _ => rfl) (by unfold vp_in; decide) dX10_copies_10 ?_
  refine ti_top (y := 0) ((congrFun (rfl) 0).trans mi0) ?_
  refine ti_iastG (ci := 10) (k := 34) (n := 23) C hw ob_60 (by decide) (fun _ _ => rfl) (by unfold vp_in; decide) dX10_copies_11 (fun H locs g_1 eg_1 hw => ?_)
  refine lv_aload_n hx hb dX10_copies_12 rfl (lv_at hl 0 rfl) ?_
  refine ti_get (ci := 10) (k := 35) (N := 67) (T := TX10) (v := .ref (A 60 36)) C hw iw_10 rfl ob_60 (by decide) (by decide) fl_X10_72 rfl rfl dX10_copies_13 ?_
  refine lv_iload_n hx hb dX10_copies_16 rfl (lv_at hl 1 rfl) ?_
  refine lv_aload_n hx hb dX10_copies_17 rfl (lv_at hl 0 rfl) ?_
  refine ti_get (ci := 10) (k := 35) (N := 67) (T := TX10) (v := .ref (A 60 36)) C hw iw_10 rfl ob_60 (by decide) (by decide) fl_X10_72 rfl rfl dX10_copies_18 ?_
  refine lv_iload_n hx hb dX10_copies_21 rfl (lv_at hl 2 rfl) ?_
  refine ti_iald (ci := 10) (k := 35) (n := 23) C hw ob_60 (by decide) (fun _ _ => rfl) (by unfold vp_in; decide) dX10_copies_22 ?_
  refine ti_top (y := 200) ((congrFun ((tY_k _ _ _ _ (by decide)).trans rfl) 0).trans wa0) ?_
  refine ti_iastG (ci := 10) (k := 35) (n := 23) C hw ob_60 (by decide) (fun _ _ => rfl) (by unfold vp_in; decide) dX10_copies_23 (fun H locs g_2 eg_2 hw => ?_)
  refine lv_aload_n hx hb dX10_copies_24 rfl (lv_at hl 0 rfl) ?_
  refine ti_get (ci := 10) (k := 36) (N := 67) (T := TX10) (v := .ref (A 60 37)) C hw iw_10 rfl ob_60 (by decide) (by decide) fl_X10_75 rfl rfl dX10_copies_25 ?_
  refine lv_iload_n hx hb dX10_copies_28 rfl (lv_at hl 1 rfl) ?_
  refine lv_aload_n hx hb dX10_copies_29 rfl (lv_at hl 0 rfl) ?_
  refine ti_get (ci := 10) (k := 36) (N := 67) (T := TX10) (v := .ref (A 60 37)) C hw iw_10 rfl ob_60 (by decide) (by decide) fl_X10_75 rfl rfl dX10_copies_30 ?_
  refine lv_iload_n hx hb dX10_copies_33 rfl (lv_at hl 2 rfl) ?_
  refine ti_iald (ci := 10) (k := 36) (n := 23) C hw ob_60 (by decide) (fun _ _ => rfl) (by unfold vp_in; decide) dX10_copies_34 ?_
  refine lv_topi (fun x_3 ex_3 => ?_)
  refine ti_iastG (ci := 10) (k := 36) (n := 23) C hw ob_60 (by decide) (fun _ _ => rfl) (by unfold vp_in; decide) dX10_copies_35 (fun H locs g_4 eg_4 hw => ?_)
  refine lv_aload_n hx hb dX10_copies_36 rfl (lv_at hl 0 rfl) ?_
  refine ti_get (ci := 10) (k := 37) (N := 67) (T := TX10) (v := .ref (A 60 38)) C hw iw_10 rfl ob_60 (by decide) (by decide) fl_X10_78 rfl rfl dX10_copies_37 ?_
  refine lv_iload_n hx hb dX10_copies_40 rfl (lv_at hl 1 rfl) ?_
  refine lv_aload_n hx hb dX10_copies_41 rfl (lv_at hl 0 rfl) ?_
  refine ti_get (ci := 10) (k := 37) (N := 67) (T := TX10) (v := .ref (A 60 38)) C hw iw_10 rfl ob_60 (by decide) (by decide) fl_X10_78 rfl rfl dX10_copies_42 ?_
  refine lv_iload_n hx hb dX10_copies_45 rfl (lv_at hl 2 rfl) ?_
  refine ti_iald (ci := 10) (k := 37) (n := 23) C hw ob_60 (by decide) (fun _ _ => rfl) (by unfold vp_in; decide) dX10_copies_46 ?_
  refine ti_top (y := 0) ((congrFun ((tY_k _ _ _ _ (by decide)).trans ((tY_k _ _ _ _ (by decide)).trans ((tY_k _ _ _ _ (by decide)).trans rfl))) 0).trans co0) ?_
  refine ti_iastG (ci := 10) (k := 37) (n := 23) C hw ob_60 (by decide) (fun _ _ => rfl) (by unfold vp_in; decide) dX10_copies_47 (fun H locs g_5 eg_5 hw => ?_)
  refine lv_aload_n hx hb dX10_copies_48 rfl (lv_at hl 0 rfl) ?_
  refine ti_get (ci := 10) (k := 38) (N := 67) (T := TX10) (v := .ref (A 60 39)) C hw iw_10 rfl ob_60 (by decide) (by decide) fl_X10_81 rfl rfl dX10_copies_49 ?_
  refine lv_iload_n hx hb dX10_copies_52 rfl (lv_at hl 1 rfl) ?_
  refine lv_aload_n hx hb dX10_copies_53 rfl (lv_at hl 0 rfl) ?_
  refine ti_get (ci := 10) (k := 38) (N := 67) (T := TX10) (v := .ref (A 60 39)) C hw iw_10 rfl ob_60 (by decide) (by decide) fl_X10_81 rfl rfl dX10_copies_54 ?_
  refine lv_iload_n hx hb dX10_copies_57 rfl (lv_at hl 2 rfl) ?_
  refine ti_iald (ci := 10) (k := 38) (n := 23) C hw ob_60 (by decide) (fun _ _ => rfl) (by unfold vp_in; decide) dX10_copies_58 ?_
  refine ti_top (y := 0) ((congrFun ((tY_k _ _ _ _ (by decide)).trans ((tY_k _ _ _ _ (by decide)).trans ((tY_k _ _ _ _ (by decide)).trans ((tY_k _ _ _ _ (by decide)).trans rfl)))) 0).trans ma0) ?_
  refine ti_iastG (ci := 10) (k := 38) (n := 23) C hw ob_60 (by decide) (fun _ _ => rfl) (by unfold vp_in; decide) dX10_copies_59 (fun H locs g_6 eg_6 hw => ?_)
  refine lv_iconst (v := 0) hx hb dX10_copies_60 (by decide) ?_
  refine lv_istore_n (lv' := [(3, .int 0), (0, .ref (A 60 0)), (1, .int 2), (2, .int 0)]) hx hb dX10_copies_61 rfl hl (by decide) rfl (fun ls hl => ?_)
  suffices hloop : ∀ (n : Nat) (i : Nat) (Mx : ti_M) (H : Heap) (locs : List Loc) (ls : Array Slot), (8 < i + n) → (i ≤ 8) → (ti_FM Mx) → (tY Mx 60 34 2 = 0) → (tY Mx 60 38 2 = 0) → ti_H ti_LM D A cy H0 Mx H locs → lv_has ls 6 [(3, .int (nI i)), (0, .ref (A 60 0)), (1, .int 2), (2, .int 0)] → W p l e (ti_rm 0) s m args below meth c H locs 0 0 Q (F0 m 62 ls []) from hloop 9 0 (uY (uY (uY (uY (uY M 60 34 g_1) 60 35 g_2) 60 36 g_4) 60 37 g_5) 60 38 g_6) _ _ _ (by omega) (by omega) ⟨((tI_uY _ _ _ _ _ _).trans ((tI_uY _ _ _ _ _ _).trans ((tI_uY _ _ _ _ _ _).trans ((tI_uY _ _ _ _ _ _).trans ((tI_uY _ _ _ _ _ _).trans m_taped))))), ((tI_uY _ _ _ _ _ _).trans ((tI_uY _ _ _ _ _ _).trans ((tI_uY _ _ _ _ _ _).trans ((tI_uY _ _ _ _ _ _).trans ((tI_uY _ _ _ _ _ _).trans m_lf))))), ((tI_uY _ _ _ _ _ _).trans ((tI_uY _ _ _ _ _ _).trans ((tI_uY _ _ _ _ _ _).trans ((tI_uY _ _ _ _ _ _).trans ((tI_uY _ _ _ _ _ _).trans m_lp))))), ((tI_uY _ _ _ _ _ _).trans ((tI_uY _ _ _ _ _ _).trans ((tI_uY _ _ _ _ _ _).trans ((tI_uY _ _ _ _ _ _).trans ((tI_uY _ _ _ _ _ _).trans m_hi))))), ((tI_uY _ _ _ _ _ _).trans ((tI_uY _ _ _ _ _ _).trans ((tI_uY _ _ _ _ _ _).trans ((tI_uY _ _ _ _ _ _).trans ((tI_uY _ _ _ _ _ _).trans m_un))))), ((tI_uY _ _ _ _ _ _).trans ((tI_uY _ _ _ _ _ _).trans ((tI_uY _ _ _ _ _ _).trans ((tI_uY _ _ _ _ _ _).trans ((tI_uY _ _ _ _ _ _).trans m_st))))), ((tI_uY _ _ _ _ _ _).trans ((tI_uY _ _ _ _ _ _).trans ((tI_uY _ _ _ _ _ _).trans ((tI_uY _ _ _ _ _ _).trans ((tI_uY _ _ _ _ _ _).trans m_kb))))), ((congrFun ((tY_k _ _ _ _ (by decide)).trans ((tY_k _ _ _ _ (by decide)).trans ((tY_k _ _ _ _ (by decide)).trans ((tY_k _ _ _ _ (by decide)).trans ((tY_k _ _ _ _ (by decide)).trans rfl))))) 0).trans n0), ((congrFun ((tY_k _ _ _ _ (by decide)).trans ((tY_k _ _ _ _ (by decide)).trans ((tY_k _ _ _ _ (by decide)).trans ((tY_k _ _ _ _ (by decide)).trans ((tY_k _ _ _ _ (by decide)).trans rfl))))) 3).trans n3), ((congrFun ((tY_k _ _ _ _ (by decide)).trans ((tY_k _ _ _ _ (by decide)).trans ((tY_k _ _ _ _ (by decide)).trans ((tY_k _ _ _ _ (by decide)).trans ((tY_k _ _ _ _ (by decide)).trans rfl))))) 5).trans n5), ((congrFun ((tY_k _ _ _ _ (by decide)).trans ((tY_k _ _ _ _ (by decide)).trans ((tY_k _ _ _ _ (by decide)).trans ((tY_k _ _ _ _ (by decide)).trans ((tY_k _ _ _ _ (by decide)).trans rfl))))) 7).trans n7), ((congrFun ((tY_k _ _ _ _ (by decide)).trans ((tY_k _ _ _ _ (by decide)).trans ((tY_k _ _ _ _ (by decide)).trans ((tY_k _ _ _ _ (by decide)).trans (tY_u _ _ _ _))))) 0).trans ((congrFun eg_1 0).trans mi0)), ((congrFun ((tY_k _ _ _ _ (by decide)).trans ((tY_k _ _ _ _ (by decide)).trans ((tY_k _ _ _ _ (by decide)).trans (tY_u _ _ _ _)))) 0).trans ((congrFun eg_2 0).trans wa0)), ((congrFun ((tY_k _ _ _ _ (by decide)).trans (tY_u _ _ _ _)) 0).trans ((congrFun eg_5 0).trans co0)), ((congrFun (tY_u _ _ _ _) 0).trans ((congrFun eg_6 0).trans ma0)), ((congrFun ((tY_k _ _ _ _ (by decide)).trans ((tY_k _ _ _ _ (by decide)).trans ((tY_k _ _ _ _ (by decide)).trans ((tY_k _ _ _ _ (by decide)).trans ((tY_k _ _ _ _ (by decide)).trans rfl))))) 0).trans pw0), ((congrFun ((tY_k _ _ _ _ (by decide)).trans ((tY_k _ _ _ _ (by decide)).trans ((tY_k _ _ _ _ (by decide)).trans ((tY_k _ _ _ _ (by decide)).trans ((tY_k _ _ _ _ (by decide)).trans rfl))))) 1).trans pw1), ((congrFun ((tY_k _ _ _ _ (by decide)).trans ((tY_k _ _ _ _ (by decide)).trans ((tY_k _ _ _ _ (by decide)).trans ((tY_k _ _ _ _ (by decide)).trans ((tY_k _ _ _ _ (by decide)).trans rfl))))) 2).trans pw2), sf, sto⟩ ((congrFun ((tY_k _ _ _ _ (by decide)).trans ((tY_k _ _ _ _ (by decide)).trans ((tY_k _ _ _ _ (by decide)).trans ((tY_k _ _ _ _ (by decide)).trans (tY_u _ _ _ _))))) 2).trans ((congrFun eg_1 2).trans rfl)) ((congrFun (tY_u _ _ _ _) 2).trans ((congrFun eg_6 2).trans rfl)) hw (lv_sub hl [0, 1, 2, 3] rfl)
  clear hw hl ls
  intro n
  induction n with
  | zero => intro i Mx H locs ls hfuel hi hF c34 c38 hw hl; exact absurd hfuel (by omega)
  | succ n ih =>
    intro i Mx H locs ls hfuel hi hF c34 c38 hw hl
    obtain ⟨m_taped, m_lf, m_lp, m_hi, m_un, m_st, m_kb, n0, n3, n5, n7, mi0, wa0, co0, ma0, pw0, pw1, pw2, sf, sto⟩ := id hF
    refine lv_iload_n hx hb dX10_copies_62 rfl (lv_at hl 0 rfl) ?_
    refine lv_bipush (v := 8) hx hb dX10_copies_63 (by decide) ?_
    refine lv_icmp_ge (tgt := 230) hx hb dX10_copies_65 (by decide) (fun c_65 => ?_) (fun c_65 => ?_)
    · refine lv_iconst (v := 0) hx hb dX10_copies_230 (by decide) ?_
      refine lv_istore_n (lv' := [(3, .int 0), (0, .ref (A 60 0)), (1, .int 2), (2, .int 0)]) hx hb dX10_copies_231 rfl hl (by decide) rfl (fun ls hl => ?_)
      refine lv_iload_n hx hb dX10_copies_232 rfl (lv_at hl 0 rfl) ?_
      refine lv_iconst (v := 3) hx hb dX10_copies_233 (by decide) ?_
      refine lv_icmp_ge (tgt := 263) hx hb dX10_copies_234 (by decide) (fun c => absurd c (by decide)) (fun c_234 => ?_)
      refine lv_aload_n hx hb dX10_copies_237 rfl (lv_at hl 1 rfl) ?_
      refine ti_get (ci := 10) (k := 49) (N := 67) (T := TX10) (v := .ref (A 60 50)) C hw iw_10 rfl ob_60 (by decide) (by decide) fl_X10_114 rfl rfl dX10_copies_238 ?_
      refine lv_iconst (v := 3) hx hb dX10_copies_241 (by decide) ?_
      refine lv_iload_n hx hb dX10_copies_242 rfl (lv_at hl 2 rfl) ?_
      refine lv_imul hx hb dX10_copies_243 ?_
      refine ti_top (y := 6) (by decide) ?_
      refine lv_iload_n hx hb dX10_copies_244 rfl (lv_at hl 0 rfl) ?_
      refine lv_iadd hx hb dX10_copies_245 ?_
      refine ti_top (y := 6) (by decide) ?_
      refine lv_aload_n hx hb dX10_copies_246 rfl (lv_at hl 1 rfl) ?_
      refine ti_get (ci := 10) (k := 49) (N := 67) (T := TX10) (v := .ref (A 60 50)) C hw iw_10 rfl ob_60 (by decide) (by decide) fl_X10_114 rfl rfl dX10_copies_247 ?_
      refine lv_iconst (v := 3) hx hb dX10_copies_250 (by decide) ?_
      refine lv_iload_n hx hb dX10_copies_251 rfl (lv_at hl 3 rfl) ?_
      refine lv_imul hx hb dX10_copies_252 ?_
      refine ti_top (y := 0) (by decide) ?_
      refine lv_iload_n hx hb dX10_copies_253 rfl (lv_at hl 0 rfl) ?_
      refine lv_iadd hx hb dX10_copies_254 ?_
      refine ti_top (y := 0) (by decide) ?_
      refine ti_iald (ci := 10) (k := 49) (n := 69) C hw ob_60 (by decide) (fun _ _ => rfl) (by unfold vp_in; decide) dX10_copies_255 ?_
      refine ti_top (y := 0) ((congrFun (rfl) 0).trans pw0) ?_
      refine ti_iastG (ci := 10) (k := 49) (n := 69) C hw ob_60 (by decide) (fun _ _ => rfl) (by unfold vp_in; decide) dX10_copies_256 (fun H locs g_7 eg_7 hw => ?_)
      refine lv_iinc (v := 1) (lv' := [(3, .int 1), (0, .ref (A 60 0)), (1, .int 2), (2, .int 0)]) hx hb dX10_copies_257 hl (k := 0) rfl (by decide) (by decide) rfl (fun ls hl => ?_)
      refine lv_goto (tgt := 232) hx hb dX10_copies_260 (by decide) ?_
      refine lv_iload_n hx hb dX10_copies_232 rfl (lv_at hl 0 rfl) ?_
      refine lv_iconst (v := 3) hx hb dX10_copies_233 (by decide) ?_
      refine lv_icmp_ge (tgt := 263) hx hb dX10_copies_234 (by decide) (fun c => absurd c (by decide)) (fun c_234 => ?_)
      refine lv_aload_n hx hb dX10_copies_237 rfl (lv_at hl 1 rfl) ?_
      refine ti_get (ci := 10) (k := 49) (N := 67) (T := TX10) (v := .ref (A 60 50)) C hw iw_10 rfl ob_60 (by decide) (by decide) fl_X10_114 rfl rfl dX10_copies_238 ?_
      refine lv_iconst (v := 3) hx hb dX10_copies_241 (by decide) ?_
      refine lv_iload_n hx hb dX10_copies_242 rfl (lv_at hl 2 rfl) ?_
      refine lv_imul hx hb dX10_copies_243 ?_
      refine ti_top (y := 6) (by decide) ?_
      refine lv_iload_n hx hb dX10_copies_244 rfl (lv_at hl 0 rfl) ?_
      refine lv_iadd hx hb dX10_copies_245 ?_
      refine ti_top (y := 7) (by decide) ?_
      refine lv_aload_n hx hb dX10_copies_246 rfl (lv_at hl 1 rfl) ?_
      refine ti_get (ci := 10) (k := 49) (N := 67) (T := TX10) (v := .ref (A 60 50)) C hw iw_10 rfl ob_60 (by decide) (by decide) fl_X10_114 rfl rfl dX10_copies_247 ?_
      refine lv_iconst (v := 3) hx hb dX10_copies_250 (by decide) ?_
      refine lv_iload_n hx hb dX10_copies_251 rfl (lv_at hl 3 rfl) ?_
      refine lv_imul hx hb dX10_copies_252 ?_
      refine ti_top (y := 0) (by decide) ?_
      refine lv_iload_n hx hb dX10_copies_253 rfl (lv_at hl 0 rfl) ?_
      refine lv_iadd hx hb dX10_copies_254 ?_
      refine ti_top (y := 1) (by decide) ?_
      refine ti_iald (ci := 10) (k := 49) (n := 69) C hw ob_60 (by decide) (fun _ _ => rfl) (by unfold vp_in; decide) dX10_copies_255 ?_
      refine ti_top (y := 1) ((congrFun (tY_u _ _ _ _) 1).trans ((congrFun eg_7 1).trans pw1)) ?_
      refine ti_iastG (ci := 10) (k := 49) (n := 69) C hw ob_60 (by decide) (fun _ _ => rfl) (by unfold vp_in; decide) dX10_copies_256 (fun H locs g_8 eg_8 hw => ?_)
      refine lv_iinc (v := 2) (lv' := [(3, .int 2), (0, .ref (A 60 0)), (1, .int 2), (2, .int 0)]) hx hb dX10_copies_257 hl (k := 0) rfl (by decide) (by decide) rfl (fun ls hl => ?_)
      refine lv_goto (tgt := 232) hx hb dX10_copies_260 (by decide) ?_
      refine lv_iload_n hx hb dX10_copies_232 rfl (lv_at hl 0 rfl) ?_
      refine lv_iconst (v := 3) hx hb dX10_copies_233 (by decide) ?_
      refine lv_icmp_ge (tgt := 263) hx hb dX10_copies_234 (by decide) (fun c => absurd c (by decide)) (fun c_234 => ?_)
      refine lv_aload_n hx hb dX10_copies_237 rfl (lv_at hl 1 rfl) ?_
      refine ti_get (ci := 10) (k := 49) (N := 67) (T := TX10) (v := .ref (A 60 50)) C hw iw_10 rfl ob_60 (by decide) (by decide) fl_X10_114 rfl rfl dX10_copies_238 ?_
      refine lv_iconst (v := 3) hx hb dX10_copies_241 (by decide) ?_
      refine lv_iload_n hx hb dX10_copies_242 rfl (lv_at hl 2 rfl) ?_
      refine lv_imul hx hb dX10_copies_243 ?_
      refine ti_top (y := 6) (by decide) ?_
      refine lv_iload_n hx hb dX10_copies_244 rfl (lv_at hl 0 rfl) ?_
      refine lv_iadd hx hb dX10_copies_245 ?_
      refine ti_top (y := 8) (by decide) ?_
      refine lv_aload_n hx hb dX10_copies_246 rfl (lv_at hl 1 rfl) ?_
      refine ti_get (ci := 10) (k := 49) (N := 67) (T := TX10) (v := .ref (A 60 50)) C hw iw_10 rfl ob_60 (by decide) (by decide) fl_X10_114 rfl rfl dX10_copies_247 ?_
      refine lv_iconst (v := 3) hx hb dX10_copies_250 (by decide) ?_
      refine lv_iload_n hx hb dX10_copies_251 rfl (lv_at hl 3 rfl) ?_
      refine lv_imul hx hb dX10_copies_252 ?_
      refine ti_top (y := 0) (by decide) ?_
      refine lv_iload_n hx hb dX10_copies_253 rfl (lv_at hl 0 rfl) ?_
      refine lv_iadd hx hb dX10_copies_254 ?_
      refine ti_top (y := 2) (by decide) ?_
      refine ti_iald (ci := 10) (k := 49) (n := 69) C hw ob_60 (by decide) (fun _ _ => rfl) (by unfold vp_in; decide) dX10_copies_255 ?_
      refine ti_top (y := 2) ((congrFun (tY_u _ _ _ _) 2).trans ((congrFun eg_8 2).trans ((congrFun eg_7 2).trans pw2))) ?_
      refine ti_iastG (ci := 10) (k := 49) (n := 69) C hw ob_60 (by decide) (fun _ _ => rfl) (by unfold vp_in; decide) dX10_copies_256 (fun H locs g_9 eg_9 hw => ?_)
      refine lv_iinc (v := 3) (lv' := [(3, .int 3), (0, .ref (A 60 0)), (1, .int 2), (2, .int 0)]) hx hb dX10_copies_257 hl (k := 0) rfl (by decide) (by decide) rfl (fun ls hl => ?_)
      refine lv_goto (tgt := 232) hx hb dX10_copies_260 (by decide) ?_
      refine lv_iload_n hx hb dX10_copies_232 rfl (lv_at hl 0 rfl) ?_
      refine lv_iconst (v := 3) hx hb dX10_copies_233 (by decide) ?_
      refine lv_icmp_ge (tgt := 263) hx hb dX10_copies_234 (by decide) (fun c_234 => ?_) (fun c => absurd (by decide) c)
      exact hQ _ _ _ _ _ hw (⟨⟨((tI_uY _ _ _ _ _ _).trans ((tI_uY _ _ _ _ _ _).trans ((tI_uY _ _ _ _ _ _).trans m_taped))), ((tI_uY _ _ _ _ _ _).trans ((tI_uY _ _ _ _ _ _).trans ((tI_uY _ _ _ _ _ _).trans m_lf))), ((tI_uY _ _ _ _ _ _).trans ((tI_uY _ _ _ _ _ _).trans ((tI_uY _ _ _ _ _ _).trans m_lp))), ((tI_uY _ _ _ _ _ _).trans ((tI_uY _ _ _ _ _ _).trans ((tI_uY _ _ _ _ _ _).trans m_hi))), ((tI_uY _ _ _ _ _ _).trans ((tI_uY _ _ _ _ _ _).trans ((tI_uY _ _ _ _ _ _).trans m_un))), ((tI_uY _ _ _ _ _ _).trans ((tI_uY _ _ _ _ _ _).trans ((tI_uY _ _ _ _ _ _).trans m_st))), ((tI_uY _ _ _ _ _ _).trans ((tI_uY _ _ _ _ _ _).trans ((tI_uY _ _ _ _ _ _).trans m_kb))), ((congrFun ((tY_k _ _ _ _ (by decide)).trans ((tY_k _ _ _ _ (by decide)).trans ((tY_k _ _ _ _ (by decide)).trans rfl))) 0).trans n0), ((congrFun ((tY_k _ _ _ _ (by decide)).trans ((tY_k _ _ _ _ (by decide)).trans ((tY_k _ _ _ _ (by decide)).trans rfl))) 3).trans n3), ((congrFun ((tY_k _ _ _ _ (by decide)).trans ((tY_k _ _ _ _ (by decide)).trans ((tY_k _ _ _ _ (by decide)).trans rfl))) 5).trans n5), ((congrFun ((tY_k _ _ _ _ (by decide)).trans ((tY_k _ _ _ _ (by decide)).trans ((tY_k _ _ _ _ (by decide)).trans rfl))) 7).trans n7), ((congrFun ((tY_k _ _ _ _ (by decide)).trans ((tY_k _ _ _ _ (by decide)).trans ((tY_k _ _ _ _ (by decide)).trans rfl))) 0).trans mi0), ((congrFun ((tY_k _ _ _ _ (by decide)).trans ((tY_k _ _ _ _ (by decide)).trans ((tY_k _ _ _ _ (by decide)).trans rfl))) 0).trans wa0), ((congrFun ((tY_k _ _ _ _ (by decide)).trans ((tY_k _ _ _ _ (by decide)).trans ((tY_k _ _ _ _ (by decide)).trans rfl))) 0).trans co0), ((congrFun ((tY_k _ _ _ _ (by decide)).trans ((tY_k _ _ _ _ (by decide)).trans ((tY_k _ _ _ _ (by decide)).trans rfl))) 0).trans ma0), ((congrFun (tY_u _ _ _ _) 0).trans ((congrFun eg_9 0).trans ((congrFun eg_8 0).trans ((congrFun eg_7 0).trans pw0)))), ((congrFun (tY_u _ _ _ _) 1).trans ((congrFun eg_9 1).trans ((congrFun eg_8 1).trans ((congrFun eg_7 1).trans pw1)))), ((congrFun (tY_u _ _ _ _) 2).trans ((congrFun eg_9 2).trans ((congrFun eg_8 2).trans ((congrFun eg_7 2).trans pw2)))), sf, sto⟩, ((congrFun ((tY_k _ _ _ _ (by decide)).trans ((tY_k _ _ _ _ (by decide)).trans ((tY_k _ _ _ _ (by decide)).trans rfl))) 2).trans c34), ((congrFun ((tY_k _ _ _ _ (by decide)).trans ((tY_k _ _ _ _ (by decide)).trans ((tY_k _ _ _ _ (by decide)).trans rfl))) 2).trans c38), ((congrFun (tY_u _ _ _ _) 8).trans ((congrFun eg_9 8).trans rfl))⟩) dX10_copies_263
    · refine lv_bipush (v := 8) hx hb dX10_copies_68 (by decide) ?_
      refine lv_iload_n hx hb dX10_copies_70 rfl (lv_at hl 2 rfl) ?_
      refine lv_imul hx hb dX10_copies_71 ?_
      refine ti_top (y := 16) (by decide) ?_
      refine lv_iload_n hx hb dX10_copies_72 rfl (lv_at hl 0 rfl) ?_
      refine lv_iadd hx hb dX10_copies_73 ?_
      refine lv_topi (fun x_10 ex_10 => ?_)
      refine lv_istore (lv' := [(4, .int x_10), (3, .int (nI i)), (0, .ref (A 60 0)), (1, .int 2), (2, .int 0)]) hx hb dX10_copies_74 hl (by decide) rfl (fun ls hl => ?_)
      refine lv_bipush (v := 8) hx hb dX10_copies_76 (by decide) ?_
      refine lv_iload_n hx hb dX10_copies_78 rfl (lv_at hl 4 rfl) ?_
      refine lv_imul hx hb dX10_copies_79 ?_
      refine ti_top (y := 0) (by decide) ?_
      refine lv_iload_n hx hb dX10_copies_80 rfl (lv_at hl 1 rfl) ?_
      refine lv_iadd hx hb dX10_copies_81 ?_
      refine lv_topi (fun x_11 ex_11 => ?_)
      refine lv_istore (lv' := [(5, .int x_11), (4, .int x_10), (3, .int (nI i)), (0, .ref (A 60 0)), (1, .int 2), (2, .int 0)]) hx hb dX10_copies_82 hl (by decide) rfl (fun ls hl => ?_)
      refine lv_aload_n hx hb dX10_copies_84 rfl (lv_at hl 3 rfl) ?_
      refine ti_get (ci := 10) (k := 39) (N := 67) (T := TX10) (v := .ref (A 60 40)) C hw iw_10 rfl ob_60 (by decide) (by decide) fl_X10_84 rfl rfl dX10_copies_85 ?_
      refine lv_iload hx hb dX10_copies_88 (lv_at hl 1 rfl) ?_
      refine lv_aload_n hx hb dX10_copies_90 rfl (lv_at hl 3 rfl) ?_
      refine ti_get (ci := 10) (k := 39) (N := 67) (T := TX10) (v := .ref (A 60 40)) C hw iw_10 rfl ob_60 (by decide) (by decide) fl_X10_84 rfl rfl dX10_copies_91 ?_
      refine lv_iload hx hb dX10_copies_94 (lv_at hl 0 rfl) ?_
      refine ti_iald (ci := 10) (k := 39) (n := 184) C hw ob_60 (by decide) (fun _ _ => rfl) (ti_ixc (c := 0) (N := 184) ex_11 (by have := ti_ltn (n := 8) c_65 (by decide) hi; omega) (by decide)) dX10_copies_96 ?_
      refine lv_topi (fun x_12 ex_12 => ?_)
      refine ti_iastG (ci := 10) (k := 39) (n := 184) C hw ob_60 (by decide) (fun _ _ => rfl) (ti_ixc (c := 16) (N := 184) ex_10 (by have := ti_ltn (n := 8) c_65 (by decide) hi; omega) (by decide)) dX10_copies_97 (fun H locs g_13 eg_13 hw => ?_)
      refine lv_aload_n hx hb dX10_copies_98 rfl (lv_at hl 3 rfl) ?_
      refine ti_get (ci := 10) (k := 40) (N := 67) (T := TX10) (v := .ref (A 60 41)) C hw iw_10 rfl ob_60 (by decide) (by decide) fl_X10_87 rfl rfl dX10_copies_99 ?_
      refine lv_iload hx hb dX10_copies_102 (lv_at hl 1 rfl) ?_
      refine lv_aload_n hx hb dX10_copies_104 rfl (lv_at hl 3 rfl) ?_
      refine ti_get (ci := 10) (k := 40) (N := 67) (T := TX10) (v := .ref (A 60 41)) C hw iw_10 rfl ob_60 (by decide) (by decide) fl_X10_87 rfl rfl dX10_copies_105 ?_
      refine lv_iload hx hb dX10_copies_108 (lv_at hl 0 rfl) ?_
      refine ti_iald (ci := 10) (k := 40) (n := 184) C hw ob_60 (by decide) (fun _ _ => rfl) (ti_ixc (c := 0) (N := 184) ex_11 (by have := ti_ltn (n := 8) c_65 (by decide) hi; omega) (by decide)) dX10_copies_110 ?_
      refine lv_topi (fun x_14 ex_14 => ?_)
      refine ti_iastG (ci := 10) (k := 40) (n := 184) C hw ob_60 (by decide) (fun _ _ => rfl) (ti_ixc (c := 16) (N := 184) ex_10 (by have := ti_ltn (n := 8) c_65 (by decide) hi; omega) (by decide)) dX10_copies_111 (fun H locs g_15 eg_15 hw => ?_)
      refine lv_aload_n hx hb dX10_copies_112 rfl (lv_at hl 3 rfl) ?_
      refine ti_get (ci := 10) (k := 41) (N := 67) (T := TX10) (v := .ref (A 60 42)) C hw iw_10 rfl ob_60 (by decide) (by decide) fl_X10_90 rfl rfl dX10_copies_113 ?_
      refine lv_iload hx hb dX10_copies_116 (lv_at hl 1 rfl) ?_
      refine lv_aload_n hx hb dX10_copies_118 rfl (lv_at hl 3 rfl) ?_
      refine ti_get (ci := 10) (k := 41) (N := 67) (T := TX10) (v := .ref (A 60 42)) C hw iw_10 rfl ob_60 (by decide) (by decide) fl_X10_90 rfl rfl dX10_copies_119 ?_
      refine lv_iload hx hb dX10_copies_122 (lv_at hl 0 rfl) ?_
      refine ti_iald (ci := 10) (k := 41) (n := 184) C hw ob_60 (by decide) (fun _ _ => rfl) (ti_ixc (c := 0) (N := 184) ex_11 (by have := ti_ltn (n := 8) c_65 (by decide) hi; omega) (by decide)) dX10_copies_124 ?_
      refine lv_topi (fun x_16 ex_16 => ?_)
      refine ti_iastG (ci := 10) (k := 41) (n := 184) C hw ob_60 (by decide) (fun _ _ => rfl) (ti_ixc (c := 16) (N := 184) ex_10 (by have := ti_ltn (n := 8) c_65 (by decide) hi; omega) (by decide)) dX10_copies_125 (fun H locs g_17 eg_17 hw => ?_)
      refine lv_aload_n hx hb dX10_copies_126 rfl (lv_at hl 3 rfl) ?_
      refine ti_get (ci := 10) (k := 42) (N := 67) (T := TX10) (v := .ref (A 60 43)) C hw iw_10 rfl ob_60 (by decide) (by decide) fl_X10_93 rfl rfl dX10_copies_127 ?_
      refine lv_iload hx hb dX10_copies_130 (lv_at hl 1 rfl) ?_
      refine lv_aload_n hx hb dX10_copies_132 rfl (lv_at hl 3 rfl) ?_
      refine ti_get (ci := 10) (k := 42) (N := 67) (T := TX10) (v := .ref (A 60 43)) C hw iw_10 rfl ob_60 (by decide) (by decide) fl_X10_93 rfl rfl dX10_copies_133 ?_
      refine lv_iload hx hb dX10_copies_136 (lv_at hl 0 rfl) ?_
      refine ti_iald (ci := 10) (k := 42) (n := 184) C hw ob_60 (by decide) (fun _ _ => rfl) (ti_ixc (c := 0) (N := 184) ex_11 (by have := ti_ltn (n := 8) c_65 (by decide) hi; omega) (by decide)) dX10_copies_138 ?_
      refine lv_topi (fun x_18 ex_18 => ?_)
      refine ti_iastG (ci := 10) (k := 42) (n := 184) C hw ob_60 (by decide) (fun _ _ => rfl) (ti_ixc (c := 16) (N := 184) ex_10 (by have := ti_ltn (n := 8) c_65 (by decide) hi; omega) (by decide)) dX10_copies_139 (fun H locs g_19 eg_19 hw => ?_)
      refine lv_aload_n hx hb dX10_copies_140 rfl (lv_at hl 3 rfl) ?_
      refine ti_get (ci := 10) (k := 43) (N := 67) (T := TX10) (v := .ref (A 60 44)) C hw iw_10 rfl ob_60 (by decide) (by decide) fl_X10_96 rfl rfl dX10_copies_141 ?_
      refine lv_iload hx hb dX10_copies_144 (lv_at hl 1 rfl) ?_
      refine lv_aload_n hx hb dX10_copies_146 rfl (lv_at hl 3 rfl) ?_
      refine ti_get (ci := 10) (k := 43) (N := 67) (T := TX10) (v := .ref (A 60 44)) C hw iw_10 rfl ob_60 (by decide) (by decide) fl_X10_96 rfl rfl dX10_copies_147 ?_
      refine lv_iload hx hb dX10_copies_150 (lv_at hl 0 rfl) ?_
      refine ti_iald (ci := 10) (k := 43) (n := 184) C hw ob_60 (by decide) (fun _ _ => rfl) (ti_ixc (c := 0) (N := 184) ex_11 (by have := ti_ltn (n := 8) c_65 (by decide) hi; omega) (by decide)) dX10_copies_152 ?_
      refine lv_topi (fun x_20 ex_20 => ?_)
      refine ti_iastG (ci := 10) (k := 43) (n := 184) C hw ob_60 (by decide) (fun _ _ => rfl) (ti_ixc (c := 16) (N := 184) ex_10 (by have := ti_ltn (n := 8) c_65 (by decide) hi; omega) (by decide)) dX10_copies_153 (fun H locs g_21 eg_21 hw => ?_)
      refine lv_aload_n hx hb dX10_copies_154 rfl (lv_at hl 3 rfl) ?_
      refine ti_get (ci := 10) (k := 44) (N := 67) (T := TX10) (v := .ref (A 60 45)) C hw iw_10 rfl ob_60 (by decide) (by decide) fl_X10_99 rfl rfl dX10_copies_155 ?_
      refine lv_iload hx hb dX10_copies_158 (lv_at hl 1 rfl) ?_
      refine lv_aload_n hx hb dX10_copies_160 rfl (lv_at hl 3 rfl) ?_
      refine ti_get (ci := 10) (k := 44) (N := 67) (T := TX10) (v := .ref (A 60 45)) C hw iw_10 rfl ob_60 (by decide) (by decide) fl_X10_99 rfl rfl dX10_copies_161 ?_
      refine lv_iload hx hb dX10_copies_164 (lv_at hl 0 rfl) ?_
      refine ti_iald (ci := 10) (k := 44) (n := 184) C hw ob_60 (by decide) (fun _ _ => rfl) (ti_ixc (c := 0) (N := 184) ex_11 (by have := ti_ltn (n := 8) c_65 (by decide) hi; omega) (by decide)) dX10_copies_166 ?_
      refine lv_topi (fun x_22 ex_22 => ?_)
      refine ti_iastG (ci := 10) (k := 44) (n := 184) C hw ob_60 (by decide) (fun _ _ => rfl) (ti_ixc (c := 16) (N := 184) ex_10 (by have := ti_ltn (n := 8) c_65 (by decide) hi; omega) (by decide)) dX10_copies_167 (fun H locs g_23 eg_23 hw => ?_)
      refine lv_aload_n hx hb dX10_copies_168 rfl (lv_at hl 3 rfl) ?_
      refine ti_get (ci := 10) (k := 45) (N := 67) (T := TX10) (v := .ref (A 60 46)) C hw iw_10 rfl ob_60 (by decide) (by decide) fl_X10_102 rfl rfl dX10_copies_169 ?_
      refine lv_iload hx hb dX10_copies_172 (lv_at hl 1 rfl) ?_
      refine lv_aload_n hx hb dX10_copies_174 rfl (lv_at hl 3 rfl) ?_
      refine ti_get (ci := 10) (k := 45) (N := 67) (T := TX10) (v := .ref (A 60 46)) C hw iw_10 rfl ob_60 (by decide) (by decide) fl_X10_102 rfl rfl dX10_copies_175 ?_
      refine lv_iload hx hb dX10_copies_178 (lv_at hl 0 rfl) ?_
      refine ti_iald (ci := 10) (k := 45) (n := 184) C hw ob_60 (by decide) (fun _ _ => rfl) (ti_ixc (c := 0) (N := 184) ex_11 (by have := ti_ltn (n := 8) c_65 (by decide) hi; omega) (by decide)) dX10_copies_180 ?_
      refine lv_topi (fun x_24 ex_24 => ?_)
      refine ti_iastG (ci := 10) (k := 45) (n := 184) C hw ob_60 (by decide) (fun _ _ => rfl) (ti_ixc (c := 16) (N := 184) ex_10 (by have := ti_ltn (n := 8) c_65 (by decide) hi; omega) (by decide)) dX10_copies_181 (fun H locs g_25 eg_25 hw => ?_)
      refine lv_aload_n hx hb dX10_copies_182 rfl (lv_at hl 3 rfl) ?_
      refine ti_get (ci := 10) (k := 46) (N := 67) (T := TX10) (v := .ref (A 60 47)) C hw iw_10 rfl ob_60 (by decide) (by decide) fl_X10_105 rfl rfl dX10_copies_183 ?_
      refine lv_iload hx hb dX10_copies_186 (lv_at hl 1 rfl) ?_
      refine lv_aload_n hx hb dX10_copies_188 rfl (lv_at hl 3 rfl) ?_
      refine ti_get (ci := 10) (k := 46) (N := 67) (T := TX10) (v := .ref (A 60 47)) C hw iw_10 rfl ob_60 (by decide) (by decide) fl_X10_105 rfl rfl dX10_copies_189 ?_
      refine lv_iload hx hb dX10_copies_192 (lv_at hl 0 rfl) ?_
      refine ti_iald (ci := 10) (k := 46) (n := 184) C hw ob_60 (by decide) (fun _ _ => rfl) (ti_ixc (c := 0) (N := 184) ex_11 (by have := ti_ltn (n := 8) c_65 (by decide) hi; omega) (by decide)) dX10_copies_194 ?_
      refine lv_topi (fun x_26 ex_26 => ?_)
      refine ti_iastG (ci := 10) (k := 46) (n := 184) C hw ob_60 (by decide) (fun _ _ => rfl) (ti_ixc (c := 16) (N := 184) ex_10 (by have := ti_ltn (n := 8) c_65 (by decide) hi; omega) (by decide)) dX10_copies_195 (fun H locs g_27 eg_27 hw => ?_)
      refine lv_aload_n hx hb dX10_copies_196 rfl (lv_at hl 3 rfl) ?_
      refine ti_get (ci := 10) (k := 47) (N := 67) (T := TX10) (v := .ref (A 60 48)) C hw iw_10 rfl ob_60 (by decide) (by decide) fl_X10_108 rfl rfl dX10_copies_197 ?_
      refine lv_iload hx hb dX10_copies_200 (lv_at hl 1 rfl) ?_
      refine lv_aload_n hx hb dX10_copies_202 rfl (lv_at hl 3 rfl) ?_
      refine ti_get (ci := 10) (k := 47) (N := 67) (T := TX10) (v := .ref (A 60 48)) C hw iw_10 rfl ob_60 (by decide) (by decide) fl_X10_108 rfl rfl dX10_copies_203 ?_
      refine lv_iload hx hb dX10_copies_206 (lv_at hl 0 rfl) ?_
      refine ti_iald (ci := 10) (k := 47) (n := 184) C hw ob_60 (by decide) (fun _ _ => rfl) (ti_ixc (c := 0) (N := 184) ex_11 (by have := ti_ltn (n := 8) c_65 (by decide) hi; omega) (by decide)) dX10_copies_208 ?_
      refine lv_topi (fun x_28 ex_28 => ?_)
      refine ti_iastG (ci := 10) (k := 47) (n := 184) C hw ob_60 (by decide) (fun _ _ => rfl) (ti_ixc (c := 16) (N := 184) ex_10 (by have := ti_ltn (n := 8) c_65 (by decide) hi; omega) (by decide)) dX10_copies_209 (fun H locs g_29 eg_29 hw => ?_)
      refine lv_aload_n hx hb dX10_copies_210 rfl (lv_at hl 3 rfl) ?_
      refine ti_get (ci := 10) (k := 48) (N := 67) (T := TX10) (v := .ref (A 60 49)) C hw iw_10 rfl ob_60 (by decide) (by decide) fl_X10_111 rfl rfl dX10_copies_211 ?_
      refine lv_iload hx hb dX10_copies_214 (lv_at hl 1 rfl) ?_
      refine lv_aload_n hx hb dX10_copies_216 rfl (lv_at hl 3 rfl) ?_
      refine ti_get (ci := 10) (k := 48) (N := 67) (T := TX10) (v := .ref (A 60 49)) C hw iw_10 rfl ob_60 (by decide) (by decide) fl_X10_111 rfl rfl dX10_copies_217 ?_
      refine lv_iload hx hb dX10_copies_220 (lv_at hl 0 rfl) ?_
      refine ti_iald (ci := 10) (k := 48) (n := 184) C hw ob_60 (by decide) (fun _ _ => rfl) (ti_ixc (c := 0) (N := 184) ex_11 (by have := ti_ltn (n := 8) c_65 (by decide) hi; omega) (by decide)) dX10_copies_222 ?_
      refine lv_topi (fun x_30 ex_30 => ?_)
      refine ti_iastG (ci := 10) (k := 48) (n := 184) C hw ob_60 (by decide) (fun _ _ => rfl) (ti_ixc (c := 16) (N := 184) ex_10 (by have := ti_ltn (n := 8) c_65 (by decide) hi; omega) (by decide)) dX10_copies_223 (fun H locs g_31 eg_31 hw => ?_)
      refine lv_iinc (v := nI (i + 1)) (lv' := [(3, .int (nI (i + 1))), (5, .int x_11), (4, .int x_10), (0, .ref (A 60 0)), (1, .int 2), (2, .int 0)]) hx hb dX10_copies_224 hl (k := 2) rfl (nI_1 i) (by decide) rfl (fun ls hl => ?_)
      refine lv_goto (tgt := 62) hx hb dX10_copies_227 (by decide) ?_
      exact ih (i + 1) (uY (uY (uY (uY (uY (uY (uY (uY (uY (uY Mx 60 39 g_13) 60 40 g_15) 60 41 g_17) 60 42 g_19) 60 43 g_21) 60 44 g_23) 60 45 g_25) 60 46 g_27) 60 47 g_29) 60 48 g_31) _ _ _ (by omega) (ti_ltn (n := 8) c_65 (by decide) hi) ⟨((tI_uY _ _ _ _ _ _).trans ((tI_uY _ _ _ _ _ _).trans ((tI_uY _ _ _ _ _ _).trans ((tI_uY _ _ _ _ _ _).trans ((tI_uY _ _ _ _ _ _).trans ((tI_uY _ _ _ _ _ _).trans ((tI_uY _ _ _ _ _ _).trans ((tI_uY _ _ _ _ _ _).trans ((tI_uY _ _ _ _ _ _).trans ((tI_uY _ _ _ _ _ _).trans m_taped)))))))))), ((tI_uY _ _ _ _ _ _).trans ((tI_uY _ _ _ _ _ _).trans ((tI_uY _ _ _ _ _ _).trans ((tI_uY _ _ _ _ _ _).trans ((tI_uY _ _ _ _ _ _).trans ((tI_uY _ _ _ _ _ _).trans ((tI_uY _ _ _ _ _ _).trans ((tI_uY _ _ _ _ _ _).trans ((tI_uY _ _ _ _ _ _).trans ((tI_uY _ _ _ _ _ _).trans m_lf)))))))))), ((tI_uY _ _ _ _ _ _).trans ((tI_uY _ _ _ _ _ _).trans ((tI_uY _ _ _ _ _ _).trans ((tI_uY _ _ _ _ _ _).trans ((tI_uY _ _ _ _ _ _).trans ((tI_uY _ _ _ _ _ _).trans ((tI_uY _ _ _ _ _ _).trans ((tI_uY _ _ _ _ _ _).trans ((tI_uY _ _ _ _ _ _).trans ((tI_uY _ _ _ _ _ _).trans m_lp)))))))))), ((tI_uY _ _ _ _ _ _).trans ((tI_uY _ _ _ _ _ _).trans ((tI_uY _ _ _ _ _ _).trans ((tI_uY _ _ _ _ _ _).trans ((tI_uY _ _ _ _ _ _).trans ((tI_uY _ _ _ _ _ _).trans ((tI_uY _ _ _ _ _ _).trans ((tI_uY _ _ _ _ _ _).trans ((tI_uY _ _ _ _ _ _).trans ((tI_uY _ _ _ _ _ _).trans m_hi)))))))))), ((tI_uY _ _ _ _ _ _).trans ((tI_uY _ _ _ _ _ _).trans ((tI_uY _ _ _ _ _ _).trans ((tI_uY _ _ _ _ _ _).trans ((tI_uY _ _ _ _ _ _).trans ((tI_uY _ _ _ _ _ _).trans ((tI_uY _ _ _ _ _ _).trans ((tI_uY _ _ _ _ _ _).trans ((tI_uY _ _ _ _ _ _).trans ((tI_uY _ _ _ _ _ _).trans m_un)))))))))), ((tI_uY _ _ _ _ _ _).trans ((tI_uY _ _ _ _ _ _).trans ((tI_uY _ _ _ _ _ _).trans ((tI_uY _ _ _ _ _ _).trans ((tI_uY _ _ _ _ _ _).trans ((tI_uY _ _ _ _ _ _).trans ((tI_uY _ _ _ _ _ _).trans ((tI_uY _ _ _ _ _ _).trans ((tI_uY _ _ _ _ _ _).trans ((tI_uY _ _ _ _ _ _).trans m_st)))))))))), ((tI_uY _ _ _ _ _ _).trans ((tI_uY _ _ _ _ _ _).trans ((tI_uY _ _ _ _ _ _).trans ((tI_uY _ _ _ _ _ _).trans ((tI_uY _ _ _ _ _ _).trans ((tI_uY _ _ _ _ _ _).trans ((tI_uY _ _ _ _ _ _).trans ((tI_uY _ _ _ _ _ _).trans ((tI_uY _ _ _ _ _ _).trans ((tI_uY _ _ _ _ _ _).trans m_kb)))))))))), ((congrFun ((tY_k _ _ _ _ (by decide)).trans ((tY_k _ _ _ _ (by decide)).trans ((tY_k _ _ _ _ (by decide)).trans ((tY_k _ _ _ _ (by decide)).trans ((tY_k _ _ _ _ (by decide)).trans ((tY_k _ _ _ _ (by decide)).trans ((tY_k _ _ _ _ (by decide)).trans ((tY_k _ _ _ _ (by decide)).trans ((tY_k _ _ _ _ (by decide)).trans ((tY_k _ _ _ _ (by decide)).trans rfl)))))))))) 0).trans n0), ((congrFun ((tY_k _ _ _ _ (by decide)).trans ((tY_k _ _ _ _ (by decide)).trans ((tY_k _ _ _ _ (by decide)).trans ((tY_k _ _ _ _ (by decide)).trans ((tY_k _ _ _ _ (by decide)).trans ((tY_k _ _ _ _ (by decide)).trans ((tY_k _ _ _ _ (by decide)).trans ((tY_k _ _ _ _ (by decide)).trans ((tY_k _ _ _ _ (by decide)).trans ((tY_k _ _ _ _ (by decide)).trans rfl)))))))))) 3).trans n3), ((congrFun ((tY_k _ _ _ _ (by decide)).trans ((tY_k _ _ _ _ (by decide)).trans ((tY_k _ _ _ _ (by decide)).trans ((tY_k _ _ _ _ (by decide)).trans ((tY_k _ _ _ _ (by decide)).trans ((tY_k _ _ _ _ (by decide)).trans ((tY_k _ _ _ _ (by decide)).trans ((tY_k _ _ _ _ (by decide)).trans ((tY_k _ _ _ _ (by decide)).trans ((tY_k _ _ _ _ (by decide)).trans rfl)))))))))) 5).trans n5), ((congrFun ((tY_k _ _ _ _ (by decide)).trans ((tY_k _ _ _ _ (by decide)).trans ((tY_k _ _ _ _ (by decide)).trans ((tY_k _ _ _ _ (by decide)).trans ((tY_k _ _ _ _ (by decide)).trans ((tY_k _ _ _ _ (by decide)).trans ((tY_k _ _ _ _ (by decide)).trans ((tY_k _ _ _ _ (by decide)).trans ((tY_k _ _ _ _ (by decide)).trans ((tY_k _ _ _ _ (by decide)).trans rfl)))))))))) 7).trans n7), ((congrFun ((tY_k _ _ _ _ (by decide)).trans ((tY_k _ _ _ _ (by decide)).trans ((tY_k _ _ _ _ (by decide)).trans ((tY_k _ _ _ _ (by decide)).trans ((tY_k _ _ _ _ (by decide)).trans ((tY_k _ _ _ _ (by decide)).trans ((tY_k _ _ _ _ (by decide)).trans ((tY_k _ _ _ _ (by decide)).trans ((tY_k _ _ _ _ (by decide)).trans ((tY_k _ _ _ _ (by decide)).trans rfl)))))))))) 0).trans mi0), ((congrFun ((tY_k _ _ _ _ (by decide)).trans ((tY_k _ _ _ _ (by decide)).trans ((tY_k _ _ _ _ (by decide)).trans ((tY_k _ _ _ _ (by decide)).trans ((tY_k _ _ _ _ (by decide)).trans ((tY_k _ _ _ _ (by decide)).trans ((tY_k _ _ _ _ (by decide)).trans ((tY_k _ _ _ _ (by decide)).trans ((tY_k _ _ _ _ (by decide)).trans ((tY_k _ _ _ _ (by decide)).trans rfl)))))))))) 0).trans wa0), ((congrFun ((tY_k _ _ _ _ (by decide)).trans ((tY_k _ _ _ _ (by decide)).trans ((tY_k _ _ _ _ (by decide)).trans ((tY_k _ _ _ _ (by decide)).trans ((tY_k _ _ _ _ (by decide)).trans ((tY_k _ _ _ _ (by decide)).trans ((tY_k _ _ _ _ (by decide)).trans ((tY_k _ _ _ _ (by decide)).trans ((tY_k _ _ _ _ (by decide)).trans ((tY_k _ _ _ _ (by decide)).trans rfl)))))))))) 0).trans co0), ((congrFun ((tY_k _ _ _ _ (by decide)).trans ((tY_k _ _ _ _ (by decide)).trans ((tY_k _ _ _ _ (by decide)).trans ((tY_k _ _ _ _ (by decide)).trans ((tY_k _ _ _ _ (by decide)).trans ((tY_k _ _ _ _ (by decide)).trans ((tY_k _ _ _ _ (by decide)).trans ((tY_k _ _ _ _ (by decide)).trans ((tY_k _ _ _ _ (by decide)).trans ((tY_k _ _ _ _ (by decide)).trans rfl)))))))))) 0).trans ma0), ((congrFun ((tY_k _ _ _ _ (by decide)).trans ((tY_k _ _ _ _ (by decide)).trans ((tY_k _ _ _ _ (by decide)).trans ((tY_k _ _ _ _ (by decide)).trans ((tY_k _ _ _ _ (by decide)).trans ((tY_k _ _ _ _ (by decide)).trans ((tY_k _ _ _ _ (by decide)).trans ((tY_k _ _ _ _ (by decide)).trans ((tY_k _ _ _ _ (by decide)).trans ((tY_k _ _ _ _ (by decide)).trans rfl)))))))))) 0).trans pw0), ((congrFun ((tY_k _ _ _ _ (by decide)).trans ((tY_k _ _ _ _ (by decide)).trans ((tY_k _ _ _ _ (by decide)).trans ((tY_k _ _ _ _ (by decide)).trans ((tY_k _ _ _ _ (by decide)).trans ((tY_k _ _ _ _ (by decide)).trans ((tY_k _ _ _ _ (by decide)).trans ((tY_k _ _ _ _ (by decide)).trans ((tY_k _ _ _ _ (by decide)).trans ((tY_k _ _ _ _ (by decide)).trans rfl)))))))))) 1).trans pw1), ((congrFun ((tY_k _ _ _ _ (by decide)).trans ((tY_k _ _ _ _ (by decide)).trans ((tY_k _ _ _ _ (by decide)).trans ((tY_k _ _ _ _ (by decide)).trans ((tY_k _ _ _ _ (by decide)).trans ((tY_k _ _ _ _ (by decide)).trans ((tY_k _ _ _ _ (by decide)).trans ((tY_k _ _ _ _ (by decide)).trans ((tY_k _ _ _ _ (by decide)).trans ((tY_k _ _ _ _ (by decide)).trans rfl)))))))))) 2).trans pw2), sf, sto⟩ ((congrFun ((tY_k _ _ _ _ (by decide)).trans ((tY_k _ _ _ _ (by decide)).trans ((tY_k _ _ _ _ (by decide)).trans ((tY_k _ _ _ _ (by decide)).trans ((tY_k _ _ _ _ (by decide)).trans ((tY_k _ _ _ _ (by decide)).trans ((tY_k _ _ _ _ (by decide)).trans ((tY_k _ _ _ _ (by decide)).trans ((tY_k _ _ _ _ (by decide)).trans ((tY_k _ _ _ _ (by decide)).trans rfl)))))))))) 2).trans c34) ((congrFun ((tY_k _ _ _ _ (by decide)).trans ((tY_k _ _ _ _ (by decide)).trans ((tY_k _ _ _ _ (by decide)).trans ((tY_k _ _ _ _ (by decide)).trans ((tY_k _ _ _ _ (by decide)).trans ((tY_k _ _ _ _ (by decide)).trans ((tY_k _ _ _ _ (by decide)).trans ((tY_k _ _ _ _ (by decide)).trans ((tY_k _ _ _ _ (by decide)).trans ((tY_k _ _ _ _ (by decide)).trans rfl)))))))))) 2).trans c38) hw (lv_sub hl [0, 3, 4, 5] rfl)
set_option maxHeartbeats 4000000 in
set_option maxRecDepth 100000 in
theorem k_copies_3 (l : Launch) (D : va_G) (A : Nat → Nat → Nat) (cy : Nat → ClassId) (hJ : ti_inj ti_LM A) (M : ti_M) (hF : ti_FM M)  : ti_Kv l yX10_copies cX10_copies 6 0 ti_LM D A cy M [.ref (A 60 0), .int 3, .int 0] (fun M2 => ti_FM M2 ∧ tY M2 60 34 3 = 0 ∧ tY M2 60 38 3 = 0 ∧ tY M2 60 49 11 = 2) := by
  refine ti_eV yp_X10_copies hJ ti_LM_nd (Nat.le_of_ble_eq_true rfl) ?_
  intro p e s m args below meth c Q H0 C hQ hw ls hl
  have hx := C.1
  have hb := C.2.1
  have hl : lv_has ls 6 [(0, .ref (A 60 0)), (1, .int 3), (2, .int 0)] := hl
  obtain ⟨m_taped, m_lf, m_lp, m_hi, m_un, m_st, m_kb, n0, n3, n5, n7, mi0, wa0, co0, ma0, pw0, pw1, pw2, sf, sto⟩ := id hF
  refine lv_aload_n hx hb dX10_copies_0 rfl (lv_at hl 0 rfl) ?_
  refine ti_get (ci := 10) (k := 34) (N := 67) (T := TX10) (v := .ref (A 60 35)) C hw iw_10 rfl ob_60 (by decide) (by decide) fl_X10_69 rfl rfl dX10_copies_1 ?_
  refine lv_iload_n hx hb dX10_copies_4 rfl (lv_at hl 1 rfl) ?_
  refine lv_aload_n hx hb dX10_copies_5 rfl (lv_at hl 0 rfl) ?_
  refine ti_get (ci := 10) (k := 34) (N := 67) (T := TX10) (v := .ref (A 60 35)) C hw iw_10 rfl ob_60 (by decide) (by decide) fl_X10_69 rfl rfl dX10_copies_6 ?_
  refine lv_iload_n hx hb dX10_copies_9 rfl (lv_at hl 2 rfl) ?_
  refine ti_iald (ci := 10) (k := 34) (n := 23) C hw ob_60 (by decide) (fun _ _ => rfl) (by unfold vp_in; decide) dX10_copies_10 ?_
  refine ti_top (y := 0) ((congrFun (rfl) 0).trans mi0) ?_
  refine ti_iastG (ci := 10) (k := 34) (n := 23) C hw ob_60 (by decide) (fun _ _ => rfl) (by unfold vp_in; decide) dX10_copies_11 (fun H locs g_1 eg_1 hw => ?_)
  refine lv_aload_n hx hb dX10_copies_12 rfl (lv_at hl 0 rfl) ?_
  refine ti_get (ci := 10) (k := 35) (N := 67) (T := TX10) (v := .ref (A 60 36)) C hw iw_10 rfl ob_60 (by decide) (by decide) fl_X10_72 rfl rfl dX10_copies_13 ?_
  refine lv_iload_n hx hb dX10_copies_16 rfl (lv_at hl 1 rfl) ?_
  refine lv_aload_n hx hb dX10_copies_17 rfl (lv_at hl 0 rfl) ?_
  refine ti_get (ci := 10) (k := 35) (N := 67) (T := TX10) (v := .ref (A 60 36)) C hw iw_10 rfl ob_60 (by decide) (by decide) fl_X10_72 rfl rfl dX10_copies_18 ?_
  refine lv_iload_n hx hb dX10_copies_21 rfl (lv_at hl 2 rfl) ?_
  refine ti_iald (ci := 10) (k := 35) (n := 23) C hw ob_60 (by decide) (fun _ _ => rfl) (by unfold vp_in; decide) dX10_copies_22 ?_
  refine ti_top (y := 200) ((congrFun ((tY_k _ _ _ _ (by decide)).trans rfl) 0).trans wa0) ?_
  refine ti_iastG (ci := 10) (k := 35) (n := 23) C hw ob_60 (by decide) (fun _ _ => rfl) (by unfold vp_in; decide) dX10_copies_23 (fun H locs g_2 eg_2 hw => ?_)
  refine lv_aload_n hx hb dX10_copies_24 rfl (lv_at hl 0 rfl) ?_
  refine ti_get (ci := 10) (k := 36) (N := 67) (T := TX10) (v := .ref (A 60 37)) C hw iw_10 rfl ob_60 (by decide) (by decide) fl_X10_75 rfl rfl dX10_copies_25 ?_
  refine lv_iload_n hx hb dX10_copies_28 rfl (lv_at hl 1 rfl) ?_
  refine lv_aload_n hx hb dX10_copies_29 rfl (lv_at hl 0 rfl) ?_
  refine ti_get (ci := 10) (k := 36) (N := 67) (T := TX10) (v := .ref (A 60 37)) C hw iw_10 rfl ob_60 (by decide) (by decide) fl_X10_75 rfl rfl dX10_copies_30 ?_
  refine lv_iload_n hx hb dX10_copies_33 rfl (lv_at hl 2 rfl) ?_
  refine ti_iald (ci := 10) (k := 36) (n := 23) C hw ob_60 (by decide) (fun _ _ => rfl) (by unfold vp_in; decide) dX10_copies_34 ?_
  refine lv_topi (fun x_3 ex_3 => ?_)
  refine ti_iastG (ci := 10) (k := 36) (n := 23) C hw ob_60 (by decide) (fun _ _ => rfl) (by unfold vp_in; decide) dX10_copies_35 (fun H locs g_4 eg_4 hw => ?_)
  refine lv_aload_n hx hb dX10_copies_36 rfl (lv_at hl 0 rfl) ?_
  refine ti_get (ci := 10) (k := 37) (N := 67) (T := TX10) (v := .ref (A 60 38)) C hw iw_10 rfl ob_60 (by decide) (by decide) fl_X10_78 rfl rfl dX10_copies_37 ?_
  refine lv_iload_n hx hb dX10_copies_40 rfl (lv_at hl 1 rfl) ?_
  refine lv_aload_n hx hb dX10_copies_41 rfl (lv_at hl 0 rfl) ?_
  refine ti_get (ci := 10) (k := 37) (N := 67) (T := TX10) (v := .ref (A 60 38)) C hw iw_10 rfl ob_60 (by decide) (by decide) fl_X10_78 rfl rfl dX10_copies_42 ?_
  refine lv_iload_n hx hb dX10_copies_45 rfl (lv_at hl 2 rfl) ?_
  refine ti_iald (ci := 10) (k := 37) (n := 23) C hw ob_60 (by decide) (fun _ _ => rfl) (by unfold vp_in; decide) dX10_copies_46 ?_
  refine ti_top (y := 0) ((congrFun ((tY_k _ _ _ _ (by decide)).trans ((tY_k _ _ _ _ (by decide)).trans ((tY_k _ _ _ _ (by decide)).trans rfl))) 0).trans co0) ?_
  refine ti_iastG (ci := 10) (k := 37) (n := 23) C hw ob_60 (by decide) (fun _ _ => rfl) (by unfold vp_in; decide) dX10_copies_47 (fun H locs g_5 eg_5 hw => ?_)
  refine lv_aload_n hx hb dX10_copies_48 rfl (lv_at hl 0 rfl) ?_
  refine ti_get (ci := 10) (k := 38) (N := 67) (T := TX10) (v := .ref (A 60 39)) C hw iw_10 rfl ob_60 (by decide) (by decide) fl_X10_81 rfl rfl dX10_copies_49 ?_
  refine lv_iload_n hx hb dX10_copies_52 rfl (lv_at hl 1 rfl) ?_
  refine lv_aload_n hx hb dX10_copies_53 rfl (lv_at hl 0 rfl) ?_
  refine ti_get (ci := 10) (k := 38) (N := 67) (T := TX10) (v := .ref (A 60 39)) C hw iw_10 rfl ob_60 (by decide) (by decide) fl_X10_81 rfl rfl dX10_copies_54 ?_
  refine lv_iload_n hx hb dX10_copies_57 rfl (lv_at hl 2 rfl) ?_
  refine ti_iald (ci := 10) (k := 38) (n := 23) C hw ob_60 (by decide) (fun _ _ => rfl) (by unfold vp_in; decide) dX10_copies_58 ?_
  refine ti_top (y := 0) ((congrFun ((tY_k _ _ _ _ (by decide)).trans ((tY_k _ _ _ _ (by decide)).trans ((tY_k _ _ _ _ (by decide)).trans ((tY_k _ _ _ _ (by decide)).trans rfl)))) 0).trans ma0) ?_
  refine ti_iastG (ci := 10) (k := 38) (n := 23) C hw ob_60 (by decide) (fun _ _ => rfl) (by unfold vp_in; decide) dX10_copies_59 (fun H locs g_6 eg_6 hw => ?_)
  refine lv_iconst (v := 0) hx hb dX10_copies_60 (by decide) ?_
  refine lv_istore_n (lv' := [(3, .int 0), (0, .ref (A 60 0)), (1, .int 3), (2, .int 0)]) hx hb dX10_copies_61 rfl hl (by decide) rfl (fun ls hl => ?_)
  suffices hloop : ∀ (n : Nat) (i : Nat) (Mx : ti_M) (H : Heap) (locs : List Loc) (ls : Array Slot), (8 < i + n) → (i ≤ 8) → (ti_FM Mx) → (tY Mx 60 34 3 = 0) → (tY Mx 60 38 3 = 0) → ti_H ti_LM D A cy H0 Mx H locs → lv_has ls 6 [(3, .int (nI i)), (0, .ref (A 60 0)), (1, .int 3), (2, .int 0)] → W p l e (ti_rm 0) s m args below meth c H locs 0 0 Q (F0 m 62 ls []) from hloop 9 0 (uY (uY (uY (uY (uY M 60 34 g_1) 60 35 g_2) 60 36 g_4) 60 37 g_5) 60 38 g_6) _ _ _ (by omega) (by omega) ⟨((tI_uY _ _ _ _ _ _).trans ((tI_uY _ _ _ _ _ _).trans ((tI_uY _ _ _ _ _ _).trans ((tI_uY _ _ _ _ _ _).trans ((tI_uY _ _ _ _ _ _).trans m_taped))))), ((tI_uY _ _ _ _ _ _).trans ((tI_uY _ _ _ _ _ _).trans ((tI_uY _ _ _ _ _ _).trans ((tI_uY _ _ _ _ _ _).trans ((tI_uY _ _ _ _ _ _).trans m_lf))))), ((tI_uY _ _ _ _ _ _).trans ((tI_uY _ _ _ _ _ _).trans ((tI_uY _ _ _ _ _ _).trans ((tI_uY _ _ _ _ _ _).trans ((tI_uY _ _ _ _ _ _).trans m_lp))))), ((tI_uY _ _ _ _ _ _).trans ((tI_uY _ _ _ _ _ _).trans ((tI_uY _ _ _ _ _ _).trans ((tI_uY _ _ _ _ _ _).trans ((tI_uY _ _ _ _ _ _).trans m_hi))))), ((tI_uY _ _ _ _ _ _).trans ((tI_uY _ _ _ _ _ _).trans ((tI_uY _ _ _ _ _ _).trans ((tI_uY _ _ _ _ _ _).trans ((tI_uY _ _ _ _ _ _).trans m_un))))), ((tI_uY _ _ _ _ _ _).trans ((tI_uY _ _ _ _ _ _).trans ((tI_uY _ _ _ _ _ _).trans ((tI_uY _ _ _ _ _ _).trans ((tI_uY _ _ _ _ _ _).trans m_st))))), ((tI_uY _ _ _ _ _ _).trans ((tI_uY _ _ _ _ _ _).trans ((tI_uY _ _ _ _ _ _).trans ((tI_uY _ _ _ _ _ _).trans ((tI_uY _ _ _ _ _ _).trans m_kb))))), ((congrFun ((tY_k _ _ _ _ (by decide)).trans ((tY_k _ _ _ _ (by decide)).trans ((tY_k _ _ _ _ (by decide)).trans ((tY_k _ _ _ _ (by decide)).trans ((tY_k _ _ _ _ (by decide)).trans rfl))))) 0).trans n0), ((congrFun ((tY_k _ _ _ _ (by decide)).trans ((tY_k _ _ _ _ (by decide)).trans ((tY_k _ _ _ _ (by decide)).trans ((tY_k _ _ _ _ (by decide)).trans ((tY_k _ _ _ _ (by decide)).trans rfl))))) 3).trans n3), ((congrFun ((tY_k _ _ _ _ (by decide)).trans ((tY_k _ _ _ _ (by decide)).trans ((tY_k _ _ _ _ (by decide)).trans ((tY_k _ _ _ _ (by decide)).trans ((tY_k _ _ _ _ (by decide)).trans rfl))))) 5).trans n5), ((congrFun ((tY_k _ _ _ _ (by decide)).trans ((tY_k _ _ _ _ (by decide)).trans ((tY_k _ _ _ _ (by decide)).trans ((tY_k _ _ _ _ (by decide)).trans ((tY_k _ _ _ _ (by decide)).trans rfl))))) 7).trans n7), ((congrFun ((tY_k _ _ _ _ (by decide)).trans ((tY_k _ _ _ _ (by decide)).trans ((tY_k _ _ _ _ (by decide)).trans ((tY_k _ _ _ _ (by decide)).trans (tY_u _ _ _ _))))) 0).trans ((congrFun eg_1 0).trans mi0)), ((congrFun ((tY_k _ _ _ _ (by decide)).trans ((tY_k _ _ _ _ (by decide)).trans ((tY_k _ _ _ _ (by decide)).trans (tY_u _ _ _ _)))) 0).trans ((congrFun eg_2 0).trans wa0)), ((congrFun ((tY_k _ _ _ _ (by decide)).trans (tY_u _ _ _ _)) 0).trans ((congrFun eg_5 0).trans co0)), ((congrFun (tY_u _ _ _ _) 0).trans ((congrFun eg_6 0).trans ma0)), ((congrFun ((tY_k _ _ _ _ (by decide)).trans ((tY_k _ _ _ _ (by decide)).trans ((tY_k _ _ _ _ (by decide)).trans ((tY_k _ _ _ _ (by decide)).trans ((tY_k _ _ _ _ (by decide)).trans rfl))))) 0).trans pw0), ((congrFun ((tY_k _ _ _ _ (by decide)).trans ((tY_k _ _ _ _ (by decide)).trans ((tY_k _ _ _ _ (by decide)).trans ((tY_k _ _ _ _ (by decide)).trans ((tY_k _ _ _ _ (by decide)).trans rfl))))) 1).trans pw1), ((congrFun ((tY_k _ _ _ _ (by decide)).trans ((tY_k _ _ _ _ (by decide)).trans ((tY_k _ _ _ _ (by decide)).trans ((tY_k _ _ _ _ (by decide)).trans ((tY_k _ _ _ _ (by decide)).trans rfl))))) 2).trans pw2), sf, sto⟩ ((congrFun ((tY_k _ _ _ _ (by decide)).trans ((tY_k _ _ _ _ (by decide)).trans ((tY_k _ _ _ _ (by decide)).trans ((tY_k _ _ _ _ (by decide)).trans (tY_u _ _ _ _))))) 3).trans ((congrFun eg_1 3).trans rfl)) ((congrFun (tY_u _ _ _ _) 3).trans ((congrFun eg_6 3).trans rfl)) hw (lv_sub hl [0, 1, 2, 3] rfl)
  clear hw hl ls
  intro n
  induction n with
  | zero => intro i Mx H locs ls hfuel hi hF c34 c38 hw hl; exact absurd hfuel (by omega)
  | succ n ih =>
    intro i Mx H locs ls hfuel hi hF c34 c38 hw hl
    obtain ⟨m_taped, m_lf, m_lp, m_hi, m_un, m_st, m_kb, n0, n3, n5, n7, mi0, wa0, co0, ma0, pw0, pw1, pw2, sf, sto⟩ := id hF
    refine lv_iload_n hx hb dX10_copies_62 rfl (lv_at hl 0 rfl) ?_
    refine lv_bipush (v := 8) hx hb dX10_copies_63 (by decide) ?_
    refine lv_icmp_ge (tgt := 230) hx hb dX10_copies_65 (by decide) (fun c_65 => ?_) (fun c_65 => ?_)
    · refine lv_iconst (v := 0) hx hb dX10_copies_230 (by decide) ?_
      refine lv_istore_n (lv' := [(3, .int 0), (0, .ref (A 60 0)), (1, .int 3), (2, .int 0)]) hx hb dX10_copies_231 rfl hl (by decide) rfl (fun ls hl => ?_)
      refine lv_iload_n hx hb dX10_copies_232 rfl (lv_at hl 0 rfl) ?_
      refine lv_iconst (v := 3) hx hb dX10_copies_233 (by decide) ?_
      refine lv_icmp_ge (tgt := 263) hx hb dX10_copies_234 (by decide) (fun c => absurd c (by decide)) (fun c_234 => ?_)
      refine lv_aload_n hx hb dX10_copies_237 rfl (lv_at hl 1 rfl) ?_
      refine ti_get (ci := 10) (k := 49) (N := 67) (T := TX10) (v := .ref (A 60 50)) C hw iw_10 rfl ob_60 (by decide) (by decide) fl_X10_114 rfl rfl dX10_copies_238 ?_
      refine lv_iconst (v := 3) hx hb dX10_copies_241 (by decide) ?_
      refine lv_iload_n hx hb dX10_copies_242 rfl (lv_at hl 2 rfl) ?_
      refine lv_imul hx hb dX10_copies_243 ?_
      refine ti_top (y := 9) (by decide) ?_
      refine lv_iload_n hx hb dX10_copies_244 rfl (lv_at hl 0 rfl) ?_
      refine lv_iadd hx hb dX10_copies_245 ?_
      refine ti_top (y := 9) (by decide) ?_
      refine lv_aload_n hx hb dX10_copies_246 rfl (lv_at hl 1 rfl) ?_
      refine ti_get (ci := 10) (k := 49) (N := 67) (T := TX10) (v := .ref (A 60 50)) C hw iw_10 rfl ob_60 (by decide) (by decide) fl_X10_114 rfl rfl dX10_copies_247 ?_
      refine lv_iconst (v := 3) hx hb dX10_copies_250 (by decide) ?_
      refine lv_iload_n hx hb dX10_copies_251 rfl (lv_at hl 3 rfl) ?_
      refine lv_imul hx hb dX10_copies_252 ?_
      refine ti_top (y := 0) (by decide) ?_
      refine lv_iload_n hx hb dX10_copies_253 rfl (lv_at hl 0 rfl) ?_
      refine lv_iadd hx hb dX10_copies_254 ?_
      refine ti_top (y := 0) (by decide) ?_
      refine ti_iald (ci := 10) (k := 49) (n := 69) C hw ob_60 (by decide) (fun _ _ => rfl) (by unfold vp_in; decide) dX10_copies_255 ?_
      refine ti_top (y := 0) ((congrFun (rfl) 0).trans pw0) ?_
      refine ti_iastG (ci := 10) (k := 49) (n := 69) C hw ob_60 (by decide) (fun _ _ => rfl) (by unfold vp_in; decide) dX10_copies_256 (fun H locs g_7 eg_7 hw => ?_)
      refine lv_iinc (v := 1) (lv' := [(3, .int 1), (0, .ref (A 60 0)), (1, .int 3), (2, .int 0)]) hx hb dX10_copies_257 hl (k := 0) rfl (by decide) (by decide) rfl (fun ls hl => ?_)
      refine lv_goto (tgt := 232) hx hb dX10_copies_260 (by decide) ?_
      refine lv_iload_n hx hb dX10_copies_232 rfl (lv_at hl 0 rfl) ?_
      refine lv_iconst (v := 3) hx hb dX10_copies_233 (by decide) ?_
      refine lv_icmp_ge (tgt := 263) hx hb dX10_copies_234 (by decide) (fun c => absurd c (by decide)) (fun c_234 => ?_)
      refine lv_aload_n hx hb dX10_copies_237 rfl (lv_at hl 1 rfl) ?_
      refine ti_get (ci := 10) (k := 49) (N := 67) (T := TX10) (v := .ref (A 60 50)) C hw iw_10 rfl ob_60 (by decide) (by decide) fl_X10_114 rfl rfl dX10_copies_238 ?_
      refine lv_iconst (v := 3) hx hb dX10_copies_241 (by decide) ?_
      refine lv_iload_n hx hb dX10_copies_242 rfl (lv_at hl 2 rfl) ?_
      refine lv_imul hx hb dX10_copies_243 ?_
      refine ti_top (y := 9) (by decide) ?_
      refine lv_iload_n hx hb dX10_copies_244 rfl (lv_at hl 0 rfl) ?_
      refine lv_iadd hx hb dX10_copies_245 ?_
      refine ti_top (y := 10) (by decide) ?_
      refine lv_aload_n hx hb dX10_copies_246 rfl (lv_at hl 1 rfl) ?_
      refine ti_get (ci := 10) (k := 49) (N := 67) (T := TX10) (v := .ref (A 60 50)) C hw iw_10 rfl ob_60 (by decide) (by decide) fl_X10_114 rfl rfl dX10_copies_247 ?_
      refine lv_iconst (v := 3) hx hb dX10_copies_250 (by decide) ?_
      refine lv_iload_n hx hb dX10_copies_251 rfl (lv_at hl 3 rfl) ?_
      refine lv_imul hx hb dX10_copies_252 ?_
      refine ti_top (y := 0) (by decide) ?_
      refine lv_iload_n hx hb dX10_copies_253 rfl (lv_at hl 0 rfl) ?_
      refine lv_iadd hx hb dX10_copies_254 ?_
      refine ti_top (y := 1) (by decide) ?_
      refine ti_iald (ci := 10) (k := 49) (n := 69) C hw ob_60 (by decide) (fun _ _ => rfl) (by unfold vp_in; decide) dX10_copies_255 ?_
      refine ti_top (y := 1) ((congrFun (tY_u _ _ _ _) 1).trans ((congrFun eg_7 1).trans pw1)) ?_
      refine ti_iastG (ci := 10) (k := 49) (n := 69) C hw ob_60 (by decide) (fun _ _ => rfl) (by unfold vp_in; decide) dX10_copies_256 (fun H locs g_8 eg_8 hw => ?_)
      refine lv_iinc (v := 2) (lv' := [(3, .int 2), (0, .ref (A 60 0)), (1, .int 3), (2, .int 0)]) hx hb dX10_copies_257 hl (k := 0) rfl (by decide) (by decide) rfl (fun ls hl => ?_)
      refine lv_goto (tgt := 232) hx hb dX10_copies_260 (by decide) ?_
      refine lv_iload_n hx hb dX10_copies_232 rfl (lv_at hl 0 rfl) ?_
      refine lv_iconst (v := 3) hx hb dX10_copies_233 (by decide) ?_
      refine lv_icmp_ge (tgt := 263) hx hb dX10_copies_234 (by decide) (fun c => absurd c (by decide)) (fun c_234 => ?_)
      refine lv_aload_n hx hb dX10_copies_237 rfl (lv_at hl 1 rfl) ?_
      refine ti_get (ci := 10) (k := 49) (N := 67) (T := TX10) (v := .ref (A 60 50)) C hw iw_10 rfl ob_60 (by decide) (by decide) fl_X10_114 rfl rfl dX10_copies_238 ?_
      refine lv_iconst (v := 3) hx hb dX10_copies_241 (by decide) ?_
      refine lv_iload_n hx hb dX10_copies_242 rfl (lv_at hl 2 rfl) ?_
      refine lv_imul hx hb dX10_copies_243 ?_
      refine ti_top (y := 9) (by decide) ?_
      refine lv_iload_n hx hb dX10_copies_244 rfl (lv_at hl 0 rfl) ?_
      refine lv_iadd hx hb dX10_copies_245 ?_
      refine ti_top (y := 11) (by decide) ?_
      refine lv_aload_n hx hb dX10_copies_246 rfl (lv_at hl 1 rfl) ?_
      refine ti_get (ci := 10) (k := 49) (N := 67) (T := TX10) (v := .ref (A 60 50)) C hw iw_10 rfl ob_60 (by decide) (by decide) fl_X10_114 rfl rfl dX10_copies_247 ?_
      refine lv_iconst (v := 3) hx hb dX10_copies_250 (by decide) ?_
      refine lv_iload_n hx hb dX10_copies_251 rfl (lv_at hl 3 rfl) ?_
      refine lv_imul hx hb dX10_copies_252 ?_
      refine ti_top (y := 0) (by decide) ?_
      refine lv_iload_n hx hb dX10_copies_253 rfl (lv_at hl 0 rfl) ?_
      refine lv_iadd hx hb dX10_copies_254 ?_
      refine ti_top (y := 2) (by decide) ?_
      refine ti_iald (ci := 10) (k := 49) (n := 69) C hw ob_60 (by decide) (fun _ _ => rfl) (by unfold vp_in; decide) dX10_copies_255 ?_
      refine ti_top (y := 2) ((congrFun (tY_u _ _ _ _) 2).trans ((congrFun eg_8 2).trans ((congrFun eg_7 2).trans pw2))) ?_
      refine ti_iastG (ci := 10) (k := 49) (n := 69) C hw ob_60 (by decide) (fun _ _ => rfl) (by unfold vp_in; decide) dX10_copies_256 (fun H locs g_9 eg_9 hw => ?_)
      refine lv_iinc (v := 3) (lv' := [(3, .int 3), (0, .ref (A 60 0)), (1, .int 3), (2, .int 0)]) hx hb dX10_copies_257 hl (k := 0) rfl (by decide) (by decide) rfl (fun ls hl => ?_)
      refine lv_goto (tgt := 232) hx hb dX10_copies_260 (by decide) ?_
      refine lv_iload_n hx hb dX10_copies_232 rfl (lv_at hl 0 rfl) ?_
      refine lv_iconst (v := 3) hx hb dX10_copies_233 (by decide) ?_
      refine lv_icmp_ge (tgt := 263) hx hb dX10_copies_234 (by decide) (fun c_234 => ?_) (fun c => absurd (by decide) c)
      exact hQ _ _ _ _ _ hw (⟨⟨((tI_uY _ _ _ _ _ _).trans ((tI_uY _ _ _ _ _ _).trans ((tI_uY _ _ _ _ _ _).trans m_taped))), ((tI_uY _ _ _ _ _ _).trans ((tI_uY _ _ _ _ _ _).trans ((tI_uY _ _ _ _ _ _).trans m_lf))), ((tI_uY _ _ _ _ _ _).trans ((tI_uY _ _ _ _ _ _).trans ((tI_uY _ _ _ _ _ _).trans m_lp))), ((tI_uY _ _ _ _ _ _).trans ((tI_uY _ _ _ _ _ _).trans ((tI_uY _ _ _ _ _ _).trans m_hi))), ((tI_uY _ _ _ _ _ _).trans ((tI_uY _ _ _ _ _ _).trans ((tI_uY _ _ _ _ _ _).trans m_un))), ((tI_uY _ _ _ _ _ _).trans ((tI_uY _ _ _ _ _ _).trans ((tI_uY _ _ _ _ _ _).trans m_st))), ((tI_uY _ _ _ _ _ _).trans ((tI_uY _ _ _ _ _ _).trans ((tI_uY _ _ _ _ _ _).trans m_kb))), ((congrFun ((tY_k _ _ _ _ (by decide)).trans ((tY_k _ _ _ _ (by decide)).trans ((tY_k _ _ _ _ (by decide)).trans rfl))) 0).trans n0), ((congrFun ((tY_k _ _ _ _ (by decide)).trans ((tY_k _ _ _ _ (by decide)).trans ((tY_k _ _ _ _ (by decide)).trans rfl))) 3).trans n3), ((congrFun ((tY_k _ _ _ _ (by decide)).trans ((tY_k _ _ _ _ (by decide)).trans ((tY_k _ _ _ _ (by decide)).trans rfl))) 5).trans n5), ((congrFun ((tY_k _ _ _ _ (by decide)).trans ((tY_k _ _ _ _ (by decide)).trans ((tY_k _ _ _ _ (by decide)).trans rfl))) 7).trans n7), ((congrFun ((tY_k _ _ _ _ (by decide)).trans ((tY_k _ _ _ _ (by decide)).trans ((tY_k _ _ _ _ (by decide)).trans rfl))) 0).trans mi0), ((congrFun ((tY_k _ _ _ _ (by decide)).trans ((tY_k _ _ _ _ (by decide)).trans ((tY_k _ _ _ _ (by decide)).trans rfl))) 0).trans wa0), ((congrFun ((tY_k _ _ _ _ (by decide)).trans ((tY_k _ _ _ _ (by decide)).trans ((tY_k _ _ _ _ (by decide)).trans rfl))) 0).trans co0), ((congrFun ((tY_k _ _ _ _ (by decide)).trans ((tY_k _ _ _ _ (by decide)).trans ((tY_k _ _ _ _ (by decide)).trans rfl))) 0).trans ma0), ((congrFun (tY_u _ _ _ _) 0).trans ((congrFun eg_9 0).trans ((congrFun eg_8 0).trans ((congrFun eg_7 0).trans pw0)))), ((congrFun (tY_u _ _ _ _) 1).trans ((congrFun eg_9 1).trans ((congrFun eg_8 1).trans ((congrFun eg_7 1).trans pw1)))), ((congrFun (tY_u _ _ _ _) 2).trans ((congrFun eg_9 2).trans ((congrFun eg_8 2).trans ((congrFun eg_7 2).trans pw2)))), sf, sto⟩, ((congrFun ((tY_k _ _ _ _ (by decide)).trans ((tY_k _ _ _ _ (by decide)).trans ((tY_k _ _ _ _ (by decide)).trans rfl))) 3).trans c34), ((congrFun ((tY_k _ _ _ _ (by decide)).trans ((tY_k _ _ _ _ (by decide)).trans ((tY_k _ _ _ _ (by decide)).trans rfl))) 3).trans c38), ((congrFun (tY_u _ _ _ _) 11).trans ((congrFun eg_9 11).trans rfl))⟩) dX10_copies_263
    · refine lv_bipush (v := 8) hx hb dX10_copies_68 (by decide) ?_
      refine lv_iload_n hx hb dX10_copies_70 rfl (lv_at hl 2 rfl) ?_
      refine lv_imul hx hb dX10_copies_71 ?_
      refine ti_top (y := 24) (by decide) ?_
      refine lv_iload_n hx hb dX10_copies_72 rfl (lv_at hl 0 rfl) ?_
      refine lv_iadd hx hb dX10_copies_73 ?_
      refine lv_topi (fun x_10 ex_10 => ?_)
      refine lv_istore (lv' := [(4, .int x_10), (3, .int (nI i)), (0, .ref (A 60 0)), (1, .int 3), (2, .int 0)]) hx hb dX10_copies_74 hl (by decide) rfl (fun ls hl => ?_)
      refine lv_bipush (v := 8) hx hb dX10_copies_76 (by decide) ?_
      refine lv_iload_n hx hb dX10_copies_78 rfl (lv_at hl 4 rfl) ?_
      refine lv_imul hx hb dX10_copies_79 ?_
      refine ti_top (y := 0) (by decide) ?_
      refine lv_iload_n hx hb dX10_copies_80 rfl (lv_at hl 1 rfl) ?_
      refine lv_iadd hx hb dX10_copies_81 ?_
      refine lv_topi (fun x_11 ex_11 => ?_)
      refine lv_istore (lv' := [(5, .int x_11), (4, .int x_10), (3, .int (nI i)), (0, .ref (A 60 0)), (1, .int 3), (2, .int 0)]) hx hb dX10_copies_82 hl (by decide) rfl (fun ls hl => ?_)
      refine lv_aload_n hx hb dX10_copies_84 rfl (lv_at hl 3 rfl) ?_
      refine ti_get (ci := 10) (k := 39) (N := 67) (T := TX10) (v := .ref (A 60 40)) C hw iw_10 rfl ob_60 (by decide) (by decide) fl_X10_84 rfl rfl dX10_copies_85 ?_
      refine lv_iload hx hb dX10_copies_88 (lv_at hl 1 rfl) ?_
      refine lv_aload_n hx hb dX10_copies_90 rfl (lv_at hl 3 rfl) ?_
      refine ti_get (ci := 10) (k := 39) (N := 67) (T := TX10) (v := .ref (A 60 40)) C hw iw_10 rfl ob_60 (by decide) (by decide) fl_X10_84 rfl rfl dX10_copies_91 ?_
      refine lv_iload hx hb dX10_copies_94 (lv_at hl 0 rfl) ?_
      refine ti_iald (ci := 10) (k := 39) (n := 184) C hw ob_60 (by decide) (fun _ _ => rfl) (ti_ixc (c := 0) (N := 184) ex_11 (by have := ti_ltn (n := 8) c_65 (by decide) hi; omega) (by decide)) dX10_copies_96 ?_
      refine lv_topi (fun x_12 ex_12 => ?_)
      refine ti_iastG (ci := 10) (k := 39) (n := 184) C hw ob_60 (by decide) (fun _ _ => rfl) (ti_ixc (c := 24) (N := 184) ex_10 (by have := ti_ltn (n := 8) c_65 (by decide) hi; omega) (by decide)) dX10_copies_97 (fun H locs g_13 eg_13 hw => ?_)
      refine lv_aload_n hx hb dX10_copies_98 rfl (lv_at hl 3 rfl) ?_
      refine ti_get (ci := 10) (k := 40) (N := 67) (T := TX10) (v := .ref (A 60 41)) C hw iw_10 rfl ob_60 (by decide) (by decide) fl_X10_87 rfl rfl dX10_copies_99 ?_
      refine lv_iload hx hb dX10_copies_102 (lv_at hl 1 rfl) ?_
      refine lv_aload_n hx hb dX10_copies_104 rfl (lv_at hl 3 rfl) ?_
      refine ti_get (ci := 10) (k := 40) (N := 67) (T := TX10) (v := .ref (A 60 41)) C hw iw_10 rfl ob_60 (by decide) (by decide) fl_X10_87 rfl rfl dX10_copies_105 ?_
      refine lv_iload hx hb dX10_copies_108 (lv_at hl 0 rfl) ?_
      refine ti_iald (ci := 10) (k := 40) (n := 184) C hw ob_60 (by decide) (fun _ _ => rfl) (ti_ixc (c := 0) (N := 184) ex_11 (by have := ti_ltn (n := 8) c_65 (by decide) hi; omega) (by decide)) dX10_copies_110 ?_
      refine lv_topi (fun x_14 ex_14 => ?_)
      refine ti_iastG (ci := 10) (k := 40) (n := 184) C hw ob_60 (by decide) (fun _ _ => rfl) (ti_ixc (c := 24) (N := 184) ex_10 (by have := ti_ltn (n := 8) c_65 (by decide) hi; omega) (by decide)) dX10_copies_111 (fun H locs g_15 eg_15 hw => ?_)
      refine lv_aload_n hx hb dX10_copies_112 rfl (lv_at hl 3 rfl) ?_
      refine ti_get (ci := 10) (k := 41) (N := 67) (T := TX10) (v := .ref (A 60 42)) C hw iw_10 rfl ob_60 (by decide) (by decide) fl_X10_90 rfl rfl dX10_copies_113 ?_
      refine lv_iload hx hb dX10_copies_116 (lv_at hl 1 rfl) ?_
      refine lv_aload_n hx hb dX10_copies_118 rfl (lv_at hl 3 rfl) ?_
      refine ti_get (ci := 10) (k := 41) (N := 67) (T := TX10) (v := .ref (A 60 42)) C hw iw_10 rfl ob_60 (by decide) (by decide) fl_X10_90 rfl rfl dX10_copies_119 ?_
      refine lv_iload hx hb dX10_copies_122 (lv_at hl 0 rfl) ?_
      refine ti_iald (ci := 10) (k := 41) (n := 184) C hw ob_60 (by decide) (fun _ _ => rfl) (ti_ixc (c := 0) (N := 184) ex_11 (by have := ti_ltn (n := 8) c_65 (by decide) hi; omega) (by decide)) dX10_copies_124 ?_
      refine lv_topi (fun x_16 ex_16 => ?_)
      refine ti_iastG (ci := 10) (k := 41) (n := 184) C hw ob_60 (by decide) (fun _ _ => rfl) (ti_ixc (c := 24) (N := 184) ex_10 (by have := ti_ltn (n := 8) c_65 (by decide) hi; omega) (by decide)) dX10_copies_125 (fun H locs g_17 eg_17 hw => ?_)
      refine lv_aload_n hx hb dX10_copies_126 rfl (lv_at hl 3 rfl) ?_
      refine ti_get (ci := 10) (k := 42) (N := 67) (T := TX10) (v := .ref (A 60 43)) C hw iw_10 rfl ob_60 (by decide) (by decide) fl_X10_93 rfl rfl dX10_copies_127 ?_
      refine lv_iload hx hb dX10_copies_130 (lv_at hl 1 rfl) ?_
      refine lv_aload_n hx hb dX10_copies_132 rfl (lv_at hl 3 rfl) ?_
      refine ti_get (ci := 10) (k := 42) (N := 67) (T := TX10) (v := .ref (A 60 43)) C hw iw_10 rfl ob_60 (by decide) (by decide) fl_X10_93 rfl rfl dX10_copies_133 ?_
      refine lv_iload hx hb dX10_copies_136 (lv_at hl 0 rfl) ?_
      refine ti_iald (ci := 10) (k := 42) (n := 184) C hw ob_60 (by decide) (fun _ _ => rfl) (ti_ixc (c := 0) (N := 184) ex_11 (by have := ti_ltn (n := 8) c_65 (by decide) hi; omega) (by decide)) dX10_copies_138 ?_
      refine lv_topi (fun x_18 ex_18 => ?_)
      refine ti_iastG (ci := 10) (k := 42) (n := 184) C hw ob_60 (by decide) (fun _ _ => rfl) (ti_ixc (c := 24) (N := 184) ex_10 (by have := ti_ltn (n := 8) c_65 (by decide) hi; omega) (by decide)) dX10_copies_139 (fun H locs g_19 eg_19 hw => ?_)
      refine lv_aload_n hx hb dX10_copies_140 rfl (lv_at hl 3 rfl) ?_
      refine ti_get (ci := 10) (k := 43) (N := 67) (T := TX10) (v := .ref (A 60 44)) C hw iw_10 rfl ob_60 (by decide) (by decide) fl_X10_96 rfl rfl dX10_copies_141 ?_
      refine lv_iload hx hb dX10_copies_144 (lv_at hl 1 rfl) ?_
      refine lv_aload_n hx hb dX10_copies_146 rfl (lv_at hl 3 rfl) ?_
      refine ti_get (ci := 10) (k := 43) (N := 67) (T := TX10) (v := .ref (A 60 44)) C hw iw_10 rfl ob_60 (by decide) (by decide) fl_X10_96 rfl rfl dX10_copies_147 ?_
      refine lv_iload hx hb dX10_copies_150 (lv_at hl 0 rfl) ?_
      refine ti_iald (ci := 10) (k := 43) (n := 184) C hw ob_60 (by decide) (fun _ _ => rfl) (ti_ixc (c := 0) (N := 184) ex_11 (by have := ti_ltn (n := 8) c_65 (by decide) hi; omega) (by decide)) dX10_copies_152 ?_
      refine lv_topi (fun x_20 ex_20 => ?_)
      refine ti_iastG (ci := 10) (k := 43) (n := 184) C hw ob_60 (by decide) (fun _ _ => rfl) (ti_ixc (c := 24) (N := 184) ex_10 (by have := ti_ltn (n := 8) c_65 (by decide) hi; omega) (by decide)) dX10_copies_153 (fun H locs g_21 eg_21 hw => ?_)
      refine lv_aload_n hx hb dX10_copies_154 rfl (lv_at hl 3 rfl) ?_
      refine ti_get (ci := 10) (k := 44) (N := 67) (T := TX10) (v := .ref (A 60 45)) C hw iw_10 rfl ob_60 (by decide) (by decide) fl_X10_99 rfl rfl dX10_copies_155 ?_
      refine lv_iload hx hb dX10_copies_158 (lv_at hl 1 rfl) ?_
      refine lv_aload_n hx hb dX10_copies_160 rfl (lv_at hl 3 rfl) ?_
      refine ti_get (ci := 10) (k := 44) (N := 67) (T := TX10) (v := .ref (A 60 45)) C hw iw_10 rfl ob_60 (by decide) (by decide) fl_X10_99 rfl rfl dX10_copies_161 ?_
      refine lv_iload hx hb dX10_copies_164 (lv_at hl 0 rfl) ?_
      refine ti_iald (ci := 10) (k := 44) (n := 184) C hw ob_60 (by decide) (fun _ _ => rfl) (ti_ixc (c := 0) (N := 184) ex_11 (by have := ti_ltn (n := 8) c_65 (by decide) hi; omega) (by decide)) dX10_copies_166 ?_
      refine lv_topi (fun x_22 ex_22 => ?_)
      refine ti_iastG (ci := 10) (k := 44) (n := 184) C hw ob_60 (by decide) (fun _ _ => rfl) (ti_ixc (c := 24) (N := 184) ex_10 (by have := ti_ltn (n := 8) c_65 (by decide) hi; omega) (by decide)) dX10_copies_167 (fun H locs g_23 eg_23 hw => ?_)
      refine lv_aload_n hx hb dX10_copies_168 rfl (lv_at hl 3 rfl) ?_
      refine ti_get (ci := 10) (k := 45) (N := 67) (T := TX10) (v := .ref (A 60 46)) C hw iw_10 rfl ob_60 (by decide) (by decide) fl_X10_102 rfl rfl dX10_copies_169 ?_
      refine lv_iload hx hb dX10_copies_172 (lv_at hl 1 rfl) ?_
      refine lv_aload_n hx hb dX10_copies_174 rfl (lv_at hl 3 rfl) ?_
      refine ti_get (ci := 10) (k := 45) (N := 67) (T := TX10) (v := .ref (A 60 46)) C hw iw_10 rfl ob_60 (by decide) (by decide) fl_X10_102 rfl rfl dX10_copies_175 ?_
      refine lv_iload hx hb dX10_copies_178 (lv_at hl 0 rfl) ?_
      refine ti_iald (ci := 10) (k := 45) (n := 184) C hw ob_60 (by decide) (fun _ _ => rfl) (ti_ixc (c := 0) (N := 184) ex_11 (by have := ti_ltn (n := 8) c_65 (by decide) hi; omega) (by decide)) dX10_copies_180 ?_
      refine lv_topi (fun x_24 ex_24 => ?_)
      refine ti_iastG (ci := 10) (k := 45) (n := 184) C hw ob_60 (by decide) (fun _ _ => rfl) (ti_ixc (c := 24) (N := 184) ex_10 (by have := ti_ltn (n := 8) c_65 (by decide) hi; omega) (by decide)) dX10_copies_181 (fun H locs g_25 eg_25 hw => ?_)
      refine lv_aload_n hx hb dX10_copies_182 rfl (lv_at hl 3 rfl) ?_
      refine ti_get (ci := 10) (k := 46) (N := 67) (T := TX10) (v := .ref (A 60 47)) C hw iw_10 rfl ob_60 (by decide) (by decide) fl_X10_105 rfl rfl dX10_copies_183 ?_
      refine lv_iload hx hb dX10_copies_186 (lv_at hl 1 rfl) ?_
      refine lv_aload_n hx hb dX10_copies_188 rfl (lv_at hl 3 rfl) ?_
      refine ti_get (ci := 10) (k := 46) (N := 67) (T := TX10) (v := .ref (A 60 47)) C hw iw_10 rfl ob_60 (by decide) (by decide) fl_X10_105 rfl rfl dX10_copies_189 ?_
      refine lv_iload hx hb dX10_copies_192 (lv_at hl 0 rfl) ?_
      refine ti_iald (ci := 10) (k := 46) (n := 184) C hw ob_60 (by decide) (fun _ _ => rfl) (ti_ixc (c := 0) (N := 184) ex_11 (by have := ti_ltn (n := 8) c_65 (by decide) hi; omega) (by decide)) dX10_copies_194 ?_
      refine lv_topi (fun x_26 ex_26 => ?_)
      refine ti_iastG (ci := 10) (k := 46) (n := 184) C hw ob_60 (by decide) (fun _ _ => rfl) (ti_ixc (c := 24) (N := 184) ex_10 (by have := ti_ltn (n := 8) c_65 (by decide) hi; omega) (by decide)) dX10_copies_195 (fun H locs g_27 eg_27 hw => ?_)
      refine lv_aload_n hx hb dX10_copies_196 rfl (lv_at hl 3 rfl) ?_
      refine ti_get (ci := 10) (k := 47) (N := 67) (T := TX10) (v := .ref (A 60 48)) C hw iw_10 rfl ob_60 (by decide) (by decide) fl_X10_108 rfl rfl dX10_copies_197 ?_
      refine lv_iload hx hb dX10_copies_200 (lv_at hl 1 rfl) ?_
      refine lv_aload_n hx hb dX10_copies_202 rfl (lv_at hl 3 rfl) ?_
      refine ti_get (ci := 10) (k := 47) (N := 67) (T := TX10) (v := .ref (A 60 48)) C hw iw_10 rfl ob_60 (by decide) (by decide) fl_X10_108 rfl rfl dX10_copies_203 ?_
      refine lv_iload hx hb dX10_copies_206 (lv_at hl 0 rfl) ?_
      refine ti_iald (ci := 10) (k := 47) (n := 184) C hw ob_60 (by decide) (fun _ _ => rfl) (ti_ixc (c := 0) (N := 184) ex_11 (by have := ti_ltn (n := 8) c_65 (by decide) hi; omega) (by decide)) dX10_copies_208 ?_
      refine lv_topi (fun x_28 ex_28 => ?_)
      refine ti_iastG (ci := 10) (k := 47) (n := 184) C hw ob_60 (by decide) (fun _ _ => rfl) (ti_ixc (c := 24) (N := 184) ex_10 (by have := ti_ltn (n := 8) c_65 (by decide) hi; omega) (by decide)) dX10_copies_209 (fun H locs g_29 eg_29 hw => ?_)
      refine lv_aload_n hx hb dX10_copies_210 rfl (lv_at hl 3 rfl) ?_
      refine ti_get (ci := 10) (k := 48) (N := 67) (T := TX10) (v := .ref (A 60 49)) C hw iw_10 rfl ob_60 (by decide) (by decide) fl_X10_111 rfl rfl dX10_copies_211 ?_
      refine lv_iload hx hb dX10_copies_214 (lv_at hl 1 rfl) ?_
      refine lv_aload_n hx hb dX10_copies_216 rfl (lv_at hl 3 rfl) ?_
      refine ti_get (ci := 10) (k := 48) (N := 67) (T := TX10) (v := .ref (A 60 49)) C hw iw_10 rfl ob_60 (by decide) (by decide) fl_X10_111 rfl rfl dX10_copies_217 ?_
      refine lv_iload hx hb dX10_copies_220 (lv_at hl 0 rfl) ?_
      refine ti_iald (ci := 10) (k := 48) (n := 184) C hw ob_60 (by decide) (fun _ _ => rfl) (ti_ixc (c := 0) (N := 184) ex_11 (by have := ti_ltn (n := 8) c_65 (by decide) hi; omega) (by decide)) dX10_copies_222 ?_
      refine lv_topi (fun x_30 ex_30 => ?_)
      refine ti_iastG (ci := 10) (k := 48) (n := 184) C hw ob_60 (by decide) (fun _ _ => rfl) (ti_ixc (c := 24) (N := 184) ex_10 (by have := ti_ltn (n := 8) c_65 (by decide) hi; omega) (by decide)) dX10_copies_223 (fun H locs g_31 eg_31 hw => ?_)
      refine lv_iinc (v := nI (i + 1)) (lv' := [(3, .int (nI (i + 1))), (5, .int x_11), (4, .int x_10), (0, .ref (A 60 0)), (1, .int 3), (2, .int 0)]) hx hb dX10_copies_224 hl (k := 2) rfl (nI_1 i) (by decide) rfl (fun ls hl => ?_)
      refine lv_goto (tgt := 62) hx hb dX10_copies_227 (by decide) ?_
      exact ih (i + 1) (uY (uY (uY (uY (uY (uY (uY (uY (uY (uY Mx 60 39 g_13) 60 40 g_15) 60 41 g_17) 60 42 g_19) 60 43 g_21) 60 44 g_23) 60 45 g_25) 60 46 g_27) 60 47 g_29) 60 48 g_31) _ _ _ (by omega) (ti_ltn (n := 8) c_65 (by decide) hi) ⟨((tI_uY _ _ _ _ _ _).trans ((tI_uY _ _ _ _ _ _).trans ((tI_uY _ _ _ _ _ _).trans ((tI_uY _ _ _ _ _ _).trans ((tI_uY _ _ _ _ _ _).trans ((tI_uY _ _ _ _ _ _).trans ((tI_uY _ _ _ _ _ _).trans ((tI_uY _ _ _ _ _ _).trans ((tI_uY _ _ _ _ _ _).trans ((tI_uY _ _ _ _ _ _).trans m_taped)))))))))), ((tI_uY _ _ _ _ _ _).trans ((tI_uY _ _ _ _ _ _).trans ((tI_uY _ _ _ _ _ _).trans ((tI_uY _ _ _ _ _ _).trans ((tI_uY _ _ _ _ _ _).trans ((tI_uY _ _ _ _ _ _).trans ((tI_uY _ _ _ _ _ _).trans ((tI_uY _ _ _ _ _ _).trans ((tI_uY _ _ _ _ _ _).trans ((tI_uY _ _ _ _ _ _).trans m_lf)))))))))), ((tI_uY _ _ _ _ _ _).trans ((tI_uY _ _ _ _ _ _).trans ((tI_uY _ _ _ _ _ _).trans ((tI_uY _ _ _ _ _ _).trans ((tI_uY _ _ _ _ _ _).trans ((tI_uY _ _ _ _ _ _).trans ((tI_uY _ _ _ _ _ _).trans ((tI_uY _ _ _ _ _ _).trans ((tI_uY _ _ _ _ _ _).trans ((tI_uY _ _ _ _ _ _).trans m_lp)))))))))), ((tI_uY _ _ _ _ _ _).trans ((tI_uY _ _ _ _ _ _).trans ((tI_uY _ _ _ _ _ _).trans ((tI_uY _ _ _ _ _ _).trans ((tI_uY _ _ _ _ _ _).trans ((tI_uY _ _ _ _ _ _).trans ((tI_uY _ _ _ _ _ _).trans ((tI_uY _ _ _ _ _ _).trans ((tI_uY _ _ _ _ _ _).trans ((tI_uY _ _ _ _ _ _).trans m_hi)))))))))), ((tI_uY _ _ _ _ _ _).trans ((tI_uY _ _ _ _ _ _).trans ((tI_uY _ _ _ _ _ _).trans ((tI_uY _ _ _ _ _ _).trans ((tI_uY _ _ _ _ _ _).trans ((tI_uY _ _ _ _ _ _).trans ((tI_uY _ _ _ _ _ _).trans ((tI_uY _ _ _ _ _ _).trans ((tI_uY _ _ _ _ _ _).trans ((tI_uY _ _ _ _ _ _).trans m_un)))))))))), ((tI_uY _ _ _ _ _ _).trans ((tI_uY _ _ _ _ _ _).trans ((tI_uY _ _ _ _ _ _).trans ((tI_uY _ _ _ _ _ _).trans ((tI_uY _ _ _ _ _ _).trans ((tI_uY _ _ _ _ _ _).trans ((tI_uY _ _ _ _ _ _).trans ((tI_uY _ _ _ _ _ _).trans ((tI_uY _ _ _ _ _ _).trans ((tI_uY _ _ _ _ _ _).trans m_st)))))))))), ((tI_uY _ _ _ _ _ _).trans ((tI_uY _ _ _ _ _ _).trans ((tI_uY _ _ _ _ _ _).trans ((tI_uY _ _ _ _ _ _).trans ((tI_uY _ _ _ _ _ _).trans ((tI_uY _ _ _ _ _ _).trans ((tI_uY _ _ _ _ _ _).trans ((tI_uY _ _ _ _ _ _).trans ((tI_uY _ _ _ _ _ _).trans ((tI_uY _ _ _ _ _ _).trans m_kb)))))))))), ((congrFun ((tY_k _ _ _ _ (by decide)).trans ((tY_k _ _ _ _ (by decide)).trans ((tY_k _ _ _ _ (by decide)).trans ((tY_k _ _ _ _ (by decide)).trans ((tY_k _ _ _ _ (by decide)).trans ((tY_k _ _ _ _ (by decide)).trans ((tY_k _ _ _ _ (by decide)).trans ((tY_k _ _ _ _ (by decide)).trans ((tY_k _ _ _ _ (by decide)).trans ((tY_k _ _ _ _ (by decide)).trans rfl)))))))))) 0).trans n0), ((congrFun ((tY_k _ _ _ _ (by decide)).trans ((tY_k _ _ _ _ (by decide)).trans ((tY_k _ _ _ _ (by decide)).trans ((tY_k _ _ _ _ (by decide)).trans ((tY_k _ _ _ _ (by decide)).trans ((tY_k _ _ _ _ (by decide)).trans ((tY_k _ _ _ _ (by decide)).trans ((tY_k _ _ _ _ (by decide)).trans ((tY_k _ _ _ _ (by decide)).trans ((tY_k _ _ _ _ (by decide)).trans rfl)))))))))) 3).trans n3), ((congrFun ((tY_k _ _ _ _ (by decide)).trans ((tY_k _ _ _ _ (by decide)).trans ((tY_k _ _ _ _ (by decide)).trans ((tY_k _ _ _ _ (by decide)).trans ((tY_k _ _ _ _ (by decide)).trans ((tY_k _ _ _ _ (by decide)).trans ((tY_k _ _ _ _ (by decide)).trans ((tY_k _ _ _ _ (by decide)).trans ((tY_k _ _ _ _ (by decide)).trans ((tY_k _ _ _ _ (by decide)).trans rfl)))))))))) 5).trans n5), ((congrFun ((tY_k _ _ _ _ (by decide)).trans ((tY_k _ _ _ _ (by decide)).trans ((tY_k _ _ _ _ (by decide)).trans ((tY_k _ _ _ _ (by decide)).trans ((tY_k _ _ _ _ (by decide)).trans ((tY_k _ _ _ _ (by decide)).trans ((tY_k _ _ _ _ (by decide)).trans ((tY_k _ _ _ _ (by decide)).trans ((tY_k _ _ _ _ (by decide)).trans ((tY_k _ _ _ _ (by decide)).trans rfl)))))))))) 7).trans n7), ((congrFun ((tY_k _ _ _ _ (by decide)).trans ((tY_k _ _ _ _ (by decide)).trans ((tY_k _ _ _ _ (by decide)).trans ((tY_k _ _ _ _ (by decide)).trans ((tY_k _ _ _ _ (by decide)).trans ((tY_k _ _ _ _ (by decide)).trans ((tY_k _ _ _ _ (by decide)).trans ((tY_k _ _ _ _ (by decide)).trans ((tY_k _ _ _ _ (by decide)).trans ((tY_k _ _ _ _ (by decide)).trans rfl)))))))))) 0).trans mi0), ((congrFun ((tY_k _ _ _ _ (by decide)).trans ((tY_k _ _ _ _ (by decide)).trans ((tY_k _ _ _ _ (by decide)).trans ((tY_k _ _ _ _ (by decide)).trans ((tY_k _ _ _ _ (by decide)).trans ((tY_k _ _ _ _ (by decide)).trans ((tY_k _ _ _ _ (by decide)).trans ((tY_k _ _ _ _ (by decide)).trans ((tY_k _ _ _ _ (by decide)).trans ((tY_k _ _ _ _ (by decide)).trans rfl)))))))))) 0).trans wa0), ((congrFun ((tY_k _ _ _ _ (by decide)).trans ((tY_k _ _ _ _ (by decide)).trans ((tY_k _ _ _ _ (by decide)).trans ((tY_k _ _ _ _ (by decide)).trans ((tY_k _ _ _ _ (by decide)).trans ((tY_k _ _ _ _ (by decide)).trans ((tY_k _ _ _ _ (by decide)).trans ((tY_k _ _ _ _ (by decide)).trans ((tY_k _ _ _ _ (by decide)).trans ((tY_k _ _ _ _ (by decide)).trans rfl)))))))))) 0).trans co0), ((congrFun ((tY_k _ _ _ _ (by decide)).trans ((tY_k _ _ _ _ (by decide)).trans ((tY_k _ _ _ _ (by decide)).trans ((tY_k _ _ _ _ (by decide)).trans ((tY_k _ _ _ _ (by decide)).trans ((tY_k _ _ _ _ (by decide)).trans ((tY_k _ _ _ _ (by decide)).trans ((tY_k _ _ _ _ (by decide)).trans ((tY_k _ _ _ _ (by decide)).trans ((tY_k _ _ _ _ (by decide)).trans rfl)))))))))) 0).trans ma0), ((congrFun ((tY_k _ _ _ _ (by decide)).trans ((tY_k _ _ _ _ (by decide)).trans ((tY_k _ _ _ _ (by decide)).trans ((tY_k _ _ _ _ (by decide)).trans ((tY_k _ _ _ _ (by decide)).trans ((tY_k _ _ _ _ (by decide)).trans ((tY_k _ _ _ _ (by decide)).trans ((tY_k _ _ _ _ (by decide)).trans ((tY_k _ _ _ _ (by decide)).trans ((tY_k _ _ _ _ (by decide)).trans rfl)))))))))) 0).trans pw0), ((congrFun ((tY_k _ _ _ _ (by decide)).trans ((tY_k _ _ _ _ (by decide)).trans ((tY_k _ _ _ _ (by decide)).trans ((tY_k _ _ _ _ (by decide)).trans ((tY_k _ _ _ _ (by decide)).trans ((tY_k _ _ _ _ (by decide)).trans ((tY_k _ _ _ _ (by decide)).trans ((tY_k _ _ _ _ (by decide)).trans ((tY_k _ _ _ _ (by decide)).trans ((tY_k _ _ _ _ (by decide)).trans rfl)))))))))) 1).trans pw1), ((congrFun ((tY_k _ _ _ _ (by decide)).trans ((tY_k _ _ _ _ (by decide)).trans ((tY_k _ _ _ _ (by decide)).trans ((tY_k _ _ _ _ (by decide)).trans ((tY_k _ _ _ _ (by decide)).trans ((tY_k _ _ _ _ (by decide)).trans ((tY_k _ _ _ _ (by decide)).trans ((tY_k _ _ _ _ (by decide)).trans ((tY_k _ _ _ _ (by decide)).trans ((tY_k _ _ _ _ (by decide)).trans rfl)))))))))) 2).trans pw2), sf, sto⟩ ((congrFun ((tY_k _ _ _ _ (by decide)).trans ((tY_k _ _ _ _ (by decide)).trans ((tY_k _ _ _ _ (by decide)).trans ((tY_k _ _ _ _ (by decide)).trans ((tY_k _ _ _ _ (by decide)).trans ((tY_k _ _ _ _ (by decide)).trans ((tY_k _ _ _ _ (by decide)).trans ((tY_k _ _ _ _ (by decide)).trans ((tY_k _ _ _ _ (by decide)).trans ((tY_k _ _ _ _ (by decide)).trans rfl)))))))))) 3).trans c34) ((congrFun ((tY_k _ _ _ _ (by decide)).trans ((tY_k _ _ _ _ (by decide)).trans ((tY_k _ _ _ _ (by decide)).trans ((tY_k _ _ _ _ (by decide)).trans ((tY_k _ _ _ _ (by decide)).trans ((tY_k _ _ _ _ (by decide)).trans ((tY_k _ _ _ _ (by decide)).trans ((tY_k _ _ _ _ (by decide)).trans ((tY_k _ _ _ _ (by decide)).trans ((tY_k _ _ _ _ (by decide)).trans rfl)))))))))) 3).trans c38) hw (lv_sub hl [0, 3, 4, 5] rfl)
set_option maxHeartbeats 4000000 in
set_option maxRecDepth 100000 in
theorem k_X10_copiesLog (l : Launch) (D : va_G) (A : Nat → Nat → Nat) (cy : Nat → ClassId) (hJ : ti_inj ti_LM A) (M : ti_M) (hF : ti_FM M)  : ti_Kv l yX10_copiesLog cX10_copiesLog 4 0 ti_LM D A cy M [.ref (A 60 0), .int 1, .int 0] (fun M2 => ti_FM M2) := by
  refine ti_eV yp_X10_copiesLog hJ ti_LM_nd (Nat.le_of_ble_eq_true rfl) ?_
  intro p e s m args below meth c Q H0 C hQ hw ls hl
  have hx := C.1
  have hb := C.2.1
  have hl : lv_has ls 4 [(0, .ref (A 60 0)), (1, .int 1), (2, .int 0)] := hl
  obtain ⟨m_taped, m_lf, m_lp, m_hi, m_un, m_st, m_kb, n0, n3, n5, n7, mi0, wa0, co0, ma0, pw0, pw1, pw2, sf, sto⟩ := id hF
  refine lv_iconst (v := 0) hx hb dX10_copiesLog_0 (by decide) ?_
  refine lv_istore_n (lv' := [(3, .int 0), (0, .ref (A 60 0)), (1, .int 1), (2, .int 0)]) hx hb dX10_copiesLog_1 rfl hl (by decide) rfl (fun ls hl => ?_)
  suffices hloop : ∀ (n : Nat) (i : Nat) (Mx : ti_M) (H : Heap) (locs : List Loc) (ls : Array Slot), (360 < i + n) → (i ≤ 360) → (ti_FM Mx) → ti_H ti_LM D A cy H0 Mx H locs → lv_has ls 4 [(3, .int (nI i)), (0, .ref (A 60 0)), (1, .int 1), (2, .int 0)] → W p l e (ti_rm 0) s m args below meth c H locs 0 0 Q (F0 m 2 ls []) from hloop 361 0 M _ _ _ (by omega) (by omega) ⟨(m_taped), (m_lf), (m_lp), (m_hi), (m_un), (m_st), (m_kb), ((congrFun (rfl) 0).trans n0), ((congrFun (rfl) 3).trans n3), ((congrFun (rfl) 5).trans n5), ((congrFun (rfl) 7).trans n7), ((congrFun (rfl) 0).trans mi0), ((congrFun (rfl) 0).trans wa0), ((congrFun (rfl) 0).trans co0), ((congrFun (rfl) 0).trans ma0), ((congrFun (rfl) 0).trans pw0), ((congrFun (rfl) 1).trans pw1), ((congrFun (rfl) 2).trans pw2), sf, sto⟩ hw (lv_sub hl [0, 1, 2, 3] rfl)
  clear hw hl ls
  intro n
  induction n with
  | zero => intro i Mx H locs ls hfuel hi hF hw hl; exact absurd hfuel (by omega)
  | succ n ih =>
    intro i Mx H locs ls hfuel hi hF hw hl
    obtain ⟨m_taped, m_lf, m_lp, m_hi, m_un, m_st, m_kb, n0, n3, n5, n7, mi0, wa0, co0, ma0, pw0, pw1, pw2, sf, sto⟩ := id hF
    refine lv_iload_n hx hb dX10_copiesLog_2 rfl (lv_at hl 0 rfl) ?_
    refine lv_sipush (v := 360) hx hb dX10_copiesLog_3 (by decide) ?_
    refine lv_icmp_ge (tgt := 39) hx hb dX10_copiesLog_6 (by decide) (fun c_6 => ?_) (fun c_6 => ?_)
    · exact hQ _ _ _ _ _ hw (⟨(m_taped), (m_lf), (m_lp), (m_hi), (m_un), (m_st), (m_kb), ((congrFun (rfl) 0).trans n0), ((congrFun (rfl) 3).trans n3), ((congrFun (rfl) 5).trans n5), ((congrFun (rfl) 7).trans n7), ((congrFun (rfl) 0).trans mi0), ((congrFun (rfl) 0).trans wa0), ((congrFun (rfl) 0).trans co0), ((congrFun (rfl) 0).trans ma0), ((congrFun (rfl) 0).trans pw0), ((congrFun (rfl) 1).trans pw1), ((congrFun (rfl) 2).trans pw2), sf, sto⟩) dX10_copiesLog_39
    · refine lv_aload_n hx hb dX10_copiesLog_9 rfl (lv_at hl 1 rfl) ?_
      refine ti_get (ci := 10) (k := 50) (N := 67) (T := TX10) (v := .ref (A 60 51)) C hw iw_10 rfl ob_60 (by decide) (by decide) fl_X10_117 rfl rfl dX10_copiesLog_10 ?_
      refine lv_sipush (v := 360) hx hb dX10_copiesLog_13 (by decide) ?_
      refine lv_iload_n hx hb dX10_copiesLog_16 rfl (lv_at hl 2 rfl) ?_
      refine lv_imul hx hb dX10_copiesLog_17 ?_
      refine ti_top (y := 360) (by decide) ?_
      refine lv_iload_n hx hb dX10_copiesLog_18 rfl (lv_at hl 0 rfl) ?_
      refine lv_iadd hx hb dX10_copiesLog_19 ?_
      refine lv_topi (fun x_1 ex_1 => ?_)
      refine lv_aload_n hx hb dX10_copiesLog_20 rfl (lv_at hl 1 rfl) ?_
      refine ti_get (ci := 10) (k := 50) (N := 67) (T := TX10) (v := .ref (A 60 51)) C hw iw_10 rfl ob_60 (by decide) (by decide) fl_X10_117 rfl rfl dX10_copiesLog_21 ?_
      refine lv_sipush (v := 360) hx hb dX10_copiesLog_24 (by decide) ?_
      refine lv_iload_n hx hb dX10_copiesLog_27 rfl (lv_at hl 3 rfl) ?_
      refine lv_imul hx hb dX10_copiesLog_28 ?_
      refine ti_top (y := 0) (by decide) ?_
      refine lv_iload_n hx hb dX10_copiesLog_29 rfl (lv_at hl 0 rfl) ?_
      refine lv_iadd hx hb dX10_copiesLog_30 ?_
      refine lv_topi (fun x_2 ex_2 => ?_)
      refine ti_iald (ci := 10) (k := 50) (n := 720) C hw ob_60 (by decide) (fun _ _ => rfl) (ti_ixc (c := 0) (N := 720) ex_2 (by have := ti_ltn (n := 360) c_6 (by decide) hi; omega) (by decide)) dX10_copiesLog_31 ?_
      refine lv_topi (fun x_3 ex_3 => ?_)
      refine ti_iastG (ci := 10) (k := 50) (n := 720) C hw ob_60 (by decide) (fun _ _ => rfl) (ti_ixc (c := 360) (N := 720) ex_1 (by have := ti_ltn (n := 360) c_6 (by decide) hi; omega) (by decide)) dX10_copiesLog_32 (fun H locs g_4 eg_4 hw => ?_)
      refine lv_iinc (v := nI (i + 1)) (lv' := [(3, .int (nI (i + 1))), (0, .ref (A 60 0)), (1, .int 1), (2, .int 0)]) hx hb dX10_copiesLog_33 hl (k := 0) rfl (nI_1 i) (by decide) rfl (fun ls hl => ?_)
      refine lv_goto (tgt := 2) hx hb dX10_copiesLog_36 (by decide) ?_
      exact ih (i + 1) (uY Mx 60 50 g_4) _ _ _ (by omega) (ti_ltn (n := 360) c_6 (by decide) hi) ⟨((tI_uY _ _ _ _ _ _).trans m_taped), ((tI_uY _ _ _ _ _ _).trans m_lf), ((tI_uY _ _ _ _ _ _).trans m_lp), ((tI_uY _ _ _ _ _ _).trans m_hi), ((tI_uY _ _ _ _ _ _).trans m_un), ((tI_uY _ _ _ _ _ _).trans m_st), ((tI_uY _ _ _ _ _ _).trans m_kb), ((congrFun ((tY_k _ _ _ _ (by decide)).trans rfl) 0).trans n0), ((congrFun ((tY_k _ _ _ _ (by decide)).trans rfl) 3).trans n3), ((congrFun ((tY_k _ _ _ _ (by decide)).trans rfl) 5).trans n5), ((congrFun ((tY_k _ _ _ _ (by decide)).trans rfl) 7).trans n7), ((congrFun ((tY_k _ _ _ _ (by decide)).trans rfl) 0).trans mi0), ((congrFun ((tY_k _ _ _ _ (by decide)).trans rfl) 0).trans wa0), ((congrFun ((tY_k _ _ _ _ (by decide)).trans rfl) 0).trans co0), ((congrFun ((tY_k _ _ _ _ (by decide)).trans rfl) 0).trans ma0), ((congrFun ((tY_k _ _ _ _ (by decide)).trans rfl) 0).trans pw0), ((congrFun ((tY_k _ _ _ _ (by decide)).trans rfl) 1).trans pw1), ((congrFun ((tY_k _ _ _ _ (by decide)).trans rfl) 2).trans pw2), sf, sto⟩ hw (lv_sub hl [0, 1, 2, 3] rfl)
set_option maxHeartbeats 4000000 in
set_option maxRecDepth 100000 in
theorem k_arrive_0 (l : Launch) (D : va_G) (A : Nat → Nat → Nat) (cy : Nat → ClassId) (hJ : ti_inj ti_LM A) (M : ti_M) (t : Int32) (h0 : tY M 60 3 0 = 0) (h3 : tY M 60 3 3 = 10) (h5 : tY M 60 3 5 = 0) (hmq : tY M 60 38 0 = 0) (hpw : ¬ tY M 60 49 2 < 0) : ti_Kv l yX10_arrive cX10_arrive 5 0 ti_LM D A cy M [.ref (A 60 0), .int 0, .int t] (fun M2 => M2 = M) := by
  refine ti_eV yp_X10_arrive hJ ti_LM_nd (Nat.le_of_ble_eq_true rfl) ?_
  intro p e s m args below meth c Q H0 C hQ hw ls hl
  have hx := C.1
  have hb := C.2.1
  have hl : lv_has ls 5 [(0, .ref (A 60 0)), (1, .int 0), (2, .int t)] := hl
  refine lv_iconst (v := (-1)) hx hb dX10_arrive_0 (by decide) ?_
  refine lv_istore_n (lv' := [(3, .int (-1)), (0, .ref (A 60 0)), (1, .int 0), (2, .int t)]) hx hb dX10_arrive_1 rfl hl (by decide) rfl (fun ls hl => ?_)
  refine lv_iconst (v := 0) hx hb dX10_arrive_2 (by decide) ?_
  refine lv_istore (lv' := [(4, .int 0), (3, .int (-1)), (0, .ref (A 60 0)), (1, .int 0), (2, .int t)]) hx hb dX10_arrive_3 hl (by decide) rfl (fun ls hl => ?_)
  refine lv_iload hx hb dX10_arrive_5 (lv_at hl 0 rfl) ?_
  refine lv_aload_n hx hb dX10_arrive_7 rfl (lv_at hl 2 rfl) ?_
  refine ti_get (ci := 10) (k := 3) (N := 67) (T := TX10) (v := .ref (A 60 4)) C hw iw_10 rfl ob_60 (by decide) (by decide) fl_X10_13 rfl rfl dX10_arrive_8 ?_
  refine lv_iconst (v := 0) hx hb dX10_arrive_11 (by decide) ?_
  refine ti_iald (ci := 10) (k := 3) (n := 22) C hw ob_60 (by decide) (fun _ _ => rfl) (by unfold vp_in; decide) dX10_arrive_12 ?_
  refine ti_top (y := 0) ((congrFun (rfl) 0).trans h0) ?_
  refine lv_icmp_ge (tgt := 112) hx hb dX10_arrive_13 (by decide) (fun c_13 => ?_) (fun c => absurd (by decide) c)
  refine lv_iload_n hx hb dX10_arrive_112 rfl (lv_at hl 1 rfl) ?_
  refine lv_iconst (v := (-1)) hx hb dX10_arrive_113 (by decide) ?_
  refine lv_icmp_ne (tgt := 118) hx hb dX10_arrive_114 (by decide) (fun c => absurd (by decide) c) (fun c_114 => ?_)
  exact hQ _ _ _ _ _ hw rfl dX10_arrive_117
set_option maxHeartbeats 4000000 in
set_option maxRecDepth 100000 in
theorem k_coughing_0 (l : Launch) (D : va_G) (A : Nat → Nat → Nat) (cy : Nat → ClassId) (hJ : ti_inj ti_LM A) (M : ti_M) (t : Int32) (h0 : tY M 60 3 0 = 0) (h3 : tY M 60 3 3 = 10) (h5 : tY M 60 3 5 = 0) (hmq : tY M 60 38 0 = 0) (hpw : ¬ tY M 60 49 2 < 0) : ti_Kv l yX10_coughing cX10_coughing 5 0 ti_LM D A cy M [.ref (A 60 0), .int 0, .int t] (fun M2 => ∃ g_1 : Nat → Int32, M2 = (uY M 60 37 g_1) ∧ g_1 = upd (tY M 60 37) 0 0) := by
  refine ti_eV yp_X10_coughing hJ ti_LM_nd (Nat.le_of_ble_eq_true rfl) ?_
  intro p e s m args below meth c Q H0 C hQ hw ls hl
  have hx := C.1
  have hb := C.2.1
  have hl : lv_has ls 5 [(0, .ref (A 60 0)), (1, .int 0), (2, .int t)] := hl
  refine lv_iconst (v := 0) hx hb dX10_coughing_0 (by decide) ?_
  refine lv_istore_n (lv' := [(3, .int 0), (0, .ref (A 60 0)), (1, .int 0), (2, .int t)]) hx hb dX10_coughing_1 rfl hl (by decide) rfl (fun ls hl => ?_)
  refine lv_iconst (v := 1) hx hb dX10_coughing_2 (by decide) ?_
  refine lv_istore (lv' := [(4, .int 1), (3, .int 0), (0, .ref (A 60 0)), (1, .int 0), (2, .int t)]) hx hb dX10_coughing_3 hl (by decide) rfl (fun ls hl => ?_)
  refine lv_iload hx hb dX10_coughing_5 (lv_at hl 0 rfl) ?_
  refine lv_aload_n hx hb dX10_coughing_7 rfl (lv_at hl 2 rfl) ?_
  refine ti_get (ci := 10) (k := 38) (N := 67) (T := TX10) (v := .ref (A 60 39)) C hw iw_10 rfl ob_60 (by decide) (by decide) fl_X10_81 rfl rfl dX10_coughing_8 ?_
  refine lv_iload_n hx hb dX10_coughing_11 rfl (lv_at hl 3 rfl) ?_
  refine ti_iald (ci := 10) (k := 38) (n := 23) C hw ob_60 (by decide) (fun _ _ => rfl) (by unfold vp_in; decide) dX10_coughing_12 ?_
  refine ti_top (y := 0) ((congrFun (rfl) 0).trans hmq) ?_
  refine lv_icmp_ge (tgt := 57) hx hb dX10_coughing_13 (by decide) (fun c_13 => ?_) (fun c => absurd (by decide) c)
  refine lv_aload_n hx hb dX10_coughing_57 rfl (lv_at hl 2 rfl) ?_
  refine ti_get (ci := 10) (k := 38) (N := 67) (T := TX10) (v := .ref (A 60 39)) C hw iw_10 rfl ob_60 (by decide) (by decide) fl_X10_81 rfl rfl dX10_coughing_58 ?_
  refine lv_iload_n hx hb dX10_coughing_61 rfl (lv_at hl 3 rfl) ?_
  refine ti_iald (ci := 10) (k := 38) (n := 23) C hw ob_60 (by decide) (fun _ _ => rfl) (by unfold vp_in; decide) dX10_coughing_62 ?_
  refine ti_top (y := 0) ((congrFun (rfl) 0).trans hmq) ?_
  refine lv_if_le (tgt := 96) hx hb dX10_coughing_63 (by decide) (fun c_63 => ?_) (fun c => absurd (by decide) c)
  refine lv_aload_n hx hb dX10_coughing_96 rfl (lv_at hl 2 rfl) ?_
  refine ti_get (ci := 10) (k := 37) (N := 67) (T := TX10) (v := .ref (A 60 38)) C hw iw_10 rfl ob_60 (by decide) (by decide) fl_X10_78 rfl rfl dX10_coughing_97 ?_
  refine lv_iload_n hx hb dX10_coughing_100 rfl (lv_at hl 3 rfl) ?_
  refine lv_iconst (v := 0) hx hb dX10_coughing_101 (by decide) ?_
  refine ti_iastG (ci := 10) (k := 37) (n := 23) C hw ob_60 (by decide) (fun _ _ => rfl) (by unfold vp_in; decide) dX10_coughing_102 (fun H locs g_1 eg_1 hw => ?_)
  exact hQ _ _ _ _ _ hw (⟨g_1, rfl, eg_1⟩) dX10_coughing_103
set_option maxHeartbeats 4000000 in
set_option maxRecDepth 100000 in
theorem k_levy_0 (l : Launch) (D : va_G) (A : Nat → Nat → Nat) (cy : Nat → ClassId) (hJ : ti_inj ti_LM A) (M : ti_M) (t : Int32) (h0 : tY M 60 3 0 = 0) (h3 : tY M 60 3 3 = 10) (h5 : tY M 60 3 5 = 0) (hmq : tY M 60 38 0 = 0) (hpw : ¬ tY M 60 49 2 < 0) : ti_Kv l yX10_levy cX10_levy 8 0 ti_LM D A cy M [.ref (A 60 0), .int 0, .int t] (fun M2 => M2 = M) := by
  refine ti_eV yp_X10_levy hJ ti_LM_nd (Nat.le_of_ble_eq_true rfl) ?_
  intro p e s m args below meth c Q H0 C hQ hw ls hl
  have hx := C.1
  have hb := C.2.1
  have hl : lv_has ls 8 [(0, .ref (A 60 0)), (1, .int 0), (2, .int t)] := hl
  refine lv_aload_n hx hb dX10_levy_0 rfl (lv_at hl 0 rfl) ?_
  refine ti_get (ci := 10) (k := 49) (N := 67) (T := TX10) (v := .ref (A 60 50)) C hw iw_10 rfl ob_60 (by decide) (by decide) fl_X10_114 rfl rfl dX10_levy_1 ?_
  refine lv_iconst (v := 3) hx hb dX10_levy_4 (by decide) ?_
  refine lv_iload_n hx hb dX10_levy_5 rfl (lv_at hl 1 rfl) ?_
  refine lv_imul hx hb dX10_levy_6 ?_
  refine ti_top (y := 0) (by decide) ?_
  refine lv_iconst (v := 2) hx hb dX10_levy_7 (by decide) ?_
  refine lv_iadd hx hb dX10_levy_8 ?_
  refine ti_top (y := 2) (by decide) ?_
  refine ti_iald (ci := 10) (k := 49) (n := 69) C hw ob_60 (by decide) (fun _ _ => rfl) (by unfold vp_in; decide) dX10_levy_9 ?_
  refine lv_topi (fun x_1 ex_1 => ?_)
  refine lv_istore_n (lv' := [(3, .int x_1), (0, .ref (A 60 0)), (1, .int 0), (2, .int t)]) hx hb dX10_levy_10 rfl hl (by decide) rfl (fun ls hl => ?_)
  refine lv_iload_n hx hb dX10_levy_11 rfl (lv_at hl 3 rfl) ?_
  refine lv_aload_n hx hb dX10_levy_12 rfl (lv_at hl 1 rfl) ?_
  refine ti_get (ci := 10) (k := 3) (N := 67) (T := TX10) (v := .ref (A 60 4)) C hw iw_10 rfl ob_60 (by decide) (by decide) fl_X10_13 rfl rfl dX10_levy_13 ?_
  refine lv_iconst (v := 3) hx hb dX10_levy_16 (by decide) ?_
  refine ti_iald (ci := 10) (k := 3) (n := 22) C hw ob_60 (by decide) (fun _ _ => rfl) (by unfold vp_in; decide) dX10_levy_17 ?_
  refine ti_top (y := 10) ((congrFun (rfl) 3).trans h3) ?_
  refine lv_irem hx hb dX10_levy_18 (by decide) ?_
  refine lv_topi (fun x_2 ex_2 => ?_)
  refine lv_if_ne (tgt := 39) hx hb dX10_levy_19 (by decide) (fun c_19 => ?_) (fun c_19 => ?_)
  · exact hQ _ _ _ _ _ hw rfl dX10_levy_39
  · refine lv_iload_n hx hb dX10_levy_22 rfl (lv_at hl 0 rfl) ?_
    refine lv_aload_n hx hb dX10_levy_23 rfl (lv_at hl 1 rfl) ?_
    refine ti_get (ci := 10) (k := 38) (N := 67) (T := TX10) (v := .ref (A 60 39)) C hw iw_10 rfl ob_60 (by decide) (by decide) fl_X10_81 rfl rfl dX10_levy_24 ?_
    refine lv_iload_n hx hb dX10_levy_27 rfl (lv_at hl 2 rfl) ?_
    refine ti_iald (ci := 10) (k := 38) (n := 23) C hw ob_60 (by decide) (fun _ _ => rfl) (by unfold vp_in; decide) dX10_levy_28 ?_
    refine ti_top (y := 0) ((congrFun (rfl) 0).trans hmq) ?_
    refine lv_icmp_ge (tgt := 39) hx hb dX10_levy_29 (by decide) (fun c_29 => ?_) (fun c => absurd ((by rw [ex_1]; show (0 : Int32) ≤ tY M 60 49 2; simp only [Int32.lt_iff_toInt_lt, Int32.le_iff_toInt_le, ← Int32.toInt_inj, ti_l0, ti_l1, ti_l2, ti_l3, ti_l5, ti_l7, ti_l8, ti_l24, ti_l59, ti_l60, ti_l119, ti_l120, ti_lm1, ti_lm2] at hpw ⊢; omega)) c)
    exact hQ _ _ _ _ _ hw rfl dX10_levy_39
set_option maxHeartbeats 4000000 in
set_option maxRecDepth 100000 in
theorem k_wear_0 (l : Launch) (D : va_G) (A : Nat → Nat → Nat) (cy : Nat → ClassId) (hJ : ti_inj ti_LM A) (M : ti_M) (t : Int32) (h0 : tY M 60 3 0 = 0) (h3 : tY M 60 3 3 = 10) (h5 : tY M 60 3 5 = 0) (hmq : tY M 60 38 0 = 0) (hpw : ¬ tY M 60 49 2 < 0) : ti_Kv l yX10_wear cX10_wear 6 0 ti_LM D A cy M [.ref (A 60 0), .int 0, .int t] (fun M2 => M2 = M) := by
  refine ti_eV yp_X10_wear hJ ti_LM_nd (Nat.le_of_ble_eq_true rfl) ?_
  intro p e s m args below meth c Q H0 C hQ hw ls hl
  have hx := C.1
  have hb := C.2.1
  have hl : lv_has ls 6 [(0, .ref (A 60 0)), (1, .int 0), (2, .int t)] := hl
  refine lv_iconst (v := 0) hx hb dX10_wear_0 (by decide) ?_
  refine lv_istore_n (lv' := [(3, .int 0), (0, .ref (A 60 0)), (1, .int 0), (2, .int t)]) hx hb dX10_wear_1 rfl hl (by decide) rfl (fun ls hl => ?_)
  refine lv_iload_n hx hb dX10_wear_2 rfl (lv_at hl 0 rfl) ?_
  refine lv_aload_n hx hb dX10_wear_3 rfl (lv_at hl 1 rfl) ?_
  refine ti_get (ci := 10) (k := 38) (N := 67) (T := TX10) (v := .ref (A 60 39)) C hw iw_10 rfl ob_60 (by decide) (by decide) fl_X10_81 rfl rfl dX10_wear_4 ?_
  refine lv_iload_n hx hb dX10_wear_7 rfl (lv_at hl 2 rfl) ?_
  refine ti_iald (ci := 10) (k := 38) (n := 23) C hw ob_60 (by decide) (fun _ _ => rfl) (by unfold vp_in; decide) dX10_wear_8 ?_
  refine ti_top (y := 0) ((congrFun (rfl) 0).trans hmq) ?_
  refine lv_icmp_ge (tgt := 104) hx hb dX10_wear_9 (by decide) (fun c_9 => ?_) (fun c => absurd (by decide) c)
  exact hQ _ _ _ _ _ hw rfl dX10_wear_104
set_option maxHeartbeats 4000000 in
set_option maxRecDepth 100000 in
theorem k_pour_0 (l : Launch) (D : va_G) (A : Nat → Nat → Nat) (cy : Nat → ClassId) (hJ : ti_inj ti_LM A) (M : ti_M) (h0 : tY M 60 3 0 = 0) (h3 : tY M 60 3 3 = 10) (h5 : tY M 60 3 5 = 0) (hmq : tY M 60 38 0 = 0) (hpw : ¬ tY M 60 49 2 < 0) : ti_Kv l yX10_pour cX10_pour 4 0 ti_LM D A cy M [.ref (A 60 0), .int 0] (fun M2 => M2 = M) := by
  refine ti_eV yp_X10_pour hJ ti_LM_nd (Nat.le_of_ble_eq_true rfl) ?_
  intro p e s m args below meth c Q H0 C hQ hw ls hl
  have hx := C.1
  have hb := C.2.1
  have hl : lv_has ls 4 [(0, .ref (A 60 0)), (1, .int 0)] := hl
  refine lv_aload_n hx hb dX10_pour_0 rfl (lv_at hl 0 rfl) ?_
  refine ti_get (ci := 10) (k := 38) (N := 67) (T := TX10) (v := .ref (A 60 39)) C hw iw_10 rfl ob_60 (by decide) (by decide) fl_X10_81 rfl rfl dX10_pour_1 ?_
  refine lv_iload_n hx hb dX10_pour_4 rfl (lv_at hl 1 rfl) ?_
  refine ti_iald (ci := 10) (k := 38) (n := 23) C hw ob_60 (by decide) (fun _ _ => rfl) (by unfold vp_in; decide) dX10_pour_5 ?_
  refine ti_top (y := 0) ((congrFun (rfl) 0).trans hmq) ?_
  refine lv_if_ne (tgt := 10) hx hb dX10_pour_6 (by decide) (fun c => absurd (by decide) c) (fun c_6 => ?_)
  exact hQ _ _ _ _ _ hw rfl dX10_pour_9
set_option maxHeartbeats 4000000 in
set_option maxRecDepth 100000 in
theorem k_passes_0 (l : Launch) (D : va_G) (A : Nat → Nat → Nat) (cy : Nat → ClassId) (hJ : ti_inj ti_LM A) (M : ti_M) (mu : Int32) (h0 : tY M 60 3 0 = 0) (h3 : tY M 60 3 3 = 10) (h5 : tY M 60 3 5 = 0) (hmq : tY M 60 38 0 = 0) (hpw : ¬ tY M 60 49 2 < 0) : ti_Kv l yX10_passes cX10_passes 5 1 ti_LM D A cy M [.ref (A 60 0), .int 0, .int mu] (fun M2 => ∃ g1 g2 : Nat → Int32, M2 = uY (uY M 60 37 g1) 60 34 g2 ∧ (∀ j, j ≠ 0 → g1 j = tY M 60 37 j) ∧ g2 0 = tY M 60 34 0 + 1 ∧ (∀ j, j ≠ 0 → g2 j = tY M 60 34 j)) := by
  refine ti_eV yp_X10_passes hJ ti_LM_nd (Nat.le_of_ble_eq_true rfl) ?_
  intro p e s m args below meth c Q H0 C hQ hw ls hl
  have hx := C.1
  have hb := C.2.1
  have hl : lv_has ls 5 [(0, .ref (A 60 0)), (1, .int 0), (2, .int mu)] := hl
  refine lv_aload_n hx hb dX10_passes_0 rfl (lv_at hl 0 rfl) ?_
  refine ti_get (ci := 10) (k := 34) (N := 67) (T := TX10) (v := .ref (A 60 35)) C hw iw_10 rfl ob_60 (by decide) (by decide) fl_X10_69 rfl rfl dX10_passes_1 ?_
  refine lv_iload_n hx hb dX10_passes_4 rfl (lv_at hl 1 rfl) ?_
  refine ti_iald (ci := 10) (k := 34) (n := 23) C hw ob_60 (by decide) (fun _ _ => rfl) (by unfold vp_in; decide) dX10_passes_5 ?_
  refine lv_topi (fun x_1 ex_1 => ?_)
  refine lv_istore_n (lv' := [(3, .int x_1), (0, .ref (A 60 0)), (1, .int 0), (2, .int mu)]) hx hb dX10_passes_6 rfl hl (by decide) rfl (fun ls hl => ?_)
  refine lv_aload_n hx hb dX10_passes_7 rfl (lv_at hl 1 rfl) ?_
  refine lv_iload_n hx hb dX10_passes_8 rfl (lv_at hl 2 rfl) ?_
  refine lv_iload_n hx hb dX10_passes_9 rfl (lv_at hl 0 rfl) ?_
  refine ti_callVv (ci := 10) (av := [.int 0, .int x_1]) C hw (k_arrive_0 l D A cy hJ M x_1 ((congrFun (rfl) 0).trans h0) ((congrFun (rfl) 3).trans h3) ((congrFun (rfl) 5).trans h5) ((congrFun (rfl) 0).trans hmq) hpw) ⟨ml_X10_382, ym_X10_arrive, yv_X10_arrive, yi_X10_arrive, yc_X10_arrive⟩ yd_X10_arrive ob_60 (by decide) rfl rfl hl.1 (Nat.le_of_ble_eq_true rfl) ⟨by decide, by decide⟩ ⟨Nat.zero_le _, Nat.zero_le _⟩ dX10_passes_10 (fun M_3 H locs hp_3 hw => ?_)
  have hm := hp_3
  have hw := hw.to hm
  refine lv_aload_n hx hb dX10_passes_13 rfl (lv_at hl 1 rfl) ?_
  refine lv_iload_n hx hb dX10_passes_14 rfl (lv_at hl 2 rfl) ?_
  refine lv_iload_n hx hb dX10_passes_15 rfl (lv_at hl 0 rfl) ?_
  refine ti_callVv (ci := 10) (av := [.int 0, .int x_1]) C hw (k_coughing_0 l D A cy hJ M x_1 ((congrFun (rfl) 0).trans h0) ((congrFun (rfl) 3).trans h3) ((congrFun (rfl) 5).trans h5) ((congrFun (rfl) 0).trans hmq) hpw) ⟨ml_X10_385, ym_X10_coughing, yv_X10_coughing, yi_X10_coughing, yc_X10_coughing⟩ yd_X10_coughing ob_60 (by decide) rfl rfl hl.1 (Nat.le_of_ble_eq_true rfl) ⟨by decide, by decide⟩ ⟨Nat.zero_le _, Nat.zero_le _⟩ dX10_passes_16 (fun M_5 H locs hp_5 hw => ?_)
  obtain ⟨g_1_5, hm, eg_1_5⟩ := hp_5
  have hw := hw.to hm
  refine lv_aload_n hx hb dX10_passes_19 rfl (lv_at hl 1 rfl) ?_
  refine lv_iload_n hx hb dX10_passes_20 rfl (lv_at hl 2 rfl) ?_
  refine ti_callVv (ci := 10) (av := [.int 0]) C hw (k_pour_0 l D A cy hJ (uY M 60 37 g_1_5) ((congrFun ((tY_k _ _ _ _ (by decide)).trans rfl) 0).trans h0) ((congrFun ((tY_k _ _ _ _ (by decide)).trans rfl) 3).trans h3) ((congrFun ((tY_k _ _ _ _ (by decide)).trans rfl) 5).trans h5) ((congrFun ((tY_k _ _ _ _ (by decide)).trans rfl) 0).trans hmq) (ti_ntr (congrFun ((tY_k _ _ _ _ (by decide)).trans rfl) 2) hpw)) ⟨ml_X10_388, ym_X10_pour, yv_X10_pour, yi_X10_pour, yc_X10_pour⟩ yd_X10_pour ob_60 (by decide) rfl rfl hl.1 (Nat.le_of_ble_eq_true rfl) ⟨by decide, by decide⟩ ⟨Nat.zero_le _, Nat.zero_le _⟩ dX10_passes_21 (fun M_7 H locs hp_7 hw => ?_)
  have hm := hp_7
  have hw := hw.to hm
  refine lv_aload_n hx hb dX10_passes_24 rfl (lv_at hl 1 rfl) ?_
  refine lv_iload_n hx hb dX10_passes_25 rfl (lv_at hl 2 rfl) ?_
  refine lv_iload_n hx hb dX10_passes_26 rfl (lv_at hl 0 rfl) ?_
  refine ti_callVv (ci := 10) (av := [.int 0, .int x_1]) C hw (k_levy_0 l D A cy hJ (uY M 60 37 g_1_5) x_1 ((congrFun ((tY_k _ _ _ _ (by decide)).trans rfl) 0).trans h0) ((congrFun ((tY_k _ _ _ _ (by decide)).trans rfl) 3).trans h3) ((congrFun ((tY_k _ _ _ _ (by decide)).trans rfl) 5).trans h5) ((congrFun ((tY_k _ _ _ _ (by decide)).trans rfl) 0).trans hmq) (ti_ntr (congrFun ((tY_k _ _ _ _ (by decide)).trans rfl) 2) hpw)) ⟨ml_X10_391, ym_X10_levy, yv_X10_levy, yi_X10_levy, yc_X10_levy⟩ yd_X10_levy ob_60 (by decide) rfl rfl hl.1 (Nat.le_of_ble_eq_true rfl) ⟨by decide, by decide⟩ ⟨Nat.zero_le _, Nat.zero_le _⟩ dX10_passes_27 (fun M_9 H locs hp_9 hw => ?_)
  have hm := hp_9
  have hw := hw.to hm
  refine lv_aload_n hx hb dX10_passes_30 rfl (lv_at hl 1 rfl) ?_
  refine lv_iload_n hx hb dX10_passes_31 rfl (lv_at hl 2 rfl) ?_
  refine lv_iload_n hx hb dX10_passes_32 rfl (lv_at hl 0 rfl) ?_
  refine ti_callVv (ci := 10) (av := [.int 0, .int x_1]) C hw (k_wear_0 l D A cy hJ (uY M 60 37 g_1_5) x_1 ((congrFun ((tY_k _ _ _ _ (by decide)).trans rfl) 0).trans h0) ((congrFun ((tY_k _ _ _ _ (by decide)).trans rfl) 3).trans h3) ((congrFun ((tY_k _ _ _ _ (by decide)).trans rfl) 5).trans h5) ((congrFun ((tY_k _ _ _ _ (by decide)).trans rfl) 0).trans hmq) (ti_ntr (congrFun ((tY_k _ _ _ _ (by decide)).trans rfl) 2) hpw)) ⟨ml_X10_394, ym_X10_wear, yv_X10_wear, yi_X10_wear, yc_X10_wear⟩ yd_X10_wear ob_60 (by decide) rfl rfl hl.1 (Nat.le_of_ble_eq_true rfl) ⟨by decide, by decide⟩ ⟨Nat.zero_le _, Nat.zero_le _⟩ dX10_passes_33 (fun M_11 H locs hp_11 hw => ?_)
  have hm := hp_11
  have hw := hw.to hm
  refine lv_aload_n hx hb dX10_passes_36 rfl (lv_at hl 1 rfl) ?_
  refine ti_get (ci := 10) (k := 38) (N := 67) (T := TX10) (v := .ref (A 60 39)) C hw iw_10 rfl ob_60 (by decide) (by decide) fl_X10_81 rfl rfl dX10_passes_37 ?_
  refine lv_iload_n hx hb dX10_passes_40 rfl (lv_at hl 2 rfl) ?_
  refine ti_iald (ci := 10) (k := 38) (n := 23) C hw ob_60 (by decide) (fun _ _ => rfl) (by unfold vp_in; decide) dX10_passes_41 ?_
  refine ti_top (y := 0) ((congrFun ((tY_k _ _ _ _ (by decide)).trans rfl) 0).trans hmq) ?_
  refine lv_if_le (tgt := 89) hx hb dX10_passes_42 (by decide) (fun c_42 => ?_) (fun c => absurd (by decide) c)
  refine lv_aload_n hx hb dX10_passes_89 rfl (lv_at hl 1 rfl) ?_
  refine ti_get (ci := 10) (k := 38) (N := 67) (T := TX10) (v := .ref (A 60 39)) C hw iw_10 rfl ob_60 (by decide) (by decide) fl_X10_81 rfl rfl dX10_passes_90 ?_
  refine lv_iload_n hx hb dX10_passes_93 rfl (lv_at hl 2 rfl) ?_
  refine ti_iald (ci := 10) (k := 38) (n := 23) C hw ob_60 (by decide) (fun _ _ => rfl) (by unfold vp_in; decide) dX10_passes_94 ?_
  refine ti_top (y := 0) ((congrFun ((tY_k _ _ _ _ (by decide)).trans rfl) 0).trans hmq) ?_
  refine lv_iconst (v := 1) hx hb dX10_passes_95 (by decide) ?_
  refine lv_isub hx hb dX10_passes_96 ?_
  refine ti_top (y := (-1)) (by decide) ?_
  refine lv_istore (lv' := [(4, .int (-1)), (3, .int x_1), (0, .ref (A 60 0)), (1, .int 0), (2, .int mu)]) hx hb dX10_passes_97 hl (by decide) rfl (fun ls hl => ?_)
  refine lv_iload hx hb dX10_passes_99 (lv_at hl 0 rfl) ?_
  refine lv_iconst (v := 1) hx hb dX10_passes_101 (by decide) ?_
  refine lv_icmp_lt (tgt := 145) hx hb dX10_passes_102 (by decide) (fun c_102 => ?_) (fun c => absurd (by decide) c)
  refine lv_iload_n hx hb dX10_passes_145 rfl (lv_at hl 4 rfl) ?_
  refine lv_if_eq (tgt := 197) hx hb dX10_passes_146 (by decide) (fun c_146 => ?_) (fun c_146 => ?_)
  · refine lv_aload_n hx hb dX10_passes_197 rfl (lv_at hl 2 rfl) ?_
    refine ti_get (ci := 10) (k := 34) (N := 67) (T := TX10) (v := .ref (A 60 35)) C hw iw_10 rfl ob_60 (by decide) (by decide) fl_X10_69 rfl rfl dX10_passes_198 ?_
    refine lv_iload_n hx hb dX10_passes_201 rfl (lv_at hl 3 rfl) ?_
    refine lv_dup2_11 hx hb dX10_passes_202 rfl rfl ?_
    refine ti_iald (ci := 10) (k := 34) (n := 23) C hw ob_60 (by decide) (fun _ _ => rfl) (by unfold vp_in; decide) dX10_passes_203 ?_
    refine lv_topi (fun x_12 ex_12 => ?_)
    refine lv_iconst (v := 1) hx hb dX10_passes_204 (by decide) ?_
    refine lv_iadd hx hb dX10_passes_205 ?_
    refine lv_topi (fun x_13 ex_13 => ?_)
    refine ti_iastG (ci := 10) (k := 34) (n := 23) C hw ob_60 (by decide) (fun _ _ => rfl) (by unfold vp_in; decide) dX10_passes_206 (fun H locs g_14 eg_14 hw => ?_)
    exact hQ _ _ _ _ _ hw (⟨g_1_5, g_14, rfl, fun j h => by rw [eg_1_5]; exact pk_un h, by rw [eg_14]; show x_13 = _; rw [ex_13, ex_12]; rfl, fun j h => by rw [eg_14]; exact pk_un h⟩) dX10_passes_207
  · refine lv_aload_n hx hb dX10_passes_149 rfl (lv_at hl 2 rfl) ?_
    refine ti_get (ci := 10) (k := 3) (N := 67) (T := TX10) (v := .ref (A 60 4)) C hw iw_10 rfl ob_60 (by decide) (by decide) fl_X10_13 rfl rfl dX10_passes_150 ?_
    refine lv_iconst (v := 5) hx hb dX10_passes_153 (by decide) ?_
    refine ti_iald (ci := 10) (k := 3) (n := 22) C hw ob_60 (by decide) (fun _ _ => rfl) (by unfold vp_in; decide) dX10_passes_154 ?_
    refine ti_top (y := 0) ((congrFun ((tY_k _ _ _ _ (by decide)).trans rfl) 5).trans h5) ?_
    refine lv_if_le (tgt := 197) hx hb dX10_passes_155 (by decide) (fun c_155 => ?_) (fun c => absurd (by decide) c)
    refine lv_aload_n hx hb dX10_passes_197 rfl (lv_at hl 2 rfl) ?_
    refine ti_get (ci := 10) (k := 34) (N := 67) (T := TX10) (v := .ref (A 60 35)) C hw iw_10 rfl ob_60 (by decide) (by decide) fl_X10_69 rfl rfl dX10_passes_198 ?_
    refine lv_iload_n hx hb dX10_passes_201 rfl (lv_at hl 3 rfl) ?_
    refine lv_dup2_11 hx hb dX10_passes_202 rfl rfl ?_
    refine ti_iald (ci := 10) (k := 34) (n := 23) C hw ob_60 (by decide) (fun _ _ => rfl) (by unfold vp_in; decide) dX10_passes_203 ?_
    refine lv_topi (fun x_15 ex_15 => ?_)
    refine lv_iconst (v := 1) hx hb dX10_passes_204 (by decide) ?_
    refine lv_iadd hx hb dX10_passes_205 ?_
    refine lv_topi (fun x_16 ex_16 => ?_)
    refine ti_iastG (ci := 10) (k := 34) (n := 23) C hw ob_60 (by decide) (fun _ _ => rfl) (by unfold vp_in; decide) dX10_passes_206 (fun H locs g_17 eg_17 hw => ?_)
    exact hQ _ _ _ _ _ hw (⟨g_1_5, g_17, rfl, fun j h => by rw [eg_1_5]; exact pk_un h, by rw [eg_17]; show x_16 = _; rw [ex_16, ex_15]; rfl, fun j h => by rw [eg_17]; exact pk_un h⟩) dX10_passes_207
set_option maxHeartbeats 4000000 in
set_option maxRecDepth 100000 in
theorem k_arrive_1 (l : Launch) (D : va_G) (A : Nat → Nat → Nat) (cy : Nat → ClassId) (hJ : ti_inj ti_LM A) (M : ti_M) (t : Int32) (h0 : tY M 60 3 0 = 0) (h3 : tY M 60 3 3 = 10) (h5 : tY M 60 3 5 = 0) (hmq : tY M 60 38 1 = 0) (hpw : ¬ tY M 60 49 5 < 0) : ti_Kv l yX10_arrive cX10_arrive 5 0 ti_LM D A cy M [.ref (A 60 0), .int 1, .int t] (fun M2 => M2 = M) := by
  refine ti_eV yp_X10_arrive hJ ti_LM_nd (Nat.le_of_ble_eq_true rfl) ?_
  intro p e s m args below meth c Q H0 C hQ hw ls hl
  have hx := C.1
  have hb := C.2.1
  have hl : lv_has ls 5 [(0, .ref (A 60 0)), (1, .int 1), (2, .int t)] := hl
  refine lv_iconst (v := (-1)) hx hb dX10_arrive_0 (by decide) ?_
  refine lv_istore_n (lv' := [(3, .int (-1)), (0, .ref (A 60 0)), (1, .int 1), (2, .int t)]) hx hb dX10_arrive_1 rfl hl (by decide) rfl (fun ls hl => ?_)
  refine lv_iconst (v := 0) hx hb dX10_arrive_2 (by decide) ?_
  refine lv_istore (lv' := [(4, .int 0), (3, .int (-1)), (0, .ref (A 60 0)), (1, .int 1), (2, .int t)]) hx hb dX10_arrive_3 hl (by decide) rfl (fun ls hl => ?_)
  refine lv_iload hx hb dX10_arrive_5 (lv_at hl 0 rfl) ?_
  refine lv_aload_n hx hb dX10_arrive_7 rfl (lv_at hl 2 rfl) ?_
  refine ti_get (ci := 10) (k := 3) (N := 67) (T := TX10) (v := .ref (A 60 4)) C hw iw_10 rfl ob_60 (by decide) (by decide) fl_X10_13 rfl rfl dX10_arrive_8 ?_
  refine lv_iconst (v := 0) hx hb dX10_arrive_11 (by decide) ?_
  refine ti_iald (ci := 10) (k := 3) (n := 22) C hw ob_60 (by decide) (fun _ _ => rfl) (by unfold vp_in; decide) dX10_arrive_12 ?_
  refine ti_top (y := 0) ((congrFun (rfl) 0).trans h0) ?_
  refine lv_icmp_ge (tgt := 112) hx hb dX10_arrive_13 (by decide) (fun c_13 => ?_) (fun c => absurd (by decide) c)
  refine lv_iload_n hx hb dX10_arrive_112 rfl (lv_at hl 1 rfl) ?_
  refine lv_iconst (v := (-1)) hx hb dX10_arrive_113 (by decide) ?_
  refine lv_icmp_ne (tgt := 118) hx hb dX10_arrive_114 (by decide) (fun c => absurd (by decide) c) (fun c_114 => ?_)
  exact hQ _ _ _ _ _ hw rfl dX10_arrive_117
set_option maxHeartbeats 4000000 in
set_option maxRecDepth 100000 in
theorem k_coughing_1 (l : Launch) (D : va_G) (A : Nat → Nat → Nat) (cy : Nat → ClassId) (hJ : ti_inj ti_LM A) (M : ti_M) (t : Int32) (h0 : tY M 60 3 0 = 0) (h3 : tY M 60 3 3 = 10) (h5 : tY M 60 3 5 = 0) (hmq : tY M 60 38 1 = 0) (hpw : ¬ tY M 60 49 5 < 0) : ti_Kv l yX10_coughing cX10_coughing 5 0 ti_LM D A cy M [.ref (A 60 0), .int 1, .int t] (fun M2 => ∃ g_1 : Nat → Int32, M2 = (uY M 60 37 g_1) ∧ g_1 = upd (tY M 60 37) 1 0) := by
  refine ti_eV yp_X10_coughing hJ ti_LM_nd (Nat.le_of_ble_eq_true rfl) ?_
  intro p e s m args below meth c Q H0 C hQ hw ls hl
  have hx := C.1
  have hb := C.2.1
  have hl : lv_has ls 5 [(0, .ref (A 60 0)), (1, .int 1), (2, .int t)] := hl
  refine lv_iconst (v := 0) hx hb dX10_coughing_0 (by decide) ?_
  refine lv_istore_n (lv' := [(3, .int 0), (0, .ref (A 60 0)), (1, .int 1), (2, .int t)]) hx hb dX10_coughing_1 rfl hl (by decide) rfl (fun ls hl => ?_)
  refine lv_iconst (v := 1) hx hb dX10_coughing_2 (by decide) ?_
  refine lv_istore (lv' := [(4, .int 1), (3, .int 0), (0, .ref (A 60 0)), (1, .int 1), (2, .int t)]) hx hb dX10_coughing_3 hl (by decide) rfl (fun ls hl => ?_)
  refine lv_iload hx hb dX10_coughing_5 (lv_at hl 0 rfl) ?_
  refine lv_aload_n hx hb dX10_coughing_7 rfl (lv_at hl 2 rfl) ?_
  refine ti_get (ci := 10) (k := 38) (N := 67) (T := TX10) (v := .ref (A 60 39)) C hw iw_10 rfl ob_60 (by decide) (by decide) fl_X10_81 rfl rfl dX10_coughing_8 ?_
  refine lv_iload_n hx hb dX10_coughing_11 rfl (lv_at hl 3 rfl) ?_
  refine ti_iald (ci := 10) (k := 38) (n := 23) C hw ob_60 (by decide) (fun _ _ => rfl) (by unfold vp_in; decide) dX10_coughing_12 ?_
  refine ti_top (y := 0) ((congrFun (rfl) 1).trans hmq) ?_
  refine lv_icmp_ge (tgt := 57) hx hb dX10_coughing_13 (by decide) (fun c_13 => ?_) (fun c => absurd (by decide) c)
  refine lv_aload_n hx hb dX10_coughing_57 rfl (lv_at hl 2 rfl) ?_
  refine ti_get (ci := 10) (k := 38) (N := 67) (T := TX10) (v := .ref (A 60 39)) C hw iw_10 rfl ob_60 (by decide) (by decide) fl_X10_81 rfl rfl dX10_coughing_58 ?_
  refine lv_iload_n hx hb dX10_coughing_61 rfl (lv_at hl 3 rfl) ?_
  refine ti_iald (ci := 10) (k := 38) (n := 23) C hw ob_60 (by decide) (fun _ _ => rfl) (by unfold vp_in; decide) dX10_coughing_62 ?_
  refine ti_top (y := 0) ((congrFun (rfl) 1).trans hmq) ?_
  refine lv_if_le (tgt := 96) hx hb dX10_coughing_63 (by decide) (fun c_63 => ?_) (fun c => absurd (by decide) c)
  refine lv_aload_n hx hb dX10_coughing_96 rfl (lv_at hl 2 rfl) ?_
  refine ti_get (ci := 10) (k := 37) (N := 67) (T := TX10) (v := .ref (A 60 38)) C hw iw_10 rfl ob_60 (by decide) (by decide) fl_X10_78 rfl rfl dX10_coughing_97 ?_
  refine lv_iload_n hx hb dX10_coughing_100 rfl (lv_at hl 3 rfl) ?_
  refine lv_iconst (v := 0) hx hb dX10_coughing_101 (by decide) ?_
  refine ti_iastG (ci := 10) (k := 37) (n := 23) C hw ob_60 (by decide) (fun _ _ => rfl) (by unfold vp_in; decide) dX10_coughing_102 (fun H locs g_1 eg_1 hw => ?_)
  exact hQ _ _ _ _ _ hw (⟨g_1, rfl, eg_1⟩) dX10_coughing_103
set_option maxHeartbeats 4000000 in
set_option maxRecDepth 100000 in
theorem k_levy_1 (l : Launch) (D : va_G) (A : Nat → Nat → Nat) (cy : Nat → ClassId) (hJ : ti_inj ti_LM A) (M : ti_M) (t : Int32) (h0 : tY M 60 3 0 = 0) (h3 : tY M 60 3 3 = 10) (h5 : tY M 60 3 5 = 0) (hmq : tY M 60 38 1 = 0) (hpw : ¬ tY M 60 49 5 < 0) : ti_Kv l yX10_levy cX10_levy 8 0 ti_LM D A cy M [.ref (A 60 0), .int 1, .int t] (fun M2 => M2 = M) := by
  refine ti_eV yp_X10_levy hJ ti_LM_nd (Nat.le_of_ble_eq_true rfl) ?_
  intro p e s m args below meth c Q H0 C hQ hw ls hl
  have hx := C.1
  have hb := C.2.1
  have hl : lv_has ls 8 [(0, .ref (A 60 0)), (1, .int 1), (2, .int t)] := hl
  refine lv_aload_n hx hb dX10_levy_0 rfl (lv_at hl 0 rfl) ?_
  refine ti_get (ci := 10) (k := 49) (N := 67) (T := TX10) (v := .ref (A 60 50)) C hw iw_10 rfl ob_60 (by decide) (by decide) fl_X10_114 rfl rfl dX10_levy_1 ?_
  refine lv_iconst (v := 3) hx hb dX10_levy_4 (by decide) ?_
  refine lv_iload_n hx hb dX10_levy_5 rfl (lv_at hl 1 rfl) ?_
  refine lv_imul hx hb dX10_levy_6 ?_
  refine ti_top (y := 3) (by decide) ?_
  refine lv_iconst (v := 2) hx hb dX10_levy_7 (by decide) ?_
  refine lv_iadd hx hb dX10_levy_8 ?_
  refine ti_top (y := 5) (by decide) ?_
  refine ti_iald (ci := 10) (k := 49) (n := 69) C hw ob_60 (by decide) (fun _ _ => rfl) (by unfold vp_in; decide) dX10_levy_9 ?_
  refine lv_topi (fun x_1 ex_1 => ?_)
  refine lv_istore_n (lv' := [(3, .int x_1), (0, .ref (A 60 0)), (1, .int 1), (2, .int t)]) hx hb dX10_levy_10 rfl hl (by decide) rfl (fun ls hl => ?_)
  refine lv_iload_n hx hb dX10_levy_11 rfl (lv_at hl 3 rfl) ?_
  refine lv_aload_n hx hb dX10_levy_12 rfl (lv_at hl 1 rfl) ?_
  refine ti_get (ci := 10) (k := 3) (N := 67) (T := TX10) (v := .ref (A 60 4)) C hw iw_10 rfl ob_60 (by decide) (by decide) fl_X10_13 rfl rfl dX10_levy_13 ?_
  refine lv_iconst (v := 3) hx hb dX10_levy_16 (by decide) ?_
  refine ti_iald (ci := 10) (k := 3) (n := 22) C hw ob_60 (by decide) (fun _ _ => rfl) (by unfold vp_in; decide) dX10_levy_17 ?_
  refine ti_top (y := 10) ((congrFun (rfl) 3).trans h3) ?_
  refine lv_irem hx hb dX10_levy_18 (by decide) ?_
  refine lv_topi (fun x_2 ex_2 => ?_)
  refine lv_if_ne (tgt := 39) hx hb dX10_levy_19 (by decide) (fun c_19 => ?_) (fun c_19 => ?_)
  · exact hQ _ _ _ _ _ hw rfl dX10_levy_39
  · refine lv_iload_n hx hb dX10_levy_22 rfl (lv_at hl 0 rfl) ?_
    refine lv_aload_n hx hb dX10_levy_23 rfl (lv_at hl 1 rfl) ?_
    refine ti_get (ci := 10) (k := 38) (N := 67) (T := TX10) (v := .ref (A 60 39)) C hw iw_10 rfl ob_60 (by decide) (by decide) fl_X10_81 rfl rfl dX10_levy_24 ?_
    refine lv_iload_n hx hb dX10_levy_27 rfl (lv_at hl 2 rfl) ?_
    refine ti_iald (ci := 10) (k := 38) (n := 23) C hw ob_60 (by decide) (fun _ _ => rfl) (by unfold vp_in; decide) dX10_levy_28 ?_
    refine ti_top (y := 0) ((congrFun (rfl) 1).trans hmq) ?_
    refine lv_icmp_ge (tgt := 39) hx hb dX10_levy_29 (by decide) (fun c_29 => ?_) (fun c => absurd ((by rw [ex_1]; show (0 : Int32) ≤ tY M 60 49 5; simp only [Int32.lt_iff_toInt_lt, Int32.le_iff_toInt_le, ← Int32.toInt_inj, ti_l0, ti_l1, ti_l2, ti_l3, ti_l5, ti_l7, ti_l8, ti_l24, ti_l59, ti_l60, ti_l119, ti_l120, ti_lm1, ti_lm2] at hpw ⊢; omega)) c)
    exact hQ _ _ _ _ _ hw rfl dX10_levy_39
set_option maxHeartbeats 4000000 in
set_option maxRecDepth 100000 in
theorem k_wear_1 (l : Launch) (D : va_G) (A : Nat → Nat → Nat) (cy : Nat → ClassId) (hJ : ti_inj ti_LM A) (M : ti_M) (t : Int32) (h0 : tY M 60 3 0 = 0) (h3 : tY M 60 3 3 = 10) (h5 : tY M 60 3 5 = 0) (hmq : tY M 60 38 1 = 0) (hpw : ¬ tY M 60 49 5 < 0) : ti_Kv l yX10_wear cX10_wear 6 0 ti_LM D A cy M [.ref (A 60 0), .int 1, .int t] (fun M2 => M2 = M) := by
  refine ti_eV yp_X10_wear hJ ti_LM_nd (Nat.le_of_ble_eq_true rfl) ?_
  intro p e s m args below meth c Q H0 C hQ hw ls hl
  have hx := C.1
  have hb := C.2.1
  have hl : lv_has ls 6 [(0, .ref (A 60 0)), (1, .int 1), (2, .int t)] := hl
  refine lv_iconst (v := 0) hx hb dX10_wear_0 (by decide) ?_
  refine lv_istore_n (lv' := [(3, .int 0), (0, .ref (A 60 0)), (1, .int 1), (2, .int t)]) hx hb dX10_wear_1 rfl hl (by decide) rfl (fun ls hl => ?_)
  refine lv_iload_n hx hb dX10_wear_2 rfl (lv_at hl 0 rfl) ?_
  refine lv_aload_n hx hb dX10_wear_3 rfl (lv_at hl 1 rfl) ?_
  refine ti_get (ci := 10) (k := 38) (N := 67) (T := TX10) (v := .ref (A 60 39)) C hw iw_10 rfl ob_60 (by decide) (by decide) fl_X10_81 rfl rfl dX10_wear_4 ?_
  refine lv_iload_n hx hb dX10_wear_7 rfl (lv_at hl 2 rfl) ?_
  refine ti_iald (ci := 10) (k := 38) (n := 23) C hw ob_60 (by decide) (fun _ _ => rfl) (by unfold vp_in; decide) dX10_wear_8 ?_
  refine ti_top (y := 0) ((congrFun (rfl) 1).trans hmq) ?_
  refine lv_icmp_ge (tgt := 104) hx hb dX10_wear_9 (by decide) (fun c_9 => ?_) (fun c => absurd (by decide) c)
  exact hQ _ _ _ _ _ hw rfl dX10_wear_104
set_option maxHeartbeats 4000000 in
set_option maxRecDepth 100000 in
theorem k_pour_1 (l : Launch) (D : va_G) (A : Nat → Nat → Nat) (cy : Nat → ClassId) (hJ : ti_inj ti_LM A) (M : ti_M) (h0 : tY M 60 3 0 = 0) (h3 : tY M 60 3 3 = 10) (h5 : tY M 60 3 5 = 0) (hmq : tY M 60 38 1 = 0) (hpw : ¬ tY M 60 49 5 < 0) : ti_Kv l yX10_pour cX10_pour 4 0 ti_LM D A cy M [.ref (A 60 0), .int 1] (fun M2 => M2 = M) := by
  refine ti_eV yp_X10_pour hJ ti_LM_nd (Nat.le_of_ble_eq_true rfl) ?_
  intro p e s m args below meth c Q H0 C hQ hw ls hl
  have hx := C.1
  have hb := C.2.1
  have hl : lv_has ls 4 [(0, .ref (A 60 0)), (1, .int 1)] := hl
  refine lv_aload_n hx hb dX10_pour_0 rfl (lv_at hl 0 rfl) ?_
  refine ti_get (ci := 10) (k := 38) (N := 67) (T := TX10) (v := .ref (A 60 39)) C hw iw_10 rfl ob_60 (by decide) (by decide) fl_X10_81 rfl rfl dX10_pour_1 ?_
  refine lv_iload_n hx hb dX10_pour_4 rfl (lv_at hl 1 rfl) ?_
  refine ti_iald (ci := 10) (k := 38) (n := 23) C hw ob_60 (by decide) (fun _ _ => rfl) (by unfold vp_in; decide) dX10_pour_5 ?_
  refine ti_top (y := 0) ((congrFun (rfl) 1).trans hmq) ?_
  refine lv_if_ne (tgt := 10) hx hb dX10_pour_6 (by decide) (fun c => absurd (by decide) c) (fun c_6 => ?_)
  exact hQ _ _ _ _ _ hw rfl dX10_pour_9
set_option maxHeartbeats 4000000 in
set_option maxRecDepth 100000 in
theorem k_passes_1 (l : Launch) (D : va_G) (A : Nat → Nat → Nat) (cy : Nat → ClassId) (hJ : ti_inj ti_LM A) (M : ti_M) (mu : Int32) (h0 : tY M 60 3 0 = 0) (h3 : tY M 60 3 3 = 10) (h5 : tY M 60 3 5 = 0) (hmq : tY M 60 38 1 = 0) (hpw : ¬ tY M 60 49 5 < 0) : ti_Kv l yX10_passes cX10_passes 5 1 ti_LM D A cy M [.ref (A 60 0), .int 1, .int mu] (fun M2 => ∃ g1 g2 : Nat → Int32, M2 = uY (uY M 60 37 g1) 60 34 g2 ∧ (∀ j, j ≠ 1 → g1 j = tY M 60 37 j) ∧ g2 1 = tY M 60 34 1 + 1 ∧ (∀ j, j ≠ 1 → g2 j = tY M 60 34 j)) := by
  refine ti_eV yp_X10_passes hJ ti_LM_nd (Nat.le_of_ble_eq_true rfl) ?_
  intro p e s m args below meth c Q H0 C hQ hw ls hl
  have hx := C.1
  have hb := C.2.1
  have hl : lv_has ls 5 [(0, .ref (A 60 0)), (1, .int 1), (2, .int mu)] := hl
  refine lv_aload_n hx hb dX10_passes_0 rfl (lv_at hl 0 rfl) ?_
  refine ti_get (ci := 10) (k := 34) (N := 67) (T := TX10) (v := .ref (A 60 35)) C hw iw_10 rfl ob_60 (by decide) (by decide) fl_X10_69 rfl rfl dX10_passes_1 ?_
  refine lv_iload_n hx hb dX10_passes_4 rfl (lv_at hl 1 rfl) ?_
  refine ti_iald (ci := 10) (k := 34) (n := 23) C hw ob_60 (by decide) (fun _ _ => rfl) (by unfold vp_in; decide) dX10_passes_5 ?_
  refine lv_topi (fun x_1 ex_1 => ?_)
  refine lv_istore_n (lv' := [(3, .int x_1), (0, .ref (A 60 0)), (1, .int 1), (2, .int mu)]) hx hb dX10_passes_6 rfl hl (by decide) rfl (fun ls hl => ?_)
  refine lv_aload_n hx hb dX10_passes_7 rfl (lv_at hl 1 rfl) ?_
  refine lv_iload_n hx hb dX10_passes_8 rfl (lv_at hl 2 rfl) ?_
  refine lv_iload_n hx hb dX10_passes_9 rfl (lv_at hl 0 rfl) ?_
  refine ti_callVv (ci := 10) (av := [.int 1, .int x_1]) C hw (k_arrive_1 l D A cy hJ M x_1 ((congrFun (rfl) 0).trans h0) ((congrFun (rfl) 3).trans h3) ((congrFun (rfl) 5).trans h5) ((congrFun (rfl) 1).trans hmq) hpw) ⟨ml_X10_382, ym_X10_arrive, yv_X10_arrive, yi_X10_arrive, yc_X10_arrive⟩ yd_X10_arrive ob_60 (by decide) rfl rfl hl.1 (Nat.le_of_ble_eq_true rfl) ⟨by decide, by decide⟩ ⟨Nat.zero_le _, Nat.zero_le _⟩ dX10_passes_10 (fun M_3 H locs hp_3 hw => ?_)
  have hm := hp_3
  have hw := hw.to hm
  refine lv_aload_n hx hb dX10_passes_13 rfl (lv_at hl 1 rfl) ?_
  refine lv_iload_n hx hb dX10_passes_14 rfl (lv_at hl 2 rfl) ?_
  refine lv_iload_n hx hb dX10_passes_15 rfl (lv_at hl 0 rfl) ?_
  refine ti_callVv (ci := 10) (av := [.int 1, .int x_1]) C hw (k_coughing_1 l D A cy hJ M x_1 ((congrFun (rfl) 0).trans h0) ((congrFun (rfl) 3).trans h3) ((congrFun (rfl) 5).trans h5) ((congrFun (rfl) 1).trans hmq) hpw) ⟨ml_X10_385, ym_X10_coughing, yv_X10_coughing, yi_X10_coughing, yc_X10_coughing⟩ yd_X10_coughing ob_60 (by decide) rfl rfl hl.1 (Nat.le_of_ble_eq_true rfl) ⟨by decide, by decide⟩ ⟨Nat.zero_le _, Nat.zero_le _⟩ dX10_passes_16 (fun M_5 H locs hp_5 hw => ?_)
  obtain ⟨g_1_5, hm, eg_1_5⟩ := hp_5
  have hw := hw.to hm
  refine lv_aload_n hx hb dX10_passes_19 rfl (lv_at hl 1 rfl) ?_
  refine lv_iload_n hx hb dX10_passes_20 rfl (lv_at hl 2 rfl) ?_
  refine ti_callVv (ci := 10) (av := [.int 1]) C hw (k_pour_1 l D A cy hJ (uY M 60 37 g_1_5) ((congrFun ((tY_k _ _ _ _ (by decide)).trans rfl) 0).trans h0) ((congrFun ((tY_k _ _ _ _ (by decide)).trans rfl) 3).trans h3) ((congrFun ((tY_k _ _ _ _ (by decide)).trans rfl) 5).trans h5) ((congrFun ((tY_k _ _ _ _ (by decide)).trans rfl) 1).trans hmq) (ti_ntr (congrFun ((tY_k _ _ _ _ (by decide)).trans rfl) 5) hpw)) ⟨ml_X10_388, ym_X10_pour, yv_X10_pour, yi_X10_pour, yc_X10_pour⟩ yd_X10_pour ob_60 (by decide) rfl rfl hl.1 (Nat.le_of_ble_eq_true rfl) ⟨by decide, by decide⟩ ⟨Nat.zero_le _, Nat.zero_le _⟩ dX10_passes_21 (fun M_7 H locs hp_7 hw => ?_)
  have hm := hp_7
  have hw := hw.to hm
  refine lv_aload_n hx hb dX10_passes_24 rfl (lv_at hl 1 rfl) ?_
  refine lv_iload_n hx hb dX10_passes_25 rfl (lv_at hl 2 rfl) ?_
  refine lv_iload_n hx hb dX10_passes_26 rfl (lv_at hl 0 rfl) ?_
  refine ti_callVv (ci := 10) (av := [.int 1, .int x_1]) C hw (k_levy_1 l D A cy hJ (uY M 60 37 g_1_5) x_1 ((congrFun ((tY_k _ _ _ _ (by decide)).trans rfl) 0).trans h0) ((congrFun ((tY_k _ _ _ _ (by decide)).trans rfl) 3).trans h3) ((congrFun ((tY_k _ _ _ _ (by decide)).trans rfl) 5).trans h5) ((congrFun ((tY_k _ _ _ _ (by decide)).trans rfl) 1).trans hmq) (ti_ntr (congrFun ((tY_k _ _ _ _ (by decide)).trans rfl) 5) hpw)) ⟨ml_X10_391, ym_X10_levy, yv_X10_levy, yi_X10_levy, yc_X10_levy⟩ yd_X10_levy ob_60 (by decide) rfl rfl hl.1 (Nat.le_of_ble_eq_true rfl) ⟨by decide, by decide⟩ ⟨Nat.zero_le _, Nat.zero_le _⟩ dX10_passes_27 (fun M_9 H locs hp_9 hw => ?_)
  have hm := hp_9
  have hw := hw.to hm
  refine lv_aload_n hx hb dX10_passes_30 rfl (lv_at hl 1 rfl) ?_
  refine lv_iload_n hx hb dX10_passes_31 rfl (lv_at hl 2 rfl) ?_
  refine lv_iload_n hx hb dX10_passes_32 rfl (lv_at hl 0 rfl) ?_
  refine ti_callVv (ci := 10) (av := [.int 1, .int x_1]) C hw (k_wear_1 l D A cy hJ (uY M 60 37 g_1_5) x_1 ((congrFun ((tY_k _ _ _ _ (by decide)).trans rfl) 0).trans h0) ((congrFun ((tY_k _ _ _ _ (by decide)).trans rfl) 3).trans h3) ((congrFun ((tY_k _ _ _ _ (by decide)).trans rfl) 5).trans h5) ((congrFun ((tY_k _ _ _ _ (by decide)).trans rfl) 1).trans hmq) (ti_ntr (congrFun ((tY_k _ _ _ _ (by decide)).trans rfl) 5) hpw)) ⟨ml_X10_394, ym_X10_wear, yv_X10_wear, yi_X10_wear, yc_X10_wear⟩ yd_X10_wear ob_60 (by decide) rfl rfl hl.1 (Nat.le_of_ble_eq_true rfl) ⟨by decide, by decide⟩ ⟨Nat.zero_le _, Nat.zero_le _⟩ dX10_passes_33 (fun M_11 H locs hp_11 hw => ?_)
  have hm := hp_11
  have hw := hw.to hm
  refine lv_aload_n hx hb dX10_passes_36 rfl (lv_at hl 1 rfl) ?_
  refine ti_get (ci := 10) (k := 38) (N := 67) (T := TX10) (v := .ref (A 60 39)) C hw iw_10 rfl ob_60 (by decide) (by decide) fl_X10_81 rfl rfl dX10_passes_37 ?_
  refine lv_iload_n hx hb dX10_passes_40 rfl (lv_at hl 2 rfl) ?_
  refine ti_iald (ci := 10) (k := 38) (n := 23) C hw ob_60 (by decide) (fun _ _ => rfl) (by unfold vp_in; decide) dX10_passes_41 ?_
  refine ti_top (y := 0) ((congrFun ((tY_k _ _ _ _ (by decide)).trans rfl) 1).trans hmq) ?_
  refine lv_if_le (tgt := 89) hx hb dX10_passes_42 (by decide) (fun c_42 => ?_) (fun c => absurd (by decide) c)
  refine lv_aload_n hx hb dX10_passes_89 rfl (lv_at hl 1 rfl) ?_
  refine ti_get (ci := 10) (k := 38) (N := 67) (T := TX10) (v := .ref (A 60 39)) C hw iw_10 rfl ob_60 (by decide) (by decide) fl_X10_81 rfl rfl dX10_passes_90 ?_
  refine lv_iload_n hx hb dX10_passes_93 rfl (lv_at hl 2 rfl) ?_
  refine ti_iald (ci := 10) (k := 38) (n := 23) C hw ob_60 (by decide) (fun _ _ => rfl) (by unfold vp_in; decide) dX10_passes_94 ?_
  refine ti_top (y := 0) ((congrFun ((tY_k _ _ _ _ (by decide)).trans rfl) 1).trans hmq) ?_
  refine lv_iconst (v := 1) hx hb dX10_passes_95 (by decide) ?_
  refine lv_isub hx hb dX10_passes_96 ?_
  refine ti_top (y := (-1)) (by decide) ?_
  refine lv_istore (lv' := [(4, .int (-1)), (3, .int x_1), (0, .ref (A 60 0)), (1, .int 1), (2, .int mu)]) hx hb dX10_passes_97 hl (by decide) rfl (fun ls hl => ?_)
  refine lv_iload hx hb dX10_passes_99 (lv_at hl 0 rfl) ?_
  refine lv_iconst (v := 1) hx hb dX10_passes_101 (by decide) ?_
  refine lv_icmp_lt (tgt := 145) hx hb dX10_passes_102 (by decide) (fun c_102 => ?_) (fun c => absurd (by decide) c)
  refine lv_iload_n hx hb dX10_passes_145 rfl (lv_at hl 4 rfl) ?_
  refine lv_if_eq (tgt := 197) hx hb dX10_passes_146 (by decide) (fun c_146 => ?_) (fun c_146 => ?_)
  · refine lv_aload_n hx hb dX10_passes_197 rfl (lv_at hl 2 rfl) ?_
    refine ti_get (ci := 10) (k := 34) (N := 67) (T := TX10) (v := .ref (A 60 35)) C hw iw_10 rfl ob_60 (by decide) (by decide) fl_X10_69 rfl rfl dX10_passes_198 ?_
    refine lv_iload_n hx hb dX10_passes_201 rfl (lv_at hl 3 rfl) ?_
    refine lv_dup2_11 hx hb dX10_passes_202 rfl rfl ?_
    refine ti_iald (ci := 10) (k := 34) (n := 23) C hw ob_60 (by decide) (fun _ _ => rfl) (by unfold vp_in; decide) dX10_passes_203 ?_
    refine lv_topi (fun x_12 ex_12 => ?_)
    refine lv_iconst (v := 1) hx hb dX10_passes_204 (by decide) ?_
    refine lv_iadd hx hb dX10_passes_205 ?_
    refine lv_topi (fun x_13 ex_13 => ?_)
    refine ti_iastG (ci := 10) (k := 34) (n := 23) C hw ob_60 (by decide) (fun _ _ => rfl) (by unfold vp_in; decide) dX10_passes_206 (fun H locs g_14 eg_14 hw => ?_)
    exact hQ _ _ _ _ _ hw (⟨g_1_5, g_14, rfl, fun j h => by rw [eg_1_5]; exact pk_un h, by rw [eg_14]; show x_13 = _; rw [ex_13, ex_12]; rfl, fun j h => by rw [eg_14]; exact pk_un h⟩) dX10_passes_207
  · refine lv_aload_n hx hb dX10_passes_149 rfl (lv_at hl 2 rfl) ?_
    refine ti_get (ci := 10) (k := 3) (N := 67) (T := TX10) (v := .ref (A 60 4)) C hw iw_10 rfl ob_60 (by decide) (by decide) fl_X10_13 rfl rfl dX10_passes_150 ?_
    refine lv_iconst (v := 5) hx hb dX10_passes_153 (by decide) ?_
    refine ti_iald (ci := 10) (k := 3) (n := 22) C hw ob_60 (by decide) (fun _ _ => rfl) (by unfold vp_in; decide) dX10_passes_154 ?_
    refine ti_top (y := 0) ((congrFun ((tY_k _ _ _ _ (by decide)).trans rfl) 5).trans h5) ?_
    refine lv_if_le (tgt := 197) hx hb dX10_passes_155 (by decide) (fun c_155 => ?_) (fun c => absurd (by decide) c)
    refine lv_aload_n hx hb dX10_passes_197 rfl (lv_at hl 2 rfl) ?_
    refine ti_get (ci := 10) (k := 34) (N := 67) (T := TX10) (v := .ref (A 60 35)) C hw iw_10 rfl ob_60 (by decide) (by decide) fl_X10_69 rfl rfl dX10_passes_198 ?_
    refine lv_iload_n hx hb dX10_passes_201 rfl (lv_at hl 3 rfl) ?_
    refine lv_dup2_11 hx hb dX10_passes_202 rfl rfl ?_
    refine ti_iald (ci := 10) (k := 34) (n := 23) C hw ob_60 (by decide) (fun _ _ => rfl) (by unfold vp_in; decide) dX10_passes_203 ?_
    refine lv_topi (fun x_15 ex_15 => ?_)
    refine lv_iconst (v := 1) hx hb dX10_passes_204 (by decide) ?_
    refine lv_iadd hx hb dX10_passes_205 ?_
    refine lv_topi (fun x_16 ex_16 => ?_)
    refine ti_iastG (ci := 10) (k := 34) (n := 23) C hw ob_60 (by decide) (fun _ _ => rfl) (by unfold vp_in; decide) dX10_passes_206 (fun H locs g_17 eg_17 hw => ?_)
    exact hQ _ _ _ _ _ hw (⟨g_1_5, g_17, rfl, fun j h => by rw [eg_1_5]; exact pk_un h, by rw [eg_17]; show x_16 = _; rw [ex_16, ex_15]; rfl, fun j h => by rw [eg_17]; exact pk_un h⟩) dX10_passes_207
set_option maxHeartbeats 4000000 in
set_option maxRecDepth 100000 in
theorem k_X10_lays (l : Launch) (D : va_G) (A : Nat → Nat → Nat) (cy : Nat → ClassId) (hJ : ti_inj ti_LM A) (M : ti_M) (hF : ti_FM M)  : ti_Kv l yX10_lays cX10_lays 1 1 ti_LM D A cy M [.ref (A 60 0)] (fun M2 => ti_FM M2 ∧ tY M2 60 34 1 = 0 ∧ tY M2 60 38 1 = 0 ∧ tY M2 60 49 5 = 2) := by
  refine ti_eV yp_X10_lays hJ ti_LM_nd (Nat.le_of_ble_eq_true rfl) ?_
  intro p e s m args below meth c Q H0 C hQ hw ls hl
  have hx := C.1
  have hb := C.2.1
  have hl : lv_has ls 1 [(0, .ref (A 60 0))] := hl
  obtain ⟨m_taped, m_lf, m_lp, m_hi, m_un, m_st, m_kb, n0, n3, n5, n7, mi0, wa0, co0, ma0, pw0, pw1, pw2, sf, sto⟩ := id hF
  refine lv_aload_n hx hb dX10_lays_0 rfl (lv_at hl 0 rfl) ?_
  refine lv_iconst (v := 1) hx hb dX10_lays_1 (by decide) ?_
  refine lv_iconst (v := 0) hx hb dX10_lays_2 (by decide) ?_
  refine ti_callVv (ci := 10) (av := [.int 1, .int 0]) C hw (k_copies_1 l D A cy hJ M ⟨(m_taped), (m_lf), (m_lp), (m_hi), (m_un), (m_st), (m_kb), ((congrFun (rfl) 0).trans n0), ((congrFun (rfl) 3).trans n3), ((congrFun (rfl) 5).trans n5), ((congrFun (rfl) 7).trans n7), ((congrFun (rfl) 0).trans mi0), ((congrFun (rfl) 0).trans wa0), ((congrFun (rfl) 0).trans co0), ((congrFun (rfl) 0).trans ma0), ((congrFun (rfl) 0).trans pw0), ((congrFun (rfl) 1).trans pw1), ((congrFun (rfl) 2).trans pw2), sf, sto⟩) ⟨ml_X10_404, ym_X10_copies, yv_X10_copies, yi_X10_copies, yc_X10_copies⟩ yd_X10_copies ob_60 (by decide) rfl rfl hl.1 (Nat.le_of_ble_eq_true rfl) ⟨by decide, by decide⟩ ⟨Nat.zero_le _, Nat.zero_le _⟩ dX10_lays_3 (fun M_2 H locs hp_2 hw => ?_)
  obtain ⟨hF, k34_2, k38_2, k49_2⟩ := hp_2
  obtain ⟨m_taped, m_lf, m_lp, m_hi, m_un, m_st, m_kb, n0, n3, n5, n7, mi0, wa0, co0, ma0, pw0, pw1, pw2, sf, sto⟩ := id hF
  refine lv_aload_n hx hb dX10_lays_6 rfl (lv_at hl 0 rfl) ?_
  refine ti_get (ci := 10) (k := 37) (N := 67) (T := TX10) (v := .ref (A 60 38)) C hw iw_10 rfl ob_60 (by decide) (by decide) fl_X10_78 rfl rfl dX10_lays_7 ?_
  refine lv_iconst (v := 1) hx hb dX10_lays_10 (by decide) ?_
  refine lv_iconst (v := 0) hx hb dX10_lays_11 (by decide) ?_
  refine ti_iastG (ci := 10) (k := 37) (n := 23) C hw ob_60 (by decide) (fun _ _ => rfl) (by unfold vp_in; decide) dX10_lays_12 (fun H locs g_3 eg_3 hw => ?_)
  exact hQ _ _ _ _ _ hw (⟨⟨((tI_uY _ _ _ _ _ _).trans m_taped), ((tI_uY _ _ _ _ _ _).trans m_lf), ((tI_uY _ _ _ _ _ _).trans m_lp), ((tI_uY _ _ _ _ _ _).trans m_hi), ((tI_uY _ _ _ _ _ _).trans m_un), ((tI_uY _ _ _ _ _ _).trans m_st), ((tI_uY _ _ _ _ _ _).trans m_kb), ((congrFun ((tY_k _ _ _ _ (by decide)).trans rfl) 0).trans n0), ((congrFun ((tY_k _ _ _ _ (by decide)).trans rfl) 3).trans n3), ((congrFun ((tY_k _ _ _ _ (by decide)).trans rfl) 5).trans n5), ((congrFun ((tY_k _ _ _ _ (by decide)).trans rfl) 7).trans n7), ((congrFun ((tY_k _ _ _ _ (by decide)).trans rfl) 0).trans mi0), ((congrFun ((tY_k _ _ _ _ (by decide)).trans rfl) 0).trans wa0), ((congrFun (tY_u _ _ _ _) 0).trans ((congrFun eg_3 0).trans co0)), ((congrFun ((tY_k _ _ _ _ (by decide)).trans rfl) 0).trans ma0), ((congrFun ((tY_k _ _ _ _ (by decide)).trans rfl) 0).trans pw0), ((congrFun ((tY_k _ _ _ _ (by decide)).trans rfl) 1).trans pw1), ((congrFun ((tY_k _ _ _ _ (by decide)).trans rfl) 2).trans pw2), sf, sto⟩, ((congrFun ((tY_k _ _ _ _ (by decide)).trans rfl) 1).trans k34_2), ((congrFun ((tY_k _ _ _ _ (by decide)).trans rfl) 1).trans k38_2), ((congrFun ((tY_k _ _ _ _ (by decide)).trans rfl) 5).trans k49_2)⟩) dX10_lays_13
set_option maxHeartbeats 4000000 in
set_option maxRecDepth 100000 in
theorem k_X10_runs (l : Launch) (D : va_G) (A : Nat → Nat → Nat) (cy : Nat → ClassId) (hJ : ti_inj ti_LM A) (M : ti_M) (n1 : Int32) (hF : ti_FM M) (h38 : tY M 60 38 1 = 0) (hpw : ¬ tY M 60 49 5 < 0) : ti_Kv l yX10_runs cX10_runs 3 2 ti_LM D A cy M [.ref (A 60 0), .int n1] (fun M2 => ti_FM M2 ∧ tY M2 60 38 1 = 0 ∧ ¬ tY M2 60 49 5 < 0) := by
  refine ti_eV yp_X10_runs hJ ti_LM_nd (Nat.le_of_ble_eq_true rfl) ?_
  intro p e s m args below meth c Q H0 C hQ hw ls hl
  have hx := C.1
  have hb := C.2.1
  have hl : lv_has ls 3 [(0, .ref (A 60 0)), (1, .int n1)] := hl
  obtain ⟨m_taped, m_lf, m_lp, m_hi, m_un, m_st, m_kb, n0, n3, n5, n7, mi0, wa0, co0, ma0, pw0, pw1, pw2, sf, sto⟩ := id hF
  refine lv_iconst (v := 0) hx hb dX10_runs_0 (by decide) ?_
  refine lv_istore_n (lv' := [(2, .int 0), (0, .ref (A 60 0)), (1, .int n1)]) hx hb dX10_runs_1 rfl hl (by decide) rfl (fun ls hl => ?_)
  suffices hloop : ∀ (n : Nat) (tt : Int32) (Mx : ti_M) (H : Heap) (locs : List Loc) (ls : Array Slot), ((n1.toInt - tt.toInt).toNat < n) → (ti_FM Mx) → (tY Mx 60 38 1 = 0) → (¬ tY Mx 60 49 5 < 0) → ti_H ti_LM D A cy H0 Mx H locs → lv_has ls 3 [(2, .int tt), (0, .ref (A 60 0)), (1, .int n1)] → W p l e (ti_rm 2) s m args below meth c H locs 0 0 Q (F0 m 2 ls []) from hloop (n1.toInt.toNat + 1) 0 M _ _ _ (by simp only [ti_l0]; omega) ⟨(m_taped), (m_lf), (m_lp), (m_hi), (m_un), (m_st), (m_kb), ((congrFun (rfl) 0).trans n0), ((congrFun (rfl) 3).trans n3), ((congrFun (rfl) 5).trans n5), ((congrFun (rfl) 7).trans n7), ((congrFun (rfl) 0).trans mi0), ((congrFun (rfl) 0).trans wa0), ((congrFun (rfl) 0).trans co0), ((congrFun (rfl) 0).trans ma0), ((congrFun (rfl) 0).trans pw0), ((congrFun (rfl) 1).trans pw1), ((congrFun (rfl) 2).trans pw2), sf, sto⟩ ((congrFun (rfl) 1).trans h38) hpw hw (lv_sub hl [0, 1, 2] rfl)
  clear hw hl ls
  intro n
  induction n with
  | zero => intro tt Mx H locs ls hfuel hF h38 hpw hw hl; exact absurd hfuel (by omega)
  | succ n ih =>
    intro tt Mx H locs ls hfuel hF h38 hpw hw hl
    obtain ⟨m_taped, m_lf, m_lp, m_hi, m_un, m_st, m_kb, n0, n3, n5, n7, mi0, wa0, co0, ma0, pw0, pw1, pw2, sf, sto⟩ := id hF
    refine lv_iload_n hx hb dX10_runs_2 rfl (lv_at hl 0 rfl) ?_
    refine lv_iload_n hx hb dX10_runs_3 rfl (lv_at hl 2 rfl) ?_
    refine lv_icmp_ge (tgt := 19) hx hb dX10_runs_4 (by decide) (fun c_4 => ?_) (fun c_4 => ?_)
    · exact hQ _ _ _ _ _ hw (⟨hF, h38, hpw⟩) dX10_runs_19
    · refine lv_aload_n hx hb dX10_runs_7 rfl (lv_at hl 1 rfl) ?_
      refine lv_iconst (v := 1) hx hb dX10_runs_8 (by decide) ?_
      refine lv_iconst (v := 0) hx hb dX10_runs_9 (by decide) ?_
      refine ti_callVv (ci := 10) (av := [.int 1, .int 0]) C hw (k_passes_1 l D A cy hJ Mx 0 ((congrFun (rfl) 0).trans n0) ((congrFun (rfl) 3).trans n3) ((congrFun (rfl) 5).trans n5) ((congrFun (rfl) 1).trans h38) hpw) ⟨ml_X10_407, ym_X10_passes, yv_X10_passes, yi_X10_passes, yc_X10_passes⟩ yd_X10_passes ob_60 (by decide) rfl rfl hl.1 (Nat.le_of_ble_eq_true rfl) ⟨by decide, by decide⟩ ⟨Nat.zero_le _, Nat.zero_le _⟩ dX10_runs_10 (fun M_2 H locs hp_2 hw => ?_)
      obtain ⟨ga_2, gb_2, hm, hna_2, hq_2, hnb_2⟩ := hp_2
      have hw := hw.to hm
      obtain ⟨x_3, ex_3⟩ : ∃ z : Int32, z = tt + 1 := ⟨_, rfl⟩
      refine lv_iinc (v := x_3) (lv' := [(2, .int x_3), (0, .ref (A 60 0)), (1, .int n1)]) hx hb dX10_runs_13 hl (k := 0) rfl (by rw [ex_3]; rfl) (by decide) rfl (fun ls hl => ?_)
      refine lv_goto (tgt := 2) hx hb dX10_runs_16 (by decide) ?_
      exact ih x_3 (uY (uY Mx 60 37 ga_2) 60 34 gb_2) _ _ _ (by have h1 := ti_inc (un := n1) c_4; rw [← ex_3] at h1; omega) ⟨((tI_uY _ _ _ _ _ _).trans ((tI_uY _ _ _ _ _ _).trans m_taped)), ((tI_uY _ _ _ _ _ _).trans ((tI_uY _ _ _ _ _ _).trans m_lf)), ((tI_uY _ _ _ _ _ _).trans ((tI_uY _ _ _ _ _ _).trans m_lp)), ((tI_uY _ _ _ _ _ _).trans ((tI_uY _ _ _ _ _ _).trans m_hi)), ((tI_uY _ _ _ _ _ _).trans ((tI_uY _ _ _ _ _ _).trans m_un)), ((tI_uY _ _ _ _ _ _).trans ((tI_uY _ _ _ _ _ _).trans m_st)), ((tI_uY _ _ _ _ _ _).trans ((tI_uY _ _ _ _ _ _).trans m_kb)), ((congrFun ((tY_k _ _ _ _ (by decide)).trans ((tY_k _ _ _ _ (by decide)).trans rfl)) 0).trans n0), ((congrFun ((tY_k _ _ _ _ (by decide)).trans ((tY_k _ _ _ _ (by decide)).trans rfl)) 3).trans n3), ((congrFun ((tY_k _ _ _ _ (by decide)).trans ((tY_k _ _ _ _ (by decide)).trans rfl)) 5).trans n5), ((congrFun ((tY_k _ _ _ _ (by decide)).trans ((tY_k _ _ _ _ (by decide)).trans rfl)) 7).trans n7), ((congrFun (tY_u _ _ _ _) 0).trans ((hnb_2 0 (by decide)).trans ((congrFun (rfl) 0).trans mi0))), ((congrFun ((tY_k _ _ _ _ (by decide)).trans ((tY_k _ _ _ _ (by decide)).trans rfl)) 0).trans wa0), ((congrFun ((tY_k _ _ _ _ (by decide)).trans (tY_u _ _ _ _)) 0).trans ((hna_2 0 (by decide)).trans ((congrFun (rfl) 0).trans co0))), ((congrFun ((tY_k _ _ _ _ (by decide)).trans ((tY_k _ _ _ _ (by decide)).trans rfl)) 0).trans ma0), ((congrFun ((tY_k _ _ _ _ (by decide)).trans ((tY_k _ _ _ _ (by decide)).trans rfl)) 0).trans pw0), ((congrFun ((tY_k _ _ _ _ (by decide)).trans ((tY_k _ _ _ _ (by decide)).trans rfl)) 1).trans pw1), ((congrFun ((tY_k _ _ _ _ (by decide)).trans ((tY_k _ _ _ _ (by decide)).trans rfl)) 2).trans pw2), sf, sto⟩ ((congrFun ((tY_k _ _ _ _ (by decide)).trans ((tY_k _ _ _ _ (by decide)).trans rfl)) 1).trans h38) (ti_ntr (congrFun ((tY_k _ _ _ _ (by decide)).trans ((tY_k _ _ _ _ (by decide)).trans rfl)) 5) hpw) hw (lv_sub hl [0, 1, 2] rfl)

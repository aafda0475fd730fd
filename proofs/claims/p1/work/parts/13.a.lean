theorem ob_laws3 {j : Nat} (h : j < 3) : ti_ob ti_LT ((ti_laws 3) j) 1 := by
  match j, h with
  | 0, _ => exact ob_21
  | 1, _ => exact ob_22
  | 2, _ => exact ob_23
  | j + 3, h => omega
set_option maxHeartbeats 4000000 in
set_option maxRecDepth 100000 in
theorem k_X0_holders (l : Launch) (D : va_G) (A : Nat → Nat → Nat) (cy : Nat → ClassId) (hJ : ti_inj ti_LT A) (M : ti_M) (hF : ti_F M) (kd pl n1 : Int32) (hk : vp_in kd 3) : ti_Ki l yX0_holders cX0_holders 8 (some .int) 4 ti_LT D A cy M [.ref (A 53 0), .ref (A 27 0), .int kd, .int pl, .int n1] (fun r M2 => ti_F M2 ∧ r = 0) := by
  refine ti_eI yp_X0_holders hJ ti_LT_nd (Nat.le_of_ble_eq_true rfl) ?_
  intro p e s m args below meth c Q H0 C hQ hw ls hl
  have hx := C.1
  have hb := C.2.1
  have hl : lv_has ls 8 [(0, .ref (A 53 0)), (1, .ref (A 27 0)), (2, .int kd), (3, .int pl), (4, .int n1)] := hl
  obtain ⟨f_told, f_spare, f_nt, f_many, f_fault, f_place, f_men, f_knots, f_mut, f_man, f_min, f_size, f_water, f_first, f_steps, f_img, f_sm, f_sk, f_ss, f_sw, f_p0, f_p1, f_p2⟩ := id hF
  refine lv_aload_n hx hb dX0_holders_0 rfl (lv_at hl 0 rfl) ?_
  refine lv_aload_n hx hb dX0_holders_1 rfl (lv_at hl 1 rfl) ?_
  refine ti_callVv (ci := 0) (av := [.ref (A 27 0)]) C hw (k_X0_prepare l D A cy hJ _ hF) ⟨ml_X0_42, ym_X0_prepare, yv_X0_prepare, yi_X0_prepare, yc_X0_prepare⟩ yd_X0_prepare ob_53 (by decide) rfl rfl hl.1 (Nat.le_of_ble_eq_true rfl) ⟨by decide, by decide⟩ ⟨Nat.zero_le _, Nat.zero_le _⟩ dX0_holders_2 (fun M_2 H locs hp_2 hw => ?_)
  obtain ⟨k_3, k_4, k_5, k_6, k_7, k_8, k_9, hF⟩ := hp_2
  refine lv_aload_n hx hb dX0_holders_5 rfl (lv_at hl 0 rfl) ?_
  refine ti_get (ci := 0) (k := 0) (N := 6) (T := TX0) (v := .ref (A 54 0)) C hw iw_0 rfl ob_53 (by decide) (by decide) fl_X0_12 rfl rfl dX0_holders_6 ?_
  refine ti_get (ci := 3) (k := 7) (N := 17) (T := TX3) (v := .ref (A 54 8)) C hw iw_3 rfl ob_54 (by decide) (by decide) fl_X0_137 rfl rfl dX0_holders_9 ?_
  refine lv_iload_n hx hb dX0_holders_12 rfl (lv_at hl 2 rfl) ?_
  refine lv_iload_n hx hb dX0_holders_13 rfl (lv_at hl 3 rfl) ?_
  refine ti_iastG (ci := 3) (k := 7) (n := 3) C hw ob_54 (by decide) (fun _ _ => rfl) hk dX0_holders_14 (fun H locs g_11 eg_11 hw => ?_)
  refine lv_iconst (v := 0) hx hb dX0_holders_15 (by decide) ?_
  refine lv_istore (lv' := [(5, .int 0), (0, .ref (A 53 0)), (1, .ref (A 27 0)), (2, .int kd), (3, .int pl), (4, .int n1)]) hx hb dX0_holders_16 hl (by decide) rfl (fun ls hl => ?_)
  refine lv_iconst (v := 0) hx hb dX0_holders_18 (by decide) ?_
  refine lv_istore (lv' := [(6, .int 0), (5, .int 0), (0, .ref (A 53 0)), (1, .ref (A 27 0)), (2, .int kd), (3, .int pl), (4, .int n1)]) hx hb dX0_holders_19 hl (by decide) rfl (fun ls hl => ?_)
  suffices hloop : ∀ (n : Nat) (tt : Int32) (Mx : ti_M) (H : Heap) (locs : List Loc) (ls : Array Slot), ((n1.toInt - tt.toInt).toNat < n) → (tT Mx 54 0 = some 3) → (tI Mx 54 3 = 0) → (tI Mx 3 4 = 0) → (tI Mx 3 10 = 0) → (ti_F Mx) → ti_H ti_LT D A cy H0 Mx H locs → lv_has ls 8 [(5, .int 0), (6, .int tt), (0, .ref (A 53 0)), (1, .ref (A 27 0)), (2, .int kd), (3, .int pl), (4, .int n1)] → W p l e (ti_rm 4) s m args below meth c H locs 0 0 Q (F0 m 21 ls []) from hloop (n1.toInt.toNat + 1) 0 (uY M_2 54 7 g_11) _ _ _ (by simp only [ti_l0]; omega) k_3 k_4 k_6 k_7 hF hw (lv_sub hl [1, 0, 2, 3, 4, 5, 6] rfl)
  clear hw hl ls
  intro n
  induction n with
  | zero => intro tt Mx H locs ls hfuel hT hs hm0 hu hF hw hl; exact absurd hfuel (by omega)
  | succ n ih =>
    intro tt Mx H locs ls hfuel hT hs hm0 hu hF hw hl
    refine lv_iload hx hb dX0_holders_21 (lv_at hl 1 rfl) ?_
    refine lv_iload hx hb dX0_holders_23 (lv_at hl 6 rfl) ?_
    refine lv_icmp_ge (tgt := 69) hx hb dX0_holders_25 (by decide) (fun c_25 => ?_) (fun c_25 => ?_)
    · refine lv_iload hx hb dX0_holders_69 (lv_at hl 0 rfl) ?_
      exact hQ _ _ _ _ _ _ hw rfl (⟨hF, rfl⟩) dX0_holders_71
    · refine lv_aload_n hx hb dX0_holders_28 rfl (lv_at hl 2 rfl) ?_
      refine ti_get (ci := 0) (k := 0) (N := 6) (T := TX0) (v := .ref (A 54 0)) C hw iw_0 rfl ob_53 (by decide) (by decide) fl_X0_12 rfl rfl dX0_holders_29 ?_
      refine ti_callVv (ci := 3) (av := []) C hw (k_X3_pass l D A cy hJ _ 54 3 ob_54 ob_3 hT hs hm0 hu) ⟨ml_X0_51, ym_X3_pass, yv_X3_pass, yi_X3_pass, yc_X3_pass⟩ yd_X3_pass ob_54 (by decide) rfl rfl hl.1 (Nat.le_of_ble_eq_true rfl) ⟨by decide, by decide⟩ ⟨Nat.zero_le _, Nat.zero_le _⟩ dX0_holders_32 (fun M_13 H locs hp_13 hw => ?_)
      obtain ⟨g_14, hm⟩ := hp_13
      have hw := hw.to hm
      refine lv_aload_n hx hb dX0_holders_35 rfl (lv_at hl 2 rfl) ?_
      refine ti_get (ci := 0) (k := 0) (N := 6) (T := TX0) (v := .ref (A 54 0)) C hw iw_0 rfl ob_53 (by decide) (by decide) fl_X0_12 rfl rfl dX0_holders_36 ?_
      refine lv_iload_n hx hb dX0_holders_39 rfl (lv_at hl 5 rfl) ?_
      refine ti_callVi (ci := 3) (av := [.int pl]) C hw (k_X3_manAt l D A cy hJ _ 54 pl ob_54 hs) ⟨ml_X0_64, ym_X3_manAt, yv_X3_manAt, yi_X3_manAt, yc_X3_manAt⟩ yd_X3_manAt ob_54 (by decide) rfl rfl hl.1 (Nat.le_of_ble_eq_true rfl) ⟨by decide, by decide⟩ ⟨Nat.zero_le _, Nat.zero_le _⟩ dX0_holders_40 (fun r_15 M_16 H locs hp_16 hw => ?_)
      obtain ⟨hm, rfl⟩ := hp_16
      have hw := hw.to hm
      refine lv_istore (lv' := [(7, .int (-2)), (5, .int 0), (6, .int tt), (0, .ref (A 53 0)), (1, .ref (A 27 0)), (2, .int kd), (3, .int pl), (4, .int n1)]) hx hb dX0_holders_43 hl (by decide) rfl (fun ls hl => ?_)
      refine lv_iload hx hb dX0_holders_45 (lv_at hl 1 rfl) ?_
      refine lv_iload hx hb dX0_holders_47 (lv_at hl 0 rfl) ?_
      refine lv_if_ge (tgt := 56) hx hb dX0_holders_49 (by decide) (fun c => absurd c (by decide)) (fun c_49 => ?_)
      refine lv_iconst (v := 0) hx hb dX0_holders_52 (by decide) ?_
      refine lv_goto (tgt := 60) hx hb dX0_holders_53 (by decide) ?_
      refine lv_ior hx hb dX0_holders_60 ?_
      refine ti_top (y := 0) (by decide) ?_
      refine lv_istore (lv' := [(5, .int 0), (7, .int (-2)), (6, .int tt), (0, .ref (A 53 0)), (1, .ref (A 27 0)), (2, .int kd), (3, .int pl), (4, .int n1)]) hx hb dX0_holders_61 hl (by decide) rfl (fun ls hl => ?_)
      obtain ⟨x_17, ex_17⟩ : ∃ z : Int32, z = tt + 1 := ⟨_, rfl⟩
      refine lv_iinc (v := x_17) (lv' := [(6, .int x_17), (5, .int 0), (7, .int (-2)), (0, .ref (A 53 0)), (1, .ref (A 27 0)), (2, .int kd), (3, .int pl), (4, .int n1)]) hx hb dX0_holders_63 hl (k := 2) rfl (by rw [ex_17]; rfl) (by decide) rfl (fun ls hl => ?_)
      refine lv_goto (tgt := 21) hx hb dX0_holders_66 (by decide) ?_
      exact ih x_17 (uI (uY Mx 54 16 g_14) 54 2 (tI Mx 54 2 + 1)) _ _ _ (by have h1 := ti_inc (un := n1) c_25; rw [← ex_17] at h1; omega) hT hs hm0 hu hF hw (lv_sub hl [1, 0, 3, 4, 5, 6, 7] rfl)
def pf_zero (_ : Int32) : Int32 := 0
set_option maxHeartbeats 4000000 in
set_option maxRecDepth 100000 in
theorem k_X0_fairestPlace (l : Launch) (D : va_G) (A : Nat → Nat → Nat) (cy : Nat → ClassId) (hJ : ti_inj ti_LT A) (M : ti_M) (hF : ti_F M) (kd n1 wh : Int32) (hk : vp_in kd 3) : ti_Ki l yX0_fairestPlace cX0_fairestPlace 9 (some .int) 5 ti_LT D A cy M [.ref (A 53 0), .ref (A 27 0), .int kd, .int n1, .int wh] (fun r _ => r = 0) := by
  refine ti_eI yp_X0_fairestPlace hJ ti_LT_nd (Nat.le_of_ble_eq_true rfl) ?_
  intro p e s m args below meth c Q H0 C hQ hw ls hl
  have hx := C.1
  have hb := C.2.1
  have hl : lv_has ls 9 [(0, .ref (A 53 0)), (1, .ref (A 27 0)), (2, .int kd), (3, .int n1), (4, .int wh)] := hl
  obtain ⟨f_told, f_spare, f_nt, f_many, f_fault, f_place, f_men, f_knots, f_mut, f_man, f_min, f_size, f_water, f_first, f_steps, f_img, f_sm, f_sk, f_ss, f_sw, f_p0, f_p1, f_p2⟩ := id hF
  refine lv_iconst (v := 0) hx hb dX0_fairestPlace_0 (by decide) ?_
  refine lv_istore (lv' := [(5, .int 0), (0, .ref (A 53 0)), (1, .ref (A 27 0)), (2, .int kd), (3, .int n1), (4, .int wh)]) hx hb dX0_fairestPlace_1 hl (by decide) rfl (fun ls hl => ?_)
  refine lv_iconst (v := (-1)) hx hb dX0_fairestPlace_3 (by decide) ?_
  refine lv_istore (lv' := [(6, .int (-1)), (5, .int 0), (0, .ref (A 53 0)), (1, .ref (A 27 0)), (2, .int kd), (3, .int n1), (4, .int wh)]) hx hb dX0_fairestPlace_4 hl (by decide) rfl (fun ls hl => ?_)
  refine lv_iconst (v := 0) hx hb dX0_fairestPlace_6 (by decide) ?_
  refine lv_istore (lv' := [(7, .int 0), (6, .int (-1)), (5, .int 0), (0, .ref (A 53 0)), (1, .ref (A 27 0)), (2, .int kd), (3, .int n1), (4, .int wh)]) hx hb dX0_fairestPlace_7 hl (by decide) rfl (fun ls hl => ?_)
  refine lv_iload hx hb dX0_fairestPlace_9 (lv_at hl 0 rfl) ?_
  refine lv_bipush (v := 8) hx hb dX0_fairestPlace_11 (by decide) ?_
  refine lv_icmp_ge (tgt := 51) hx hb dX0_fairestPlace_13 (by decide) (fun c => absurd c (by decide)) (fun c_13 => ?_)
  refine lv_aload_n hx hb dX0_fairestPlace_16 rfl (lv_at hl 3 rfl) ?_
  refine lv_aload_n hx hb dX0_fairestPlace_17 rfl (lv_at hl 4 rfl) ?_
  refine lv_iload_n hx hb dX0_fairestPlace_18 rfl (lv_at hl 5 rfl) ?_
  refine lv_iload hx hb dX0_fairestPlace_19 (lv_at hl 0 rfl) ?_
  refine lv_iload_n hx hb dX0_fairestPlace_21 rfl (lv_at hl 6 rfl) ?_
  refine ti_callVi (ci := 0) (av := [.ref (A 27 0), .int kd, .int 0, .int n1]) C hw (k_X0_holders l D A cy hJ _ hF kd 0 n1 hk) ⟨ml_X0_140, ym_X0_holders, yv_X0_holders, yi_X0_holders, yc_X0_holders⟩ yd_X0_holders ob_53 (by decide) rfl rfl hl.1 (Nat.le_of_ble_eq_true rfl) ⟨by decide, by decide⟩ ⟨Nat.zero_le _, Nat.zero_le _⟩ dX0_fairestPlace_22 (fun r_1 M_2 H locs hp_2 hw => ?_)
  obtain ⟨hF, rfl⟩ := hp_2
  refine ti_callSi (av := [.int 0]) C hw (k_J6_bitCount_0f7a4 l D A cy hJ _ ) ⟨ml_X0_96, ys_J6_bitCount_0f7a4, yi_J6_bitCount_0f7a4, yc_J6_bitCount_0f7a4⟩ yd_J6_bitCount_0f7a4 rfl hl.1 (Nat.le_of_ble_eq_true rfl) ⟨by decide, by decide⟩ ⟨Nat.zero_le _, Nat.zero_le _⟩ dX0_fairestPlace_25 (fun r_3 M_4 H locs hp_4 hw => ?_)
  obtain ⟨hm, rfl⟩ := hp_4
  have hw := hw.to hm
  refine lv_istore (lv' := [(8, .int 0), (7, .int 0), (6, .int (-1)), (5, .int 0), (0, .ref (A 53 0)), (1, .ref (A 27 0)), (2, .int kd), (3, .int n1), (4, .int wh)]) hx hb dX0_fairestPlace_28 hl (by decide) rfl (fun ls hl => ?_)
  refine lv_iload hx hb dX0_fairestPlace_30 (lv_at hl 0 rfl) ?_
  refine lv_iload hx hb dX0_fairestPlace_32 (lv_at hl 2 rfl) ?_
  refine lv_icmp_le (tgt := 45) hx hb dX0_fairestPlace_34 (by decide) (fun c => absurd c (by decide)) (fun c_34 => ?_)
  refine lv_iload hx hb dX0_fairestPlace_37 (lv_at hl 0 rfl) ?_
  refine lv_istore (lv' := [(6, .int 0), (8, .int 0), (7, .int 0), (5, .int 0), (0, .ref (A 53 0)), (1, .ref (A 27 0)), (2, .int kd), (3, .int n1), (4, .int wh)]) hx hb dX0_fairestPlace_39 hl (by decide) rfl (fun ls hl => ?_)
  refine lv_iload hx hb dX0_fairestPlace_41 (lv_at hl 2 rfl) ?_
  refine lv_istore (lv' := [(5, .int 0), (6, .int 0), (8, .int 0), (7, .int 0), (0, .ref (A 53 0)), (1, .ref (A 27 0)), (2, .int kd), (3, .int n1), (4, .int wh)]) hx hb dX0_fairestPlace_43 hl (by decide) rfl (fun ls hl => ?_)
  refine lv_iinc (v := 1) (lv' := [(7, .int 1), (5, .int 0), (6, .int 0), (8, .int 0), (0, .ref (A 53 0)), (1, .ref (A 27 0)), (2, .int kd), (3, .int n1), (4, .int wh)]) hx hb dX0_fairestPlace_45 hl (k := 3) rfl (by decide) (by decide) rfl (fun ls hl => ?_)
  refine lv_goto (tgt := 9) hx hb dX0_fairestPlace_48 (by decide) ?_
  refine lv_iload hx hb dX0_fairestPlace_9 (lv_at hl 0 rfl) ?_
  refine lv_bipush (v := 8) hx hb dX0_fairestPlace_11 (by decide) ?_
  refine lv_icmp_ge (tgt := 51) hx hb dX0_fairestPlace_13 (by decide) (fun c => absurd c (by decide)) (fun c_13 => ?_)
  refine lv_aload_n hx hb dX0_fairestPlace_16 rfl (lv_at hl 4 rfl) ?_
  refine lv_aload_n hx hb dX0_fairestPlace_17 rfl (lv_at hl 5 rfl) ?_
  refine lv_iload_n hx hb dX0_fairestPlace_18 rfl (lv_at hl 6 rfl) ?_
  refine lv_iload hx hb dX0_fairestPlace_19 (lv_at hl 0 rfl) ?_
  refine lv_iload_n hx hb dX0_fairestPlace_21 rfl (lv_at hl 7 rfl) ?_
  refine ti_callVi (ci := 0) (av := [.ref (A 27 0), .int kd, .int 1, .int n1]) C hw (k_X0_holders l D A cy hJ _ hF kd 1 n1 hk) ⟨ml_X0_140, ym_X0_holders, yv_X0_holders, yi_X0_holders, yc_X0_holders⟩ yd_X0_holders ob_53 (by decide) rfl rfl hl.1 (Nat.le_of_ble_eq_true rfl) ⟨by decide, by decide⟩ ⟨Nat.zero_le _, Nat.zero_le _⟩ dX0_fairestPlace_22 (fun r_5 M_6 H locs hp_6 hw => ?_)
  obtain ⟨hF, rfl⟩ := hp_6
  refine ti_callSi (av := [.int 0]) C hw (k_J6_bitCount_0f7a4 l D A cy hJ _ ) ⟨ml_X0_96, ys_J6_bitCount_0f7a4, yi_J6_bitCount_0f7a4, yc_J6_bitCount_0f7a4⟩ yd_J6_bitCount_0f7a4 rfl hl.1 (Nat.le_of_ble_eq_true rfl) ⟨by decide, by decide⟩ ⟨Nat.zero_le _, Nat.zero_le _⟩ dX0_fairestPlace_25 (fun r_7 M_8 H locs hp_8 hw => ?_)
  obtain ⟨hm, rfl⟩ := hp_8
  have hw := hw.to hm
  refine lv_istore (lv' := [(8, .int 0), (7, .int 1), (5, .int 0), (6, .int 0), (0, .ref (A 53 0)), (1, .ref (A 27 0)), (2, .int kd), (3, .int n1), (4, .int wh)]) hx hb dX0_fairestPlace_28 hl (by decide) rfl (fun ls hl => ?_)
  refine lv_iload hx hb dX0_fairestPlace_30 (lv_at hl 0 rfl) ?_
  refine lv_iload hx hb dX0_fairestPlace_32 (lv_at hl 3 rfl) ?_
  refine lv_icmp_le (tgt := 45) hx hb dX0_fairestPlace_34 (by decide) (fun c_34 => ?_) (fun c => absurd (by decide) c)
  refine lv_iinc (v := 2) (lv' := [(7, .int 2), (8, .int 0), (5, .int 0), (6, .int 0), (0, .ref (A 53 0)), (1, .ref (A 27 0)), (2, .int kd), (3, .int n1), (4, .int wh)]) hx hb dX0_fairestPlace_45 hl (k := 1) rfl (by decide) (by decide) rfl (fun ls hl => ?_)
  refine lv_goto (tgt := 9) hx hb dX0_fairestPlace_48 (by decide) ?_
  refine lv_iload hx hb dX0_fairestPlace_9 (lv_at hl 0 rfl) ?_
  refine lv_bipush (v := 8) hx hb dX0_fairestPlace_11 (by decide) ?_
  refine lv_icmp_ge (tgt := 51) hx hb dX0_fairestPlace_13 (by decide) (fun c => absurd c (by decide)) (fun c_13 => ?_)
  refine lv_aload_n hx hb dX0_fairestPlace_16 rfl (lv_at hl 4 rfl) ?_
  refine lv_aload_n hx hb dX0_fairestPlace_17 rfl (lv_at hl 5 rfl) ?_
  refine lv_iload_n hx hb dX0_fairestPlace_18 rfl (lv_at hl 6 rfl) ?_
  refine lv_iload hx hb dX0_fairestPlace_19 (lv_at hl 0 rfl) ?_
  refine lv_iload_n hx hb dX0_fairestPlace_21 rfl (lv_at hl 7 rfl) ?_
  refine ti_callVi (ci := 0) (av := [.ref (A 27 0), .int kd, .int 2, .int n1]) C hw (k_X0_holders l D A cy hJ _ hF kd 2 n1 hk) ⟨ml_X0_140, ym_X0_holders, yv_X0_holders, yi_X0_holders, yc_X0_holders⟩ yd_X0_holders ob_53 (by decide) rfl rfl hl.1 (Nat.le_of_ble_eq_true rfl) ⟨by decide, by decide⟩ ⟨Nat.zero_le _, Nat.zero_le _⟩ dX0_fairestPlace_22 (fun r_9 M_10 H locs hp_10 hw => ?_)
  obtain ⟨hF, rfl⟩ := hp_10
  refine ti_callSi (av := [.int 0]) C hw (k_J6_bitCount_0f7a4 l D A cy hJ _ ) ⟨ml_X0_96, ys_J6_bitCount_0f7a4, yi_J6_bitCount_0f7a4, yc_J6_bitCount_0f7a4⟩ yd_J6_bitCount_0f7a4 rfl hl.1 (Nat.le_of_ble_eq_true rfl) ⟨by decide, by decide⟩ ⟨Nat.zero_le _, Nat.zero_le _⟩ dX0_fairestPlace_25 (fun r_11 M_12 H locs hp_12 hw => ?_)
  obtain ⟨hm, rfl⟩ := hp_12
  have hw := hw.to hm
  refine lv_istore (lv' := [(8, .int 0), (7, .int 2), (5, .int 0), (6, .int 0), (0, .ref (A 53 0)), (1, .ref (A 27 0)), (2, .int kd), (3, .int n1), (4, .int wh)]) hx hb dX0_fairestPlace_28 hl (by decide) rfl (fun ls hl => ?_)
  refine lv_iload hx hb dX0_fairestPlace_30 (lv_at hl 0 rfl) ?_
  refine lv_iload hx hb dX0_fairestPlace_32 (lv_at hl 3 rfl) ?_
  refine lv_icmp_le (tgt := 45) hx hb dX0_fairestPlace_34 (by decide) (fun c_34 => ?_) (fun c => absurd (by decide) c)
  refine lv_iinc (v := 3) (lv' := [(7, .int 3), (8, .int 0), (5, .int 0), (6, .int 0), (0, .ref (A 53 0)), (1, .ref (A 27 0)), (2, .int kd), (3, .int n1), (4, .int wh)]) hx hb dX0_fairestPlace_45 hl (k := 1) rfl (by decide) (by decide) rfl (fun ls hl => ?_)
  refine lv_goto (tgt := 9) hx hb dX0_fairestPlace_48 (by decide) ?_
  refine lv_iload hx hb dX0_fairestPlace_9 (lv_at hl 0 rfl) ?_
  refine lv_bipush (v := 8) hx hb dX0_fairestPlace_11 (by decide) ?_
  refine lv_icmp_ge (tgt := 51) hx hb dX0_fairestPlace_13 (by decide) (fun c => absurd c (by decide)) (fun c_13 => ?_)
  refine lv_aload_n hx hb dX0_fairestPlace_16 rfl (lv_at hl 4 rfl) ?_
  refine lv_aload_n hx hb dX0_fairestPlace_17 rfl (lv_at hl 5 rfl) ?_
  refine lv_iload_n hx hb dX0_fairestPlace_18 rfl (lv_at hl 6 rfl) ?_
  refine lv_iload hx hb dX0_fairestPlace_19 (lv_at hl 0 rfl) ?_
  refine lv_iload_n hx hb dX0_fairestPlace_21 rfl (lv_at hl 7 rfl) ?_
  refine ti_callVi (ci := 0) (av := [.ref (A 27 0), .int kd, .int 3, .int n1]) C hw (k_X0_holders l D A cy hJ _ hF kd 3 n1 hk) ⟨ml_X0_140, ym_X0_holders, yv_X0_holders, yi_X0_holders, yc_X0_holders⟩ yd_X0_holders ob_53 (by decide) rfl rfl hl.1 (Nat.le_of_ble_eq_true rfl) ⟨by decide, by decide⟩ ⟨Nat.zero_le _, Nat.zero_le _⟩ dX0_fairestPlace_22 (fun r_13 M_14 H locs hp_14 hw => ?_)
  obtain ⟨hF, rfl⟩ := hp_14
  refine ti_callSi (av := [.int 0]) C hw (k_J6_bitCount_0f7a4 l D A cy hJ _ ) ⟨ml_X0_96, ys_J6_bitCount_0f7a4, yi_J6_bitCount_0f7a4, yc_J6_bitCount_0f7a4⟩ yd_J6_bitCount_0f7a4 rfl hl.1 (Nat.le_of_ble_eq_true rfl) ⟨by decide, by decide⟩ ⟨Nat.zero_le _, Nat.zero_le _⟩ dX0_fairestPlace_25 (fun r_15 M_16 H locs hp_16 hw => ?_)
  obtain ⟨hm, rfl⟩ := hp_16
  have hw := hw.to hm
  refine lv_istore (lv' := [(8, .int 0), (7, .int 3), (5, .int 0), (6, .int 0), (0, .ref (A 53 0)), (1, .ref (A 27 0)), (2, .int kd), (3, .int n1), (4, .int wh)]) hx hb dX0_fairestPlace_28 hl (by decide) rfl (fun ls hl => ?_)
  refine lv_iload hx hb dX0_fairestPlace_30 (lv_at hl 0 rfl) ?_
  refine lv_iload hx hb dX0_fairestPlace_32 (lv_at hl 3 rfl) ?_
  refine lv_icmp_le (tgt := 45) hx hb dX0_fairestPlace_34 (by decide) (fun c_34 => ?_) (fun c => absurd (by decide) c)
  refine lv_iinc (v := 4) (lv' := [(7, .int 4), (8, .int 0), (5, .int 0), (6, .int 0), (0, .ref (A 53 0)), (1, .ref (A 27 0)), (2, .int kd), (3, .int n1), (4, .int wh)]) hx hb dX0_fairestPlace_45 hl (k := 1) rfl (by decide) (by decide) rfl (fun ls hl => ?_)
  refine lv_goto (tgt := 9) hx hb dX0_fairestPlace_48 (by decide) ?_
  refine lv_iload hx hb dX0_fairestPlace_9 (lv_at hl 0 rfl) ?_
  refine lv_bipush (v := 8) hx hb dX0_fairestPlace_11 (by decide) ?_
  refine lv_icmp_ge (tgt := 51) hx hb dX0_fairestPlace_13 (by decide) (fun c => absurd c (by decide)) (fun c_13 => ?_)
  refine lv_aload_n hx hb dX0_fairestPlace_16 rfl (lv_at hl 4 rfl) ?_
  refine lv_aload_n hx hb dX0_fairestPlace_17 rfl (lv_at hl 5 rfl) ?_
  refine lv_iload_n hx hb dX0_fairestPlace_18 rfl (lv_at hl 6 rfl) ?_
  refine lv_iload hx hb dX0_fairestPlace_19 (lv_at hl 0 rfl) ?_
  refine lv_iload_n hx hb dX0_fairestPlace_21 rfl (lv_at hl 7 rfl) ?_
  refine ti_callVi (ci := 0) (av := [.ref (A 27 0), .int kd, .int 4, .int n1]) C hw (k_X0_holders l D A cy hJ _ hF kd 4 n1 hk) ⟨ml_X0_140, ym_X0_holders, yv_X0_holders, yi_X0_holders, yc_X0_holders⟩ yd_X0_holders ob_53 (by decide) rfl rfl hl.1 (Nat.le_of_ble_eq_true rfl) ⟨by decide, by decide⟩ ⟨Nat.zero_le _, Nat.zero_le _⟩ dX0_fairestPlace_22 (fun r_17 M_18 H locs hp_18 hw => ?_)
  obtain ⟨hF, rfl⟩ := hp_18
  refine ti_callSi (av := [.int 0]) C hw (k_J6_bitCount_0f7a4 l D A cy hJ _ ) ⟨ml_X0_96, ys_J6_bitCount_0f7a4, yi_J6_bitCount_0f7a4, yc_J6_bitCount_0f7a4⟩ yd_J6_bitCount_0f7a4 rfl hl.1 (Nat.le_of_ble_eq_true rfl) ⟨by decide, by decide⟩ ⟨Nat.zero_le _, Nat.zero_le _⟩ dX0_fairestPlace_25 (fun r_19 M_20 H locs hp_20 hw => ?_)
  obtain ⟨hm, rfl⟩ := hp_20
  have hw := hw.to hm
  refine lv_istore (lv' := [(8, .int 0), (7, .int 4), (5, .int 0), (6, .int 0), (0, .ref (A 53 0)), (1, .ref (A 27 0)), (2, .int kd), (3, .int n1), (4, .int wh)]) hx hb dX0_fairestPlace_28 hl (by decide) rfl (fun ls hl => ?_)
  refine lv_iload hx hb dX0_fairestPlace_30 (lv_at hl 0 rfl) ?_
  refine lv_iload hx hb dX0_fairestPlace_32 (lv_at hl 3 rfl) ?_
  refine lv_icmp_le (tgt := 45) hx hb dX0_fairestPlace_34 (by decide) (fun c_34 => ?_) (fun c => absurd (by decide) c)
  refine lv_iinc (v := 5) (lv' := [(7, .int 5), (8, .int 0), (5, .int 0), (6, .int 0), (0, .ref (A 53 0)), (1, .ref (A 27 0)), (2, .int kd), (3, .int n1), (4, .int wh)]) hx hb dX0_fairestPlace_45 hl (k := 1) rfl (by decide) (by decide) rfl (fun ls hl => ?_)
  refine lv_goto (tgt := 9) hx hb dX0_fairestPlace_48 (by decide) ?_
  refine lv_iload hx hb dX0_fairestPlace_9 (lv_at hl 0 rfl) ?_
  refine lv_bipush (v := 8) hx hb dX0_fairestPlace_11 (by decide) ?_
  refine lv_icmp_ge (tgt := 51) hx hb dX0_fairestPlace_13 (by decide) (fun c => absurd c (by decide)) (fun c_13 => ?_)
  refine lv_aload_n hx hb dX0_fairestPlace_16 rfl (lv_at hl 4 rfl) ?_
  refine lv_aload_n hx hb dX0_fairestPlace_17 rfl (lv_at hl 5 rfl) ?_
  refine lv_iload_n hx hb dX0_fairestPlace_18 rfl (lv_at hl 6 rfl) ?_
  refine lv_iload hx hb dX0_fairestPlace_19 (lv_at hl 0 rfl) ?_
  refine lv_iload_n hx hb dX0_fairestPlace_21 rfl (lv_at hl 7 rfl) ?_
  refine ti_callVi (ci := 0) (av := [.ref (A 27 0), .int kd, .int 5, .int n1]) C hw (k_X0_holders l D A cy hJ _ hF kd 5 n1 hk) ⟨ml_X0_140, ym_X0_holders, yv_X0_holders, yi_X0_holders, yc_X0_holders⟩ yd_X0_holders ob_53 (by decide) rfl rfl hl.1 (Nat.le_of_ble_eq_true rfl) ⟨by decide, by decide⟩ ⟨Nat.zero_le _, Nat.zero_le _⟩ dX0_fairestPlace_22 (fun r_21 M_22 H locs hp_22 hw => ?_)
  obtain ⟨hF, rfl⟩ := hp_22
  refine ti_callSi (av := [.int 0]) C hw (k_J6_bitCount_0f7a4 l D A cy hJ _ ) ⟨ml_X0_96, ys_J6_bitCount_0f7a4, yi_J6_bitCount_0f7a4, yc_J6_bitCount_0f7a4⟩ yd_J6_bitCount_0f7a4 rfl hl.1 (Nat.le_of_ble_eq_true rfl) ⟨by decide, by decide⟩ ⟨Nat.zero_le _, Nat.zero_le _⟩ dX0_fairestPlace_25 (fun r_23 M_24 H locs hp_24 hw => ?_)
  obtain ⟨hm, rfl⟩ := hp_24
  have hw := hw.to hm
  refine lv_istore (lv' := [(8, .int 0), (7, .int 5), (5, .int 0), (6, .int 0), (0, .ref (A 53 0)), (1, .ref (A 27 0)), (2, .int kd), (3, .int n1), (4, .int wh)]) hx hb dX0_fairestPlace_28 hl (by decide) rfl (fun ls hl => ?_)
  refine lv_iload hx hb dX0_fairestPlace_30 (lv_at hl 0 rfl) ?_
  refine lv_iload hx hb dX0_fairestPlace_32 (lv_at hl 3 rfl) ?_
  refine lv_icmp_le (tgt := 45) hx hb dX0_fairestPlace_34 (by decide) (fun c_34 => ?_) (fun c => absurd (by decide) c)
  refine lv_iinc (v := 6) (lv' := [(7, .int 6), (8, .int 0), (5, .int 0), (6, .int 0), (0, .ref (A 53 0)), (1, .ref (A 27 0)), (2, .int kd), (3, .int n1), (4, .int wh)]) hx hb dX0_fairestPlace_45 hl (k := 1) rfl (by decide) (by decide) rfl (fun ls hl => ?_)
  refine lv_goto (tgt := 9) hx hb dX0_fairestPlace_48 (by decide) ?_
  refine lv_iload hx hb dX0_fairestPlace_9 (lv_at hl 0 rfl) ?_
  refine lv_bipush (v := 8) hx hb dX0_fairestPlace_11 (by decide) ?_
  refine lv_icmp_ge (tgt := 51) hx hb dX0_fairestPlace_13 (by decide) (fun c => absurd c (by decide)) (fun c_13 => ?_)
  refine lv_aload_n hx hb dX0_fairestPlace_16 rfl (lv_at hl 4 rfl) ?_
  refine lv_aload_n hx hb dX0_fairestPlace_17 rfl (lv_at hl 5 rfl) ?_
  refine lv_iload_n hx hb dX0_fairestPlace_18 rfl (lv_at hl 6 rfl) ?_
  refine lv_iload hx hb dX0_fairestPlace_19 (lv_at hl 0 rfl) ?_
  refine lv_iload_n hx hb dX0_fairestPlace_21 rfl (lv_at hl 7 rfl) ?_
  refine ti_callVi (ci := 0) (av := [.ref (A 27 0), .int kd, .int 6, .int n1]) C hw (k_X0_holders l D A cy hJ _ hF kd 6 n1 hk) ⟨ml_X0_140, ym_X0_holders, yv_X0_holders, yi_X0_holders, yc_X0_holders⟩ yd_X0_holders ob_53 (by decide) rfl rfl hl.1 (Nat.le_of_ble_eq_true rfl) ⟨by decide, by decide⟩ ⟨Nat.zero_le _, Nat.zero_le _⟩ dX0_fairestPlace_22 (fun r_25 M_26 H locs hp_26 hw => ?_)
  obtain ⟨hF, rfl⟩ := hp_26
  refine ti_callSi (av := [.int 0]) C hw (k_J6_bitCount_0f7a4 l D A cy hJ _ ) ⟨ml_X0_96, ys_J6_bitCount_0f7a4, yi_J6_bitCount_0f7a4, yc_J6_bitCount_0f7a4⟩ yd_J6_bitCount_0f7a4 rfl hl.1 (Nat.le_of_ble_eq_true rfl) ⟨by decide, by decide⟩ ⟨Nat.zero_le _, Nat.zero_le _⟩ dX0_fairestPlace_25 (fun r_27 M_28 H locs hp_28 hw => ?_)
  obtain ⟨hm, rfl⟩ := hp_28
  have hw := hw.to hm
  refine lv_istore (lv' := [(8, .int 0), (7, .int 6), (5, .int 0), (6, .int 0), (0, .ref (A 53 0)), (1, .ref (A 27 0)), (2, .int kd), (3, .int n1), (4, .int wh)]) hx hb dX0_fairestPlace_28 hl (by decide) rfl (fun ls hl => ?_)
  refine lv_iload hx hb dX0_fairestPlace_30 (lv_at hl 0 rfl) ?_
  refine lv_iload hx hb dX0_fairestPlace_32 (lv_at hl 3 rfl) ?_
  refine lv_icmp_le (tgt := 45) hx hb dX0_fairestPlace_34 (by decide) (fun c_34 => ?_) (fun c => absurd (by decide) c)
  refine lv_iinc (v := 7) (lv' := [(7, .int 7), (8, .int 0), (5, .int 0), (6, .int 0), (0, .ref (A 53 0)), (1, .ref (A 27 0)), (2, .int kd), (3, .int n1), (4, .int wh)]) hx hb dX0_fairestPlace_45 hl (k := 1) rfl (by decide) (by decide) rfl (fun ls hl => ?_)
  refine lv_goto (tgt := 9) hx hb dX0_fairestPlace_48 (by decide) ?_
  refine lv_iload hx hb dX0_fairestPlace_9 (lv_at hl 0 rfl) ?_
  refine lv_bipush (v := 8) hx hb dX0_fairestPlace_11 (by decide) ?_
  refine lv_icmp_ge (tgt := 51) hx hb dX0_fairestPlace_13 (by decide) (fun c => absurd c (by decide)) (fun c_13 => ?_)
  refine lv_aload_n hx hb dX0_fairestPlace_16 rfl (lv_at hl 4 rfl) ?_
  refine lv_aload_n hx hb dX0_fairestPlace_17 rfl (lv_at hl 5 rfl) ?_
  refine lv_iload_n hx hb dX0_fairestPlace_18 rfl (lv_at hl 6 rfl) ?_
  refine lv_iload hx hb dX0_fairestPlace_19 (lv_at hl 0 rfl) ?_
  refine lv_iload_n hx hb dX0_fairestPlace_21 rfl (lv_at hl 7 rfl) ?_
  refine ti_callVi (ci := 0) (av := [.ref (A 27 0), .int kd, .int 7, .int n1]) C hw (k_X0_holders l D A cy hJ _ hF kd 7 n1 hk) ⟨ml_X0_140, ym_X0_holders, yv_X0_holders, yi_X0_holders, yc_X0_holders⟩ yd_X0_holders ob_53 (by decide) rfl rfl hl.1 (Nat.le_of_ble_eq_true rfl) ⟨by decide, by decide⟩ ⟨Nat.zero_le _, Nat.zero_le _⟩ dX0_fairestPlace_22 (fun r_29 M_30 H locs hp_30 hw => ?_)
  obtain ⟨hF, rfl⟩ := hp_30
  refine ti_callSi (av := [.int 0]) C hw (k_J6_bitCount_0f7a4 l D A cy hJ _ ) ⟨ml_X0_96, ys_J6_bitCount_0f7a4, yi_J6_bitCount_0f7a4, yc_J6_bitCount_0f7a4⟩ yd_J6_bitCount_0f7a4 rfl hl.1 (Nat.le_of_ble_eq_true rfl) ⟨by decide, by decide⟩ ⟨Nat.zero_le _, Nat.zero_le _⟩ dX0_fairestPlace_25 (fun r_31 M_32 H locs hp_32 hw => ?_)
  obtain ⟨hm, rfl⟩ := hp_32
  have hw := hw.to hm
  refine lv_istore (lv' := [(8, .int 0), (7, .int 7), (5, .int 0), (6, .int 0), (0, .ref (A 53 0)), (1, .ref (A 27 0)), (2, .int kd), (3, .int n1), (4, .int wh)]) hx hb dX0_fairestPlace_28 hl (by decide) rfl (fun ls hl => ?_)
  refine lv_iload hx hb dX0_fairestPlace_30 (lv_at hl 0 rfl) ?_
  refine lv_iload hx hb dX0_fairestPlace_32 (lv_at hl 3 rfl) ?_
  refine lv_icmp_le (tgt := 45) hx hb dX0_fairestPlace_34 (by decide) (fun c_34 => ?_) (fun c => absurd (by decide) c)
  refine lv_iinc (v := 8) (lv' := [(7, .int 8), (8, .int 0), (5, .int 0), (6, .int 0), (0, .ref (A 53 0)), (1, .ref (A 27 0)), (2, .int kd), (3, .int n1), (4, .int wh)]) hx hb dX0_fairestPlace_45 hl (k := 1) rfl (by decide) (by decide) rfl (fun ls hl => ?_)
  refine lv_goto (tgt := 9) hx hb dX0_fairestPlace_48 (by decide) ?_
  refine lv_iload hx hb dX0_fairestPlace_9 (lv_at hl 0 rfl) ?_
  refine lv_bipush (v := 8) hx hb dX0_fairestPlace_11 (by decide) ?_
  refine lv_icmp_ge (tgt := 51) hx hb dX0_fairestPlace_13 (by decide) (fun c_13 => ?_) (fun c => absurd (by decide) c)
  refine lv_iload hx hb dX0_fairestPlace_51 (lv_at hl 8 rfl) ?_
  refine lv_if_ne (tgt := 61) hx hb dX0_fairestPlace_53 (by decide) (fun c_53 => ?_) (fun c_53 => ?_)
  · refine lv_iload hx hb dX0_fairestPlace_61 (lv_at hl 3 rfl) ?_
    exact hQ _ _ _ _ _ _ hw rfl rfl dX0_fairestPlace_63
  · refine lv_iload hx hb dX0_fairestPlace_56 (lv_at hl 2 rfl) ?_
    refine lv_goto (tgt := 63) hx hb dX0_fairestPlace_58 (by decide) ?_
    exact hQ _ _ _ _ _ _ hw rfl rfl dX0_fairestPlace_63
theorem ti_fst {tt fs2 x : Int32} (h : 0 ≤ tt.toInt ∧ True) (e : x = tt + 1) (hi : (tt + 1).toInt = tt.toInt + 1) (hc : (tt = 0 ∧ fs2 = 0) ∨ (¬ tt = 0 ∧ fs2 = 0)) : (x = 0 → fs2 = (-2)) ∧ (¬ x = 0 → fs2 = 0) := by
  refine ⟨fun hx => ?_, fun _ => hc.elim (fun q => q.2) (fun q => q.2)⟩
  exfalso
  rw [e, ← Int32.toInt_inj, hi, ti_l0] at hx
  omega
theorem ti_emp {tt n1 fs : Int32} (h0 : 0 ≤ tt.toInt ∧ tt.toInt ≤ n1.toInt) (hn1 : 1 ≤ n1.toInt) (c : n1 ≤ tt) (hfs : (tt = 0 → fs = (-2)) ∧ (¬ tt = 0 → fs = 0)) : tt = n1 ∧ fs = 0 := by
  have h1 : tt = n1 := by
    rw [← Int32.toInt_inj]; rw [Int32.le_iff_toInt_le] at c; omega
  refine ⟨h1, hfs.2 ?_⟩
  rw [← Int32.toInt_inj, ti_l0, h1]; omega
def pf_empty1 (n1 wh : Int32) : Int32 := if wh = 0 then n1 else 0
theorem ti_dec {tt : Int32} (h : tt = 0) : (tt + 1) - 1 = 0 := by rw [h]; decide
set_option maxHeartbeats 4000000 in
set_option maxRecDepth 100000 in
theorem k_X0_emptyMinutes (l : Launch) (D : va_G) (A : Nat → Nat → Nat) (cy : Nat → ClassId) (hJ : ti_inj ti_LT A) (M : ti_M) (hF : ti_F M) (n1 wh : Int32) (hn1 : 1 ≤ n1.toInt) : ti_Ki l yX0_emptyMinutes cX0_emptyMinutes 7 (some .int) 4 ti_LT D A cy M [.ref (A 53 0), .ref (A 27 0), .int n1, .int wh] (fun r _ => r = pf_empty1 n1 wh) := by
  refine ti_eI yp_X0_emptyMinutes hJ ti_LT_nd (Nat.le_of_ble_eq_true rfl) ?_
  intro p e s m args below meth c Q H0 C hQ hw ls hl
  have hx := C.1
  have hb := C.2.1
  have hl : lv_has ls 7 [(0, .ref (A 53 0)), (1, .ref (A 27 0)), (2, .int n1), (3, .int wh)] := hl
  obtain ⟨f_told, f_spare, f_nt, f_many, f_fault, f_place, f_men, f_knots, f_mut, f_man, f_min, f_size, f_water, f_first, f_steps, f_img, f_sm, f_sk, f_ss, f_sw, f_p0, f_p1, f_p2⟩ := id hF
  refine lv_aload_n hx hb dX0_emptyMinutes_0 rfl (lv_at hl 0 rfl) ?_
  refine lv_aload_n hx hb dX0_emptyMinutes_1 rfl (lv_at hl 1 rfl) ?_
  refine ti_callVv (ci := 0) (av := [.ref (A 27 0)]) C hw (k_X0_prepare l D A cy hJ _ hF) ⟨ml_X0_42, ym_X0_prepare, yv_X0_prepare, yi_X0_prepare, yc_X0_prepare⟩ yd_X0_prepare ob_53 (by decide) rfl rfl hl.1 (Nat.le_of_ble_eq_true rfl) ⟨by decide, by decide⟩ ⟨Nat.zero_le _, Nat.zero_le _⟩ dX0_emptyMinutes_2 (fun M_2 H locs hp_2 hw => ?_)
  obtain ⟨k_3, k_4, k_5, k_6, k_7, k_8, k_9, hF⟩ := hp_2
  refine lv_iconst (v := 0) hx hb dX0_emptyMinutes_5 (by decide) ?_
  refine lv_istore (lv' := [(4, .int 0), (0, .ref (A 53 0)), (1, .ref (A 27 0)), (2, .int n1), (3, .int wh)]) hx hb dX0_emptyMinutes_6 hl (by decide) rfl (fun ls hl => ?_)
  refine lv_bipush (v := (-2)) hx hb dX0_emptyMinutes_8 (by decide) ?_
  refine lv_istore (lv' := [(5, .int (-2)), (4, .int 0), (0, .ref (A 53 0)), (1, .ref (A 27 0)), (2, .int n1), (3, .int wh)]) hx hb dX0_emptyMinutes_10 hl (by decide) rfl (fun ls hl => ?_)
  refine lv_iconst (v := 0) hx hb dX0_emptyMinutes_12 (by decide) ?_
  refine lv_istore (lv' := [(6, .int 0), (5, .int (-2)), (4, .int 0), (0, .ref (A 53 0)), (1, .ref (A 27 0)), (2, .int n1), (3, .int wh)]) hx hb dX0_emptyMinutes_13 hl (by decide) rfl (fun ls hl => ?_)
  suffices hloop : ∀ (n : Nat) (tt fs : Int32) (Mx : ti_M) (H : Heap) (locs : List Loc) (ls : Array Slot), ((n1.toInt - tt.toInt).toNat < n) → (tT Mx 54 0 = some 3) → (tI Mx 54 3 = 0) → (tI Mx 3 4 = 0) → (tI Mx 3 10 = 0) → (ti_F Mx) → (tI Mx 54 2 = tt) → (0 ≤ tt.toInt ∧ tt.toInt ≤ n1.toInt) → ((tt = 0 → fs = (-2)) ∧ (¬ tt = 0 → fs = 0)) → ti_H ti_LT D A cy H0 Mx H locs → lv_has ls 7 [(4, .int tt), (5, .int fs), (6, .int tt), (0, .ref (A 53 0)), (1, .ref (A 27 0)), (2, .int n1), (3, .int wh)] → W p l e (ti_rm 4) s m args below meth c H locs 0 0 Q (F0 m 15 ls []) from hloop (n1.toInt.toNat + 1) 0 (-2) M_2 _ _ _ (by simp only [ti_l0]; omega) k_3 k_4 k_6 k_7 hF k_5 (by simp only [ti_l0]; omega) ⟨fun _ => rfl, fun h => absurd rfl h⟩ hw (lv_sub hl [2, 1, 0, 3, 4, 5, 6] rfl)
  clear hw hl ls
  intro n
  induction n with
  | zero => intro tt fs Mx H locs ls hfuel hT hs hm0 hu hF hmi h0 hfs hw hl; exact absurd hfuel (by omega)
  | succ n ih =>
    intro tt fs Mx H locs ls hfuel hT hs hm0 hu hF hmi h0 hfs hw hl
    refine lv_iload hx hb dX0_emptyMinutes_15 (lv_at hl 2 rfl) ?_
    refine lv_iload_n hx hb dX0_emptyMinutes_17 rfl (lv_at hl 5 rfl) ?_
    refine lv_icmp_ge (tgt := 68) hx hb dX0_emptyMinutes_18 (by decide) (fun c_18 => ?_) (fun c_18 => ?_)
    · refine lv_iload_n hx hb dX0_emptyMinutes_68 rfl (lv_at hl 6 rfl) ?_
      refine lv_if_ne (tgt := 77) hx hb dX0_emptyMinutes_69 (by decide) (fun c_69 => ?_) (fun c_69 => ?_)
      · refine lv_iload hx hb dX0_emptyMinutes_77 (lv_at hl 1 rfl) ?_
        exact hQ _ _ _ _ _ _ hw rfl (by unfold pf_empty1; rw [if_neg c_69]; exact (ti_emp h0 hn1 c_18 hfs).2) dX0_emptyMinutes_79
      · refine lv_iload hx hb dX0_emptyMinutes_72 (lv_at hl 0 rfl) ?_
        refine lv_goto (tgt := 79) hx hb dX0_emptyMinutes_74 (by decide) ?_
        exact hQ _ _ _ _ _ _ hw rfl (by unfold pf_empty1; rw [if_pos c_69]; exact (ti_emp h0 hn1 c_18 hfs).1) dX0_emptyMinutes_79
    · refine lv_aload_n hx hb dX0_emptyMinutes_21 rfl (lv_at hl 3 rfl) ?_
      refine ti_get (ci := 0) (k := 0) (N := 6) (T := TX0) (v := .ref (A 54 0)) C hw iw_0 rfl ob_53 (by decide) (by decide) fl_X0_12 rfl rfl dX0_emptyMinutes_22 ?_
      refine ti_callVv (ci := 3) (av := []) C hw (k_X3_pass l D A cy hJ _ 54 3 ob_54 ob_3 hT hs hm0 hu) ⟨ml_X0_51, ym_X3_pass, yv_X3_pass, yi_X3_pass, yc_X3_pass⟩ yd_X3_pass ob_54 (by decide) rfl rfl hl.1 (Nat.le_of_ble_eq_true rfl) ⟨by decide, by decide⟩ ⟨Nat.zero_le _, Nat.zero_le _⟩ dX0_emptyMinutes_25 (fun M_12 H locs hp_12 hw => ?_)
      obtain ⟨g_13, hm⟩ := hp_12
      have hw := hw.to hm
      refine lv_aload_n hx hb dX0_emptyMinutes_28 rfl (lv_at hl 3 rfl) ?_
      refine ti_get (ci := 0) (k := 0) (N := 6) (T := TX0) (v := .ref (A 54 0)) C hw iw_0 rfl ob_53 (by decide) (by decide) fl_X0_12 rfl rfl dX0_emptyMinutes_29 ?_
      refine ti_get (ci := 3) (k := 3) (N := 17) (T := TX3) C hw iw_3 rfl ob_54 (by decide) (by decide) fl_X0_68 rfl rfl dX0_emptyMinutes_32 ?_
      refine ti_top (y := 0) hs ?_
      refine lv_if_ne (tgt := 62) hx hb dX0_emptyMinutes_35 (by decide) (fun c => absurd (by decide) c) (fun c_35 => ?_)
      refine lv_iload hx hb dX0_emptyMinutes_38 (lv_at hl 0 rfl) ?_
      refine lv_if_ne (tgt := 55) hx hb dX0_emptyMinutes_40 (by decide) (fun c_40 => ?_) (fun c_40 => ?_)
      · refine lv_iload hx hb dX0_emptyMinutes_55 (lv_at hl 1 rfl) ?_
        refine lv_istore (lv' := [(5, .int fs), (4, .int tt), (6, .int tt), (0, .ref (A 53 0)), (1, .ref (A 27 0)), (2, .int n1), (3, .int wh)]) hx hb dX0_emptyMinutes_57 hl (by decide) rfl (fun ls hl => ?_)
        obtain ⟨x_14, ex_14⟩ : ∃ z : Int32, z = tt + 1 := ⟨_, rfl⟩
        refine lv_iinc (v := x_14) (lv' := [(4, .int x_14), (5, .int fs), (6, .int tt), (0, .ref (A 53 0)), (1, .ref (A 27 0)), (2, .int n1), (3, .int wh)]) hx hb dX0_emptyMinutes_59 hl (k := 1) rfl (by rw [ex_14]; rfl) (by decide) rfl (fun ls hl => ?_)
        obtain ⟨x_15, ex_15⟩ : ∃ z : Int32, z = tt + 1 := ⟨_, rfl⟩
        refine lv_iinc (v := x_15) (lv' := [(6, .int x_15), (4, .int x_14), (5, .int fs), (0, .ref (A 53 0)), (1, .ref (A 27 0)), (2, .int n1), (3, .int wh)]) hx hb dX0_emptyMinutes_62 hl (k := 2) rfl (by rw [ex_15]; rfl) (by decide) rfl (fun ls hl => ?_)
        refine lv_goto (tgt := 15) hx hb dX0_emptyMinutes_65 (by decide) ?_
        obtain rfl : x_14 = x_15 := by rw [ex_14, ex_15]
        have hin := ti_inc (un := n1) c_18
        exact ih x_14 fs (uI (uY Mx 54 16 g_13) 54 2 (tI Mx 54 2 + 1)) _ _ _ (by rw [← ex_14] at hin; omega) hT hs hm0 hu hF ((show tI (uI (uY Mx 54 16 g_13) 54 2 (tI Mx 54 2 + 1)) 54 2 = _ from tI_u _ _ _ _).trans (by rw [hmi, ex_14])) (by rw [← ex_14] at hin; omega) (ti_fst ⟨h0.1, trivial⟩ ex_14 hin.1 (Or.inr ⟨c_40, hfs.2 c_40⟩)) hw (lv_sub hl [1, 2, 0, 3, 4, 5, 6] rfl)
      · refine lv_aload_n hx hb dX0_emptyMinutes_43 rfl (lv_at hl 3 rfl) ?_
        refine ti_get (ci := 0) (k := 0) (N := 6) (T := TX0) (v := .ref (A 54 0)) C hw iw_0 rfl ob_53 (by decide) (by decide) fl_X0_12 rfl rfl dX0_emptyMinutes_44 ?_
        refine ti_get (ci := 3) (k := 2) (N := 17) (T := TX3) C hw iw_3 rfl ob_54 (by decide) (by decide) fl_X0_45 rfl rfl dX0_emptyMinutes_47 ?_
        refine ti_top (y := (tI Mx 54 2 + 1)) (show tI (uI (uY Mx 54 16 g_13) 54 2 (tI Mx 54 2 + 1)) 54 2 = _ from tI_u _ _ _ _) ?_
        refine lv_iconst (v := 1) hx hb dX0_emptyMinutes_50 (by decide) ?_
        refine lv_isub hx hb dX0_emptyMinutes_51 ?_
        refine lv_topi (fun x_16 ex_16 => ?_)
        refine lv_goto (tgt := 57) hx hb dX0_emptyMinutes_52 (by decide) ?_
        refine lv_istore (lv' := [(5, .int x_16), (4, .int tt), (6, .int tt), (0, .ref (A 53 0)), (1, .ref (A 27 0)), (2, .int n1), (3, .int wh)]) hx hb dX0_emptyMinutes_57 hl (by decide) rfl (fun ls hl => ?_)
        obtain ⟨x_17, ex_17⟩ : ∃ z : Int32, z = tt + 1 := ⟨_, rfl⟩
        refine lv_iinc (v := x_17) (lv' := [(4, .int x_17), (5, .int x_16), (6, .int tt), (0, .ref (A 53 0)), (1, .ref (A 27 0)), (2, .int n1), (3, .int wh)]) hx hb dX0_emptyMinutes_59 hl (k := 1) rfl (by rw [ex_17]; rfl) (by decide) rfl (fun ls hl => ?_)
        obtain ⟨x_18, ex_18⟩ : ∃ z : Int32, z = tt + 1 := ⟨_, rfl⟩
        refine lv_iinc (v := x_18) (lv' := [(6, .int x_18), (4, .int x_17), (5, .int x_16), (0, .ref (A 53 0)), (1, .ref (A 27 0)), (2, .int n1), (3, .int wh)]) hx hb dX0_emptyMinutes_62 hl (k := 2) rfl (by rw [ex_18]; rfl) (by decide) rfl (fun ls hl => ?_)
        refine lv_goto (tgt := 15) hx hb dX0_emptyMinutes_65 (by decide) ?_
        obtain rfl : x_17 = x_18 := by rw [ex_17, ex_18]
        have hin := ti_inc (un := n1) c_18
        exact ih x_17 x_16 (uI (uY Mx 54 16 g_13) 54 2 (tI Mx 54 2 + 1)) _ _ _ (by rw [← ex_17] at hin; omega) hT hs hm0 hu hF ((show tI (uI (uY Mx 54 16 g_13) 54 2 (tI Mx 54 2 + 1)) 54 2 = _ from tI_u _ _ _ _).trans (by rw [hmi, ex_17])) (by rw [← ex_17] at hin; omega) (ti_fst ⟨h0.1, trivial⟩ ex_17 hin.1 (Or.inl ⟨c_40, by rw [ex_16, hmi]; exact ti_dec c_40⟩)) hw (lv_sub hl [1, 2, 0, 3, 4, 5, 6] rfl)

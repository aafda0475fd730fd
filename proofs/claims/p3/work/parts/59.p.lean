/-! expressions -/
def pp_lp (P : Int → Bool) (F : (Nat → Int) → Nat → Int) : Nat → (Nat → Int) → Nat → Int
  | 0, s => s
  | f + 1, s => if P (s 0) = true then pp_lp P F f (F s) else s
theorem lp_step {P : Int → Bool} {F : (Nat → Int) → Nat → Int} {f f' : Nat} {s s' : Nat → Int} (h : P (s 0) = true) (e : s' = F s) (hf : f = f' + 1) : pp_lp P F f s = pp_lp P F f' s' := by
  subst e hf
  rw [pp_lp, if_pos h]
theorem lp_end {P : Int → Bool} {F : (Nat → Int) → Nat → Int} {f : Nat} {s : Nat → Int} (h : f = 0 ∨ P (s 0) = false) : pp_lp P F f s = s := by
  cases f with
  | zero => rfl
  | succ f =>
    rcases h with h | h
    · cases h
    · rw [pp_lp, if_neg (by rw [h]; decide)]
def pp_qT (k : Int) : Bool := decide (k = 40 ∨ k = 41)
def pp_qP (k : Int) : Bool := decide (k = 38 ∨ k = 39)
def pp_qN (k : Int) : Bool := decide (k = 24)
def pp_qA (k : Int) : Bool := decide (k = 22)
def pp_qO (k : Int) : Bool := decide (k = 23)
def pp_p0 (B : Nat → Int) (n : Nat) (s : Nat → Int) : Nat → Int := if s 0 = 26 then (if 9999 < s 1 then pp_rf 2 s else pp_kn B n s) else if 16 ≤ s 0 ∧ s 0 ≤ 21 then pp_kn B n s else pp_rf 1 s
def pp_pd (B : Nat → Int) (n : Nat) (F : (Nat → Int) → Nat → Int) (s : Nat → Int) : Nat → Int := pp_lp pp_qT (fun s => F (pp_kn B n s)) 64 (F s)
def pp_sm (B : Nat → Int) (n : Nat) (F : (Nat → Int) → Nat → Int) (s : Nat → Int) : Nat → Int := pp_lp pp_qP (fun s => pp_pd B n F (pp_kn B n s)) 64 (pp_pd B n F s)
def pp_c2 (B : Nat → Int) (n : Nat) (F : (Nat → Int) → Nat → Int) (s : Nat → Int) : Nat → Int := if 32 ≤ s 0 ∧ s 0 ≤ 37 then pp_sm B n F (pp_kn B n s) else s
def pp_cm (B : Nat → Int) (n : Nat) (F : (Nat → Int) → Nat → Int) (s : Nat → Int) : Nat → Int := pp_c2 B n F (pp_sm B n F s)
def pp_ng (B : Nat → Int) (n : Nat) (F : (Nat → Int) → Nat → Int) (s : Nat → Int) : Nat → Int := pp_cm B n F (pp_lp pp_qN (pp_kn B n) 65 s)
def pp_bo (B : Nat → Int) (n : Nat) (F : (Nat → Int) → Nat → Int) (s : Nat → Int) : Nat → Int := pp_lp pp_qA (fun s => pp_ng B n F (pp_kn B n s)) 64 (pp_ng B n F s)
def pp_ei (B : Nat → Int) (n : Nat) (F : (Nat → Int) → Nat → Int) (s : Nat → Int) : Nat → Int := pp_lp pp_qO (fun s => pp_bo B n F (pp_kn B n s)) 64 (pp_bo B n F s)
/-- a part of an expression, with so many brackets still to be opened -/
def pp_pt (B : Nat → Int) (n : Nat) : Nat → (Nat → Int) → Nat → Int
  | 0, s => if s 0 = 30 then pp_rf 2 s else pp_p0 B n s
  | d + 1, s => if s 0 = 30 then pp_tk B n 31 (pp_ei B n (pp_pt B n d) (pp_av B n s)) else pp_p0 B n s
theorem pe_0 {B : Nat → Int} {n : Nat} {s : Nat → Int} : pp_pt B n 0 s = if s 0 = 30 then pp_rf 2 s else pp_p0 B n s := rfl
theorem pe_1 {B : Nat → Int} {n : Nat} {s : Nat → Int} : pp_pt B n 1 s = if s 0 = 30 then pp_tk B n 31 (pp_ei B n (pp_pt B n 0) (pp_av B n s)) else pp_p0 B n s := rfl
theorem pe_2 {B : Nat → Int} {n : Nat} {s : Nat → Int} : pp_pt B n 2 s = if s 0 = 30 then pp_tk B n 31 (pp_ei B n (pp_pt B n 1) (pp_av B n s)) else pp_p0 B n s := rfl
theorem pe_3 {B : Nat → Int} {n : Nat} {s : Nat → Int} : pp_pt B n 3 s = if s 0 = 30 then pp_tk B n 31 (pp_ei B n (pp_pt B n 2) (pp_av B n s)) else pp_p0 B n s := rfl
theorem pe_4 {B : Nat → Int} {n : Nat} {s : Nat → Int} : pp_pt B n 4 s = if s 0 = 30 then pp_tk B n 31 (pp_ei B n (pp_pt B n 3) (pp_av B n s)) else pp_p0 B n s := rfl
theorem pe_5 {B : Nat → Int} {n : Nat} {s : Nat → Int} : pp_pt B n 5 s = if s 0 = 30 then pp_tk B n 31 (pp_ei B n (pp_pt B n 4) (pp_av B n s)) else pp_p0 B n s := rfl
theorem pe_6 {B : Nat → Int} {n : Nat} {s : Nat → Int} : pp_pt B n 6 s = if s 0 = 30 then pp_tk B n 31 (pp_ei B n (pp_pt B n 5) (pp_av B n s)) else pp_p0 B n s := rfl
theorem pe_7 {B : Nat → Int} {n : Nat} {s : Nat → Int} : pp_pt B n 7 s = if s 0 = 30 then pp_tk B n 31 (pp_ei B n (pp_pt B n 6) (pp_av B n s)) else pp_p0 B n s := rfl
theorem pe_8 {B : Nat → Int} {n : Nat} {s : Nat → Int} : pp_pt B n 8 s = if s 0 = 30 then pp_tk B n 31 (pp_ei B n (pp_pt B n 7) (pp_av B n s)) else pp_p0 B n s := rfl
set_option maxHeartbeats 4000000 in
set_option maxRecDepth 100000 in
theorem x_X1_add (l : Launch) (D : va_G) (A : Nat → Nat → Nat) (cy : Nat → ClassId) (hJ : ti_inj ti_LT A) (M : ti_M) (hI : cI M) (lw : Nat) (hlw : ti_ob ti_LT lw 1) (kn : Int32) (hk : 0 ≤ kn.toInt ∨ kn.toInt ≤ -16)(t : Nat) (ht : t = 3 ∨ t = 4) (B : Nat → Int) (n : Nat) (rg : Nat → Int) (hr : rC B n t rg M) : ti_Kv l yX1_add cX1_add 2 0 ti_LT D A cy M [.ref (A lw 0), .int kn] (fun M2 => cI M2 ∧ M2.2.2.2 = M.2.2.2 ∧ fX M2 M ∧ rC B n t rg M2) := by
  refine ti_eV yp_X1_add hJ ti_LT_nd (Nat.le_of_ble_eq_true rfl) ?_
  intro p e s m args below meth c Q H0 C hQ hw ls hl
  have hx := C.1
  have hb := C.2.1
  have hl : lv_has ls 2 [(0, .ref (A lw 0)), (1, .int kn)] := hl
  have l0 : rg 0 = (tI M 2 4).toInt := hr.2.1.1
  have l1 : rg 1 = (tI M 2 6).toInt := hr.2.1.2.1
  have l2 : rg 2 = (tI M 2 5).toInt := hr.2.1.2.2.1
  have l3 : rg 3 = (tI M 2 3).toInt := hr.2.1.2.2.2
  have l4 : rg 4 = (tI M 1 4).toInt := hr.2.2.1.1
  have l5 : rg 5 = (tI M 1 5).toInt := hr.2.2.1.2.1
  have l7 : rg 7 = (tI M t 4).toInt := hr.2.2.2.1.1
  have l8 : rg 8 = (tI M t 5).toInt := hr.2.2.2.1.2.1
  have l9 : rg 9 = (tI M t 3).toInt := hr.2.2.2.1.2.2
  refine lv_aload_n hx hb dX1_add_0 rfl (lv_at hl 0 rfl) ?_
  refine ti_get (ci := 1) (k := 3) (N := 4) (T := TX1) C hw iw_1 rfl hlw (by decide) (by decide) fl_X1_24 rfl rfl dX1_add_1 ?_
  refine lv_topi (fun x_1 ex_1 => ?_)
  have bx_1 : 0 ≤ x_1.toInt ∧ x_1.toInt ≤ 64 := cI_rd hI hlw.1 ex_1
  have ux_1 : (tI M lw 3).toInt = x_1.toInt := by rw [ex_1]
  refine lv_bipush (v := 64) hx hb dX1_add_4 (by decide) ?_
  refine sb_icmp_ge (tgt := 29) hx hb rfl (by decide : (64 : Int32).toInt = 64) dX1_add_6 (by decide) (fun c_6_1 => ?_) (fun c_6_1 => ?_)
  · exact hQ _ _ _ _ _ hw (⟨hI, rfl, fX.refl, hr⟩) dX1_add_29
  · refine lv_aload_n hx hb dX1_add_9 rfl (lv_at hl 0 rfl) ?_
    refine ti_get (ci := 1) (k := 0) (N := 4) (T := TX1) (v := .ref (A lw 1)) C hw iw_1 rfl hlw (by decide) (by decide) fl_X1_11 rfl rfl dX1_add_10 ?_
    refine lv_aload_n hx hb dX1_add_13 rfl (lv_at hl 0 rfl) ?_
    refine ti_get (ci := 1) (k := 3) (N := 4) (T := TX1) C hw iw_1 rfl hlw (by decide) (by decide) fl_X1_24 rfl rfl dX1_add_14 ?_
    refine ti_top (y := x_1) (ex_1.symm) ?_
    have u_3 : (tI M lw 3).toInt = (x_1 : Int32).toInt := by rw [(ex_1.symm)]
    refine lv_iload_n hx hb dX1_add_17 rfl (lv_at hl 1 rfl) ?_
    refine ti_iast (ci := 1) (k := 0) (n := 64) C hw hlw (by decide) (fun _ _ => rfl) (vp_in_iff.mpr (by omega)) dX1_add_18 (fun H locs hw => ?_)
    obtain ⟨M_4, hM_4⟩ : ∃ z : ti_M, z = uY M lw 0 (upd (tY M lw 0) (x_1 : Int32).toNatClampNeg kn) := ⟨_, rfl⟩
    have hw := hw.to hM_4.symm
    have iM_4 : cI M_4 := cI_up hI hM_4 hlw.1 hk
    have hs_5 := rC_Y hM_4 (no (cls_ne ob_2.1 hlw.1 (by decide))) hr
    have lM_4_0 : rg 0 = (tI M_4 2 4).toInt := hs_5.2.1.1
    have lM_4_1 : rg 1 = (tI M_4 2 6).toInt := hs_5.2.1.2.1
    have lM_4_4 : rg 4 = (tI M_4 1 4).toInt := hs_5.2.2.1.1
    have lM_4_7 : rg 7 = (tI M_4 t 4).toInt := hs_5.2.2.2.1.1
    have lM_4_8 : rg 8 = (tI M_4 t 5).toInt := hs_5.2.2.2.1.2.1
    refine lv_aload_n hx hb dX1_add_19 rfl (lv_at hl 0 rfl) ?_
    refine lv_dup hx hb dX1_add_20 rfl ?_
    refine ti_get (ci := 1) (k := 3) (N := 4) (T := TX1) C hw iw_1 rfl hlw (by decide) (by decide) fl_X1_24 rfl rfl dX1_add_21 ?_
    refine ti_top (y := x_1) ((tI_uYE hM_4).trans ex_1.symm) ?_
    have u_6 : (tI M_4 lw 3).toInt = (x_1 : Int32).toInt := by rw [((tI_uYE hM_4).trans ex_1.symm)]
    refine lv_iconst (v := 1) hx hb dX1_add_24 (by decide) ?_
    refine lv_iadd hx hb dX1_add_25 ?_
    refine lv_topi (fun x_7 ex_7 => ?_)
    have tx_7 : x_7.toInt = x_1.toInt + 1 := i_add ex_7 rfl (by decide : (1 : Int32).toInt = 1) (by omega) (by omega)
    refine ti_putI (ci := 1) (k := 3) (N := 4) (T := TX1) C hw iw_1 tyX1 tyX1_ok nmX1 rfl hlw (by decide) (by decide) fl_X1_24 rfl rfl rfl rfl (fn_1 A _) fs_1_3 dX1_add_26 (fun H locs hw => ?_)
    obtain ⟨M_8, hM_8⟩ : ∃ z : ti_M, z = uI M_4 lw 3 x_7 := ⟨_, rfl⟩
    have hw := hw.to hM_8.symm
    have iM_8 : cI M_8 := cI_uI iM_4 hM_8 hlw.1 (ib_mk (lo := 0) (hi := 64) (by omega) (by omega))
    have vM_8 : (tI M_8 lw 3).toInt = (x_7 : Int32).toInt := by rw [tI_uE hM_8]
    have hs_9 := rC_X ht (pp_law hlw.1) hM_8 hs_5
    have lM_8_0 : rg 0 = (tI M_8 2 4).toInt := hs_9.2.1.1
    have lM_8_1 : rg 1 = (tI M_8 2 6).toInt := hs_9.2.1.2.1
    have lM_8_4 : rg 4 = (tI M_8 1 4).toInt := hs_9.2.2.1.1
    have lM_8_7 : rg 7 = (tI M_8 t 4).toInt := hs_9.2.2.2.1.1
    have lM_8_8 : rg 8 = (tI M_8 t 5).toInt := hs_9.2.2.2.1.2.1
    exact hQ _ _ _ _ _ hw (⟨iM_8, ((rf_I hM_8).trans (rf_Y hM_4)), (fX.trans (fx_I hM_8 (fxn hlw.1 (by decide))) (fx_of (ra_Y hM_4))), hs_9⟩) dX1_add_29
set_option maxHeartbeats 4000000 in
set_option maxRecDepth 100000 in
theorem x_X4_readPart_8 (l : Launch) (D : va_G) (A : Nat → Nat → Nat) (cy : Nat → ClassId) (hJ : ti_inj ti_LT A) (M : ti_M) (hI : cI M) (t : Nat) (ht : t = 3 ∨ t = 4) (hT : tT M 1 1 = some t) (lw : Nat) (hlw : ti_ob ti_LT lw 1) (hL : tT M 1 2 = some lw) (B : Nat → Int) (n : Nat) (rg : Nat → Int) (hr : rC B n t rg M) : ti_KvE l yX4_readPart cX4_readPart 3 8 ti_LT D A cy M [.ref (A 1 0), .int 8] (fun M2 => cI M2 ∧ M2.2.2.2 = M.2.2.2 ∧ f0 M2 M ∧ tI M2 2 1 = tI M 2 1 ∧ rC B n t (pp_pt B n 0 rg) M2) := by
  refine ti_eVE yp_X4_readPart hJ ti_LT_nd (Nat.le_of_ble_eq_true rfl) ?_
  intro p e s m args below meth c Q H0 C hE hQ hw ls hl
  have hx := C.1
  have hb := C.2.1
  have hl : lv_has ls 3 [(0, .ref (A 1 0)), (1, .int 8)] := hl
  have l0 : rg 0 = (tI M 2 4).toInt := hr.2.1.1
  have l1 : rg 1 = (tI M 2 6).toInt := hr.2.1.2.1
  have l2 : rg 2 = (tI M 2 5).toInt := hr.2.1.2.2.1
  have l3 : rg 3 = (tI M 2 3).toInt := hr.2.1.2.2.2
  have l4 : rg 4 = (tI M 1 4).toInt := hr.2.2.1.1
  have l5 : rg 5 = (tI M 1 5).toInt := hr.2.2.1.2.1
  have l7 : rg 7 = (tI M t 4).toInt := hr.2.2.2.1.1
  have l8 : rg 8 = (tI M t 5).toInt := hr.2.2.2.1.2.1
  have l9 : rg 9 = (tI M t 3).toInt := hr.2.2.2.1.2.2
  refine lv_aload_n hx hb dX4_readPart_0 rfl (lv_at hl 0 rfl) ?_
  refine ti_get (ci := 4) (k := 0) (N := 6) (T := TX4) (v := .ref (A 2 0)) C hw iw_4 rfl ob_1 (by decide) (by decide) fl_X4_12 rfl rfl dX4_readPart_1 ?_
  refine ti_get (ci := 7) (k := 4) (N := 7) (T := TX7) C hw iw_7 rfl ob_2 (by decide) (by decide) fl_X4_41 rfl rfl dX4_readPart_4 ?_
  refine lv_topi (fun x_1 ex_1 => ?_)
  have bx_1 : 0 ≤ x_1.toInt ∧ x_1.toInt ≤ 41 := cI_rd hI ob_2.1 ex_1
  have ux_1 : (tI M 2 4).toInt = x_1.toInt := by rw [ex_1]
  refine lv_istore_n (lv' := [(2, .int x_1), (0, .ref (A 1 0)), (1, .int 8)]) hx hb dX4_readPart_7 rfl hl (by decide) rfl (fun ls hl => ?_)
  refine lv_iload_n hx hb dX4_readPart_8 rfl (lv_at hl 0 rfl) ?_
  refine lv_bipush (v := 30) hx hb dX4_readPart_9 (by decide) ?_
  refine sb_icmp_ne (tgt := 28) hx hb rfl (by decide : (30 : Int32).toInt = 30) dX4_readPart_11 (by decide) (fun c_11_1 => ?_) (fun c_11_1 => ?_)
  · refine lv_iload_n hx hb dX4_readPart_28 rfl (lv_at hl 0 rfl) ?_
    refine lv_bipush (v := 30) hx hb dX4_readPart_29 (by decide) ?_
    refine sb_icmp_ne (tgt := 57) hx hb rfl (by decide : (30 : Int32).toInt = 30) dX4_readPart_31 (by decide) (fun c_31_9 => ?_) (fun h => by omega)
    refine lv_iload_n hx hb dX4_readPart_57 rfl (lv_at hl 0 rfl) ?_
    refine lv_bipush (v := 26) hx hb dX4_readPart_58 (by decide) ?_
    refine sb_icmp_ne (tgt := 84) hx hb rfl (by decide : (26 : Int32).toInt = 26) dX4_readPart_60 (by decide) (fun c_60_10 => ?_) (fun c_60_10 => ?_)
    · refine lv_iload_n hx hb dX4_readPart_84 rfl (lv_at hl 0 rfl) ?_
      refine lv_bipush (v := 26) hx hb dX4_readPart_85 (by decide) ?_
      refine sb_icmp_ne (tgt := 111) hx hb rfl (by decide : (26 : Int32).toInt = 26) dX4_readPart_87 (by decide) (fun c_87_19 => ?_) (fun h => by omega)
      refine lv_iload_n hx hb dX4_readPart_111 rfl (lv_at hl 0 rfl) ?_
      refine lv_bipush (v := 16) hx hb dX4_readPart_112 (by decide) ?_
      refine sb_icmp_lt (tgt := 139) hx hb rfl (by decide : (16 : Int32).toInt = 16) dX4_readPart_114 (by decide) (fun c_114_32 => ?_) (fun c_114_32 => ?_)
      · refine lv_aload_n hx hb dX4_readPart_139 rfl (lv_at hl 1 rfl) ?_
        refine lv_iconst (v := 1) hx hb dX4_readPart_140 (by decide) ?_
        refine ti_callVv (ci := 4) (av := [.int 1]) C hw (x_X4_refuse l D A cy hJ M hI t ht 1 B n rg hr) ⟨ml_X4_82, ym_X4_refuse, yv_X4_refuse, yi_X4_refuse, yc_X4_refuse⟩ yd_X4_refuse ob_1 (by decide) rfl rfl hl.1 (Nat.le_of_ble_eq_true rfl) ⟨by decide, by decide⟩ ⟨Nat.zero_le _, Nat.zero_le _⟩ dX4_readPart_141 (fun M_47 H locs hp_47 hw => ?_)
        obtain ⟨iM_47, q_48, q_49, q_50, p0r_46⟩ := hp_47
        have hlr_46_1 : (1 : Int32).toInt = 1 := by decide
        simp only [hlr_46_1] at p0r_46
        obtain ⟨g_51, eg_51⟩ : ∃ z : Nat → Int, z = pp_rf 1 rg := ⟨_, rfl⟩
        rw [← eg_51] at p0r_46
        have lg_51_0 : g_51 0 = (tI M_47 2 4).toInt := p0r_46.2.1.1
        have lg_51_1 : g_51 1 = (tI M_47 2 6).toInt := p0r_46.2.1.2.1
        have lg_51_4 : g_51 4 = (tI M_47 1 4).toInt := p0r_46.2.2.1.1
        have lg_51_7 : g_51 7 = (tI M_47 t 4).toInt := p0r_46.2.2.2.1.1
        have lg_51_8 : g_51 8 = (tI M_47 t 5).toInt := p0r_46.2.2.2.1.2.1
        exact hQ _ _ _ _ _ hw (⟨iM_47, (q_48), (f0_12 q_49), (q_50), (by rw [pe_0, if_neg (by omega)]; unfold pp_p0; rw [if_neg (by omega), if_neg (fun q => by omega), ← eg_51]; exact p0r_46)⟩) dX4_readPart_144
      · refine lv_iload_n hx hb dX4_readPart_117 rfl (lv_at hl 0 rfl) ?_
        refine lv_bipush (v := 21) hx hb dX4_readPart_118 (by decide) ?_
        refine sb_icmp_gt (tgt := 139) hx hb rfl (by decide : (21 : Int32).toInt = 21) dX4_readPart_120 (by decide) (fun c_120_33 => ?_) (fun c_120_33 => ?_)
        · refine lv_aload_n hx hb dX4_readPart_139 rfl (lv_at hl 1 rfl) ?_
          refine lv_iconst (v := 1) hx hb dX4_readPart_140 (by decide) ?_
          refine ti_callVv (ci := 4) (av := [.int 1]) C hw (x_X4_refuse l D A cy hJ M hI t ht 1 B n rg hr) ⟨ml_X4_82, ym_X4_refuse, yv_X4_refuse, yi_X4_refuse, yc_X4_refuse⟩ yd_X4_refuse ob_1 (by decide) rfl rfl hl.1 (Nat.le_of_ble_eq_true rfl) ⟨by decide, by decide⟩ ⟨Nat.zero_le _, Nat.zero_le _⟩ dX4_readPart_141 (fun M_53 H locs hp_53 hw => ?_)
          obtain ⟨iM_53, q_54, q_55, q_56, p0r_52⟩ := hp_53
          have hlr_52_1 : (1 : Int32).toInt = 1 := by decide
          simp only [hlr_52_1] at p0r_52
          obtain ⟨g_57, eg_57⟩ : ∃ z : Nat → Int, z = pp_rf 1 rg := ⟨_, rfl⟩
          rw [← eg_57] at p0r_52
          have lg_57_0 : g_57 0 = (tI M_53 2 4).toInt := p0r_52.2.1.1
          have lg_57_1 : g_57 1 = (tI M_53 2 6).toInt := p0r_52.2.1.2.1
          have lg_57_4 : g_57 4 = (tI M_53 1 4).toInt := p0r_52.2.2.1.1
          have lg_57_7 : g_57 7 = (tI M_53 t 4).toInt := p0r_52.2.2.2.1.1
          have lg_57_8 : g_57 8 = (tI M_53 t 5).toInt := p0r_52.2.2.2.1.2.1
          exact hQ _ _ _ _ _ hw (⟨iM_53, (q_54), (f0_12 q_55), (q_56), (by rw [pe_0, if_neg (by omega)]; unfold pp_p0; rw [if_neg (by omega), if_neg (fun q => by omega), ← eg_57]; exact p0r_52)⟩) dX4_readPart_144
        · refine lv_aload_n hx hb dX4_readPart_123 rfl (lv_at hl 1 rfl) ?_
          refine ti_get (ci := 4) (k := 2) (N := 6) (T := TX4) (v := .ref (A lw 0)) C hw iw_4 rfl ob_1 (by decide) (by decide) fl_X4_154 rfl (ti_Tv (hL)) dX4_readPart_124 ?_
          refine lv_iload_n hx hb dX4_readPart_127 rfl (lv_at hl 0 rfl) ?_
          refine lv_ineg hx hb dX4_readPart_128 ?_
          refine lv_topi (fun x_35 ex_35 => ?_)
          have tx_35 : x_35.toInt = -x_1.toInt := i_neg ex_35 rfl (by omega)
          refine ti_callVv (ci := 1) (av := [.int x_35]) C hw (x_X1_add l D A cy hJ M hI lw hlw x_35 (by first | omega | exact Or.inl (by decide) | exact Or.inr (by decide)) t ht B n rg hr) ⟨ml_X4_170, ym_X1_add, yv_X1_add, yi_X1_add, yc_X1_add⟩ yd_X1_add hlw (by decide) rfl rfl hl.1 (Nat.le_of_ble_eq_true rfl) ⟨by decide, by decide⟩ ⟨Nat.zero_le _, Nat.zero_le _⟩ dX4_readPart_129 (fun M_37 H locs hp_37 hw => ?_)
          obtain ⟨iM_37, q_38, q_39, p0r_36⟩ := hp_37
          have lM_37_0 : rg 0 = (tI M_37 2 4).toInt := p0r_36.2.1.1
          have lM_37_1 : rg 1 = (tI M_37 2 6).toInt := p0r_36.2.1.2.1
          have lM_37_4 : rg 4 = (tI M_37 1 4).toInt := p0r_36.2.2.1.1
          have lM_37_7 : rg 7 = (tI M_37 t 4).toInt := p0r_36.2.2.2.1.1
          have lM_37_8 : rg 8 = (tI M_37 t 5).toInt := p0r_36.2.2.2.1.2.1
          refine lv_aload_n hx hb dX4_readPart_132 rfl (lv_at hl 1 rfl) ?_
          refine ti_callVvE (ci := 4) (av := []) C hE hw (x_X4_knot l D A cy hJ M_37 iM_37 t ht ((tT_fr q_38).trans hT) B n rg p0r_36) ⟨ml_X4_167, ym_X4_knot, yv_X4_knot, yi_X4_knot, yc_X4_knot⟩ yd_X4_knot ob_1 (by decide) rfl rfl hl.1 (Nat.le_of_ble_eq_true rfl) ⟨by decide, by decide⟩ ⟨Nat.zero_le _, Nat.zero_le _⟩ dX4_readPart_133 (fun M_41 H locs hp_41 hw => ?_)
          obtain ⟨iM_41, q_42, q_43, q_44, p0r_40⟩ := hp_41
          obtain ⟨g_45, eg_45⟩ : ∃ z : Nat → Int, z = pp_kn B n rg := ⟨_, rfl⟩
          rw [← eg_45] at p0r_40
          have lg_45_0 : g_45 0 = (tI M_41 2 4).toInt := p0r_40.2.1.1
          have lg_45_1 : g_45 1 = (tI M_41 2 6).toInt := p0r_40.2.1.2.1
          have lg_45_4 : g_45 4 = (tI M_41 1 4).toInt := p0r_40.2.2.1.1
          have lg_45_7 : g_45 7 = (tI M_41 t 4).toInt := p0r_40.2.2.2.1.1
          have lg_45_8 : g_45 8 = (tI M_41 t 5).toInt := p0r_40.2.2.2.1.2.1
          refine lv_goto (tgt := 144) hx hb dX4_readPart_136 (by decide) ?_
          exact hQ _ _ _ _ _ hw (⟨iM_41, ((q_42).trans q_38), (f0.trans q_43 (f0_x q_39)), ((q_44).trans ((q_39 1).2.1)), (by rw [pe_0, if_neg (by omega)]; unfold pp_p0; rw [if_neg (by omega), if_pos ⟨by omega, by omega⟩, ← eg_45]; exact p0r_40)⟩) dX4_readPart_144
    · refine lv_aload_n hx hb dX4_readPart_63 rfl (lv_at hl 1 rfl) ?_
      refine ti_get (ci := 4) (k := 0) (N := 6) (T := TX4) (v := .ref (A 2 0)) C hw iw_4 rfl ob_1 (by decide) (by decide) fl_X4_12 rfl rfl dX4_readPart_64 ?_
      refine ti_get (ci := 7) (k := 6) (N := 7) (T := TX7) C hw iw_7 rfl ob_2 (by decide) (by decide) fl_X4_95 rfl rfl dX4_readPart_67 ?_
      refine lv_topi (fun x_12 ex_12 => ?_)
      have bx_12 : 0 ≤ x_12.toInt ∧ x_12.toInt ≤ 2147483647 := cI_rd hI ob_2.1 ex_12
      have ux_12 : (tI M 2 6).toInt = x_12.toInt := by rw [ex_12]
      refine lv_sipush (v := 9999) hx hb dX4_readPart_70 (by decide) ?_
      refine sb_icmp_le (tgt := 84) hx hb rfl (by decide : (9999 : Int32).toInt = 9999) dX4_readPart_73 (by decide) (fun c_73_12 => ?_) (fun c_73_12 => ?_)
      · refine lv_iload_n hx hb dX4_readPart_84 rfl (lv_at hl 0 rfl) ?_
        refine lv_bipush (v := 26) hx hb dX4_readPart_85 (by decide) ?_
        refine sb_icmp_ne (tgt := 111) hx hb rfl (by decide : (26 : Int32).toInt = 26) dX4_readPart_87 (by decide) (fun h => by omega) (fun c_87_20 => ?_)
        refine lv_aload_n hx hb dX4_readPart_90 rfl (lv_at hl 1 rfl) ?_
        refine ti_get (ci := 4) (k := 2) (N := 6) (T := TX4) (v := .ref (A lw 0)) C hw iw_4 rfl ob_1 (by decide) (by decide) fl_X4_154 rfl (ti_Tv (hL)) dX4_readPart_91 ?_
        refine lv_aload_n hx hb dX4_readPart_94 rfl (lv_at hl 1 rfl) ?_
        refine ti_get (ci := 4) (k := 0) (N := 6) (T := TX4) (v := .ref (A 2 0)) C hw iw_4 rfl ob_1 (by decide) (by decide) fl_X4_12 rfl rfl dX4_readPart_95 ?_
        refine ti_get (ci := 7) (k := 6) (N := 7) (T := TX7) C hw iw_7 rfl ob_2 (by decide) (by decide) fl_X4_95 rfl rfl dX4_readPart_98 ?_
        refine ti_top (y := x_12) (ex_12.symm) ?_
        have u_22 : (tI M 2 6).toInt = (x_12 : Int32).toInt := by rw [(ex_12.symm)]
        refine ti_callVv (ci := 1) (av := [.int x_12]) C hw (x_X1_add l D A cy hJ M hI lw hlw x_12 (by first | omega | exact Or.inl (by decide) | exact Or.inr (by decide)) t ht B n rg hr) ⟨ml_X4_170, ym_X1_add, yv_X1_add, yi_X1_add, yc_X1_add⟩ yd_X1_add hlw (by decide) rfl rfl hl.1 (Nat.le_of_ble_eq_true rfl) ⟨by decide, by decide⟩ ⟨Nat.zero_le _, Nat.zero_le _⟩ dX4_readPart_101 (fun M_24 H locs hp_24 hw => ?_)
        obtain ⟨iM_24, q_25, q_26, p0r_23⟩ := hp_24
        have lM_24_0 : rg 0 = (tI M_24 2 4).toInt := p0r_23.2.1.1
        have lM_24_1 : rg 1 = (tI M_24 2 6).toInt := p0r_23.2.1.2.1
        have lM_24_4 : rg 4 = (tI M_24 1 4).toInt := p0r_23.2.2.1.1
        have lM_24_7 : rg 7 = (tI M_24 t 4).toInt := p0r_23.2.2.2.1.1
        have lM_24_8 : rg 8 = (tI M_24 t 5).toInt := p0r_23.2.2.2.1.2.1
        refine lv_aload_n hx hb dX4_readPart_104 rfl (lv_at hl 1 rfl) ?_
        refine ti_callVvE (ci := 4) (av := []) C hE hw (x_X4_knot l D A cy hJ M_24 iM_24 t ht ((tT_fr q_25).trans hT) B n rg p0r_23) ⟨ml_X4_167, ym_X4_knot, yv_X4_knot, yi_X4_knot, yc_X4_knot⟩ yd_X4_knot ob_1 (by decide) rfl rfl hl.1 (Nat.le_of_ble_eq_true rfl) ⟨by decide, by decide⟩ ⟨Nat.zero_le _, Nat.zero_le _⟩ dX4_readPart_105 (fun M_28 H locs hp_28 hw => ?_)
        obtain ⟨iM_28, q_29, q_30, q_31, p0r_27⟩ := hp_28
        obtain ⟨g_32, eg_32⟩ : ∃ z : Nat → Int, z = pp_kn B n rg := ⟨_, rfl⟩
        rw [← eg_32] at p0r_27
        have lg_32_0 : g_32 0 = (tI M_28 2 4).toInt := p0r_27.2.1.1
        have lg_32_1 : g_32 1 = (tI M_28 2 6).toInt := p0r_27.2.1.2.1
        have lg_32_4 : g_32 4 = (tI M_28 1 4).toInt := p0r_27.2.2.1.1
        have lg_32_7 : g_32 7 = (tI M_28 t 4).toInt := p0r_27.2.2.2.1.1
        have lg_32_8 : g_32 8 = (tI M_28 t 5).toInt := p0r_27.2.2.2.1.2.1
        refine lv_goto (tgt := 144) hx hb dX4_readPart_108 (by decide) ?_
        exact hQ _ _ _ _ _ hw (⟨iM_28, ((q_29).trans q_25), (f0.trans q_30 (f0_x q_26)), ((q_31).trans ((q_26 1).2.1)), (by rw [pe_0, if_neg (by omega)]; unfold pp_p0; rw [if_pos (by omega), if_neg (by omega), ← eg_32]; exact p0r_27)⟩) dX4_readPart_144
      · refine lv_aload_n hx hb dX4_readPart_76 rfl (lv_at hl 1 rfl) ?_
        refine lv_iconst (v := 2) hx hb dX4_readPart_77 (by decide) ?_
        refine ti_callVv (ci := 4) (av := [.int 2]) C hw (x_X4_refuse l D A cy hJ M hI t ht 2 B n rg hr) ⟨ml_X4_82, ym_X4_refuse, yv_X4_refuse, yi_X4_refuse, yc_X4_refuse⟩ yd_X4_refuse ob_1 (by decide) rfl rfl hl.1 (Nat.le_of_ble_eq_true rfl) ⟨by decide, by decide⟩ ⟨Nat.zero_le _, Nat.zero_le _⟩ dX4_readPart_78 (fun M_15 H locs hp_15 hw => ?_)
        obtain ⟨iM_15, q_16, q_17, q_18, p0r_14⟩ := hp_15
        have hlr_14_2 : (2 : Int32).toInt = 2 := by decide
        simp only [hlr_14_2] at p0r_14
        obtain ⟨g_19, eg_19⟩ : ∃ z : Nat → Int, z = pp_rf 2 rg := ⟨_, rfl⟩
        rw [← eg_19] at p0r_14
        have lg_19_0 : g_19 0 = (tI M_15 2 4).toInt := p0r_14.2.1.1
        have lg_19_1 : g_19 1 = (tI M_15 2 6).toInt := p0r_14.2.1.2.1
        have lg_19_4 : g_19 4 = (tI M_15 1 4).toInt := p0r_14.2.2.1.1
        have lg_19_7 : g_19 7 = (tI M_15 t 4).toInt := p0r_14.2.2.2.1.1
        have lg_19_8 : g_19 8 = (tI M_15 t 5).toInt := p0r_14.2.2.2.1.2.1
        refine lv_goto (tgt := 144) hx hb dX4_readPart_81 (by decide) ?_
        exact hQ _ _ _ _ _ hw (⟨iM_15, (q_16), (f0_12 q_17), (q_18), (by rw [pe_0, if_neg (by omega)]; unfold pp_p0; rw [if_pos (by omega), if_pos (by omega), ← eg_19]; exact p0r_14)⟩) dX4_readPart_144
  · refine lv_iload_n hx hb dX4_readPart_14 rfl (lv_at hl 2 rfl) ?_
    refine lv_bipush (v := 8) hx hb dX4_readPart_15 (by decide) ?_
    refine sb_icmp_lt (tgt := 28) hx hb (by decide : (8 : Int32).toInt = 8) (by decide : (8 : Int32).toInt = 8) dX4_readPart_17 (by decide) (fun h => absurd h (by decide)) (fun c_17_2 => ?_)
    refine lv_aload_n hx hb dX4_readPart_20 rfl (lv_at hl 1 rfl) ?_
    refine lv_iconst (v := 2) hx hb dX4_readPart_21 (by decide) ?_
    refine ti_callVv (ci := 4) (av := [.int 2]) C hw (x_X4_refuse l D A cy hJ M hI t ht 2 B n rg hr) ⟨ml_X4_82, ym_X4_refuse, yv_X4_refuse, yi_X4_refuse, yc_X4_refuse⟩ yd_X4_refuse ob_1 (by decide) rfl rfl hl.1 (Nat.le_of_ble_eq_true rfl) ⟨by decide, by decide⟩ ⟨Nat.zero_le _, Nat.zero_le _⟩ dX4_readPart_22 (fun M_5 H locs hp_5 hw => ?_)
    obtain ⟨iM_5, q_6, q_7, q_8, p0r_4⟩ := hp_5
    have hlr_4_2 : (2 : Int32).toInt = 2 := by decide
    simp only [hlr_4_2] at p0r_4
    obtain ⟨g_9, eg_9⟩ : ∃ z : Nat → Int, z = pp_rf 2 rg := ⟨_, rfl⟩
    rw [← eg_9] at p0r_4
    have lg_9_0 : g_9 0 = (tI M_5 2 4).toInt := p0r_4.2.1.1
    have lg_9_1 : g_9 1 = (tI M_5 2 6).toInt := p0r_4.2.1.2.1
    have lg_9_4 : g_9 4 = (tI M_5 1 4).toInt := p0r_4.2.2.1.1
    have lg_9_7 : g_9 7 = (tI M_5 t 4).toInt := p0r_4.2.2.2.1.1
    have lg_9_8 : g_9 8 = (tI M_5 t 5).toInt := p0r_4.2.2.2.1.2.1
    refine lv_goto (tgt := 144) hx hb dX4_readPart_25 (by decide) ?_
    exact hQ _ _ _ _ _ hw (⟨iM_5, (q_6), (f0_12 q_7), (q_8), (by rw [pe_0, if_pos (by omega), ← eg_9]; exact p0r_4)⟩) dX4_readPart_144
set_option maxHeartbeats 4000000 in
set_option maxRecDepth 100000 in
theorem x_X4_readProduct_8 (l : Launch) (D : va_G) (A : Nat → Nat → Nat) (cy : Nat → ClassId) (hJ : ti_inj ti_LT A) (M : ti_M) (hI : cI M) (t : Nat) (ht : t = 3 ∨ t = 4) (hT : tT M 1 1 = some t) (lw : Nat) (hlw : ti_ob ti_LT lw 1) (hL : tT M 1 2 = some lw) (B : Nat → Int) (n : Nat) (rg : Nat → Int) (hr : rC B n t rg M) : ti_KvE l yX4_readProduct cX4_readProduct 4 9 ti_LT D A cy M [.ref (A 1 0), .int 8] (fun M2 => cI M2 ∧ M2.2.2.2 = M.2.2.2 ∧ f0 M2 M ∧ tI M2 2 1 = tI M 2 1 ∧ rC B n t (pp_pd B n (pp_pt B n 0) rg) M2) := by
  refine ti_eVE yp_X4_readProduct hJ ti_LT_nd (Nat.le_of_ble_eq_true rfl) ?_
  intro p e s m args below meth c Q H0 C hE hQ hw ls hl
  have hx := C.1
  have hb := C.2.1
  have hl : lv_has ls 4 [(0, .ref (A 1 0)), (1, .int 8)] := hl
  have l0 : rg 0 = (tI M 2 4).toInt := hr.2.1.1
  have l1 : rg 1 = (tI M 2 6).toInt := hr.2.1.2.1
  have l2 : rg 2 = (tI M 2 5).toInt := hr.2.1.2.2.1
  have l3 : rg 3 = (tI M 2 3).toInt := hr.2.1.2.2.2
  have l4 : rg 4 = (tI M 1 4).toInt := hr.2.2.1.1
  have l5 : rg 5 = (tI M 1 5).toInt := hr.2.2.1.2.1
  have l7 : rg 7 = (tI M t 4).toInt := hr.2.2.2.1.1
  have l8 : rg 8 = (tI M t 5).toInt := hr.2.2.2.1.2.1
  have l9 : rg 9 = (tI M t 3).toInt := hr.2.2.2.1.2.2
  refine lv_aload_n hx hb dX4_readProduct_0 rfl (lv_at hl 0 rfl) ?_
  refine lv_iload_n hx hb dX4_readProduct_1 rfl (lv_at hl 1 rfl) ?_
  refine ti_callVvE (ci := 4) (av := [.int 8]) C hE hw (x_X4_readPart_8 l D A cy hJ M hI t ht (hT) lw hlw (hL) B n rg hr) ⟨ml_X4_187, ym_X4_readPart, yv_X4_readPart, yi_X4_readPart, yc_X4_readPart⟩ yd_X4_readPart ob_1 (by decide) rfl rfl hl.1 (Nat.le_of_ble_eq_true rfl) ⟨by decide, by decide⟩ ⟨Nat.zero_le _, Nat.zero_le _⟩ dX4_readProduct_2 (fun M_2 H locs hp_2 hw => ?_)
  obtain ⟨iM_2, q_3, q_4, q_5, p0r_1⟩ := hp_2
  obtain ⟨g_6, eg_6⟩ : ∃ z : Nat → Int, z = pp_pt B n 0 rg := ⟨_, rfl⟩
  rw [← eg_6] at p0r_1
  have lg_6_0 : g_6 0 = (tI M_2 2 4).toInt := p0r_1.2.1.1
  have lg_6_1 : g_6 1 = (tI M_2 2 6).toInt := p0r_1.2.1.2.1
  have lg_6_4 : g_6 4 = (tI M_2 1 4).toInt := p0r_1.2.2.1.1
  have lg_6_7 : g_6 7 = (tI M_2 t 4).toInt := p0r_1.2.2.2.1.1
  have lg_6_8 : g_6 8 = (tI M_2 t 5).toInt := p0r_1.2.2.2.1.2.1
  refine lv_iconst (v := 0) hx hb dX4_readProduct_5 (by decide) ?_
  refine lv_istore_n (lv' := [(2, .int 0), (0, .ref (A 1 0)), (1, .int 8)]) hx hb dX4_readProduct_6 rfl hl (by decide) rfl (fun ls hl => ?_)
  have hl_7_18 : ∀ (n_19 : Nat) (x_7 : Int32) (M_10 : ti_M) (g_16 : Nat → Int) (H : Heap) (locs : List Loc) (ls : Array Slot), (64 - x_7.toInt : Int).toNat < n_19 → (0 ≤ x_7.toInt) → (x_7.toInt ≤ 64) → (cI M_10) → (M_10.2.2.2 = M.2.2.2) → (f0 M_10 M) → (tI M_10 2 1 = tI M 2 1) → (tT M_10 1 1 = (some t)) → (tT M_10 1 2 = (some lw)) → (rC B n t g_16 M_10) → (pp_lp pp_qT (fun s => (pp_pt B n 0) (pp_kn B n s)) 64 g_6 = pp_lp pp_qT (fun s => (pp_pt B n 0) (pp_kn B n s)) (64 - (x_7.toInt).toNat) g_16) → ti_H ti_LT D A cy H0 M_10 H locs → lv_has ls 4 [(2, .int x_7), (0, .ref (A 1 0)), (1, .int 8)] → W p l e (ti_rm 9) s m args below meth c H locs 0 0 Q (F0 m 7 ls []) := by
    intro n_19
    induction n_19 with
    | zero => intro x_7 M_10 g_16 H locs ls hf_19; exact absurd hf_19 (Nat.not_lt_zero _)
    | succ n_19 ih_19 =>
      intro x_7 M_10 g_16 H locs ls hf_19 b_8 b_9 iM_10 f_11 f_12 f_13 f_14 f_15 hs_17 j_18 hw hl
      have lg_16_0 : g_16 0 = (tI M_10 2 4).toInt := hs_17.2.1.1
      have lg_16_1 : g_16 1 = (tI M_10 2 6).toInt := hs_17.2.1.2.1
      have lg_16_4 : g_16 4 = (tI M_10 1 4).toInt := hs_17.2.2.1.1
      have lg_16_7 : g_16 7 = (tI M_10 t 4).toInt := hs_17.2.2.2.1.1
      have lg_16_8 : g_16 8 = (tI M_10 t 5).toInt := hs_17.2.2.2.1.2.1
      refine lv_iload_n hx hb dX4_readProduct_7 rfl (lv_at hl 0 rfl) ?_
      refine lv_bipush (v := 64) hx hb dX4_readProduct_8 (by decide) ?_
      refine sb_icmp_ge (tgt := 69) hx hb rfl (by decide : (64 : Int32).toInt = 64) dX4_readProduct_10 (by decide) (fun c_10_19 => ?_) (fun c_10_19 => ?_)
      · exact hQ _ _ _ _ _ hw (⟨iM_10, (f_11), f_12, (f_13), (by unfold pp_pd; rw [← eg_6, j_18, lp_end (P := pp_qT) (f := 64 - x_7.toInt.toNat) (s := g_16) (Or.inl (by omega))]; exact hs_17)⟩) dX4_readProduct_69
      · refine lv_aload_n hx hb dX4_readProduct_13 rfl (lv_at hl 1 rfl) ?_
        refine ti_get (ci := 4) (k := 0) (N := 6) (T := TX4) (v := .ref (A 2 0)) C hw iw_4 rfl ob_1 (by decide) (by decide) fl_X4_12 rfl rfl dX4_readProduct_14 ?_
        refine ti_get (ci := 7) (k := 4) (N := 7) (T := TX7) C hw iw_7 rfl ob_2 (by decide) (by decide) fl_X4_41 rfl rfl dX4_readProduct_17 ?_
        refine lv_topi (fun x_21 ex_21 => ?_)
        have bx_21 : 0 ≤ x_21.toInt ∧ x_21.toInt ≤ 41 := cI_rd iM_10 ob_2.1 ex_21
        have ux_21 : (tI M_10 2 4).toInt = x_21.toInt := by rw [ex_21]
        refine lv_bipush (v := 40) hx hb dX4_readProduct_20 (by decide) ?_
        refine sb_icmp_eq (tgt := 37) hx hb rfl (by decide : (40 : Int32).toInt = 40) dX4_readProduct_22 (by decide) (fun c_22_21 => ?_) (fun c_22_21 => ?_)
        · refine lv_aload_n hx hb dX4_readProduct_37 rfl (lv_at hl 1 rfl) ?_
          refine ti_get (ci := 4) (k := 0) (N := 6) (T := TX4) (v := .ref (A 2 0)) C hw iw_4 rfl ob_1 (by decide) (by decide) fl_X4_12 rfl rfl dX4_readProduct_38 ?_
          refine ti_get (ci := 7) (k := 4) (N := 7) (T := TX7) C hw iw_7 rfl ob_2 (by decide) (by decide) fl_X4_41 rfl rfl dX4_readProduct_41 ?_
          refine ti_top (y := x_21) (ex_21.symm) ?_
          have u_25 : (tI M_10 2 4).toInt = (x_21 : Int32).toInt := by rw [(ex_21.symm)]
          refine lv_istore_n (lv' := [(3, .int x_21), (2, .int x_7), (0, .ref (A 1 0)), (1, .int 8)]) hx hb dX4_readProduct_44 rfl hl (by decide) rfl (fun ls hl => ?_)
          refine lv_aload_n hx hb dX4_readProduct_45 rfl (lv_at hl 2 rfl) ?_
          refine ti_callVvE (ci := 4) (av := []) C hE hw (x_X4_knot l D A cy hJ M_10 iM_10 t ht (f_14) B n g_16 hs_17) ⟨ml_X4_167, ym_X4_knot, yv_X4_knot, yi_X4_knot, yc_X4_knot⟩ yd_X4_knot ob_1 (by decide) rfl rfl hl.1 (Nat.le_of_ble_eq_true rfl) ⟨by decide, by decide⟩ ⟨Nat.zero_le _, Nat.zero_le _⟩ dX4_readProduct_46 (fun M_27 H locs hp_27 hw => ?_)
          obtain ⟨iM_27, q_28, q_29, q_30, p0r_26⟩ := hp_27
          obtain ⟨g_31, eg_31⟩ : ∃ z : Nat → Int, z = pp_kn B n g_16 := ⟨_, rfl⟩
          rw [← eg_31] at p0r_26
          have lg_31_0 : g_31 0 = (tI M_27 2 4).toInt := p0r_26.2.1.1
          have lg_31_1 : g_31 1 = (tI M_27 2 6).toInt := p0r_26.2.1.2.1
          have lg_31_4 : g_31 4 = (tI M_27 1 4).toInt := p0r_26.2.2.1.1
          have lg_31_7 : g_31 7 = (tI M_27 t 4).toInt := p0r_26.2.2.2.1.1
          have lg_31_8 : g_31 8 = (tI M_27 t 5).toInt := p0r_26.2.2.2.1.2.1
          refine lv_aload_n hx hb dX4_readProduct_49 rfl (lv_at hl 2 rfl) ?_
          refine lv_iload_n hx hb dX4_readProduct_50 rfl (lv_at hl 3 rfl) ?_
          refine ti_callVvE (ci := 4) (av := [.int 8]) C hE hw (x_X4_readPart_8 l D A cy hJ M_27 iM_27 t ht ((tT_fr q_28).trans f_14) lw hlw ((tT_fr q_28).trans f_15) B n g_31 p0r_26) ⟨ml_X4_187, ym_X4_readPart, yv_X4_readPart, yi_X4_readPart, yc_X4_readPart⟩ yd_X4_readPart ob_1 (by decide) rfl rfl hl.1 (Nat.le_of_ble_eq_true rfl) ⟨by decide, by decide⟩ ⟨Nat.zero_le _, Nat.zero_le _⟩ dX4_readProduct_51 (fun M_33 H locs hp_33 hw => ?_)
          obtain ⟨iM_33, q_34, q_35, q_36, p0r_32⟩ := hp_33
          obtain ⟨g_37, eg_37⟩ : ∃ z : Nat → Int, z = pp_pt B n 0 g_31 := ⟨_, rfl⟩
          rw [← eg_37] at p0r_32
          have lg_37_0 : g_37 0 = (tI M_33 2 4).toInt := p0r_32.2.1.1
          have lg_37_1 : g_37 1 = (tI M_33 2 6).toInt := p0r_32.2.1.2.1
          have lg_37_4 : g_37 4 = (tI M_33 1 4).toInt := p0r_32.2.2.1.1
          have lg_37_7 : g_37 7 = (tI M_33 t 4).toInt := p0r_32.2.2.2.1.1
          have lg_37_8 : g_37 8 = (tI M_33 t 5).toInt := p0r_32.2.2.2.1.2.1
          refine lv_aload_n hx hb dX4_readProduct_54 rfl (lv_at hl 2 rfl) ?_
          refine ti_get (ci := 4) (k := 2) (N := 6) (T := TX4) (v := .ref (A lw 0)) C hw iw_4 rfl ob_1 (by decide) (by decide) fl_X4_154 rfl (ti_Tv ((tT_fr q_34).trans ((tT_fr q_28).trans f_15))) dX4_readProduct_55 ?_
          refine lv_iload_n hx hb dX4_readProduct_58 rfl (lv_at hl 0 rfl) ?_
          refine lv_ineg hx hb dX4_readProduct_59 ?_
          refine lv_topi (fun x_38 ex_38 => ?_)
          have tx_38 : x_38.toInt = -x_21.toInt := i_neg ex_38 rfl (by omega)
          refine ti_callVv (ci := 1) (av := [.int x_38]) C hw (x_X1_add l D A cy hJ M_33 iM_33 lw hlw x_38 (by first | omega | exact Or.inl (by decide) | exact Or.inr (by decide)) t ht B n g_37 p0r_32) ⟨ml_X4_170, ym_X1_add, yv_X1_add, yi_X1_add, yc_X1_add⟩ yd_X1_add hlw (by decide) rfl rfl hl.1 (Nat.le_of_ble_eq_true rfl) ⟨by decide, by decide⟩ ⟨Nat.zero_le _, Nat.zero_le _⟩ dX4_readProduct_60 (fun M_40 H locs hp_40 hw => ?_)
          obtain ⟨iM_40, q_41, q_42, p0r_39⟩ := hp_40
          have lM_40_0 : g_37 0 = (tI M_40 2 4).toInt := p0r_39.2.1.1
          have lM_40_1 : g_37 1 = (tI M_40 2 6).toInt := p0r_39.2.1.2.1
          have lM_40_4 : g_37 4 = (tI M_40 1 4).toInt := p0r_39.2.2.1.1
          have lM_40_7 : g_37 7 = (tI M_40 t 4).toInt := p0r_39.2.2.2.1.1
          have lM_40_8 : g_37 8 = (tI M_40 t 5).toInt := p0r_39.2.2.2.1.2.1
          obtain ⟨x_43, ex_43⟩ : ∃ z : Int32, z = x_7 + 1 := ⟨_, rfl⟩
          have tx_43 : x_43.toInt = x_7.toInt + 1 := i_add ex_43 rfl (by decide) (by omega) (by omega)
          refine lv_iinc (v := x_43) (lv' := [(2, .int x_43), (3, .int x_21), (0, .ref (A 1 0)), (1, .int 8)]) hx hb dX4_readProduct_63 hl (k := 1) rfl (by rw [ex_43]; rfl) (by decide) rfl (fun ls hl => ?_)
          refine lv_goto (tgt := 7) hx hb dX4_readProduct_66 (by decide) ?_
          exact ih_19 x_43 M_40 g_37 _ _ _ (by omega) (by first | omega | decide) (by first | omega | decide) iM_40 ((q_41).trans ((q_34).trans ((q_28).trans f_11))) (f0.trans (f0_x q_42) (f0.trans q_35 (f0.trans q_29 f_12))) (((q_42 1).2.1).trans ((q_36).trans ((q_30).trans f_13))) ((tT_fr q_41).trans ((tT_fr q_34).trans ((tT_fr q_28).trans f_14))) ((tT_fr q_41).trans ((tT_fr q_34).trans ((tT_fr q_28).trans f_15))) p0r_39 (j_18.trans (lp_step (decide_eq_true (by omega)) (by rw [eg_37, eg_31]) (by omega))) hw (lv_sub hl [0, 2, 3] rfl)
        · refine lv_aload_n hx hb dX4_readProduct_25 rfl (lv_at hl 1 rfl) ?_
          refine ti_get (ci := 4) (k := 0) (N := 6) (T := TX4) (v := .ref (A 2 0)) C hw iw_4 rfl ob_1 (by decide) (by decide) fl_X4_12 rfl rfl dX4_readProduct_26 ?_
          refine ti_get (ci := 7) (k := 4) (N := 7) (T := TX7) C hw iw_7 rfl ob_2 (by decide) (by decide) fl_X4_41 rfl rfl dX4_readProduct_29 ?_
          refine ti_top (y := x_21) (ex_21.symm) ?_
          have u_23 : (tI M_10 2 4).toInt = (x_21 : Int32).toInt := by rw [(ex_21.symm)]
          refine lv_bipush (v := 41) hx hb dX4_readProduct_32 (by decide) ?_
          refine sb_icmp_ne (tgt := 69) hx hb rfl (by decide : (41 : Int32).toInt = 41) dX4_readProduct_34 (by decide) (fun c_34_23 => ?_) (fun c_34_23 => ?_)
          · exact hQ _ _ _ _ _ hw (⟨iM_10, (f_11), f_12, (f_13), (by unfold pp_pd; rw [← eg_6, j_18, lp_end (P := pp_qT) (f := 64 - x_7.toInt.toNat) (s := g_16) (Or.inr (decide_eq_false (by omega)))]; exact hs_17)⟩) dX4_readProduct_69
          · refine lv_aload_n hx hb dX4_readProduct_37 rfl (lv_at hl 1 rfl) ?_
            refine ti_get (ci := 4) (k := 0) (N := 6) (T := TX4) (v := .ref (A 2 0)) C hw iw_4 rfl ob_1 (by decide) (by decide) fl_X4_12 rfl rfl dX4_readProduct_38 ?_
            refine ti_get (ci := 7) (k := 4) (N := 7) (T := TX7) C hw iw_7 rfl ob_2 (by decide) (by decide) fl_X4_41 rfl rfl dX4_readProduct_41 ?_
            refine ti_top (y := x_21) (ex_21.symm) ?_
            have u_44 : (tI M_10 2 4).toInt = (x_21 : Int32).toInt := by rw [(ex_21.symm)]
            refine lv_istore_n (lv' := [(3, .int x_21), (2, .int x_7), (0, .ref (A 1 0)), (1, .int 8)]) hx hb dX4_readProduct_44 rfl hl (by decide) rfl (fun ls hl => ?_)
            refine lv_aload_n hx hb dX4_readProduct_45 rfl (lv_at hl 2 rfl) ?_
            refine ti_callVvE (ci := 4) (av := []) C hE hw (x_X4_knot l D A cy hJ M_10 iM_10 t ht (f_14) B n g_16 hs_17) ⟨ml_X4_167, ym_X4_knot, yv_X4_knot, yi_X4_knot, yc_X4_knot⟩ yd_X4_knot ob_1 (by decide) rfl rfl hl.1 (Nat.le_of_ble_eq_true rfl) ⟨by decide, by decide⟩ ⟨Nat.zero_le _, Nat.zero_le _⟩ dX4_readProduct_46 (fun M_46 H locs hp_46 hw => ?_)
            obtain ⟨iM_46, q_47, q_48, q_49, p0r_45⟩ := hp_46
            obtain ⟨g_50, eg_50⟩ : ∃ z : Nat → Int, z = pp_kn B n g_16 := ⟨_, rfl⟩
            rw [← eg_50] at p0r_45
            have lg_50_0 : g_50 0 = (tI M_46 2 4).toInt := p0r_45.2.1.1
            have lg_50_1 : g_50 1 = (tI M_46 2 6).toInt := p0r_45.2.1.2.1
            have lg_50_4 : g_50 4 = (tI M_46 1 4).toInt := p0r_45.2.2.1.1
            have lg_50_7 : g_50 7 = (tI M_46 t 4).toInt := p0r_45.2.2.2.1.1
            have lg_50_8 : g_50 8 = (tI M_46 t 5).toInt := p0r_45.2.2.2.1.2.1
            refine lv_aload_n hx hb dX4_readProduct_49 rfl (lv_at hl 2 rfl) ?_
            refine lv_iload_n hx hb dX4_readProduct_50 rfl (lv_at hl 3 rfl) ?_
            refine ti_callVvE (ci := 4) (av := [.int 8]) C hE hw (x_X4_readPart_8 l D A cy hJ M_46 iM_46 t ht ((tT_fr q_47).trans f_14) lw hlw ((tT_fr q_47).trans f_15) B n g_50 p0r_45) ⟨ml_X4_187, ym_X4_readPart, yv_X4_readPart, yi_X4_readPart, yc_X4_readPart⟩ yd_X4_readPart ob_1 (by decide) rfl rfl hl.1 (Nat.le_of_ble_eq_true rfl) ⟨by decide, by decide⟩ ⟨Nat.zero_le _, Nat.zero_le _⟩ dX4_readProduct_51 (fun M_52 H locs hp_52 hw => ?_)
            obtain ⟨iM_52, q_53, q_54, q_55, p0r_51⟩ := hp_52
            obtain ⟨g_56, eg_56⟩ : ∃ z : Nat → Int, z = pp_pt B n 0 g_50 := ⟨_, rfl⟩
            rw [← eg_56] at p0r_51
            have lg_56_0 : g_56 0 = (tI M_52 2 4).toInt := p0r_51.2.1.1
            have lg_56_1 : g_56 1 = (tI M_52 2 6).toInt := p0r_51.2.1.2.1
            have lg_56_4 : g_56 4 = (tI M_52 1 4).toInt := p0r_51.2.2.1.1
            have lg_56_7 : g_56 7 = (tI M_52 t 4).toInt := p0r_51.2.2.2.1.1
            have lg_56_8 : g_56 8 = (tI M_52 t 5).toInt := p0r_51.2.2.2.1.2.1
            refine lv_aload_n hx hb dX4_readProduct_54 rfl (lv_at hl 2 rfl) ?_
            refine ti_get (ci := 4) (k := 2) (N := 6) (T := TX4) (v := .ref (A lw 0)) C hw iw_4 rfl ob_1 (by decide) (by decide) fl_X4_154 rfl (ti_Tv ((tT_fr q_53).trans ((tT_fr q_47).trans f_15))) dX4_readProduct_55 ?_
            refine lv_iload_n hx hb dX4_readProduct_58 rfl (lv_at hl 0 rfl) ?_
            refine lv_ineg hx hb dX4_readProduct_59 ?_
            refine lv_topi (fun x_57 ex_57 => ?_)
            have tx_57 : x_57.toInt = -x_21.toInt := i_neg ex_57 rfl (by omega)
            refine ti_callVv (ci := 1) (av := [.int x_57]) C hw (x_X1_add l D A cy hJ M_52 iM_52 lw hlw x_57 (by first | omega | exact Or.inl (by decide) | exact Or.inr (by decide)) t ht B n g_56 p0r_51) ⟨ml_X4_170, ym_X1_add, yv_X1_add, yi_X1_add, yc_X1_add⟩ yd_X1_add hlw (by decide) rfl rfl hl.1 (Nat.le_of_ble_eq_true rfl) ⟨by decide, by decide⟩ ⟨Nat.zero_le _, Nat.zero_le _⟩ dX4_readProduct_60 (fun M_59 H locs hp_59 hw => ?_)
            obtain ⟨iM_59, q_60, q_61, p0r_58⟩ := hp_59
            have lM_59_0 : g_56 0 = (tI M_59 2 4).toInt := p0r_58.2.1.1
            have lM_59_1 : g_56 1 = (tI M_59 2 6).toInt := p0r_58.2.1.2.1
            have lM_59_4 : g_56 4 = (tI M_59 1 4).toInt := p0r_58.2.2.1.1
            have lM_59_7 : g_56 7 = (tI M_59 t 4).toInt := p0r_58.2.2.2.1.1
            have lM_59_8 : g_56 8 = (tI M_59 t 5).toInt := p0r_58.2.2.2.1.2.1
            obtain ⟨x_62, ex_62⟩ : ∃ z : Int32, z = x_7 + 1 := ⟨_, rfl⟩
            have tx_62 : x_62.toInt = x_7.toInt + 1 := i_add ex_62 rfl (by decide) (by omega) (by omega)
            refine lv_iinc (v := x_62) (lv' := [(2, .int x_62), (3, .int x_21), (0, .ref (A 1 0)), (1, .int 8)]) hx hb dX4_readProduct_63 hl (k := 1) rfl (by rw [ex_62]; rfl) (by decide) rfl (fun ls hl => ?_)
            refine lv_goto (tgt := 7) hx hb dX4_readProduct_66 (by decide) ?_
            exact ih_19 x_62 M_59 g_56 _ _ _ (by omega) (by first | omega | decide) (by first | omega | decide) iM_59 ((q_60).trans ((q_53).trans ((q_47).trans f_11))) (f0.trans (f0_x q_61) (f0.trans q_54 (f0.trans q_48 f_12))) (((q_61 1).2.1).trans ((q_55).trans ((q_49).trans f_13))) ((tT_fr q_60).trans ((tT_fr q_53).trans ((tT_fr q_47).trans f_14))) ((tT_fr q_60).trans ((tT_fr q_53).trans ((tT_fr q_47).trans f_15))) p0r_58 (j_18.trans (lp_step (decide_eq_true (by omega)) (by rw [eg_56, eg_50]) (by omega))) hw (lv_sub hl [0, 2, 3] rfl)
  exact hl_7_18 ((64 - 0 : Int).toNat + 1) 0 M_2 g_6 _ _ _ (Nat.lt_succ_self _) (by have lt0 : (0 : Int32).toInt = 0 := (by decide); first | omega | decide) (by have lt0 : (0 : Int32).toInt = 0 := (by decide); first | omega | decide) iM_2 (q_3) q_4 (q_5) ((tT_fr q_3).trans hT) ((tT_fr q_3).trans hL) p0r_1 rfl hw (lv_sub hl [0, 1, 2] rfl)
set_option maxHeartbeats 4000000 in
set_option maxRecDepth 100000 in
theorem x_X4_readSum_8 (l : Launch) (D : va_G) (A : Nat → Nat → Nat) (cy : Nat → ClassId) (hJ : ti_inj ti_LT A) (M : ti_M) (hI : cI M) (t : Nat) (ht : t = 3 ∨ t = 4) (hT : tT M 1 1 = some t) (lw : Nat) (hlw : ti_ob ti_LT lw 1) (hL : tT M 1 2 = some lw) (B : Nat → Int) (n : Nat) (rg : Nat → Int) (hr : rC B n t rg M) : ti_KvE l yX4_readSum cX4_readSum 4 10 ti_LT D A cy M [.ref (A 1 0), .int 8] (fun M2 => cI M2 ∧ M2.2.2.2 = M.2.2.2 ∧ f0 M2 M ∧ tI M2 2 1 = tI M 2 1 ∧ rC B n t (pp_sm B n (pp_pt B n 0) rg) M2) := by
  refine ti_eVE yp_X4_readSum hJ ti_LT_nd (Nat.le_of_ble_eq_true rfl) ?_
  intro p e s m args below meth c Q H0 C hE hQ hw ls hl
  have hx := C.1
  have hb := C.2.1
  have hl : lv_has ls 4 [(0, .ref (A 1 0)), (1, .int 8)] := hl
  have l0 : rg 0 = (tI M 2 4).toInt := hr.2.1.1
  have l1 : rg 1 = (tI M 2 6).toInt := hr.2.1.2.1
  have l2 : rg 2 = (tI M 2 5).toInt := hr.2.1.2.2.1
  have l3 : rg 3 = (tI M 2 3).toInt := hr.2.1.2.2.2
  have l4 : rg 4 = (tI M 1 4).toInt := hr.2.2.1.1
  have l5 : rg 5 = (tI M 1 5).toInt := hr.2.2.1.2.1
  have l7 : rg 7 = (tI M t 4).toInt := hr.2.2.2.1.1
  have l8 : rg 8 = (tI M t 5).toInt := hr.2.2.2.1.2.1
  have l9 : rg 9 = (tI M t 3).toInt := hr.2.2.2.1.2.2
  refine lv_aload_n hx hb dX4_readSum_0 rfl (lv_at hl 0 rfl) ?_
  refine lv_iload_n hx hb dX4_readSum_1 rfl (lv_at hl 1 rfl) ?_
  refine ti_callVvE (ci := 4) (av := [.int 8]) C hE hw (x_X4_readProduct_8 l D A cy hJ M hI t ht (hT) lw hlw (hL) B n rg hr) ⟨ml_X4_184, ym_X4_readProduct, yv_X4_readProduct, yi_X4_readProduct, yc_X4_readProduct⟩ yd_X4_readProduct ob_1 (by decide) rfl rfl hl.1 (Nat.le_of_ble_eq_true rfl) ⟨by decide, by decide⟩ ⟨Nat.zero_le _, Nat.zero_le _⟩ dX4_readSum_2 (fun M_2 H locs hp_2 hw => ?_)
  obtain ⟨iM_2, q_3, q_4, q_5, p0r_1⟩ := hp_2
  obtain ⟨g_6, eg_6⟩ : ∃ z : Nat → Int, z = pp_pd B n (pp_pt B n 0) rg := ⟨_, rfl⟩
  rw [← eg_6] at p0r_1
  have lg_6_0 : g_6 0 = (tI M_2 2 4).toInt := p0r_1.2.1.1
  have lg_6_1 : g_6 1 = (tI M_2 2 6).toInt := p0r_1.2.1.2.1
  have lg_6_4 : g_6 4 = (tI M_2 1 4).toInt := p0r_1.2.2.1.1
  have lg_6_7 : g_6 7 = (tI M_2 t 4).toInt := p0r_1.2.2.2.1.1
  have lg_6_8 : g_6 8 = (tI M_2 t 5).toInt := p0r_1.2.2.2.1.2.1
  refine lv_iconst (v := 0) hx hb dX4_readSum_5 (by decide) ?_
  refine lv_istore_n (lv' := [(2, .int 0), (0, .ref (A 1 0)), (1, .int 8)]) hx hb dX4_readSum_6 rfl hl (by decide) rfl (fun ls hl => ?_)
  have hl_7_18 : ∀ (n_19 : Nat) (x_7 : Int32) (M_10 : ti_M) (g_16 : Nat → Int) (H : Heap) (locs : List Loc) (ls : Array Slot), (64 - x_7.toInt : Int).toNat < n_19 → (0 ≤ x_7.toInt) → (x_7.toInt ≤ 64) → (cI M_10) → (M_10.2.2.2 = M.2.2.2) → (f0 M_10 M) → (tI M_10 2 1 = tI M 2 1) → (tT M_10 1 1 = (some t)) → (tT M_10 1 2 = (some lw)) → (rC B n t g_16 M_10) → (pp_lp pp_qP (fun s => pp_pd B n (pp_pt B n 0) (pp_kn B n s)) 64 g_6 = pp_lp pp_qP (fun s => pp_pd B n (pp_pt B n 0) (pp_kn B n s)) (64 - (x_7.toInt).toNat) g_16) → ti_H ti_LT D A cy H0 M_10 H locs → lv_has ls 4 [(2, .int x_7), (0, .ref (A 1 0)), (1, .int 8)] → W p l e (ti_rm 10) s m args below meth c H locs 0 0 Q (F0 m 7 ls []) := by
    intro n_19
    induction n_19 with
    | zero => intro x_7 M_10 g_16 H locs ls hf_19; exact absurd hf_19 (Nat.not_lt_zero _)
    | succ n_19 ih_19 =>
      intro x_7 M_10 g_16 H locs ls hf_19 b_8 b_9 iM_10 f_11 f_12 f_13 f_14 f_15 hs_17 j_18 hw hl
      have lg_16_0 : g_16 0 = (tI M_10 2 4).toInt := hs_17.2.1.1
      have lg_16_1 : g_16 1 = (tI M_10 2 6).toInt := hs_17.2.1.2.1
      have lg_16_4 : g_16 4 = (tI M_10 1 4).toInt := hs_17.2.2.1.1
      have lg_16_7 : g_16 7 = (tI M_10 t 4).toInt := hs_17.2.2.2.1.1
      have lg_16_8 : g_16 8 = (tI M_10 t 5).toInt := hs_17.2.2.2.1.2.1
      refine lv_iload_n hx hb dX4_readSum_7 rfl (lv_at hl 0 rfl) ?_
      refine lv_bipush (v := 64) hx hb dX4_readSum_8 (by decide) ?_
      refine sb_icmp_ge (tgt := 69) hx hb rfl (by decide : (64 : Int32).toInt = 64) dX4_readSum_10 (by decide) (fun c_10_19 => ?_) (fun c_10_19 => ?_)
      · exact hQ _ _ _ _ _ hw (⟨iM_10, (f_11), f_12, (f_13), (by unfold pp_sm; rw [← eg_6, j_18, lp_end (P := pp_qP) (f := 64 - x_7.toInt.toNat) (s := g_16) (Or.inl (by omega))]; exact hs_17)⟩) dX4_readSum_69
      · refine lv_aload_n hx hb dX4_readSum_13 rfl (lv_at hl 1 rfl) ?_
        refine ti_get (ci := 4) (k := 0) (N := 6) (T := TX4) (v := .ref (A 2 0)) C hw iw_4 rfl ob_1 (by decide) (by decide) fl_X4_12 rfl rfl dX4_readSum_14 ?_
        refine ti_get (ci := 7) (k := 4) (N := 7) (T := TX7) C hw iw_7 rfl ob_2 (by decide) (by decide) fl_X4_41 rfl rfl dX4_readSum_17 ?_
        refine lv_topi (fun x_21 ex_21 => ?_)
        have bx_21 : 0 ≤ x_21.toInt ∧ x_21.toInt ≤ 41 := cI_rd iM_10 ob_2.1 ex_21
        have ux_21 : (tI M_10 2 4).toInt = x_21.toInt := by rw [ex_21]
        refine lv_bipush (v := 38) hx hb dX4_readSum_20 (by decide) ?_
        refine sb_icmp_eq (tgt := 37) hx hb rfl (by decide : (38 : Int32).toInt = 38) dX4_readSum_22 (by decide) (fun c_22_21 => ?_) (fun c_22_21 => ?_)
        · refine lv_aload_n hx hb dX4_readSum_37 rfl (lv_at hl 1 rfl) ?_
          refine ti_get (ci := 4) (k := 0) (N := 6) (T := TX4) (v := .ref (A 2 0)) C hw iw_4 rfl ob_1 (by decide) (by decide) fl_X4_12 rfl rfl dX4_readSum_38 ?_
          refine ti_get (ci := 7) (k := 4) (N := 7) (T := TX7) C hw iw_7 rfl ob_2 (by decide) (by decide) fl_X4_41 rfl rfl dX4_readSum_41 ?_
          refine ti_top (y := x_21) (ex_21.symm) ?_
          have u_25 : (tI M_10 2 4).toInt = (x_21 : Int32).toInt := by rw [(ex_21.symm)]
          refine lv_istore_n (lv' := [(3, .int x_21), (2, .int x_7), (0, .ref (A 1 0)), (1, .int 8)]) hx hb dX4_readSum_44 rfl hl (by decide) rfl (fun ls hl => ?_)
          refine lv_aload_n hx hb dX4_readSum_45 rfl (lv_at hl 2 rfl) ?_
          refine ti_callVvE (ci := 4) (av := []) C hE hw (x_X4_knot l D A cy hJ M_10 iM_10 t ht (f_14) B n g_16 hs_17) ⟨ml_X4_167, ym_X4_knot, yv_X4_knot, yi_X4_knot, yc_X4_knot⟩ yd_X4_knot ob_1 (by decide) rfl rfl hl.1 (Nat.le_of_ble_eq_true rfl) ⟨by decide, by decide⟩ ⟨Nat.zero_le _, Nat.zero_le _⟩ dX4_readSum_46 (fun M_27 H locs hp_27 hw => ?_)
          obtain ⟨iM_27, q_28, q_29, q_30, p0r_26⟩ := hp_27
          obtain ⟨g_31, eg_31⟩ : ∃ z : Nat → Int, z = pp_kn B n g_16 := ⟨_, rfl⟩
          rw [← eg_31] at p0r_26
          have lg_31_0 : g_31 0 = (tI M_27 2 4).toInt := p0r_26.2.1.1
          have lg_31_1 : g_31 1 = (tI M_27 2 6).toInt := p0r_26.2.1.2.1
          have lg_31_4 : g_31 4 = (tI M_27 1 4).toInt := p0r_26.2.2.1.1
          have lg_31_7 : g_31 7 = (tI M_27 t 4).toInt := p0r_26.2.2.2.1.1
          have lg_31_8 : g_31 8 = (tI M_27 t 5).toInt := p0r_26.2.2.2.1.2.1
          refine lv_aload_n hx hb dX4_readSum_49 rfl (lv_at hl 2 rfl) ?_
          refine lv_iload_n hx hb dX4_readSum_50 rfl (lv_at hl 3 rfl) ?_
          refine ti_callVvE (ci := 4) (av := [.int 8]) C hE hw (x_X4_readProduct_8 l D A cy hJ M_27 iM_27 t ht ((tT_fr q_28).trans f_14) lw hlw ((tT_fr q_28).trans f_15) B n g_31 p0r_26) ⟨ml_X4_184, ym_X4_readProduct, yv_X4_readProduct, yi_X4_readProduct, yc_X4_readProduct⟩ yd_X4_readProduct ob_1 (by decide) rfl rfl hl.1 (Nat.le_of_ble_eq_true rfl) ⟨by decide, by decide⟩ ⟨Nat.zero_le _, Nat.zero_le _⟩ dX4_readSum_51 (fun M_33 H locs hp_33 hw => ?_)
          obtain ⟨iM_33, q_34, q_35, q_36, p0r_32⟩ := hp_33
          obtain ⟨g_37, eg_37⟩ : ∃ z : Nat → Int, z = pp_pd B n (pp_pt B n 0) g_31 := ⟨_, rfl⟩
          rw [← eg_37] at p0r_32
          have lg_37_0 : g_37 0 = (tI M_33 2 4).toInt := p0r_32.2.1.1
          have lg_37_1 : g_37 1 = (tI M_33 2 6).toInt := p0r_32.2.1.2.1
          have lg_37_4 : g_37 4 = (tI M_33 1 4).toInt := p0r_32.2.2.1.1
          have lg_37_7 : g_37 7 = (tI M_33 t 4).toInt := p0r_32.2.2.2.1.1
          have lg_37_8 : g_37 8 = (tI M_33 t 5).toInt := p0r_32.2.2.2.1.2.1
          refine lv_aload_n hx hb dX4_readSum_54 rfl (lv_at hl 2 rfl) ?_
          refine ti_get (ci := 4) (k := 2) (N := 6) (T := TX4) (v := .ref (A lw 0)) C hw iw_4 rfl ob_1 (by decide) (by decide) fl_X4_154 rfl (ti_Tv ((tT_fr q_34).trans ((tT_fr q_28).trans f_15))) dX4_readSum_55 ?_
          refine lv_iload_n hx hb dX4_readSum_58 rfl (lv_at hl 0 rfl) ?_
          refine lv_ineg hx hb dX4_readSum_59 ?_
          refine lv_topi (fun x_38 ex_38 => ?_)
          have tx_38 : x_38.toInt = -x_21.toInt := i_neg ex_38 rfl (by omega)
          refine ti_callVv (ci := 1) (av := [.int x_38]) C hw (x_X1_add l D A cy hJ M_33 iM_33 lw hlw x_38 (by first | omega | exact Or.inl (by decide) | exact Or.inr (by decide)) t ht B n g_37 p0r_32) ⟨ml_X4_170, ym_X1_add, yv_X1_add, yi_X1_add, yc_X1_add⟩ yd_X1_add hlw (by decide) rfl rfl hl.1 (Nat.le_of_ble_eq_true rfl) ⟨by decide, by decide⟩ ⟨Nat.zero_le _, Nat.zero_le _⟩ dX4_readSum_60 (fun M_40 H locs hp_40 hw => ?_)
          obtain ⟨iM_40, q_41, q_42, p0r_39⟩ := hp_40
          have lM_40_0 : g_37 0 = (tI M_40 2 4).toInt := p0r_39.2.1.1
          have lM_40_1 : g_37 1 = (tI M_40 2 6).toInt := p0r_39.2.1.2.1
          have lM_40_4 : g_37 4 = (tI M_40 1 4).toInt := p0r_39.2.2.1.1
          have lM_40_7 : g_37 7 = (tI M_40 t 4).toInt := p0r_39.2.2.2.1.1
          have lM_40_8 : g_37 8 = (tI M_40 t 5).toInt := p0r_39.2.2.2.1.2.1
          obtain ⟨x_43, ex_43⟩ : ∃ z : Int32, z = x_7 + 1 := ⟨_, rfl⟩
          have tx_43 : x_43.toInt = x_7.toInt + 1 := i_add ex_43 rfl (by decide) (by omega) (by omega)
          refine lv_iinc (v := x_43) (lv' := [(2, .int x_43), (3, .int x_21), (0, .ref (A 1 0)), (1, .int 8)]) hx hb dX4_readSum_63 hl (k := 1) rfl (by rw [ex_43]; rfl) (by decide) rfl (fun ls hl => ?_)
          refine lv_goto (tgt := 7) hx hb dX4_readSum_66 (by decide) ?_
          exact ih_19 x_43 M_40 g_37 _ _ _ (by omega) (by first | omega | decide) (by first | omega | decide) iM_40 ((q_41).trans ((q_34).trans ((q_28).trans f_11))) (f0.trans (f0_x q_42) (f0.trans q_35 (f0.trans q_29 f_12))) (((q_42 1).2.1).trans ((q_36).trans ((q_30).trans f_13))) ((tT_fr q_41).trans ((tT_fr q_34).trans ((tT_fr q_28).trans f_14))) ((tT_fr q_41).trans ((tT_fr q_34).trans ((tT_fr q_28).trans f_15))) p0r_39 (j_18.trans (lp_step (decide_eq_true (by omega)) (by rw [eg_37, eg_31]) (by omega))) hw (lv_sub hl [0, 2, 3] rfl)
        · refine lv_aload_n hx hb dX4_readSum_25 rfl (lv_at hl 1 rfl) ?_
          refine ti_get (ci := 4) (k := 0) (N := 6) (T := TX4) (v := .ref (A 2 0)) C hw iw_4 rfl ob_1 (by decide) (by decide) fl_X4_12 rfl rfl dX4_readSum_26 ?_
          refine ti_get (ci := 7) (k := 4) (N := 7) (T := TX7) C hw iw_7 rfl ob_2 (by decide) (by decide) fl_X4_41 rfl rfl dX4_readSum_29 ?_
          refine ti_top (y := x_21) (ex_21.symm) ?_
          have u_23 : (tI M_10 2 4).toInt = (x_21 : Int32).toInt := by rw [(ex_21.symm)]
          refine lv_bipush (v := 39) hx hb dX4_readSum_32 (by decide) ?_
          refine sb_icmp_ne (tgt := 69) hx hb rfl (by decide : (39 : Int32).toInt = 39) dX4_readSum_34 (by decide) (fun c_34_23 => ?_) (fun c_34_23 => ?_)
          · exact hQ _ _ _ _ _ hw (⟨iM_10, (f_11), f_12, (f_13), (by unfold pp_sm; rw [← eg_6, j_18, lp_end (P := pp_qP) (f := 64 - x_7.toInt.toNat) (s := g_16) (Or.inr (decide_eq_false (by omega)))]; exact hs_17)⟩) dX4_readSum_69
          · refine lv_aload_n hx hb dX4_readSum_37 rfl (lv_at hl 1 rfl) ?_
            refine ti_get (ci := 4) (k := 0) (N := 6) (T := TX4) (v := .ref (A 2 0)) C hw iw_4 rfl ob_1 (by decide) (by decide) fl_X4_12 rfl rfl dX4_readSum_38 ?_
            refine ti_get (ci := 7) (k := 4) (N := 7) (T := TX7) C hw iw_7 rfl ob_2 (by decide) (by decide) fl_X4_41 rfl rfl dX4_readSum_41 ?_
            refine ti_top (y := x_21) (ex_21.symm) ?_
            have u_44 : (tI M_10 2 4).toInt = (x_21 : Int32).toInt := by rw [(ex_21.symm)]
            refine lv_istore_n (lv' := [(3, .int x_21), (2, .int x_7), (0, .ref (A 1 0)), (1, .int 8)]) hx hb dX4_readSum_44 rfl hl (by decide) rfl (fun ls hl => ?_)
            refine lv_aload_n hx hb dX4_readSum_45 rfl (lv_at hl 2 rfl) ?_
            refine ti_callVvE (ci := 4) (av := []) C hE hw (x_X4_knot l D A cy hJ M_10 iM_10 t ht (f_14) B n g_16 hs_17) ⟨ml_X4_167, ym_X4_knot, yv_X4_knot, yi_X4_knot, yc_X4_knot⟩ yd_X4_knot ob_1 (by decide) rfl rfl hl.1 (Nat.le_of_ble_eq_true rfl) ⟨by decide, by decide⟩ ⟨Nat.zero_le _, Nat.zero_le _⟩ dX4_readSum_46 (fun M_46 H locs hp_46 hw => ?_)
            obtain ⟨iM_46, q_47, q_48, q_49, p0r_45⟩ := hp_46
            obtain ⟨g_50, eg_50⟩ : ∃ z : Nat → Int, z = pp_kn B n g_16 := ⟨_, rfl⟩
            rw [← eg_50] at p0r_45
            have lg_50_0 : g_50 0 = (tI M_46 2 4).toInt := p0r_45.2.1.1
            have lg_50_1 : g_50 1 = (tI M_46 2 6).toInt := p0r_45.2.1.2.1
            have lg_50_4 : g_50 4 = (tI M_46 1 4).toInt := p0r_45.2.2.1.1
            have lg_50_7 : g_50 7 = (tI M_46 t 4).toInt := p0r_45.2.2.2.1.1
            have lg_50_8 : g_50 8 = (tI M_46 t 5).toInt := p0r_45.2.2.2.1.2.1
            refine lv_aload_n hx hb dX4_readSum_49 rfl (lv_at hl 2 rfl) ?_
            refine lv_iload_n hx hb dX4_readSum_50 rfl (lv_at hl 3 rfl) ?_
            refine ti_callVvE (ci := 4) (av := [.int 8]) C hE hw (x_X4_readProduct_8 l D A cy hJ M_46 iM_46 t ht ((tT_fr q_47).trans f_14) lw hlw ((tT_fr q_47).trans f_15) B n g_50 p0r_45) ⟨ml_X4_184, ym_X4_readProduct, yv_X4_readProduct, yi_X4_readProduct, yc_X4_readProduct⟩ yd_X4_readProduct ob_1 (by decide) rfl rfl hl.1 (Nat.le_of_ble_eq_true rfl) ⟨by decide, by decide⟩ ⟨Nat.zero_le _, Nat.zero_le _⟩ dX4_readSum_51 (fun M_52 H locs hp_52 hw => ?_)
            obtain ⟨iM_52, q_53, q_54, q_55, p0r_51⟩ := hp_52
            obtain ⟨g_56, eg_56⟩ : ∃ z : Nat → Int, z = pp_pd B n (pp_pt B n 0) g_50 := ⟨_, rfl⟩
            rw [← eg_56] at p0r_51
            have lg_56_0 : g_56 0 = (tI M_52 2 4).toInt := p0r_51.2.1.1
            have lg_56_1 : g_56 1 = (tI M_52 2 6).toInt := p0r_51.2.1.2.1
            have lg_56_4 : g_56 4 = (tI M_52 1 4).toInt := p0r_51.2.2.1.1
            have lg_56_7 : g_56 7 = (tI M_52 t 4).toInt := p0r_51.2.2.2.1.1
            have lg_56_8 : g_56 8 = (tI M_52 t 5).toInt := p0r_51.2.2.2.1.2.1
            refine lv_aload_n hx hb dX4_readSum_54 rfl (lv_at hl 2 rfl) ?_
            refine ti_get (ci := 4) (k := 2) (N := 6) (T := TX4) (v := .ref (A lw 0)) C hw iw_4 rfl ob_1 (by decide) (by decide) fl_X4_154 rfl (ti_Tv ((tT_fr q_53).trans ((tT_fr q_47).trans f_15))) dX4_readSum_55 ?_
            refine lv_iload_n hx hb dX4_readSum_58 rfl (lv_at hl 0 rfl) ?_
            refine lv_ineg hx hb dX4_readSum_59 ?_
            refine lv_topi (fun x_57 ex_57 => ?_)
            have tx_57 : x_57.toInt = -x_21.toInt := i_neg ex_57 rfl (by omega)
            refine ti_callVv (ci := 1) (av := [.int x_57]) C hw (x_X1_add l D A cy hJ M_52 iM_52 lw hlw x_57 (by first | omega | exact Or.inl (by decide) | exact Or.inr (by decide)) t ht B n g_56 p0r_51) ⟨ml_X4_170, ym_X1_add, yv_X1_add, yi_X1_add, yc_X1_add⟩ yd_X1_add hlw (by decide) rfl rfl hl.1 (Nat.le_of_ble_eq_true rfl) ⟨by decide, by decide⟩ ⟨Nat.zero_le _, Nat.zero_le _⟩ dX4_readSum_60 (fun M_59 H locs hp_59 hw => ?_)
            obtain ⟨iM_59, q_60, q_61, p0r_58⟩ := hp_59
            have lM_59_0 : g_56 0 = (tI M_59 2 4).toInt := p0r_58.2.1.1
            have lM_59_1 : g_56 1 = (tI M_59 2 6).toInt := p0r_58.2.1.2.1
            have lM_59_4 : g_56 4 = (tI M_59 1 4).toInt := p0r_58.2.2.1.1
            have lM_59_7 : g_56 7 = (tI M_59 t 4).toInt := p0r_58.2.2.2.1.1
            have lM_59_8 : g_56 8 = (tI M_59 t 5).toInt := p0r_58.2.2.2.1.2.1
            obtain ⟨x_62, ex_62⟩ : ∃ z : Int32, z = x_7 + 1 := ⟨_, rfl⟩
            have tx_62 : x_62.toInt = x_7.toInt + 1 := i_add ex_62 rfl (by decide) (by omega) (by omega)
            refine lv_iinc (v := x_62) (lv' := [(2, .int x_62), (3, .int x_21), (0, .ref (A 1 0)), (1, .int 8)]) hx hb dX4_readSum_63 hl (k := 1) rfl (by rw [ex_62]; rfl) (by decide) rfl (fun ls hl => ?_)
            refine lv_goto (tgt := 7) hx hb dX4_readSum_66 (by decide) ?_
            exact ih_19 x_62 M_59 g_56 _ _ _ (by omega) (by first | omega | decide) (by first | omega | decide) iM_59 ((q_60).trans ((q_53).trans ((q_47).trans f_11))) (f0.trans (f0_x q_61) (f0.trans q_54 (f0.trans q_48 f_12))) (((q_61 1).2.1).trans ((q_55).trans ((q_49).trans f_13))) ((tT_fr q_60).trans ((tT_fr q_53).trans ((tT_fr q_47).trans f_14))) ((tT_fr q_60).trans ((tT_fr q_53).trans ((tT_fr q_47).trans f_15))) p0r_58 (j_18.trans (lp_step (decide_eq_true (by omega)) (by rw [eg_56, eg_50]) (by omega))) hw (lv_sub hl [0, 2, 3] rfl)
  exact hl_7_18 ((64 - 0 : Int).toNat + 1) 0 M_2 g_6 _ _ _ (Nat.lt_succ_self _) (by have lt0 : (0 : Int32).toInt = 0 := (by decide); first | omega | decide) (by have lt0 : (0 : Int32).toInt = 0 := (by decide); first | omega | decide) iM_2 (q_3) q_4 (q_5) ((tT_fr q_3).trans hT) ((tT_fr q_3).trans hL) p0r_1 rfl hw (lv_sub hl [0, 1, 2] rfl)
set_option maxHeartbeats 4000000 in
set_option maxRecDepth 100000 in
theorem x_X4_readComparison_8 (l : Launch) (D : va_G) (A : Nat → Nat → Nat) (cy : Nat → ClassId) (hJ : ti_inj ti_LT A) (M : ti_M) (hI : cI M) (t : Nat) (ht : t = 3 ∨ t = 4) (hT : tT M 1 1 = some t) (lw : Nat) (hlw : ti_ob ti_LT lw 1) (hL : tT M 1 2 = some lw) (B : Nat → Int) (n : Nat) (rg : Nat → Int) (hr : rC B n t rg M) : ti_KvE l yX4_readComparison cX4_readComparison 3 11 ti_LT D A cy M [.ref (A 1 0), .int 8] (fun M2 => cI M2 ∧ M2.2.2.2 = M.2.2.2 ∧ f0 M2 M ∧ tI M2 2 1 = tI M 2 1 ∧ rC B n t (pp_cm B n (pp_pt B n 0) rg) M2) := by
  refine ti_eVE yp_X4_readComparison hJ ti_LT_nd (Nat.le_of_ble_eq_true rfl) ?_
  intro p e s m args below meth c Q H0 C hE hQ hw ls hl
  have hx := C.1
  have hb := C.2.1
  have hl : lv_has ls 3 [(0, .ref (A 1 0)), (1, .int 8)] := hl
  have l0 : rg 0 = (tI M 2 4).toInt := hr.2.1.1
  have l1 : rg 1 = (tI M 2 6).toInt := hr.2.1.2.1
  have l2 : rg 2 = (tI M 2 5).toInt := hr.2.1.2.2.1
  have l3 : rg 3 = (tI M 2 3).toInt := hr.2.1.2.2.2
  have l4 : rg 4 = (tI M 1 4).toInt := hr.2.2.1.1
  have l5 : rg 5 = (tI M 1 5).toInt := hr.2.2.1.2.1
  have l7 : rg 7 = (tI M t 4).toInt := hr.2.2.2.1.1
  have l8 : rg 8 = (tI M t 5).toInt := hr.2.2.2.1.2.1
  have l9 : rg 9 = (tI M t 3).toInt := hr.2.2.2.1.2.2
  refine lv_aload_n hx hb dX4_readComparison_0 rfl (lv_at hl 0 rfl) ?_
  refine lv_iload_n hx hb dX4_readComparison_1 rfl (lv_at hl 1 rfl) ?_
  refine ti_callVvE (ci := 4) (av := [.int 8]) C hE hw (x_X4_readSum_8 l D A cy hJ M hI t ht (hT) lw hlw (hL) B n rg hr) ⟨ml_X4_181, ym_X4_readSum, yv_X4_readSum, yi_X4_readSum, yc_X4_readSum⟩ yd_X4_readSum ob_1 (by decide) rfl rfl hl.1 (Nat.le_of_ble_eq_true rfl) ⟨by decide, by decide⟩ ⟨Nat.zero_le _, Nat.zero_le _⟩ dX4_readComparison_2 (fun M_2 H locs hp_2 hw => ?_)
  obtain ⟨iM_2, q_3, q_4, q_5, p0r_1⟩ := hp_2
  obtain ⟨g_6, eg_6⟩ : ∃ z : Nat → Int, z = pp_sm B n (pp_pt B n 0) rg := ⟨_, rfl⟩
  rw [← eg_6] at p0r_1
  have lg_6_0 : g_6 0 = (tI M_2 2 4).toInt := p0r_1.2.1.1
  have lg_6_1 : g_6 1 = (tI M_2 2 6).toInt := p0r_1.2.1.2.1
  have lg_6_4 : g_6 4 = (tI M_2 1 4).toInt := p0r_1.2.2.1.1
  have lg_6_7 : g_6 7 = (tI M_2 t 4).toInt := p0r_1.2.2.2.1.1
  have lg_6_8 : g_6 8 = (tI M_2 t 5).toInt := p0r_1.2.2.2.1.2.1
  refine lv_aload_n hx hb dX4_readComparison_5 rfl (lv_at hl 0 rfl) ?_
  refine ti_get (ci := 4) (k := 0) (N := 6) (T := TX4) (v := .ref (A 2 0)) C hw iw_4 rfl ob_1 (by decide) (by decide) fl_X4_12 rfl rfl dX4_readComparison_6 ?_
  refine ti_get (ci := 7) (k := 4) (N := 7) (T := TX7) C hw iw_7 rfl ob_2 (by decide) (by decide) fl_X4_41 rfl rfl dX4_readComparison_9 ?_
  refine lv_topi (fun x_7 ex_7 => ?_)
  have bx_7 : 0 ≤ x_7.toInt ∧ x_7.toInt ≤ 41 := cI_rd iM_2 ob_2.1 ex_7
  have ux_7 : (tI M_2 2 4).toInt = x_7.toInt := by rw [ex_7]
  refine lv_istore_n (lv' := [(2, .int x_7), (0, .ref (A 1 0)), (1, .int 8)]) hx hb dX4_readComparison_12 rfl hl (by decide) rfl (fun ls hl => ?_)
  refine lv_iload_n hx hb dX4_readComparison_13 rfl (lv_at hl 0 rfl) ?_
  refine lv_bipush (v := 32) hx hb dX4_readComparison_14 (by decide) ?_
  refine sb_icmp_lt (tgt := 43) hx hb rfl (by decide : (32 : Int32).toInt = 32) dX4_readComparison_16 (by decide) (fun c_16_7 => ?_) (fun c_16_7 => ?_)
  · exact hQ _ _ _ _ _ hw (⟨iM_2, (q_3), q_4, (q_5), (by unfold pp_cm; rw [← eg_6]; unfold pp_c2; rw [if_neg (fun q => by omega)]; exact p0r_1)⟩) dX4_readComparison_43
  · refine lv_iload_n hx hb dX4_readComparison_19 rfl (lv_at hl 0 rfl) ?_
    refine lv_bipush (v := 37) hx hb dX4_readComparison_20 (by decide) ?_
    refine sb_icmp_gt (tgt := 43) hx hb rfl (by decide : (37 : Int32).toInt = 37) dX4_readComparison_22 (by decide) (fun c_22_8 => ?_) (fun c_22_8 => ?_)
    · exact hQ _ _ _ _ _ hw (⟨iM_2, (q_3), q_4, (q_5), (by unfold pp_cm; rw [← eg_6]; unfold pp_c2; rw [if_neg (fun q => by omega)]; exact p0r_1)⟩) dX4_readComparison_43
    · refine lv_aload_n hx hb dX4_readComparison_25 rfl (lv_at hl 1 rfl) ?_
      refine ti_callVvE (ci := 4) (av := []) C hE hw (x_X4_knot l D A cy hJ M_2 iM_2 t ht ((tT_fr q_3).trans hT) B n g_6 p0r_1) ⟨ml_X4_167, ym_X4_knot, yv_X4_knot, yi_X4_knot, yc_X4_knot⟩ yd_X4_knot ob_1 (by decide) rfl rfl hl.1 (Nat.le_of_ble_eq_true rfl) ⟨by decide, by decide⟩ ⟨Nat.zero_le _, Nat.zero_le _⟩ dX4_readComparison_26 (fun M_11 H locs hp_11 hw => ?_)
      obtain ⟨iM_11, q_12, q_13, q_14, p0r_10⟩ := hp_11
      obtain ⟨g_15, eg_15⟩ : ∃ z : Nat → Int, z = pp_kn B n g_6 := ⟨_, rfl⟩
      rw [← eg_15] at p0r_10
      have lg_15_0 : g_15 0 = (tI M_11 2 4).toInt := p0r_10.2.1.1
      have lg_15_1 : g_15 1 = (tI M_11 2 6).toInt := p0r_10.2.1.2.1
      have lg_15_4 : g_15 4 = (tI M_11 1 4).toInt := p0r_10.2.2.1.1
      have lg_15_7 : g_15 7 = (tI M_11 t 4).toInt := p0r_10.2.2.2.1.1
      have lg_15_8 : g_15 8 = (tI M_11 t 5).toInt := p0r_10.2.2.2.1.2.1
      refine lv_aload_n hx hb dX4_readComparison_29 rfl (lv_at hl 1 rfl) ?_
      refine lv_iload_n hx hb dX4_readComparison_30 rfl (lv_at hl 2 rfl) ?_
      refine ti_callVvE (ci := 4) (av := [.int 8]) C hE hw (x_X4_readSum_8 l D A cy hJ M_11 iM_11 t ht ((tT_fr q_12).trans ((tT_fr q_3).trans hT)) lw hlw ((tT_fr q_12).trans ((tT_fr q_3).trans hL)) B n g_15 p0r_10) ⟨ml_X4_181, ym_X4_readSum, yv_X4_readSum, yi_X4_readSum, yc_X4_readSum⟩ yd_X4_readSum ob_1 (by decide) rfl rfl hl.1 (Nat.le_of_ble_eq_true rfl) ⟨by decide, by decide⟩ ⟨Nat.zero_le _, Nat.zero_le _⟩ dX4_readComparison_31 (fun M_17 H locs hp_17 hw => ?_)
      obtain ⟨iM_17, q_18, q_19, q_20, p0r_16⟩ := hp_17
      obtain ⟨g_21, eg_21⟩ : ∃ z : Nat → Int, z = pp_sm B n (pp_pt B n 0) g_15 := ⟨_, rfl⟩
      rw [← eg_21] at p0r_16
      have lg_21_0 : g_21 0 = (tI M_17 2 4).toInt := p0r_16.2.1.1
      have lg_21_1 : g_21 1 = (tI M_17 2 6).toInt := p0r_16.2.1.2.1
      have lg_21_4 : g_21 4 = (tI M_17 1 4).toInt := p0r_16.2.2.1.1
      have lg_21_7 : g_21 7 = (tI M_17 t 4).toInt := p0r_16.2.2.2.1.1
      have lg_21_8 : g_21 8 = (tI M_17 t 5).toInt := p0r_16.2.2.2.1.2.1
      refine lv_aload_n hx hb dX4_readComparison_34 rfl (lv_at hl 1 rfl) ?_
      refine ti_get (ci := 4) (k := 2) (N := 6) (T := TX4) (v := .ref (A lw 0)) C hw iw_4 rfl ob_1 (by decide) (by decide) fl_X4_154 rfl (ti_Tv ((tT_fr q_18).trans ((tT_fr q_12).trans ((tT_fr q_3).trans hL)))) dX4_readComparison_35 ?_
      refine lv_iload_n hx hb dX4_readComparison_38 rfl (lv_at hl 0 rfl) ?_
      refine lv_ineg hx hb dX4_readComparison_39 ?_
      refine lv_topi (fun x_22 ex_22 => ?_)
      have tx_22 : x_22.toInt = -x_7.toInt := i_neg ex_22 rfl (by omega)
      refine ti_callVv (ci := 1) (av := [.int x_22]) C hw (x_X1_add l D A cy hJ M_17 iM_17 lw hlw x_22 (by first | omega | exact Or.inl (by decide) | exact Or.inr (by decide)) t ht B n g_21 p0r_16) ⟨ml_X4_170, ym_X1_add, yv_X1_add, yi_X1_add, yc_X1_add⟩ yd_X1_add hlw (by decide) rfl rfl hl.1 (Nat.le_of_ble_eq_true rfl) ⟨by decide, by decide⟩ ⟨Nat.zero_le _, Nat.zero_le _⟩ dX4_readComparison_40 (fun M_24 H locs hp_24 hw => ?_)
      obtain ⟨iM_24, q_25, q_26, p0r_23⟩ := hp_24
      have lM_24_0 : g_21 0 = (tI M_24 2 4).toInt := p0r_23.2.1.1
      have lM_24_1 : g_21 1 = (tI M_24 2 6).toInt := p0r_23.2.1.2.1
      have lM_24_4 : g_21 4 = (tI M_24 1 4).toInt := p0r_23.2.2.1.1
      have lM_24_7 : g_21 7 = (tI M_24 t 4).toInt := p0r_23.2.2.2.1.1
      have lM_24_8 : g_21 8 = (tI M_24 t 5).toInt := p0r_23.2.2.2.1.2.1
      exact hQ _ _ _ _ _ hw (⟨iM_24, ((q_25).trans ((q_18).trans ((q_12).trans q_3))), (f0.trans (f0_x q_26) (f0.trans q_19 (f0.trans q_13 q_4))), (((q_26 1).2.1).trans ((q_20).trans ((q_14).trans q_5))), (by unfold pp_cm; rw [← eg_6]; unfold pp_c2; rw [if_pos ⟨by omega, by omega⟩, ← eg_15, ← eg_21]; exact p0r_23)⟩) dX4_readComparison_43
set_option maxHeartbeats 4000000 in
set_option maxRecDepth 100000 in
theorem x_X4_readNegated_8 (l : Launch) (D : va_G) (A : Nat → Nat → Nat) (cy : Nat → ClassId) (hJ : ti_inj ti_LT A) (M : ti_M) (hI : cI M) (t : Nat) (ht : t = 3 ∨ t = 4) (hT : tT M 1 1 = some t) (lw : Nat) (hlw : ti_ob ti_LT lw 1) (hL : tT M 1 2 = some lw) (B : Nat → Int) (n : Nat) (rg : Nat → Int) (hr : rC B n t rg M) : ti_KvE l yX4_readNegated cX4_readNegated 4 12 ti_LT D A cy M [.ref (A 1 0), .int 8] (fun M2 => cI M2 ∧ M2.2.2.2 = M.2.2.2 ∧ f0 M2 M ∧ tI M2 2 1 = tI M 2 1 ∧ rC B n t (pp_ng B n (pp_pt B n 0) rg) M2) := by
  refine ti_eVE yp_X4_readNegated hJ ti_LT_nd (Nat.le_of_ble_eq_true rfl) ?_
  intro p e s m args below meth c Q H0 C hE hQ hw ls hl
  have hx := C.1
  have hb := C.2.1
  have hl : lv_has ls 4 [(0, .ref (A 1 0)), (1, .int 8)] := hl
  have l0 : rg 0 = (tI M 2 4).toInt := hr.2.1.1
  have l1 : rg 1 = (tI M 2 6).toInt := hr.2.1.2.1
  have l2 : rg 2 = (tI M 2 5).toInt := hr.2.1.2.2.1
  have l3 : rg 3 = (tI M 2 3).toInt := hr.2.1.2.2.2
  have l4 : rg 4 = (tI M 1 4).toInt := hr.2.2.1.1
  have l5 : rg 5 = (tI M 1 5).toInt := hr.2.2.1.2.1
  have l7 : rg 7 = (tI M t 4).toInt := hr.2.2.2.1.1
  have l8 : rg 8 = (tI M t 5).toInt := hr.2.2.2.1.2.1
  have l9 : rg 9 = (tI M t 3).toInt := hr.2.2.2.1.2.2
  refine lv_iconst (v := 0) hx hb dX4_readNegated_0 (by decide) ?_
  refine lv_istore_n (lv' := [(2, .int 0), (0, .ref (A 1 0)), (1, .int 8)]) hx hb dX4_readNegated_1 rfl hl (by decide) rfl (fun ls hl => ?_)
  have hl_2_12 : ∀ (n_13 : Nat) (x_1 : Int32) (M_4 : ti_M) (g_10 : Nat → Int) (H : Heap) (locs : List Loc) (ls : Array Slot), (65 - x_1.toInt : Int).toNat < n_13 → (0 ≤ x_1.toInt) → (x_1.toInt ≤ 65) → (cI M_4) → (M_4.2.2.2 = M.2.2.2) → (f0 M_4 M) → (tI M_4 2 1 = tI M 2 1) → (tT M_4 1 1 = (some t)) → (tT M_4 1 2 = (some lw)) → (rC B n t g_10 M_4) → (pp_lp pp_qN (pp_kn B n) 65 rg = pp_lp pp_qN (pp_kn B n) (65 - (x_1.toInt).toNat) g_10) → ti_H ti_LT D A cy H0 M_4 H locs → lv_has ls 4 [(2, .int x_1), (0, .ref (A 1 0)), (1, .int 8)] → W p l e (ti_rm 12) s m args below meth c H locs 0 0 Q (F0 m 2 ls []) := by
    intro n_13
    induction n_13 with
    | zero => intro x_1 M_4 g_10 H locs ls hf_13; exact absurd hf_13 (Nat.not_lt_zero _)
    | succ n_13 ih_13 =>
      intro x_1 M_4 g_10 H locs ls hf_13 b_2 b_3 iM_4 f_5 f_6 f_7 f_8 f_9 hs_11 j_12 hw hl
      have lg_10_0 : g_10 0 = (tI M_4 2 4).toInt := hs_11.2.1.1
      have lg_10_1 : g_10 1 = (tI M_4 2 6).toInt := hs_11.2.1.2.1
      have lg_10_4 : g_10 4 = (tI M_4 1 4).toInt := hs_11.2.2.1.1
      have lg_10_7 : g_10 7 = (tI M_4 t 4).toInt := hs_11.2.2.2.1.1
      have lg_10_8 : g_10 8 = (tI M_4 t 5).toInt := hs_11.2.2.2.1.2.1
      refine lv_iload_n hx hb dX4_readNegated_2 rfl (lv_at hl 0 rfl) ?_
      refine lv_bipush (v := 64) hx hb dX4_readNegated_3 (by decide) ?_
      have hj_30_24 : ∀  (H : Heap) (locs : List Loc) (ls : Array Slot), (pp_lp pp_qN (pp_kn B n) 65 rg = g_10) → ti_H ti_LT D A cy H0 M_4 H locs → lv_has ls 4 [(2, .int x_1), (0, .ref (A 1 0)), (1, .int 8)] → W p l e (ti_rm 12) s m args below meth c H locs 0 0 Q (F0 m 30 ls []) := by
        intro  H locs ls j_24 hw hl
        have lg_10_0 : g_10 0 = (tI M_4 2 4).toInt := hs_11.2.1.1
        have lg_10_1 : g_10 1 = (tI M_4 2 6).toInt := hs_11.2.1.2.1
        have lg_10_4 : g_10 4 = (tI M_4 1 4).toInt := hs_11.2.2.1.1
        have lg_10_7 : g_10 7 = (tI M_4 t 4).toInt := hs_11.2.2.2.1.1
        have lg_10_8 : g_10 8 = (tI M_4 t 5).toInt := hs_11.2.2.2.1.2.1
        refine lv_aload_n hx hb dX4_readNegated_30 rfl (lv_at hl 1 rfl) ?_
        refine lv_iload_n hx hb dX4_readNegated_31 rfl (lv_at hl 2 rfl) ?_
        refine ti_callVvE (ci := 4) (av := [.int 8]) C hE hw (x_X4_readComparison_8 l D A cy hJ M_4 iM_4 t ht (f_8) lw hlw (f_9) B n g_10 hs_11) ⟨ml_X4_178, ym_X4_readComparison, yv_X4_readComparison, yi_X4_readComparison, yc_X4_readComparison⟩ yd_X4_readComparison ob_1 (by decide) rfl rfl hl.1 (Nat.le_of_ble_eq_true rfl) ⟨by decide, by decide⟩ ⟨Nat.zero_le _, Nat.zero_le _⟩ dX4_readNegated_32 (fun M_26 H locs hp_26 hw => ?_)
        obtain ⟨iM_26, q_27, q_28, q_29, p0r_25⟩ := hp_26
        obtain ⟨g_30, eg_30⟩ : ∃ z : Nat → Int, z = pp_cm B n (pp_pt B n 0) g_10 := ⟨_, rfl⟩
        rw [← eg_30] at p0r_25
        have lg_30_0 : g_30 0 = (tI M_26 2 4).toInt := p0r_25.2.1.1
        have lg_30_1 : g_30 1 = (tI M_26 2 6).toInt := p0r_25.2.1.2.1
        have lg_30_4 : g_30 4 = (tI M_26 1 4).toInt := p0r_25.2.2.1.1
        have lg_30_7 : g_30 7 = (tI M_26 t 4).toInt := p0r_25.2.2.2.1.1
        have lg_30_8 : g_30 8 = (tI M_26 t 5).toInt := p0r_25.2.2.2.1.2.1
        have EM : pp_ng B n (pp_pt B n 0) rg = g_30 := by unfold pp_ng; rw [j_24, ← eg_30]
        refine lv_iconst (v := 0) hx hb dX4_readNegated_35 (by decide) ?_
        refine lv_istore_n (lv' := [(3, .int 0), (2, .int x_1), (0, .ref (A 1 0)), (1, .int 8)]) hx hb dX4_readNegated_36 rfl hl (by decide) rfl (fun ls hl => ?_)
        have hl_37_42 : ∀ (n_43 : Nat) (x_31 : Int32) (M_34 : ti_M) (g_40 : Nat → Int) (H : Heap) (locs : List Loc) (ls : Array Slot), (65 - x_31.toInt : Int).toNat < n_43 → (0 ≤ x_31.toInt) → (x_31.toInt ≤ 65) → (cI M_34) → (M_34.2.2.2 = M.2.2.2) → (f0 M_34 M) → (tI M_34 2 1 = tI M 2 1) → (tT M_34 1 1 = (some t)) → (tT M_34 1 2 = (some lw)) → (rC B n t g_40 M_34) → (g_30 = g_40) → ti_H ti_LT D A cy H0 M_34 H locs → lv_has ls 4 [(3, .int x_31), (2, .int x_1), (0, .ref (A 1 0)), (1, .int 8)] → W p l e (ti_rm 12) s m args below meth c H locs 0 0 Q (F0 m 37 ls []) := by
          intro n_43
          induction n_43 with
          | zero => intro x_31 M_34 g_40 H locs ls hf_43; exact absurd hf_43 (Nat.not_lt_zero _)
          | succ n_43 ih_43 =>
            intro x_31 M_34 g_40 H locs ls hf_43 b_32 b_33 iM_34 f_35 f_36 f_37 f_38 f_39 hs_41 j_42 hw hl
            have lg_40_0 : g_40 0 = (tI M_34 2 4).toInt := hs_41.2.1.1
            have lg_40_1 : g_40 1 = (tI M_34 2 6).toInt := hs_41.2.1.2.1
            have lg_40_4 : g_40 4 = (tI M_34 1 4).toInt := hs_41.2.2.1.1
            have lg_40_7 : g_40 7 = (tI M_34 t 4).toInt := hs_41.2.2.2.1.1
            have lg_40_8 : g_40 8 = (tI M_34 t 5).toInt := hs_41.2.2.2.1.2.1
            refine lv_iload_n hx hb dX4_readNegated_37 rfl (lv_at hl 0 rfl) ?_
            refine lv_iload_n hx hb dX4_readNegated_38 rfl (lv_at hl 1 rfl) ?_
            refine sb_icmp_ge (tgt := 57) hx hb rfl rfl dX4_readNegated_39 (by decide) (fun c_39_43 => ?_) (fun c_39_43 => ?_)
            · exact hQ _ _ _ _ _ hw (⟨iM_34, (f_35), f_36, (f_37), (by rw [EM, j_42]; exact hs_41)⟩) dX4_readNegated_57
            · refine lv_aload_n hx hb dX4_readNegated_42 rfl (lv_at hl 2 rfl) ?_
              refine ti_get (ci := 4) (k := 2) (N := 6) (T := TX4) (v := .ref (A lw 0)) C hw iw_4 rfl ob_1 (by decide) (by decide) fl_X4_154 rfl (ti_Tv (f_39)) dX4_readNegated_43 ?_
              refine lv_bipush (v := (-24)) hx hb dX4_readNegated_46 (by decide) ?_
              refine ti_callVv (ci := 1) (av := [.int (-24)]) C hw (x_X1_add l D A cy hJ M_34 iM_34 lw hlw (-24) (by first | omega | exact Or.inl (by decide) | exact Or.inr (by decide)) t ht B n g_40 hs_41) ⟨ml_X4_170, ym_X1_add, yv_X1_add, yi_X1_add, yc_X1_add⟩ yd_X1_add hlw (by decide) rfl rfl hl.1 (Nat.le_of_ble_eq_true rfl) ⟨by decide, by decide⟩ ⟨Nat.zero_le _, Nat.zero_le _⟩ dX4_readNegated_48 (fun M_46 H locs hp_46 hw => ?_)
              obtain ⟨iM_46, q_47, q_48, p0r_45⟩ := hp_46
              have lM_46_0 : g_40 0 = (tI M_46 2 4).toInt := p0r_45.2.1.1
              have lM_46_1 : g_40 1 = (tI M_46 2 6).toInt := p0r_45.2.1.2.1
              have lM_46_4 : g_40 4 = (tI M_46 1 4).toInt := p0r_45.2.2.1.1
              have lM_46_7 : g_40 7 = (tI M_46 t 4).toInt := p0r_45.2.2.2.1.1
              have lM_46_8 : g_40 8 = (tI M_46 t 5).toInt := p0r_45.2.2.2.1.2.1
              obtain ⟨x_49, ex_49⟩ : ∃ z : Int32, z = x_31 + 1 := ⟨_, rfl⟩
              have tx_49 : x_49.toInt = x_31.toInt + 1 := i_add ex_49 rfl (by decide) (by omega) (by omega)
              refine lv_iinc (v := x_49) (lv' := [(3, .int x_49), (2, .int x_1), (0, .ref (A 1 0)), (1, .int 8)]) hx hb dX4_readNegated_51 hl (k := 0) rfl (by rw [ex_49]; rfl) (by decide) rfl (fun ls hl => ?_)
              refine lv_goto (tgt := 37) hx hb dX4_readNegated_54 (by decide) ?_
              exact ih_43 x_49 M_46 g_40 _ _ _ (by omega) (by first | omega | decide) (by first | omega | decide) iM_46 ((q_47).trans f_35) (f0.trans (f0_x q_48) f_36) (((q_48 1).2.1).trans f_37) ((tT_fr q_47).trans f_38) ((tT_fr q_47).trans f_39) p0r_45 j_42 hw (lv_sub hl [0, 1, 2, 3] rfl)
        exact hl_37_42 ((65 - 0 : Int).toNat + 1) 0 M_26 g_30 _ _ _ (Nat.lt_succ_self _) (by have lt0 : (0 : Int32).toInt = 0 := (by decide); first | omega | decide) (by have lt0 : (0 : Int32).toInt = 0 := (by decide); first | omega | decide) iM_26 ((q_27).trans f_5) (f0.trans q_28 f_6) ((q_29).trans f_7) ((tT_fr q_27).trans f_8) ((tT_fr q_27).trans f_9) p0r_25 rfl hw (lv_sub hl [0, 1, 2, 3] rfl)
      refine sb_icmp_gt (tgt := 30) hx hb rfl (by decide : (64 : Int32).toInt = 64) dX4_readNegated_5 (by decide) (fun c_5_13 => ?_) (fun c_5_13 => ?_)
      · exact hj_30_24  _ _ _ (by rw [j_12, lp_end (P := pp_qN) (f := 65 - x_1.toInt.toNat) (s := g_10) (Or.inl (by omega))]) hw (lv_sub hl [0, 1, 2] rfl)
      · refine lv_aload_n hx hb dX4_readNegated_8 rfl (lv_at hl 1 rfl) ?_
        refine ti_get (ci := 4) (k := 0) (N := 6) (T := TX4) (v := .ref (A 2 0)) C hw iw_4 rfl ob_1 (by decide) (by decide) fl_X4_12 rfl rfl dX4_readNegated_9 ?_
        refine ti_get (ci := 7) (k := 4) (N := 7) (T := TX7) C hw iw_7 rfl ob_2 (by decide) (by decide) fl_X4_41 rfl rfl dX4_readNegated_12 ?_
        refine lv_topi (fun x_15 ex_15 => ?_)
        have bx_15 : 0 ≤ x_15.toInt ∧ x_15.toInt ≤ 41 := cI_rd iM_4 ob_2.1 ex_15
        have ux_15 : (tI M_4 2 4).toInt = x_15.toInt := by rw [ex_15]
        refine lv_bipush (v := 24) hx hb dX4_readNegated_15 (by decide) ?_
        refine sb_icmp_ne (tgt := 30) hx hb rfl (by decide : (24 : Int32).toInt = 24) dX4_readNegated_17 (by decide) (fun c_17_15 => ?_) (fun c_17_15 => ?_)
        · exact hj_30_24  _ _ _ (by rw [j_12, lp_end (P := pp_qN) (f := 65 - x_1.toInt.toNat) (s := g_10) (Or.inr (decide_eq_false (by omega)))]) hw (lv_sub hl [0, 1, 2] rfl)
        · refine lv_aload_n hx hb dX4_readNegated_20 rfl (lv_at hl 1 rfl) ?_
          refine ti_callVvE (ci := 4) (av := []) C hE hw (x_X4_knot l D A cy hJ M_4 iM_4 t ht (f_8) B n g_10 hs_11) ⟨ml_X4_167, ym_X4_knot, yv_X4_knot, yi_X4_knot, yc_X4_knot⟩ yd_X4_knot ob_1 (by decide) rfl rfl hl.1 (Nat.le_of_ble_eq_true rfl) ⟨by decide, by decide⟩ ⟨Nat.zero_le _, Nat.zero_le _⟩ dX4_readNegated_21 (fun M_18 H locs hp_18 hw => ?_)
          obtain ⟨iM_18, q_19, q_20, q_21, p0r_17⟩ := hp_18
          obtain ⟨g_22, eg_22⟩ : ∃ z : Nat → Int, z = pp_kn B n g_10 := ⟨_, rfl⟩
          rw [← eg_22] at p0r_17
          have lg_22_0 : g_22 0 = (tI M_18 2 4).toInt := p0r_17.2.1.1
          have lg_22_1 : g_22 1 = (tI M_18 2 6).toInt := p0r_17.2.1.2.1
          have lg_22_4 : g_22 4 = (tI M_18 1 4).toInt := p0r_17.2.2.1.1
          have lg_22_7 : g_22 7 = (tI M_18 t 4).toInt := p0r_17.2.2.2.1.1
          have lg_22_8 : g_22 8 = (tI M_18 t 5).toInt := p0r_17.2.2.2.1.2.1
          obtain ⟨x_23, ex_23⟩ : ∃ z : Int32, z = x_1 + 1 := ⟨_, rfl⟩
          have tx_23 : x_23.toInt = x_1.toInt + 1 := i_add ex_23 rfl (by decide) (by omega) (by omega)
          refine lv_iinc (v := x_23) (lv' := [(2, .int x_23), (0, .ref (A 1 0)), (1, .int 8)]) hx hb dX4_readNegated_24 hl (k := 0) rfl (by rw [ex_23]; rfl) (by decide) rfl (fun ls hl => ?_)
          refine lv_goto (tgt := 2) hx hb dX4_readNegated_27 (by decide) ?_
          exact ih_13 x_23 M_18 g_22 _ _ _ (by omega) (by first | omega | decide) (by first | omega | decide) iM_18 ((q_19).trans f_5) (f0.trans q_20 f_6) ((q_21).trans f_7) ((tT_fr q_19).trans f_8) ((tT_fr q_19).trans f_9) p0r_17 (j_12.trans (lp_step (decide_eq_true (by omega)) (by rw [eg_22]) (by omega))) hw (lv_sub hl [0, 1, 2] rfl)
  exact hl_2_12 ((65 - 0 : Int).toNat + 1) 0 M rg _ _ _ (Nat.lt_succ_self _) (by have lt0 : (0 : Int32).toInt = 0 := (by decide); first | omega | decide) (by have lt0 : (0 : Int32).toInt = 0 := (by decide); first | omega | decide) hI rfl f0.refl rfl (hT) (hL) hr rfl hw (lv_sub hl [0, 1, 2] rfl)
set_option maxHeartbeats 4000000 in
set_option maxRecDepth 100000 in
theorem x_X4_readBoth_8 (l : Launch) (D : va_G) (A : Nat → Nat → Nat) (cy : Nat → ClassId) (hJ : ti_inj ti_LT A) (M : ti_M) (hI : cI M) (t : Nat) (ht : t = 3 ∨ t = 4) (hT : tT M 1 1 = some t) (lw : Nat) (hlw : ti_ob ti_LT lw 1) (hL : tT M 1 2 = some lw) (B : Nat → Int) (n : Nat) (rg : Nat → Int) (hr : rC B n t rg M) : ti_KvE l yX4_readBoth cX4_readBoth 3 13 ti_LT D A cy M [.ref (A 1 0), .int 8] (fun M2 => cI M2 ∧ M2.2.2.2 = M.2.2.2 ∧ f0 M2 M ∧ tI M2 2 1 = tI M 2 1 ∧ rC B n t (pp_bo B n (pp_pt B n 0) rg) M2) := by
  refine ti_eVE yp_X4_readBoth hJ ti_LT_nd (Nat.le_of_ble_eq_true rfl) ?_
  intro p e s m args below meth c Q H0 C hE hQ hw ls hl
  have hx := C.1
  have hb := C.2.1
  have hl : lv_has ls 3 [(0, .ref (A 1 0)), (1, .int 8)] := hl
  have l0 : rg 0 = (tI M 2 4).toInt := hr.2.1.1
  have l1 : rg 1 = (tI M 2 6).toInt := hr.2.1.2.1
  have l2 : rg 2 = (tI M 2 5).toInt := hr.2.1.2.2.1
  have l3 : rg 3 = (tI M 2 3).toInt := hr.2.1.2.2.2
  have l4 : rg 4 = (tI M 1 4).toInt := hr.2.2.1.1
  have l5 : rg 5 = (tI M 1 5).toInt := hr.2.2.1.2.1
  have l7 : rg 7 = (tI M t 4).toInt := hr.2.2.2.1.1
  have l8 : rg 8 = (tI M t 5).toInt := hr.2.2.2.1.2.1
  have l9 : rg 9 = (tI M t 3).toInt := hr.2.2.2.1.2.2
  refine lv_aload_n hx hb dX4_readBoth_0 rfl (lv_at hl 0 rfl) ?_
  refine lv_iload_n hx hb dX4_readBoth_1 rfl (lv_at hl 1 rfl) ?_
  refine ti_callVvE (ci := 4) (av := [.int 8]) C hE hw (x_X4_readNegated_8 l D A cy hJ M hI t ht (hT) lw hlw (hL) B n rg hr) ⟨ml_X4_175, ym_X4_readNegated, yv_X4_readNegated, yi_X4_readNegated, yc_X4_readNegated⟩ yd_X4_readNegated ob_1 (by decide) rfl rfl hl.1 (Nat.le_of_ble_eq_true rfl) ⟨by decide, by decide⟩ ⟨Nat.zero_le _, Nat.zero_le _⟩ dX4_readBoth_2 (fun M_2 H locs hp_2 hw => ?_)
  obtain ⟨iM_2, q_3, q_4, q_5, p0r_1⟩ := hp_2
  obtain ⟨g_6, eg_6⟩ : ∃ z : Nat → Int, z = pp_ng B n (pp_pt B n 0) rg := ⟨_, rfl⟩
  rw [← eg_6] at p0r_1
  have lg_6_0 : g_6 0 = (tI M_2 2 4).toInt := p0r_1.2.1.1
  have lg_6_1 : g_6 1 = (tI M_2 2 6).toInt := p0r_1.2.1.2.1
  have lg_6_4 : g_6 4 = (tI M_2 1 4).toInt := p0r_1.2.2.1.1
  have lg_6_7 : g_6 7 = (tI M_2 t 4).toInt := p0r_1.2.2.2.1.1
  have lg_6_8 : g_6 8 = (tI M_2 t 5).toInt := p0r_1.2.2.2.1.2.1
  refine lv_iconst (v := 0) hx hb dX4_readBoth_5 (by decide) ?_
  refine lv_istore_n (lv' := [(2, .int 0), (0, .ref (A 1 0)), (1, .int 8)]) hx hb dX4_readBoth_6 rfl hl (by decide) rfl (fun ls hl => ?_)
  have hl_7_18 : ∀ (n_19 : Nat) (x_7 : Int32) (M_10 : ti_M) (g_16 : Nat → Int) (H : Heap) (locs : List Loc) (ls : Array Slot), (64 - x_7.toInt : Int).toNat < n_19 → (0 ≤ x_7.toInt) → (x_7.toInt ≤ 64) → (cI M_10) → (M_10.2.2.2 = M.2.2.2) → (f0 M_10 M) → (tI M_10 2 1 = tI M 2 1) → (tT M_10 1 1 = (some t)) → (tT M_10 1 2 = (some lw)) → (rC B n t g_16 M_10) → (pp_lp pp_qA (fun s => pp_ng B n (pp_pt B n 0) (pp_kn B n s)) 64 g_6 = pp_lp pp_qA (fun s => pp_ng B n (pp_pt B n 0) (pp_kn B n s)) (64 - (x_7.toInt).toNat) g_16) → ti_H ti_LT D A cy H0 M_10 H locs → lv_has ls 3 [(2, .int x_7), (0, .ref (A 1 0)), (1, .int 8)] → W p l e (ti_rm 13) s m args below meth c H locs 0 0 Q (F0 m 7 ls []) := by
    intro n_19
    induction n_19 with
    | zero => intro x_7 M_10 g_16 H locs ls hf_19; exact absurd hf_19 (Nat.not_lt_zero _)
    | succ n_19 ih_19 =>
      intro x_7 M_10 g_16 H locs ls hf_19 b_8 b_9 iM_10 f_11 f_12 f_13 f_14 f_15 hs_17 j_18 hw hl
      have lg_16_0 : g_16 0 = (tI M_10 2 4).toInt := hs_17.2.1.1
      have lg_16_1 : g_16 1 = (tI M_10 2 6).toInt := hs_17.2.1.2.1
      have lg_16_4 : g_16 4 = (tI M_10 1 4).toInt := hs_17.2.2.1.1
      have lg_16_7 : g_16 7 = (tI M_10 t 4).toInt := hs_17.2.2.2.1.1
      have lg_16_8 : g_16 8 = (tI M_10 t 5).toInt := hs_17.2.2.2.1.2.1
      refine lv_iload_n hx hb dX4_readBoth_7 rfl (lv_at hl 0 rfl) ?_
      refine lv_bipush (v := 64) hx hb dX4_readBoth_8 (by decide) ?_
      refine sb_icmp_ge (tgt := 49) hx hb rfl (by decide : (64 : Int32).toInt = 64) dX4_readBoth_10 (by decide) (fun c_10_19 => ?_) (fun c_10_19 => ?_)
      · exact hQ _ _ _ _ _ hw (⟨iM_10, (f_11), f_12, (f_13), (by unfold pp_bo; rw [← eg_6, j_18, lp_end (P := pp_qA) (f := 64 - x_7.toInt.toNat) (s := g_16) (Or.inl (by omega))]; exact hs_17)⟩) dX4_readBoth_49
      · refine lv_aload_n hx hb dX4_readBoth_13 rfl (lv_at hl 1 rfl) ?_
        refine ti_get (ci := 4) (k := 0) (N := 6) (T := TX4) (v := .ref (A 2 0)) C hw iw_4 rfl ob_1 (by decide) (by decide) fl_X4_12 rfl rfl dX4_readBoth_14 ?_
        refine ti_get (ci := 7) (k := 4) (N := 7) (T := TX7) C hw iw_7 rfl ob_2 (by decide) (by decide) fl_X4_41 rfl rfl dX4_readBoth_17 ?_
        refine lv_topi (fun x_21 ex_21 => ?_)
        have bx_21 : 0 ≤ x_21.toInt ∧ x_21.toInt ≤ 41 := cI_rd iM_10 ob_2.1 ex_21
        have ux_21 : (tI M_10 2 4).toInt = x_21.toInt := by rw [ex_21]
        refine lv_bipush (v := 22) hx hb dX4_readBoth_20 (by decide) ?_
        refine sb_icmp_ne (tgt := 49) hx hb rfl (by decide : (22 : Int32).toInt = 22) dX4_readBoth_22 (by decide) (fun c_22_21 => ?_) (fun c_22_21 => ?_)
        · exact hQ _ _ _ _ _ hw (⟨iM_10, (f_11), f_12, (f_13), (by unfold pp_bo; rw [← eg_6, j_18, lp_end (P := pp_qA) (f := 64 - x_7.toInt.toNat) (s := g_16) (Or.inr (decide_eq_false (by omega)))]; exact hs_17)⟩) dX4_readBoth_49
        · refine lv_aload_n hx hb dX4_readBoth_25 rfl (lv_at hl 1 rfl) ?_
          refine ti_callVvE (ci := 4) (av := []) C hE hw (x_X4_knot l D A cy hJ M_10 iM_10 t ht (f_14) B n g_16 hs_17) ⟨ml_X4_167, ym_X4_knot, yv_X4_knot, yi_X4_knot, yc_X4_knot⟩ yd_X4_knot ob_1 (by decide) rfl rfl hl.1 (Nat.le_of_ble_eq_true rfl) ⟨by decide, by decide⟩ ⟨Nat.zero_le _, Nat.zero_le _⟩ dX4_readBoth_26 (fun M_24 H locs hp_24 hw => ?_)
          obtain ⟨iM_24, q_25, q_26, q_27, p0r_23⟩ := hp_24
          obtain ⟨g_28, eg_28⟩ : ∃ z : Nat → Int, z = pp_kn B n g_16 := ⟨_, rfl⟩
          rw [← eg_28] at p0r_23
          have lg_28_0 : g_28 0 = (tI M_24 2 4).toInt := p0r_23.2.1.1
          have lg_28_1 : g_28 1 = (tI M_24 2 6).toInt := p0r_23.2.1.2.1
          have lg_28_4 : g_28 4 = (tI M_24 1 4).toInt := p0r_23.2.2.1.1
          have lg_28_7 : g_28 7 = (tI M_24 t 4).toInt := p0r_23.2.2.2.1.1
          have lg_28_8 : g_28 8 = (tI M_24 t 5).toInt := p0r_23.2.2.2.1.2.1
          refine lv_aload_n hx hb dX4_readBoth_29 rfl (lv_at hl 1 rfl) ?_
          refine lv_iload_n hx hb dX4_readBoth_30 rfl (lv_at hl 2 rfl) ?_
          refine ti_callVvE (ci := 4) (av := [.int 8]) C hE hw (x_X4_readNegated_8 l D A cy hJ M_24 iM_24 t ht ((tT_fr q_25).trans f_14) lw hlw ((tT_fr q_25).trans f_15) B n g_28 p0r_23) ⟨ml_X4_175, ym_X4_readNegated, yv_X4_readNegated, yi_X4_readNegated, yc_X4_readNegated⟩ yd_X4_readNegated ob_1 (by decide) rfl rfl hl.1 (Nat.le_of_ble_eq_true rfl) ⟨by decide, by decide⟩ ⟨Nat.zero_le _, Nat.zero_le _⟩ dX4_readBoth_31 (fun M_30 H locs hp_30 hw => ?_)
          obtain ⟨iM_30, q_31, q_32, q_33, p0r_29⟩ := hp_30
          obtain ⟨g_34, eg_34⟩ : ∃ z : Nat → Int, z = pp_ng B n (pp_pt B n 0) g_28 := ⟨_, rfl⟩
          rw [← eg_34] at p0r_29
          have lg_34_0 : g_34 0 = (tI M_30 2 4).toInt := p0r_29.2.1.1
          have lg_34_1 : g_34 1 = (tI M_30 2 6).toInt := p0r_29.2.1.2.1
          have lg_34_4 : g_34 4 = (tI M_30 1 4).toInt := p0r_29.2.2.1.1
          have lg_34_7 : g_34 7 = (tI M_30 t 4).toInt := p0r_29.2.2.2.1.1
          have lg_34_8 : g_34 8 = (tI M_30 t 5).toInt := p0r_29.2.2.2.1.2.1
          refine lv_aload_n hx hb dX4_readBoth_34 rfl (lv_at hl 1 rfl) ?_
          refine ti_get (ci := 4) (k := 2) (N := 6) (T := TX4) (v := .ref (A lw 0)) C hw iw_4 rfl ob_1 (by decide) (by decide) fl_X4_154 rfl (ti_Tv ((tT_fr q_31).trans ((tT_fr q_25).trans f_15))) dX4_readBoth_35 ?_
          refine lv_bipush (v := (-22)) hx hb dX4_readBoth_38 (by decide) ?_
          refine ti_callVv (ci := 1) (av := [.int (-22)]) C hw (x_X1_add l D A cy hJ M_30 iM_30 lw hlw (-22) (by first | omega | exact Or.inl (by decide) | exact Or.inr (by decide)) t ht B n g_34 p0r_29) ⟨ml_X4_170, ym_X1_add, yv_X1_add, yi_X1_add, yc_X1_add⟩ yd_X1_add hlw (by decide) rfl rfl hl.1 (Nat.le_of_ble_eq_true rfl) ⟨by decide, by decide⟩ ⟨Nat.zero_le _, Nat.zero_le _⟩ dX4_readBoth_40 (fun M_36 H locs hp_36 hw => ?_)
          obtain ⟨iM_36, q_37, q_38, p0r_35⟩ := hp_36
          have lM_36_0 : g_34 0 = (tI M_36 2 4).toInt := p0r_35.2.1.1
          have lM_36_1 : g_34 1 = (tI M_36 2 6).toInt := p0r_35.2.1.2.1
          have lM_36_4 : g_34 4 = (tI M_36 1 4).toInt := p0r_35.2.2.1.1
          have lM_36_7 : g_34 7 = (tI M_36 t 4).toInt := p0r_35.2.2.2.1.1
          have lM_36_8 : g_34 8 = (tI M_36 t 5).toInt := p0r_35.2.2.2.1.2.1
          obtain ⟨x_39, ex_39⟩ : ∃ z : Int32, z = x_7 + 1 := ⟨_, rfl⟩
          have tx_39 : x_39.toInt = x_7.toInt + 1 := i_add ex_39 rfl (by decide) (by omega) (by omega)
          refine lv_iinc (v := x_39) (lv' := [(2, .int x_39), (0, .ref (A 1 0)), (1, .int 8)]) hx hb dX4_readBoth_43 hl (k := 0) rfl (by rw [ex_39]; rfl) (by decide) rfl (fun ls hl => ?_)
          refine lv_goto (tgt := 7) hx hb dX4_readBoth_46 (by decide) ?_
          exact ih_19 x_39 M_36 g_34 _ _ _ (by omega) (by first | omega | decide) (by first | omega | decide) iM_36 ((q_37).trans ((q_31).trans ((q_25).trans f_11))) (f0.trans (f0_x q_38) (f0.trans q_32 (f0.trans q_26 f_12))) (((q_38 1).2.1).trans ((q_33).trans ((q_27).trans f_13))) ((tT_fr q_37).trans ((tT_fr q_31).trans ((tT_fr q_25).trans f_14))) ((tT_fr q_37).trans ((tT_fr q_31).trans ((tT_fr q_25).trans f_15))) p0r_35 (j_18.trans (lp_step (decide_eq_true (by omega)) (by rw [eg_34, eg_28]) (by omega))) hw (lv_sub hl [0, 1, 2] rfl)
  exact hl_7_18 ((64 - 0 : Int).toNat + 1) 0 M_2 g_6 _ _ _ (Nat.lt_succ_self _) (by have lt0 : (0 : Int32).toInt = 0 := (by decide); first | omega | decide) (by have lt0 : (0 : Int32).toInt = 0 := (by decide); first | omega | decide) iM_2 (q_3) q_4 (q_5) ((tT_fr q_3).trans hT) ((tT_fr q_3).trans hL) p0r_1 rfl hw (lv_sub hl [0, 1, 2] rfl)
set_option maxHeartbeats 4000000 in
set_option maxRecDepth 100000 in
theorem x_X4_readEither_8 (l : Launch) (D : va_G) (A : Nat → Nat → Nat) (cy : Nat → ClassId) (hJ : ti_inj ti_LT A) (M : ti_M) (hI : cI M) (t : Nat) (ht : t = 3 ∨ t = 4) (hT : tT M 1 1 = some t) (lw : Nat) (hlw : ti_ob ti_LT lw 1) (hL : tT M 1 2 = some lw) (B : Nat → Int) (n : Nat) (rg : Nat → Int) (hr : rC B n t rg M) : ti_KvE l yX4_readEither cX4_readEither 3 14 ti_LT D A cy M [.ref (A 1 0), .int 8] (fun M2 => cI M2 ∧ M2.2.2.2 = M.2.2.2 ∧ f0 M2 M ∧ tI M2 2 1 = tI M 2 1 ∧ rC B n t (pp_ei B n (pp_pt B n 0) rg) M2) := by
  refine ti_eVE yp_X4_readEither hJ ti_LT_nd (Nat.le_of_ble_eq_true rfl) ?_
  intro p e s m args below meth c Q H0 C hE hQ hw ls hl
  have hx := C.1
  have hb := C.2.1
  have hl : lv_has ls 3 [(0, .ref (A 1 0)), (1, .int 8)] := hl
  have l0 : rg 0 = (tI M 2 4).toInt := hr.2.1.1
  have l1 : rg 1 = (tI M 2 6).toInt := hr.2.1.2.1
  have l2 : rg 2 = (tI M 2 5).toInt := hr.2.1.2.2.1
  have l3 : rg 3 = (tI M 2 3).toInt := hr.2.1.2.2.2
  have l4 : rg 4 = (tI M 1 4).toInt := hr.2.2.1.1
  have l5 : rg 5 = (tI M 1 5).toInt := hr.2.2.1.2.1
  have l7 : rg 7 = (tI M t 4).toInt := hr.2.2.2.1.1
  have l8 : rg 8 = (tI M t 5).toInt := hr.2.2.2.1.2.1
  have l9 : rg 9 = (tI M t 3).toInt := hr.2.2.2.1.2.2
  refine lv_aload_n hx hb dX4_readEither_0 rfl (lv_at hl 0 rfl) ?_
  refine lv_iload_n hx hb dX4_readEither_1 rfl (lv_at hl 1 rfl) ?_
  refine ti_callVvE (ci := 4) (av := [.int 8]) C hE hw (x_X4_readBoth_8 l D A cy hJ M hI t ht (hT) lw hlw (hL) B n rg hr) ⟨ml_X4_164, ym_X4_readBoth, yv_X4_readBoth, yi_X4_readBoth, yc_X4_readBoth⟩ yd_X4_readBoth ob_1 (by decide) rfl rfl hl.1 (Nat.le_of_ble_eq_true rfl) ⟨by decide, by decide⟩ ⟨Nat.zero_le _, Nat.zero_le _⟩ dX4_readEither_2 (fun M_2 H locs hp_2 hw => ?_)
  obtain ⟨iM_2, q_3, q_4, q_5, p0r_1⟩ := hp_2
  obtain ⟨g_6, eg_6⟩ : ∃ z : Nat → Int, z = pp_bo B n (pp_pt B n 0) rg := ⟨_, rfl⟩
  rw [← eg_6] at p0r_1
  have lg_6_0 : g_6 0 = (tI M_2 2 4).toInt := p0r_1.2.1.1
  have lg_6_1 : g_6 1 = (tI M_2 2 6).toInt := p0r_1.2.1.2.1
  have lg_6_4 : g_6 4 = (tI M_2 1 4).toInt := p0r_1.2.2.1.1
  have lg_6_7 : g_6 7 = (tI M_2 t 4).toInt := p0r_1.2.2.2.1.1
  have lg_6_8 : g_6 8 = (tI M_2 t 5).toInt := p0r_1.2.2.2.1.2.1
  refine lv_iconst (v := 0) hx hb dX4_readEither_5 (by decide) ?_
  refine lv_istore_n (lv' := [(2, .int 0), (0, .ref (A 1 0)), (1, .int 8)]) hx hb dX4_readEither_6 rfl hl (by decide) rfl (fun ls hl => ?_)
  have hl_7_18 : ∀ (n_19 : Nat) (x_7 : Int32) (M_10 : ti_M) (g_16 : Nat → Int) (H : Heap) (locs : List Loc) (ls : Array Slot), (64 - x_7.toInt : Int).toNat < n_19 → (0 ≤ x_7.toInt) → (x_7.toInt ≤ 64) → (cI M_10) → (M_10.2.2.2 = M.2.2.2) → (f0 M_10 M) → (tI M_10 2 1 = tI M 2 1) → (tT M_10 1 1 = (some t)) → (tT M_10 1 2 = (some lw)) → (rC B n t g_16 M_10) → (pp_lp pp_qO (fun s => pp_bo B n (pp_pt B n 0) (pp_kn B n s)) 64 g_6 = pp_lp pp_qO (fun s => pp_bo B n (pp_pt B n 0) (pp_kn B n s)) (64 - (x_7.toInt).toNat) g_16) → ti_H ti_LT D A cy H0 M_10 H locs → lv_has ls 3 [(2, .int x_7), (0, .ref (A 1 0)), (1, .int 8)] → W p l e (ti_rm 14) s m args below meth c H locs 0 0 Q (F0 m 7 ls []) := by
    intro n_19
    induction n_19 with
    | zero => intro x_7 M_10 g_16 H locs ls hf_19; exact absurd hf_19 (Nat.not_lt_zero _)
    | succ n_19 ih_19 =>
      intro x_7 M_10 g_16 H locs ls hf_19 b_8 b_9 iM_10 f_11 f_12 f_13 f_14 f_15 hs_17 j_18 hw hl
      have lg_16_0 : g_16 0 = (tI M_10 2 4).toInt := hs_17.2.1.1
      have lg_16_1 : g_16 1 = (tI M_10 2 6).toInt := hs_17.2.1.2.1
      have lg_16_4 : g_16 4 = (tI M_10 1 4).toInt := hs_17.2.2.1.1
      have lg_16_7 : g_16 7 = (tI M_10 t 4).toInt := hs_17.2.2.2.1.1
      have lg_16_8 : g_16 8 = (tI M_10 t 5).toInt := hs_17.2.2.2.1.2.1
      refine lv_iload_n hx hb dX4_readEither_7 rfl (lv_at hl 0 rfl) ?_
      refine lv_bipush (v := 64) hx hb dX4_readEither_8 (by decide) ?_
      refine sb_icmp_ge (tgt := 49) hx hb rfl (by decide : (64 : Int32).toInt = 64) dX4_readEither_10 (by decide) (fun c_10_19 => ?_) (fun c_10_19 => ?_)
      · exact hQ _ _ _ _ _ hw (⟨iM_10, (f_11), f_12, (f_13), (by unfold pp_ei; rw [← eg_6, j_18, lp_end (P := pp_qO) (f := 64 - x_7.toInt.toNat) (s := g_16) (Or.inl (by omega))]; exact hs_17)⟩) dX4_readEither_49
      · refine lv_aload_n hx hb dX4_readEither_13 rfl (lv_at hl 1 rfl) ?_
        refine ti_get (ci := 4) (k := 0) (N := 6) (T := TX4) (v := .ref (A 2 0)) C hw iw_4 rfl ob_1 (by decide) (by decide) fl_X4_12 rfl rfl dX4_readEither_14 ?_
        refine ti_get (ci := 7) (k := 4) (N := 7) (T := TX7) C hw iw_7 rfl ob_2 (by decide) (by decide) fl_X4_41 rfl rfl dX4_readEither_17 ?_
        refine lv_topi (fun x_21 ex_21 => ?_)
        have bx_21 : 0 ≤ x_21.toInt ∧ x_21.toInt ≤ 41 := cI_rd iM_10 ob_2.1 ex_21
        have ux_21 : (tI M_10 2 4).toInt = x_21.toInt := by rw [ex_21]
        refine lv_bipush (v := 23) hx hb dX4_readEither_20 (by decide) ?_
        refine sb_icmp_ne (tgt := 49) hx hb rfl (by decide : (23 : Int32).toInt = 23) dX4_readEither_22 (by decide) (fun c_22_21 => ?_) (fun c_22_21 => ?_)
        · exact hQ _ _ _ _ _ hw (⟨iM_10, (f_11), f_12, (f_13), (by unfold pp_ei; rw [← eg_6, j_18, lp_end (P := pp_qO) (f := 64 - x_7.toInt.toNat) (s := g_16) (Or.inr (decide_eq_false (by omega)))]; exact hs_17)⟩) dX4_readEither_49
        · refine lv_aload_n hx hb dX4_readEither_25 rfl (lv_at hl 1 rfl) ?_
          refine ti_callVvE (ci := 4) (av := []) C hE hw (x_X4_knot l D A cy hJ M_10 iM_10 t ht (f_14) B n g_16 hs_17) ⟨ml_X4_167, ym_X4_knot, yv_X4_knot, yi_X4_knot, yc_X4_knot⟩ yd_X4_knot ob_1 (by decide) rfl rfl hl.1 (Nat.le_of_ble_eq_true rfl) ⟨by decide, by decide⟩ ⟨Nat.zero_le _, Nat.zero_le _⟩ dX4_readEither_26 (fun M_24 H locs hp_24 hw => ?_)
          obtain ⟨iM_24, q_25, q_26, q_27, p0r_23⟩ := hp_24
          obtain ⟨g_28, eg_28⟩ : ∃ z : Nat → Int, z = pp_kn B n g_16 := ⟨_, rfl⟩
          rw [← eg_28] at p0r_23
          have lg_28_0 : g_28 0 = (tI M_24 2 4).toInt := p0r_23.2.1.1
          have lg_28_1 : g_28 1 = (tI M_24 2 6).toInt := p0r_23.2.1.2.1
          have lg_28_4 : g_28 4 = (tI M_24 1 4).toInt := p0r_23.2.2.1.1
          have lg_28_7 : g_28 7 = (tI M_24 t 4).toInt := p0r_23.2.2.2.1.1
          have lg_28_8 : g_28 8 = (tI M_24 t 5).toInt := p0r_23.2.2.2.1.2.1
          refine lv_aload_n hx hb dX4_readEither_29 rfl (lv_at hl 1 rfl) ?_
          refine lv_iload_n hx hb dX4_readEither_30 rfl (lv_at hl 2 rfl) ?_
          refine ti_callVvE (ci := 4) (av := [.int 8]) C hE hw (x_X4_readBoth_8 l D A cy hJ M_24 iM_24 t ht ((tT_fr q_25).trans f_14) lw hlw ((tT_fr q_25).trans f_15) B n g_28 p0r_23) ⟨ml_X4_164, ym_X4_readBoth, yv_X4_readBoth, yi_X4_readBoth, yc_X4_readBoth⟩ yd_X4_readBoth ob_1 (by decide) rfl rfl hl.1 (Nat.le_of_ble_eq_true rfl) ⟨by decide, by decide⟩ ⟨Nat.zero_le _, Nat.zero_le _⟩ dX4_readEither_31 (fun M_30 H locs hp_30 hw => ?_)
          obtain ⟨iM_30, q_31, q_32, q_33, p0r_29⟩ := hp_30
          obtain ⟨g_34, eg_34⟩ : ∃ z : Nat → Int, z = pp_bo B n (pp_pt B n 0) g_28 := ⟨_, rfl⟩
          rw [← eg_34] at p0r_29
          have lg_34_0 : g_34 0 = (tI M_30 2 4).toInt := p0r_29.2.1.1
          have lg_34_1 : g_34 1 = (tI M_30 2 6).toInt := p0r_29.2.1.2.1
          have lg_34_4 : g_34 4 = (tI M_30 1 4).toInt := p0r_29.2.2.1.1
          have lg_34_7 : g_34 7 = (tI M_30 t 4).toInt := p0r_29.2.2.2.1.1
          have lg_34_8 : g_34 8 = (tI M_30 t 5).toInt := p0r_29.2.2.2.1.2.1
          refine lv_aload_n hx hb dX4_readEither_34 rfl (lv_at hl 1 rfl) ?_
          refine ti_get (ci := 4) (k := 2) (N := 6) (T := TX4) (v := .ref (A lw 0)) C hw iw_4 rfl ob_1 (by decide) (by decide) fl_X4_154 rfl (ti_Tv ((tT_fr q_31).trans ((tT_fr q_25).trans f_15))) dX4_readEither_35 ?_
          refine lv_bipush (v := (-23)) hx hb dX4_readEither_38 (by decide) ?_
          refine ti_callVv (ci := 1) (av := [.int (-23)]) C hw (x_X1_add l D A cy hJ M_30 iM_30 lw hlw (-23) (by first | omega | exact Or.inl (by decide) | exact Or.inr (by decide)) t ht B n g_34 p0r_29) ⟨ml_X4_170, ym_X1_add, yv_X1_add, yi_X1_add, yc_X1_add⟩ yd_X1_add hlw (by decide) rfl rfl hl.1 (Nat.le_of_ble_eq_true rfl) ⟨by decide, by decide⟩ ⟨Nat.zero_le _, Nat.zero_le _⟩ dX4_readEither_40 (fun M_36 H locs hp_36 hw => ?_)
          obtain ⟨iM_36, q_37, q_38, p0r_35⟩ := hp_36
          have lM_36_0 : g_34 0 = (tI M_36 2 4).toInt := p0r_35.2.1.1
          have lM_36_1 : g_34 1 = (tI M_36 2 6).toInt := p0r_35.2.1.2.1
          have lM_36_4 : g_34 4 = (tI M_36 1 4).toInt := p0r_35.2.2.1.1
          have lM_36_7 : g_34 7 = (tI M_36 t 4).toInt := p0r_35.2.2.2.1.1
          have lM_36_8 : g_34 8 = (tI M_36 t 5).toInt := p0r_35.2.2.2.1.2.1
          obtain ⟨x_39, ex_39⟩ : ∃ z : Int32, z = x_7 + 1 := ⟨_, rfl⟩
          have tx_39 : x_39.toInt = x_7.toInt + 1 := i_add ex_39 rfl (by decide) (by omega) (by omega)
          refine lv_iinc (v := x_39) (lv' := [(2, .int x_39), (0, .ref (A 1 0)), (1, .int 8)]) hx hb dX4_readEither_43 hl (k := 0) rfl (by rw [ex_39]; rfl) (by decide) rfl (fun ls hl => ?_)
          refine lv_goto (tgt := 7) hx hb dX4_readEither_46 (by decide) ?_
          exact ih_19 x_39 M_36 g_34 _ _ _ (by omega) (by first | omega | decide) (by first | omega | decide) iM_36 ((q_37).trans ((q_31).trans ((q_25).trans f_11))) (f0.trans (f0_x q_38) (f0.trans q_32 (f0.trans q_26 f_12))) (((q_38 1).2.1).trans ((q_33).trans ((q_27).trans f_13))) ((tT_fr q_37).trans ((tT_fr q_31).trans ((tT_fr q_25).trans f_14))) ((tT_fr q_37).trans ((tT_fr q_31).trans ((tT_fr q_25).trans f_15))) p0r_35 (j_18.trans (lp_step (decide_eq_true (by omega)) (by rw [eg_34, eg_28]) (by omega))) hw (lv_sub hl [0, 1, 2] rfl)
  exact hl_7_18 ((64 - 0 : Int).toNat + 1) 0 M_2 g_6 _ _ _ (Nat.lt_succ_self _) (by have lt0 : (0 : Int32).toInt = 0 := (by decide); first | omega | decide) (by have lt0 : (0 : Int32).toInt = 0 := (by decide); first | omega | decide) iM_2 (q_3) q_4 (q_5) ((tT_fr q_3).trans hT) ((tT_fr q_3).trans hL) p0r_1 rfl hw (lv_sub hl [0, 1, 2] rfl)
set_option maxHeartbeats 4000000 in
set_option maxRecDepth 100000 in
theorem x_X4_readPart_7 (l : Launch) (D : va_G) (A : Nat → Nat → Nat) (cy : Nat → ClassId) (hJ : ti_inj ti_LT A) (M : ti_M) (hI : cI M) (t : Nat) (ht : t = 3 ∨ t = 4) (hT : tT M 1 1 = some t) (lw : Nat) (hlw : ti_ob ti_LT lw 1) (hL : tT M 1 2 = some lw) (B : Nat → Int) (n : Nat) (rg : Nat → Int) (hr : rC B n t rg M) : ti_KvE l yX4_readPart cX4_readPart 3 15 ti_LT D A cy M [.ref (A 1 0), .int 7] (fun M2 => cI M2 ∧ M2.2.2.2 = M.2.2.2 ∧ f0 M2 M ∧ tI M2 2 1 = tI M 2 1 ∧ rC B n t (pp_pt B n 1 rg) M2) := by
  refine ti_eVE yp_X4_readPart hJ ti_LT_nd (Nat.le_of_ble_eq_true rfl) ?_
  intro p e s m args below meth c Q H0 C hE hQ hw ls hl
  have hx := C.1
  have hb := C.2.1
  have hl : lv_has ls 3 [(0, .ref (A 1 0)), (1, .int 7)] := hl
  have l0 : rg 0 = (tI M 2 4).toInt := hr.2.1.1
  have l1 : rg 1 = (tI M 2 6).toInt := hr.2.1.2.1
  have l2 : rg 2 = (tI M 2 5).toInt := hr.2.1.2.2.1
  have l3 : rg 3 = (tI M 2 3).toInt := hr.2.1.2.2.2
  have l4 : rg 4 = (tI M 1 4).toInt := hr.2.2.1.1
  have l5 : rg 5 = (tI M 1 5).toInt := hr.2.2.1.2.1
  have l7 : rg 7 = (tI M t 4).toInt := hr.2.2.2.1.1
  have l8 : rg 8 = (tI M t 5).toInt := hr.2.2.2.1.2.1
  have l9 : rg 9 = (tI M t 3).toInt := hr.2.2.2.1.2.2
  refine lv_aload_n hx hb dX4_readPart_0 rfl (lv_at hl 0 rfl) ?_
  refine ti_get (ci := 4) (k := 0) (N := 6) (T := TX4) (v := .ref (A 2 0)) C hw iw_4 rfl ob_1 (by decide) (by decide) fl_X4_12 rfl rfl dX4_readPart_1 ?_
  refine ti_get (ci := 7) (k := 4) (N := 7) (T := TX7) C hw iw_7 rfl ob_2 (by decide) (by decide) fl_X4_41 rfl rfl dX4_readPart_4 ?_
  refine lv_topi (fun x_1 ex_1 => ?_)
  have bx_1 : 0 ≤ x_1.toInt ∧ x_1.toInt ≤ 41 := cI_rd hI ob_2.1 ex_1
  have ux_1 : (tI M 2 4).toInt = x_1.toInt := by rw [ex_1]
  refine lv_istore_n (lv' := [(2, .int x_1), (0, .ref (A 1 0)), (1, .int 7)]) hx hb dX4_readPart_7 rfl hl (by decide) rfl (fun ls hl => ?_)
  refine lv_iload_n hx hb dX4_readPart_8 rfl (lv_at hl 0 rfl) ?_
  refine lv_bipush (v := 30) hx hb dX4_readPart_9 (by decide) ?_
  refine sb_icmp_ne (tgt := 28) hx hb rfl (by decide : (30 : Int32).toInt = 30) dX4_readPart_11 (by decide) (fun c_11_1 => ?_) (fun c_11_1 => ?_)
  · refine lv_iload_n hx hb dX4_readPart_28 rfl (lv_at hl 0 rfl) ?_
    refine lv_bipush (v := 30) hx hb dX4_readPart_29 (by decide) ?_
    refine sb_icmp_ne (tgt := 57) hx hb rfl (by decide : (30 : Int32).toInt = 30) dX4_readPart_31 (by decide) (fun c_31_3 => ?_) (fun h => by omega)
    refine lv_iload_n hx hb dX4_readPart_57 rfl (lv_at hl 0 rfl) ?_
    refine lv_bipush (v := 26) hx hb dX4_readPart_58 (by decide) ?_
    refine sb_icmp_ne (tgt := 84) hx hb rfl (by decide : (26 : Int32).toInt = 26) dX4_readPart_60 (by decide) (fun c_60_25 => ?_) (fun c_60_25 => ?_)
    · refine lv_iload_n hx hb dX4_readPart_84 rfl (lv_at hl 0 rfl) ?_
      refine lv_bipush (v := 26) hx hb dX4_readPart_85 (by decide) ?_
      refine sb_icmp_ne (tgt := 111) hx hb rfl (by decide : (26 : Int32).toInt = 26) dX4_readPart_87 (by decide) (fun c_87_34 => ?_) (fun h => by omega)
      refine lv_iload_n hx hb dX4_readPart_111 rfl (lv_at hl 0 rfl) ?_
      refine lv_bipush (v := 16) hx hb dX4_readPart_112 (by decide) ?_
      refine sb_icmp_lt (tgt := 139) hx hb rfl (by decide : (16 : Int32).toInt = 16) dX4_readPart_114 (by decide) (fun c_114_47 => ?_) (fun c_114_47 => ?_)
      · refine lv_aload_n hx hb dX4_readPart_139 rfl (lv_at hl 1 rfl) ?_
        refine lv_iconst (v := 1) hx hb dX4_readPart_140 (by decide) ?_
        refine ti_callVv (ci := 4) (av := [.int 1]) C hw (x_X4_refuse l D A cy hJ M hI t ht 1 B n rg hr) ⟨ml_X4_82, ym_X4_refuse, yv_X4_refuse, yi_X4_refuse, yc_X4_refuse⟩ yd_X4_refuse ob_1 (by decide) rfl rfl hl.1 (Nat.le_of_ble_eq_true rfl) ⟨by decide, by decide⟩ ⟨Nat.zero_le _, Nat.zero_le _⟩ dX4_readPart_141 (fun M_62 H locs hp_62 hw => ?_)
        obtain ⟨iM_62, q_63, q_64, q_65, p0r_61⟩ := hp_62
        have hlr_61_1 : (1 : Int32).toInt = 1 := by decide
        simp only [hlr_61_1] at p0r_61
        obtain ⟨g_66, eg_66⟩ : ∃ z : Nat → Int, z = pp_rf 1 rg := ⟨_, rfl⟩
        rw [← eg_66] at p0r_61
        have lg_66_0 : g_66 0 = (tI M_62 2 4).toInt := p0r_61.2.1.1
        have lg_66_1 : g_66 1 = (tI M_62 2 6).toInt := p0r_61.2.1.2.1
        have lg_66_4 : g_66 4 = (tI M_62 1 4).toInt := p0r_61.2.2.1.1
        have lg_66_7 : g_66 7 = (tI M_62 t 4).toInt := p0r_61.2.2.2.1.1
        have lg_66_8 : g_66 8 = (tI M_62 t 5).toInt := p0r_61.2.2.2.1.2.1
        exact hQ _ _ _ _ _ hw (⟨iM_62, (q_63), (f0_12 q_64), (q_65), (by rw [pe_1, if_neg (by omega)]; unfold pp_p0; rw [if_neg (by omega), if_neg (fun q => by omega), ← eg_66]; exact p0r_61)⟩) dX4_readPart_144
      · refine lv_iload_n hx hb dX4_readPart_117 rfl (lv_at hl 0 rfl) ?_
        refine lv_bipush (v := 21) hx hb dX4_readPart_118 (by decide) ?_
        refine sb_icmp_gt (tgt := 139) hx hb rfl (by decide : (21 : Int32).toInt = 21) dX4_readPart_120 (by decide) (fun c_120_48 => ?_) (fun c_120_48 => ?_)
        · refine lv_aload_n hx hb dX4_readPart_139 rfl (lv_at hl 1 rfl) ?_
          refine lv_iconst (v := 1) hx hb dX4_readPart_140 (by decide) ?_
          refine ti_callVv (ci := 4) (av := [.int 1]) C hw (x_X4_refuse l D A cy hJ M hI t ht 1 B n rg hr) ⟨ml_X4_82, ym_X4_refuse, yv_X4_refuse, yi_X4_refuse, yc_X4_refuse⟩ yd_X4_refuse ob_1 (by decide) rfl rfl hl.1 (Nat.le_of_ble_eq_true rfl) ⟨by decide, by decide⟩ ⟨Nat.zero_le _, Nat.zero_le _⟩ dX4_readPart_141 (fun M_68 H locs hp_68 hw => ?_)
          obtain ⟨iM_68, q_69, q_70, q_71, p0r_67⟩ := hp_68
          have hlr_67_1 : (1 : Int32).toInt = 1 := by decide
          simp only [hlr_67_1] at p0r_67
          obtain ⟨g_72, eg_72⟩ : ∃ z : Nat → Int, z = pp_rf 1 rg := ⟨_, rfl⟩
          rw [← eg_72] at p0r_67
          have lg_72_0 : g_72 0 = (tI M_68 2 4).toInt := p0r_67.2.1.1
          have lg_72_1 : g_72 1 = (tI M_68 2 6).toInt := p0r_67.2.1.2.1
          have lg_72_4 : g_72 4 = (tI M_68 1 4).toInt := p0r_67.2.2.1.1
          have lg_72_7 : g_72 7 = (tI M_68 t 4).toInt := p0r_67.2.2.2.1.1
          have lg_72_8 : g_72 8 = (tI M_68 t 5).toInt := p0r_67.2.2.2.1.2.1
          exact hQ _ _ _ _ _ hw (⟨iM_68, (q_69), (f0_12 q_70), (q_71), (by rw [pe_1, if_neg (by omega)]; unfold pp_p0; rw [if_neg (by omega), if_neg (fun q => by omega), ← eg_72]; exact p0r_67)⟩) dX4_readPart_144
        · refine lv_aload_n hx hb dX4_readPart_123 rfl (lv_at hl 1 rfl) ?_
          refine ti_get (ci := 4) (k := 2) (N := 6) (T := TX4) (v := .ref (A lw 0)) C hw iw_4 rfl ob_1 (by decide) (by decide) fl_X4_154 rfl (ti_Tv (hL)) dX4_readPart_124 ?_
          refine lv_iload_n hx hb dX4_readPart_127 rfl (lv_at hl 0 rfl) ?_
          refine lv_ineg hx hb dX4_readPart_128 ?_
          refine lv_topi (fun x_50 ex_50 => ?_)
          have tx_50 : x_50.toInt = -x_1.toInt := i_neg ex_50 rfl (by omega)
          refine ti_callVv (ci := 1) (av := [.int x_50]) C hw (x_X1_add l D A cy hJ M hI lw hlw x_50 (by first | omega | exact Or.inl (by decide) | exact Or.inr (by decide)) t ht B n rg hr) ⟨ml_X4_170, ym_X1_add, yv_X1_add, yi_X1_add, yc_X1_add⟩ yd_X1_add hlw (by decide) rfl rfl hl.1 (Nat.le_of_ble_eq_true rfl) ⟨by decide, by decide⟩ ⟨Nat.zero_le _, Nat.zero_le _⟩ dX4_readPart_129 (fun M_52 H locs hp_52 hw => ?_)
          obtain ⟨iM_52, q_53, q_54, p0r_51⟩ := hp_52
          have lM_52_0 : rg 0 = (tI M_52 2 4).toInt := p0r_51.2.1.1
          have lM_52_1 : rg 1 = (tI M_52 2 6).toInt := p0r_51.2.1.2.1
          have lM_52_4 : rg 4 = (tI M_52 1 4).toInt := p0r_51.2.2.1.1
          have lM_52_7 : rg 7 = (tI M_52 t 4).toInt := p0r_51.2.2.2.1.1
          have lM_52_8 : rg 8 = (tI M_52 t 5).toInt := p0r_51.2.2.2.1.2.1
          refine lv_aload_n hx hb dX4_readPart_132 rfl (lv_at hl 1 rfl) ?_
          refine ti_callVvE (ci := 4) (av := []) C hE hw (x_X4_knot l D A cy hJ M_52 iM_52 t ht ((tT_fr q_53).trans hT) B n rg p0r_51) ⟨ml_X4_167, ym_X4_knot, yv_X4_knot, yi_X4_knot, yc_X4_knot⟩ yd_X4_knot ob_1 (by decide) rfl rfl hl.1 (Nat.le_of_ble_eq_true rfl) ⟨by decide, by decide⟩ ⟨Nat.zero_le _, Nat.zero_le _⟩ dX4_readPart_133 (fun M_56 H locs hp_56 hw => ?_)
          obtain ⟨iM_56, q_57, q_58, q_59, p0r_55⟩ := hp_56
          obtain ⟨g_60, eg_60⟩ : ∃ z : Nat → Int, z = pp_kn B n rg := ⟨_, rfl⟩
          rw [← eg_60] at p0r_55
          have lg_60_0 : g_60 0 = (tI M_56 2 4).toInt := p0r_55.2.1.1
          have lg_60_1 : g_60 1 = (tI M_56 2 6).toInt := p0r_55.2.1.2.1
          have lg_60_4 : g_60 4 = (tI M_56 1 4).toInt := p0r_55.2.2.1.1
          have lg_60_7 : g_60 7 = (tI M_56 t 4).toInt := p0r_55.2.2.2.1.1
          have lg_60_8 : g_60 8 = (tI M_56 t 5).toInt := p0r_55.2.2.2.1.2.1
          refine lv_goto (tgt := 144) hx hb dX4_readPart_136 (by decide) ?_
          exact hQ _ _ _ _ _ hw (⟨iM_56, ((q_57).trans q_53), (f0.trans q_58 (f0_x q_54)), ((q_59).trans ((q_54 1).2.1)), (by rw [pe_1, if_neg (by omega)]; unfold pp_p0; rw [if_neg (by omega), if_pos ⟨by omega, by omega⟩, ← eg_60]; exact p0r_55)⟩) dX4_readPart_144
    · refine lv_aload_n hx hb dX4_readPart_63 rfl (lv_at hl 1 rfl) ?_
      refine ti_get (ci := 4) (k := 0) (N := 6) (T := TX4) (v := .ref (A 2 0)) C hw iw_4 rfl ob_1 (by decide) (by decide) fl_X4_12 rfl rfl dX4_readPart_64 ?_
      refine ti_get (ci := 7) (k := 6) (N := 7) (T := TX7) C hw iw_7 rfl ob_2 (by decide) (by decide) fl_X4_95 rfl rfl dX4_readPart_67 ?_
      refine lv_topi (fun x_27 ex_27 => ?_)
      have bx_27 : 0 ≤ x_27.toInt ∧ x_27.toInt ≤ 2147483647 := cI_rd hI ob_2.1 ex_27
      have ux_27 : (tI M 2 6).toInt = x_27.toInt := by rw [ex_27]
      refine lv_sipush (v := 9999) hx hb dX4_readPart_70 (by decide) ?_
      refine sb_icmp_le (tgt := 84) hx hb rfl (by decide : (9999 : Int32).toInt = 9999) dX4_readPart_73 (by decide) (fun c_73_27 => ?_) (fun c_73_27 => ?_)
      · refine lv_iload_n hx hb dX4_readPart_84 rfl (lv_at hl 0 rfl) ?_
        refine lv_bipush (v := 26) hx hb dX4_readPart_85 (by decide) ?_
        refine sb_icmp_ne (tgt := 111) hx hb rfl (by decide : (26 : Int32).toInt = 26) dX4_readPart_87 (by decide) (fun h => by omega) (fun c_87_35 => ?_)
        refine lv_aload_n hx hb dX4_readPart_90 rfl (lv_at hl 1 rfl) ?_
        refine ti_get (ci := 4) (k := 2) (N := 6) (T := TX4) (v := .ref (A lw 0)) C hw iw_4 rfl ob_1 (by decide) (by decide) fl_X4_154 rfl (ti_Tv (hL)) dX4_readPart_91 ?_
        refine lv_aload_n hx hb dX4_readPart_94 rfl (lv_at hl 1 rfl) ?_
        refine ti_get (ci := 4) (k := 0) (N := 6) (T := TX4) (v := .ref (A 2 0)) C hw iw_4 rfl ob_1 (by decide) (by decide) fl_X4_12 rfl rfl dX4_readPart_95 ?_
        refine ti_get (ci := 7) (k := 6) (N := 7) (T := TX7) C hw iw_7 rfl ob_2 (by decide) (by decide) fl_X4_95 rfl rfl dX4_readPart_98 ?_
        refine ti_top (y := x_27) (ex_27.symm) ?_
        have u_37 : (tI M 2 6).toInt = (x_27 : Int32).toInt := by rw [(ex_27.symm)]
        refine ti_callVv (ci := 1) (av := [.int x_27]) C hw (x_X1_add l D A cy hJ M hI lw hlw x_27 (by first | omega | exact Or.inl (by decide) | exact Or.inr (by decide)) t ht B n rg hr) ⟨ml_X4_170, ym_X1_add, yv_X1_add, yi_X1_add, yc_X1_add⟩ yd_X1_add hlw (by decide) rfl rfl hl.1 (Nat.le_of_ble_eq_true rfl) ⟨by decide, by decide⟩ ⟨Nat.zero_le _, Nat.zero_le _⟩ dX4_readPart_101 (fun M_39 H locs hp_39 hw => ?_)
        obtain ⟨iM_39, q_40, q_41, p0r_38⟩ := hp_39
        have lM_39_0 : rg 0 = (tI M_39 2 4).toInt := p0r_38.2.1.1
        have lM_39_1 : rg 1 = (tI M_39 2 6).toInt := p0r_38.2.1.2.1
        have lM_39_4 : rg 4 = (tI M_39 1 4).toInt := p0r_38.2.2.1.1
        have lM_39_7 : rg 7 = (tI M_39 t 4).toInt := p0r_38.2.2.2.1.1
        have lM_39_8 : rg 8 = (tI M_39 t 5).toInt := p0r_38.2.2.2.1.2.1
        refine lv_aload_n hx hb dX4_readPart_104 rfl (lv_at hl 1 rfl) ?_
        refine ti_callVvE (ci := 4) (av := []) C hE hw (x_X4_knot l D A cy hJ M_39 iM_39 t ht ((tT_fr q_40).trans hT) B n rg p0r_38) ⟨ml_X4_167, ym_X4_knot, yv_X4_knot, yi_X4_knot, yc_X4_knot⟩ yd_X4_knot ob_1 (by decide) rfl rfl hl.1 (Nat.le_of_ble_eq_true rfl) ⟨by decide, by decide⟩ ⟨Nat.zero_le _, Nat.zero_le _⟩ dX4_readPart_105 (fun M_43 H locs hp_43 hw => ?_)
        obtain ⟨iM_43, q_44, q_45, q_46, p0r_42⟩ := hp_43
        obtain ⟨g_47, eg_47⟩ : ∃ z : Nat → Int, z = pp_kn B n rg := ⟨_, rfl⟩
        rw [← eg_47] at p0r_42
        have lg_47_0 : g_47 0 = (tI M_43 2 4).toInt := p0r_42.2.1.1
        have lg_47_1 : g_47 1 = (tI M_43 2 6).toInt := p0r_42.2.1.2.1
        have lg_47_4 : g_47 4 = (tI M_43 1 4).toInt := p0r_42.2.2.1.1
        have lg_47_7 : g_47 7 = (tI M_43 t 4).toInt := p0r_42.2.2.2.1.1
        have lg_47_8 : g_47 8 = (tI M_43 t 5).toInt := p0r_42.2.2.2.1.2.1
        refine lv_goto (tgt := 144) hx hb dX4_readPart_108 (by decide) ?_
        exact hQ _ _ _ _ _ hw (⟨iM_43, ((q_44).trans q_40), (f0.trans q_45 (f0_x q_41)), ((q_46).trans ((q_41 1).2.1)), (by rw [pe_1, if_neg (by omega)]; unfold pp_p0; rw [if_pos (by omega), if_neg (by omega), ← eg_47]; exact p0r_42)⟩) dX4_readPart_144
      · refine lv_aload_n hx hb dX4_readPart_76 rfl (lv_at hl 1 rfl) ?_
        refine lv_iconst (v := 2) hx hb dX4_readPart_77 (by decide) ?_
        refine ti_callVv (ci := 4) (av := [.int 2]) C hw (x_X4_refuse l D A cy hJ M hI t ht 2 B n rg hr) ⟨ml_X4_82, ym_X4_refuse, yv_X4_refuse, yi_X4_refuse, yc_X4_refuse⟩ yd_X4_refuse ob_1 (by decide) rfl rfl hl.1 (Nat.le_of_ble_eq_true rfl) ⟨by decide, by decide⟩ ⟨Nat.zero_le _, Nat.zero_le _⟩ dX4_readPart_78 (fun M_30 H locs hp_30 hw => ?_)
        obtain ⟨iM_30, q_31, q_32, q_33, p0r_29⟩ := hp_30
        have hlr_29_2 : (2 : Int32).toInt = 2 := by decide
        simp only [hlr_29_2] at p0r_29
        obtain ⟨g_34, eg_34⟩ : ∃ z : Nat → Int, z = pp_rf 2 rg := ⟨_, rfl⟩
        rw [← eg_34] at p0r_29
        have lg_34_0 : g_34 0 = (tI M_30 2 4).toInt := p0r_29.2.1.1
        have lg_34_1 : g_34 1 = (tI M_30 2 6).toInt := p0r_29.2.1.2.1
        have lg_34_4 : g_34 4 = (tI M_30 1 4).toInt := p0r_29.2.2.1.1
        have lg_34_7 : g_34 7 = (tI M_30 t 4).toInt := p0r_29.2.2.2.1.1
        have lg_34_8 : g_34 8 = (tI M_30 t 5).toInt := p0r_29.2.2.2.1.2.1
        refine lv_goto (tgt := 144) hx hb dX4_readPart_81 (by decide) ?_
        exact hQ _ _ _ _ _ hw (⟨iM_30, (q_31), (f0_12 q_32), (q_33), (by rw [pe_1, if_neg (by omega)]; unfold pp_p0; rw [if_pos (by omega), if_pos (by omega), ← eg_34]; exact p0r_29)⟩) dX4_readPart_144
  · refine lv_iload_n hx hb dX4_readPart_14 rfl (lv_at hl 2 rfl) ?_
    refine lv_bipush (v := 8) hx hb dX4_readPart_15 (by decide) ?_
    refine sb_icmp_lt (tgt := 28) hx hb (by decide : (7 : Int32).toInt = 7) (by decide : (8 : Int32).toInt = 8) dX4_readPart_17 (by decide) (fun c_17_2 => ?_) (fun h => absurd h (by decide))
    refine lv_iload_n hx hb dX4_readPart_28 rfl (lv_at hl 0 rfl) ?_
    refine lv_bipush (v := 30) hx hb dX4_readPart_29 (by decide) ?_
    refine sb_icmp_ne (tgt := 57) hx hb rfl (by decide : (30 : Int32).toInt = 30) dX4_readPart_31 (by decide) (fun h => by omega) (fun c_31_4 => ?_)
    refine lv_aload_n hx hb dX4_readPart_34 rfl (lv_at hl 1 rfl) ?_
    refine ti_get (ci := 4) (k := 0) (N := 6) (T := TX4) (v := .ref (A 2 0)) C hw iw_4 rfl ob_1 (by decide) (by decide) fl_X4_12 rfl rfl dX4_readPart_35 ?_
    refine ti_callVvE (ci := 7) (av := []) C hE hw (x_X7_advance l D A cy hJ M hI ) ⟨ml_X4_92, ym_X7_advance, yv_X7_advance, yi_X7_advance, yc_X7_advance⟩ yd_X7_advance ob_2 (by decide) rfl rfl hl.1 (Nat.le_of_ble_eq_true rfl) ⟨by decide, by decide⟩ ⟨Nat.zero_le _, Nat.zero_le _⟩ dX4_readPart_38 (fun M_7 H locs hp_7 hw => ?_)
    obtain ⟨iM_7, q_8, q_9, q_10, q_11, p0r_6, p1r_6, p2r_6, p3r_6⟩ := hp_7
    have hs_12 := rC_av ht hr q_11 q_9 p0r_6 p1r_6 p2r_6 p3r_6
    obtain ⟨g_13, eg_13⟩ : ∃ z : Nat → Int, z = pp_av B n rg := ⟨_, rfl⟩
    rw [← eg_13] at hs_12
    have lg_13_0 : g_13 0 = (tI M_7 2 4).toInt := hs_12.2.1.1
    have lg_13_1 : g_13 1 = (tI M_7 2 6).toInt := hs_12.2.1.2.1
    have lg_13_4 : g_13 4 = (tI M_7 1 4).toInt := hs_12.2.2.1.1
    have lg_13_7 : g_13 7 = (tI M_7 t 4).toInt := hs_12.2.2.2.1.1
    have lg_13_8 : g_13 8 = (tI M_7 t 5).toInt := hs_12.2.2.2.1.2.1
    refine lv_aload_n hx hb dX4_readPart_41 rfl (lv_at hl 1 rfl) ?_
    refine lv_iload_n hx hb dX4_readPart_42 rfl (lv_at hl 2 rfl) ?_
    refine lv_iconst (v := 1) hx hb dX4_readPart_43 (by decide) ?_
    refine lv_iadd hx hb dX4_readPart_44 ?_
    refine ti_top (y := 8) (by decide) ?_
    refine ti_callVvE (ci := 4) (av := [.int 8]) C hE hw (x_X4_readEither_8 l D A cy hJ M_7 iM_7 t ht ((tT_fr q_8).trans hT) lw hlw ((tT_fr q_8).trans hL) B n g_13 hs_12) ⟨ml_X4_158, ym_X4_readEither, yv_X4_readEither, yi_X4_readEither, yc_X4_readEither⟩ yd_X4_readEither ob_1 (by decide) rfl rfl hl.1 (Nat.le_of_ble_eq_true rfl) ⟨by decide, by decide⟩ ⟨Nat.zero_le _, Nat.zero_le _⟩ dX4_readPart_45 (fun M_15 H locs hp_15 hw => ?_)
    obtain ⟨iM_15, q_16, q_17, q_18, p0r_14⟩ := hp_15
    obtain ⟨g_19, eg_19⟩ : ∃ z : Nat → Int, z = pp_ei B n (pp_pt B n 0) g_13 := ⟨_, rfl⟩
    rw [← eg_19] at p0r_14
    have lg_19_0 : g_19 0 = (tI M_15 2 4).toInt := p0r_14.2.1.1
    have lg_19_1 : g_19 1 = (tI M_15 2 6).toInt := p0r_14.2.1.2.1
    have lg_19_4 : g_19 4 = (tI M_15 1 4).toInt := p0r_14.2.2.1.1
    have lg_19_7 : g_19 7 = (tI M_15 t 4).toInt := p0r_14.2.2.2.1.1
    have lg_19_8 : g_19 8 = (tI M_15 t 5).toInt := p0r_14.2.2.2.1.2.1
    refine lv_aload_n hx hb dX4_readPart_48 rfl (lv_at hl 1 rfl) ?_
    refine lv_bipush (v := 31) hx hb dX4_readPart_49 (by decide) ?_
    refine ti_callVvE (ci := 4) (av := [.int 31]) C hE hw (x_X4_take l D A cy hJ M_15 iM_15 t ht 31 B n g_19 p0r_14) ⟨ml_X4_85, ym_X4_take, yv_X4_take, yi_X4_take, yc_X4_take⟩ yd_X4_take ob_1 (by decide) rfl rfl hl.1 (Nat.le_of_ble_eq_true rfl) ⟨by decide, by decide⟩ ⟨Nat.zero_le _, Nat.zero_le _⟩ dX4_readPart_51 (fun M_21 H locs hp_21 hw => ?_)
    obtain ⟨iM_21, q_22, q_23, q_24, p0r_20⟩ := hp_21
    have hlr_20_31 : (31 : Int32).toInt = 31 := by decide
    simp only [hlr_20_31] at p0r_20
    obtain ⟨g_25, eg_25⟩ : ∃ z : Nat → Int, z = pp_tk B n 31 g_19 := ⟨_, rfl⟩
    rw [← eg_25] at p0r_20
    have lg_25_0 : g_25 0 = (tI M_21 2 4).toInt := p0r_20.2.1.1
    have lg_25_1 : g_25 1 = (tI M_21 2 6).toInt := p0r_20.2.1.2.1
    have lg_25_4 : g_25 4 = (tI M_21 1 4).toInt := p0r_20.2.2.1.1
    have lg_25_7 : g_25 7 = (tI M_21 t 4).toInt := p0r_20.2.2.2.1.1
    have lg_25_8 : g_25 8 = (tI M_21 t 5).toInt := p0r_20.2.2.2.1.2.1
    refine lv_goto (tgt := 144) hx hb dX4_readPart_54 (by decide) ?_
    exact hQ _ _ _ _ _ hw (⟨iM_21, ((q_22).trans ((q_16).trans q_8)), (f0.trans (f0_12 q_23) (f0.trans q_17 (f0_12 (o2_12 q_9)))), ((q_24).trans ((q_18).trans q_10)), (by rw [pe_1, if_pos (by omega), ← eg_13, ← eg_19, ← eg_25]; exact p0r_20)⟩) dX4_readPart_144
set_option maxHeartbeats 4000000 in
set_option maxRecDepth 100000 in
theorem x_X4_readProduct_7 (l : Launch) (D : va_G) (A : Nat → Nat → Nat) (cy : Nat → ClassId) (hJ : ti_inj ti_LT A) (M : ti_M) (hI : cI M) (t : Nat) (ht : t = 3 ∨ t = 4) (hT : tT M 1 1 = some t) (lw : Nat) (hlw : ti_ob ti_LT lw 1) (hL : tT M 1 2 = some lw) (B : Nat → Int) (n : Nat) (rg : Nat → Int) (hr : rC B n t rg M) : ti_KvE l yX4_readProduct cX4_readProduct 4 16 ti_LT D A cy M [.ref (A 1 0), .int 7] (fun M2 => cI M2 ∧ M2.2.2.2 = M.2.2.2 ∧ f0 M2 M ∧ tI M2 2 1 = tI M 2 1 ∧ rC B n t (pp_pd B n (pp_pt B n 1) rg) M2) := by
  refine ti_eVE yp_X4_readProduct hJ ti_LT_nd (Nat.le_of_ble_eq_true rfl) ?_
  intro p e s m args below meth c Q H0 C hE hQ hw ls hl
  have hx := C.1
  have hb := C.2.1
  have hl : lv_has ls 4 [(0, .ref (A 1 0)), (1, .int 7)] := hl
  have l0 : rg 0 = (tI M 2 4).toInt := hr.2.1.1
  have l1 : rg 1 = (tI M 2 6).toInt := hr.2.1.2.1
  have l2 : rg 2 = (tI M 2 5).toInt := hr.2.1.2.2.1
  have l3 : rg 3 = (tI M 2 3).toInt := hr.2.1.2.2.2
  have l4 : rg 4 = (tI M 1 4).toInt := hr.2.2.1.1
  have l5 : rg 5 = (tI M 1 5).toInt := hr.2.2.1.2.1
  have l7 : rg 7 = (tI M t 4).toInt := hr.2.2.2.1.1
  have l8 : rg 8 = (tI M t 5).toInt := hr.2.2.2.1.2.1
  have l9 : rg 9 = (tI M t 3).toInt := hr.2.2.2.1.2.2
  refine lv_aload_n hx hb dX4_readProduct_0 rfl (lv_at hl 0 rfl) ?_
  refine lv_iload_n hx hb dX4_readProduct_1 rfl (lv_at hl 1 rfl) ?_
  refine ti_callVvE (ci := 4) (av := [.int 7]) C hE hw (x_X4_readPart_7 l D A cy hJ M hI t ht (hT) lw hlw (hL) B n rg hr) ⟨ml_X4_187, ym_X4_readPart, yv_X4_readPart, yi_X4_readPart, yc_X4_readPart⟩ yd_X4_readPart ob_1 (by decide) rfl rfl hl.1 (Nat.le_of_ble_eq_true rfl) ⟨by decide, by decide⟩ ⟨Nat.zero_le _, Nat.zero_le _⟩ dX4_readProduct_2 (fun M_2 H locs hp_2 hw => ?_)
  obtain ⟨iM_2, q_3, q_4, q_5, p0r_1⟩ := hp_2
  obtain ⟨g_6, eg_6⟩ : ∃ z : Nat → Int, z = pp_pt B n 1 rg := ⟨_, rfl⟩
  rw [← eg_6] at p0r_1
  have lg_6_0 : g_6 0 = (tI M_2 2 4).toInt := p0r_1.2.1.1
  have lg_6_1 : g_6 1 = (tI M_2 2 6).toInt := p0r_1.2.1.2.1
  have lg_6_4 : g_6 4 = (tI M_2 1 4).toInt := p0r_1.2.2.1.1
  have lg_6_7 : g_6 7 = (tI M_2 t 4).toInt := p0r_1.2.2.2.1.1
  have lg_6_8 : g_6 8 = (tI M_2 t 5).toInt := p0r_1.2.2.2.1.2.1
  refine lv_iconst (v := 0) hx hb dX4_readProduct_5 (by decide) ?_
  refine lv_istore_n (lv' := [(2, .int 0), (0, .ref (A 1 0)), (1, .int 7)]) hx hb dX4_readProduct_6 rfl hl (by decide) rfl (fun ls hl => ?_)
  have hl_7_18 : ∀ (n_19 : Nat) (x_7 : Int32) (M_10 : ti_M) (g_16 : Nat → Int) (H : Heap) (locs : List Loc) (ls : Array Slot), (64 - x_7.toInt : Int).toNat < n_19 → (0 ≤ x_7.toInt) → (x_7.toInt ≤ 64) → (cI M_10) → (M_10.2.2.2 = M.2.2.2) → (f0 M_10 M) → (tI M_10 2 1 = tI M 2 1) → (tT M_10 1 1 = (some t)) → (tT M_10 1 2 = (some lw)) → (rC B n t g_16 M_10) → (pp_lp pp_qT (fun s => (pp_pt B n 1) (pp_kn B n s)) 64 g_6 = pp_lp pp_qT (fun s => (pp_pt B n 1) (pp_kn B n s)) (64 - (x_7.toInt).toNat) g_16) → ti_H ti_LT D A cy H0 M_10 H locs → lv_has ls 4 [(2, .int x_7), (0, .ref (A 1 0)), (1, .int 7)] → W p l e (ti_rm 16) s m args below meth c H locs 0 0 Q (F0 m 7 ls []) := by
    intro n_19
    induction n_19 with
    | zero => intro x_7 M_10 g_16 H locs ls hf_19; exact absurd hf_19 (Nat.not_lt_zero _)
    | succ n_19 ih_19 =>
      intro x_7 M_10 g_16 H locs ls hf_19 b_8 b_9 iM_10 f_11 f_12 f_13 f_14 f_15 hs_17 j_18 hw hl
      have lg_16_0 : g_16 0 = (tI M_10 2 4).toInt := hs_17.2.1.1
      have lg_16_1 : g_16 1 = (tI M_10 2 6).toInt := hs_17.2.1.2.1
      have lg_16_4 : g_16 4 = (tI M_10 1 4).toInt := hs_17.2.2.1.1
      have lg_16_7 : g_16 7 = (tI M_10 t 4).toInt := hs_17.2.2.2.1.1
      have lg_16_8 : g_16 8 = (tI M_10 t 5).toInt := hs_17.2.2.2.1.2.1
      refine lv_iload_n hx hb dX4_readProduct_7 rfl (lv_at hl 0 rfl) ?_
      refine lv_bipush (v := 64) hx hb dX4_readProduct_8 (by decide) ?_
      refine sb_icmp_ge (tgt := 69) hx hb rfl (by decide : (64 : Int32).toInt = 64) dX4_readProduct_10 (by decide) (fun c_10_19 => ?_) (fun c_10_19 => ?_)
      · exact hQ _ _ _ _ _ hw (⟨iM_10, (f_11), f_12, (f_13), (by unfold pp_pd; rw [← eg_6, j_18, lp_end (P := pp_qT) (f := 64 - x_7.toInt.toNat) (s := g_16) (Or.inl (by omega))]; exact hs_17)⟩) dX4_readProduct_69
      · refine lv_aload_n hx hb dX4_readProduct_13 rfl (lv_at hl 1 rfl) ?_
        refine ti_get (ci := 4) (k := 0) (N := 6) (T := TX4) (v := .ref (A 2 0)) C hw iw_4 rfl ob_1 (by decide) (by decide) fl_X4_12 rfl rfl dX4_readProduct_14 ?_
        refine ti_get (ci := 7) (k := 4) (N := 7) (T := TX7) C hw iw_7 rfl ob_2 (by decide) (by decide) fl_X4_41 rfl rfl dX4_readProduct_17 ?_
        refine lv_topi (fun x_21 ex_21 => ?_)
        have bx_21 : 0 ≤ x_21.toInt ∧ x_21.toInt ≤ 41 := cI_rd iM_10 ob_2.1 ex_21
        have ux_21 : (tI M_10 2 4).toInt = x_21.toInt := by rw [ex_21]
        refine lv_bipush (v := 40) hx hb dX4_readProduct_20 (by decide) ?_
        refine sb_icmp_eq (tgt := 37) hx hb rfl (by decide : (40 : Int32).toInt = 40) dX4_readProduct_22 (by decide) (fun c_22_21 => ?_) (fun c_22_21 => ?_)
        · refine lv_aload_n hx hb dX4_readProduct_37 rfl (lv_at hl 1 rfl) ?_
          refine ti_get (ci := 4) (k := 0) (N := 6) (T := TX4) (v := .ref (A 2 0)) C hw iw_4 rfl ob_1 (by decide) (by decide) fl_X4_12 rfl rfl dX4_readProduct_38 ?_
          refine ti_get (ci := 7) (k := 4) (N := 7) (T := TX7) C hw iw_7 rfl ob_2 (by decide) (by decide) fl_X4_41 rfl rfl dX4_readProduct_41 ?_
          refine ti_top (y := x_21) (ex_21.symm) ?_
          have u_25 : (tI M_10 2 4).toInt = (x_21 : Int32).toInt := by rw [(ex_21.symm)]
          refine lv_istore_n (lv' := [(3, .int x_21), (2, .int x_7), (0, .ref (A 1 0)), (1, .int 7)]) hx hb dX4_readProduct_44 rfl hl (by decide) rfl (fun ls hl => ?_)
          refine lv_aload_n hx hb dX4_readProduct_45 rfl (lv_at hl 2 rfl) ?_
          refine ti_callVvE (ci := 4) (av := []) C hE hw (x_X4_knot l D A cy hJ M_10 iM_10 t ht (f_14) B n g_16 hs_17) ⟨ml_X4_167, ym_X4_knot, yv_X4_knot, yi_X4_knot, yc_X4_knot⟩ yd_X4_knot ob_1 (by decide) rfl rfl hl.1 (Nat.le_of_ble_eq_true rfl) ⟨by decide, by decide⟩ ⟨Nat.zero_le _, Nat.zero_le _⟩ dX4_readProduct_46 (fun M_27 H locs hp_27 hw => ?_)
          obtain ⟨iM_27, q_28, q_29, q_30, p0r_26⟩ := hp_27
          obtain ⟨g_31, eg_31⟩ : ∃ z : Nat → Int, z = pp_kn B n g_16 := ⟨_, rfl⟩
          rw [← eg_31] at p0r_26
          have lg_31_0 : g_31 0 = (tI M_27 2 4).toInt := p0r_26.2.1.1
          have lg_31_1 : g_31 1 = (tI M_27 2 6).toInt := p0r_26.2.1.2.1
          have lg_31_4 : g_31 4 = (tI M_27 1 4).toInt := p0r_26.2.2.1.1
          have lg_31_7 : g_31 7 = (tI M_27 t 4).toInt := p0r_26.2.2.2.1.1
          have lg_31_8 : g_31 8 = (tI M_27 t 5).toInt := p0r_26.2.2.2.1.2.1
          refine lv_aload_n hx hb dX4_readProduct_49 rfl (lv_at hl 2 rfl) ?_
          refine lv_iload_n hx hb dX4_readProduct_50 rfl (lv_at hl 3 rfl) ?_
          refine ti_callVvE (ci := 4) (av := [.int 7]) C hE hw (x_X4_readPart_7 l D A cy hJ M_27 iM_27 t ht ((tT_fr q_28).trans f_14) lw hlw ((tT_fr q_28).trans f_15) B n g_31 p0r_26) ⟨ml_X4_187, ym_X4_readPart, yv_X4_readPart, yi_X4_readPart, yc_X4_readPart⟩ yd_X4_readPart ob_1 (by decide) rfl rfl hl.1 (Nat.le_of_ble_eq_true rfl) ⟨by decide, by decide⟩ ⟨Nat.zero_le _, Nat.zero_le _⟩ dX4_readProduct_51 (fun M_33 H locs hp_33 hw => ?_)
          obtain ⟨iM_33, q_34, q_35, q_36, p0r_32⟩ := hp_33
          obtain ⟨g_37, eg_37⟩ : ∃ z : Nat → Int, z = pp_pt B n 1 g_31 := ⟨_, rfl⟩
          rw [← eg_37] at p0r_32
          have lg_37_0 : g_37 0 = (tI M_33 2 4).toInt := p0r_32.2.1.1
          have lg_37_1 : g_37 1 = (tI M_33 2 6).toInt := p0r_32.2.1.2.1
          have lg_37_4 : g_37 4 = (tI M_33 1 4).toInt := p0r_32.2.2.1.1
          have lg_37_7 : g_37 7 = (tI M_33 t 4).toInt := p0r_32.2.2.2.1.1
          have lg_37_8 : g_37 8 = (tI M_33 t 5).toInt := p0r_32.2.2.2.1.2.1
          refine lv_aload_n hx hb dX4_readProduct_54 rfl (lv_at hl 2 rfl) ?_
          refine ti_get (ci := 4) (k := 2) (N := 6) (T := TX4) (v := .ref (A lw 0)) C hw iw_4 rfl ob_1 (by decide) (by decide) fl_X4_154 rfl (ti_Tv ((tT_fr q_34).trans ((tT_fr q_28).trans f_15))) dX4_readProduct_55 ?_
          refine lv_iload_n hx hb dX4_readProduct_58 rfl (lv_at hl 0 rfl) ?_
          refine lv_ineg hx hb dX4_readProduct_59 ?_
          refine lv_topi (fun x_38 ex_38 => ?_)
          have tx_38 : x_38.toInt = -x_21.toInt := i_neg ex_38 rfl (by omega)
          refine ti_callVv (ci := 1) (av := [.int x_38]) C hw (x_X1_add l D A cy hJ M_33 iM_33 lw hlw x_38 (by first | omega | exact Or.inl (by decide) | exact Or.inr (by decide)) t ht B n g_37 p0r_32) ⟨ml_X4_170, ym_X1_add, yv_X1_add, yi_X1_add, yc_X1_add⟩ yd_X1_add hlw (by decide) rfl rfl hl.1 (Nat.le_of_ble_eq_true rfl) ⟨by decide, by decide⟩ ⟨Nat.zero_le _, Nat.zero_le _⟩ dX4_readProduct_60 (fun M_40 H locs hp_40 hw => ?_)
          obtain ⟨iM_40, q_41, q_42, p0r_39⟩ := hp_40
          have lM_40_0 : g_37 0 = (tI M_40 2 4).toInt := p0r_39.2.1.1
          have lM_40_1 : g_37 1 = (tI M_40 2 6).toInt := p0r_39.2.1.2.1
          have lM_40_4 : g_37 4 = (tI M_40 1 4).toInt := p0r_39.2.2.1.1
          have lM_40_7 : g_37 7 = (tI M_40 t 4).toInt := p0r_39.2.2.2.1.1
          have lM_40_8 : g_37 8 = (tI M_40 t 5).toInt := p0r_39.2.2.2.1.2.1
          obtain ⟨x_43, ex_43⟩ : ∃ z : Int32, z = x_7 + 1 := ⟨_, rfl⟩
          have tx_43 : x_43.toInt = x_7.toInt + 1 := i_add ex_43 rfl (by decide) (by omega) (by omega)
          refine lv_iinc (v := x_43) (lv' := [(2, .int x_43), (3, .int x_21), (0, .ref (A 1 0)), (1, .int 7)]) hx hb dX4_readProduct_63 hl (k := 1) rfl (by rw [ex_43]; rfl) (by decide) rfl (fun ls hl => ?_)
          refine lv_goto (tgt := 7) hx hb dX4_readProduct_66 (by decide) ?_
          exact ih_19 x_43 M_40 g_37 _ _ _ (by omega) (by first | omega | decide) (by first | omega | decide) iM_40 ((q_41).trans ((q_34).trans ((q_28).trans f_11))) (f0.trans (f0_x q_42) (f0.trans q_35 (f0.trans q_29 f_12))) (((q_42 1).2.1).trans ((q_36).trans ((q_30).trans f_13))) ((tT_fr q_41).trans ((tT_fr q_34).trans ((tT_fr q_28).trans f_14))) ((tT_fr q_41).trans ((tT_fr q_34).trans ((tT_fr q_28).trans f_15))) p0r_39 (j_18.trans (lp_step (decide_eq_true (by omega)) (by rw [eg_37, eg_31]) (by omega))) hw (lv_sub hl [0, 2, 3] rfl)
        · refine lv_aload_n hx hb dX4_readProduct_25 rfl (lv_at hl 1 rfl) ?_
          refine ti_get (ci := 4) (k := 0) (N := 6) (T := TX4) (v := .ref (A 2 0)) C hw iw_4 rfl ob_1 (by decide) (by decide) fl_X4_12 rfl rfl dX4_readProduct_26 ?_
          refine ti_get (ci := 7) (k := 4) (N := 7) (T := TX7) C hw iw_7 rfl ob_2 (by decide) (by decide) fl_X4_41 rfl rfl dX4_readProduct_29 ?_
          refine ti_top (y := x_21) (ex_21.symm) ?_
          have u_23 : (tI M_10 2 4).toInt = (x_21 : Int32).toInt := by rw [(ex_21.symm)]
          refine lv_bipush (v := 41) hx hb dX4_readProduct_32 (by decide) ?_
          refine sb_icmp_ne (tgt := 69) hx hb rfl (by decide : (41 : Int32).toInt = 41) dX4_readProduct_34 (by decide) (fun c_34_23 => ?_) (fun c_34_23 => ?_)
          · exact hQ _ _ _ _ _ hw (⟨iM_10, (f_11), f_12, (f_13), (by unfold pp_pd; rw [← eg_6, j_18, lp_end (P := pp_qT) (f := 64 - x_7.toInt.toNat) (s := g_16) (Or.inr (decide_eq_false (by omega)))]; exact hs_17)⟩) dX4_readProduct_69
          · refine lv_aload_n hx hb dX4_readProduct_37 rfl (lv_at hl 1 rfl) ?_
            refine ti_get (ci := 4) (k := 0) (N := 6) (T := TX4) (v := .ref (A 2 0)) C hw iw_4 rfl ob_1 (by decide) (by decide) fl_X4_12 rfl rfl dX4_readProduct_38 ?_
            refine ti_get (ci := 7) (k := 4) (N := 7) (T := TX7) C hw iw_7 rfl ob_2 (by decide) (by decide) fl_X4_41 rfl rfl dX4_readProduct_41 ?_
            refine ti_top (y := x_21) (ex_21.symm) ?_
            have u_44 : (tI M_10 2 4).toInt = (x_21 : Int32).toInt := by rw [(ex_21.symm)]
            refine lv_istore_n (lv' := [(3, .int x_21), (2, .int x_7), (0, .ref (A 1 0)), (1, .int 7)]) hx hb dX4_readProduct_44 rfl hl (by decide) rfl (fun ls hl => ?_)
            refine lv_aload_n hx hb dX4_readProduct_45 rfl (lv_at hl 2 rfl) ?_
            refine ti_callVvE (ci := 4) (av := []) C hE hw (x_X4_knot l D A cy hJ M_10 iM_10 t ht (f_14) B n g_16 hs_17) ⟨ml_X4_167, ym_X4_knot, yv_X4_knot, yi_X4_knot, yc_X4_knot⟩ yd_X4_knot ob_1 (by decide) rfl rfl hl.1 (Nat.le_of_ble_eq_true rfl) ⟨by decide, by decide⟩ ⟨Nat.zero_le _, Nat.zero_le _⟩ dX4_readProduct_46 (fun M_46 H locs hp_46 hw => ?_)
            obtain ⟨iM_46, q_47, q_48, q_49, p0r_45⟩ := hp_46
            obtain ⟨g_50, eg_50⟩ : ∃ z : Nat → Int, z = pp_kn B n g_16 := ⟨_, rfl⟩
            rw [← eg_50] at p0r_45
            have lg_50_0 : g_50 0 = (tI M_46 2 4).toInt := p0r_45.2.1.1
            have lg_50_1 : g_50 1 = (tI M_46 2 6).toInt := p0r_45.2.1.2.1
            have lg_50_4 : g_50 4 = (tI M_46 1 4).toInt := p0r_45.2.2.1.1
            have lg_50_7 : g_50 7 = (tI M_46 t 4).toInt := p0r_45.2.2.2.1.1
            have lg_50_8 : g_50 8 = (tI M_46 t 5).toInt := p0r_45.2.2.2.1.2.1
            refine lv_aload_n hx hb dX4_readProduct_49 rfl (lv_at hl 2 rfl) ?_
            refine lv_iload_n hx hb dX4_readProduct_50 rfl (lv_at hl 3 rfl) ?_
            refine ti_callVvE (ci := 4) (av := [.int 7]) C hE hw (x_X4_readPart_7 l D A cy hJ M_46 iM_46 t ht ((tT_fr q_47).trans f_14) lw hlw ((tT_fr q_47).trans f_15) B n g_50 p0r_45) ⟨ml_X4_187, ym_X4_readPart, yv_X4_readPart, yi_X4_readPart, yc_X4_readPart⟩ yd_X4_readPart ob_1 (by decide) rfl rfl hl.1 (Nat.le_of_ble_eq_true rfl) ⟨by decide, by decide⟩ ⟨Nat.zero_le _, Nat.zero_le _⟩ dX4_readProduct_51 (fun M_52 H locs hp_52 hw => ?_)
            obtain ⟨iM_52, q_53, q_54, q_55, p0r_51⟩ := hp_52
            obtain ⟨g_56, eg_56⟩ : ∃ z : Nat → Int, z = pp_pt B n 1 g_50 := ⟨_, rfl⟩
            rw [← eg_56] at p0r_51
            have lg_56_0 : g_56 0 = (tI M_52 2 4).toInt := p0r_51.2.1.1
            have lg_56_1 : g_56 1 = (tI M_52 2 6).toInt := p0r_51.2.1.2.1
            have lg_56_4 : g_56 4 = (tI M_52 1 4).toInt := p0r_51.2.2.1.1
            have lg_56_7 : g_56 7 = (tI M_52 t 4).toInt := p0r_51.2.2.2.1.1
            have lg_56_8 : g_56 8 = (tI M_52 t 5).toInt := p0r_51.2.2.2.1.2.1
            refine lv_aload_n hx hb dX4_readProduct_54 rfl (lv_at hl 2 rfl) ?_
            refine ti_get (ci := 4) (k := 2) (N := 6) (T := TX4) (v := .ref (A lw 0)) C hw iw_4 rfl ob_1 (by decide) (by decide) fl_X4_154 rfl (ti_Tv ((tT_fr q_53).trans ((tT_fr q_47).trans f_15))) dX4_readProduct_55 ?_
            refine lv_iload_n hx hb dX4_readProduct_58 rfl (lv_at hl 0 rfl) ?_
            refine lv_ineg hx hb dX4_readProduct_59 ?_
            refine lv_topi (fun x_57 ex_57 => ?_)
            have tx_57 : x_57.toInt = -x_21.toInt := i_neg ex_57 rfl (by omega)
            refine ti_callVv (ci := 1) (av := [.int x_57]) C hw (x_X1_add l D A cy hJ M_52 iM_52 lw hlw x_57 (by first | omega | exact Or.inl (by decide) | exact Or.inr (by decide)) t ht B n g_56 p0r_51) ⟨ml_X4_170, ym_X1_add, yv_X1_add, yi_X1_add, yc_X1_add⟩ yd_X1_add hlw (by decide) rfl rfl hl.1 (Nat.le_of_ble_eq_true rfl) ⟨by decide, by decide⟩ ⟨Nat.zero_le _, Nat.zero_le _⟩ dX4_readProduct_60 (fun M_59 H locs hp_59 hw => ?_)
            obtain ⟨iM_59, q_60, q_61, p0r_58⟩ := hp_59
            have lM_59_0 : g_56 0 = (tI M_59 2 4).toInt := p0r_58.2.1.1
            have lM_59_1 : g_56 1 = (tI M_59 2 6).toInt := p0r_58.2.1.2.1
            have lM_59_4 : g_56 4 = (tI M_59 1 4).toInt := p0r_58.2.2.1.1
            have lM_59_7 : g_56 7 = (tI M_59 t 4).toInt := p0r_58.2.2.2.1.1
            have lM_59_8 : g_56 8 = (tI M_59 t 5).toInt := p0r_58.2.2.2.1.2.1
            obtain ⟨x_62, ex_62⟩ : ∃ z : Int32, z = x_7 + 1 := ⟨_, rfl⟩
            have tx_62 : x_62.toInt = x_7.toInt + 1 := i_add ex_62 rfl (by decide) (by omega) (by omega)
            refine lv_iinc (v := x_62) (lv' := [(2, .int x_62), (3, .int x_21), (0, .ref (A 1 0)), (1, .int 7)]) hx hb dX4_readProduct_63 hl (k := 1) rfl (by rw [ex_62]; rfl) (by decide) rfl (fun ls hl => ?_)
            refine lv_goto (tgt := 7) hx hb dX4_readProduct_66 (by decide) ?_
            exact ih_19 x_62 M_59 g_56 _ _ _ (by omega) (by first | omega | decide) (by first | omega | decide) iM_59 ((q_60).trans ((q_53).trans ((q_47).trans f_11))) (f0.trans (f0_x q_61) (f0.trans q_54 (f0.trans q_48 f_12))) (((q_61 1).2.1).trans ((q_55).trans ((q_49).trans f_13))) ((tT_fr q_60).trans ((tT_fr q_53).trans ((tT_fr q_47).trans f_14))) ((tT_fr q_60).trans ((tT_fr q_53).trans ((tT_fr q_47).trans f_15))) p0r_58 (j_18.trans (lp_step (decide_eq_true (by omega)) (by rw [eg_56, eg_50]) (by omega))) hw (lv_sub hl [0, 2, 3] rfl)
  exact hl_7_18 ((64 - 0 : Int).toNat + 1) 0 M_2 g_6 _ _ _ (Nat.lt_succ_self _) (by have lt0 : (0 : Int32).toInt = 0 := (by decide); first | omega | decide) (by have lt0 : (0 : Int32).toInt = 0 := (by decide); first | omega | decide) iM_2 (q_3) q_4 (q_5) ((tT_fr q_3).trans hT) ((tT_fr q_3).trans hL) p0r_1 rfl hw (lv_sub hl [0, 1, 2] rfl)
set_option maxHeartbeats 4000000 in
set_option maxRecDepth 100000 in
theorem x_X4_readSum_7 (l : Launch) (D : va_G) (A : Nat → Nat → Nat) (cy : Nat → ClassId) (hJ : ti_inj ti_LT A) (M : ti_M) (hI : cI M) (t : Nat) (ht : t = 3 ∨ t = 4) (hT : tT M 1 1 = some t) (lw : Nat) (hlw : ti_ob ti_LT lw 1) (hL : tT M 1 2 = some lw) (B : Nat → Int) (n : Nat) (rg : Nat → Int) (hr : rC B n t rg M) : ti_KvE l yX4_readSum cX4_readSum 4 17 ti_LT D A cy M [.ref (A 1 0), .int 7] (fun M2 => cI M2 ∧ M2.2.2.2 = M.2.2.2 ∧ f0 M2 M ∧ tI M2 2 1 = tI M 2 1 ∧ rC B n t (pp_sm B n (pp_pt B n 1) rg) M2) := by
  refine ti_eVE yp_X4_readSum hJ ti_LT_nd (Nat.le_of_ble_eq_true rfl) ?_
  intro p e s m args below meth c Q H0 C hE hQ hw ls hl
  have hx := C.1
  have hb := C.2.1
  have hl : lv_has ls 4 [(0, .ref (A 1 0)), (1, .int 7)] := hl
  have l0 : rg 0 = (tI M 2 4).toInt := hr.2.1.1
  have l1 : rg 1 = (tI M 2 6).toInt := hr.2.1.2.1
  have l2 : rg 2 = (tI M 2 5).toInt := hr.2.1.2.2.1
  have l3 : rg 3 = (tI M 2 3).toInt := hr.2.1.2.2.2
  have l4 : rg 4 = (tI M 1 4).toInt := hr.2.2.1.1
  have l5 : rg 5 = (tI M 1 5).toInt := hr.2.2.1.2.1
  have l7 : rg 7 = (tI M t 4).toInt := hr.2.2.2.1.1
  have l8 : rg 8 = (tI M t 5).toInt := hr.2.2.2.1.2.1
  have l9 : rg 9 = (tI M t 3).toInt := hr.2.2.2.1.2.2
  refine lv_aload_n hx hb dX4_readSum_0 rfl (lv_at hl 0 rfl) ?_
  refine lv_iload_n hx hb dX4_readSum_1 rfl (lv_at hl 1 rfl) ?_
  refine ti_callVvE (ci := 4) (av := [.int 7]) C hE hw (x_X4_readProduct_7 l D A cy hJ M hI t ht (hT) lw hlw (hL) B n rg hr) ⟨ml_X4_184, ym_X4_readProduct, yv_X4_readProduct, yi_X4_readProduct, yc_X4_readProduct⟩ yd_X4_readProduct ob_1 (by decide) rfl rfl hl.1 (Nat.le_of_ble_eq_true rfl) ⟨by decide, by decide⟩ ⟨Nat.zero_le _, Nat.zero_le _⟩ dX4_readSum_2 (fun M_2 H locs hp_2 hw => ?_)
  obtain ⟨iM_2, q_3, q_4, q_5, p0r_1⟩ := hp_2
  obtain ⟨g_6, eg_6⟩ : ∃ z : Nat → Int, z = pp_pd B n (pp_pt B n 1) rg := ⟨_, rfl⟩
  rw [← eg_6] at p0r_1
  have lg_6_0 : g_6 0 = (tI M_2 2 4).toInt := p0r_1.2.1.1
  have lg_6_1 : g_6 1 = (tI M_2 2 6).toInt := p0r_1.2.1.2.1
  have lg_6_4 : g_6 4 = (tI M_2 1 4).toInt := p0r_1.2.2.1.1
  have lg_6_7 : g_6 7 = (tI M_2 t 4).toInt := p0r_1.2.2.2.1.1
  have lg_6_8 : g_6 8 = (tI M_2 t 5).toInt := p0r_1.2.2.2.1.2.1
  refine lv_iconst (v := 0) hx hb dX4_readSum_5 (by decide) ?_
  refine lv_istore_n (lv' := [(2, .int 0), (0, .ref (A 1 0)), (1, .int 7)]) hx hb dX4_readSum_6 rfl hl (by decide) rfl (fun ls hl => ?_)
  have hl_7_18 : ∀ (n_19 : Nat) (x_7 : Int32) (M_10 : ti_M) (g_16 : Nat → Int) (H : Heap) (locs : List Loc) (ls : Array Slot), (64 - x_7.toInt : Int).toNat < n_19 → (0 ≤ x_7.toInt) → (x_7.toInt ≤ 64) → (cI M_10) → (M_10.2.2.2 = M.2.2.2) → (f0 M_10 M) → (tI M_10 2 1 = tI M 2 1) → (tT M_10 1 1 = (some t)) → (tT M_10 1 2 = (some lw)) → (rC B n t g_16 M_10) → (pp_lp pp_qP (fun s => pp_pd B n (pp_pt B n 1) (pp_kn B n s)) 64 g_6 = pp_lp pp_qP (fun s => pp_pd B n (pp_pt B n 1) (pp_kn B n s)) (64 - (x_7.toInt).toNat) g_16) → ti_H ti_LT D A cy H0 M_10 H locs → lv_has ls 4 [(2, .int x_7), (0, .ref (A 1 0)), (1, .int 7)] → W p l e (ti_rm 17) s m args below meth c H locs 0 0 Q (F0 m 7 ls []) := by
    intro n_19
    induction n_19 with
    | zero => intro x_7 M_10 g_16 H locs ls hf_19; exact absurd hf_19 (Nat.not_lt_zero _)
    | succ n_19 ih_19 =>
      intro x_7 M_10 g_16 H locs ls hf_19 b_8 b_9 iM_10 f_11 f_12 f_13 f_14 f_15 hs_17 j_18 hw hl
      have lg_16_0 : g_16 0 = (tI M_10 2 4).toInt := hs_17.2.1.1
      have lg_16_1 : g_16 1 = (tI M_10 2 6).toInt := hs_17.2.1.2.1
      have lg_16_4 : g_16 4 = (tI M_10 1 4).toInt := hs_17.2.2.1.1
      have lg_16_7 : g_16 7 = (tI M_10 t 4).toInt := hs_17.2.2.2.1.1
      have lg_16_8 : g_16 8 = (tI M_10 t 5).toInt := hs_17.2.2.2.1.2.1
      refine lv_iload_n hx hb dX4_readSum_7 rfl (lv_at hl 0 rfl) ?_
      refine lv_bipush (v := 64) hx hb dX4_readSum_8 (by decide) ?_
      refine sb_icmp_ge (tgt := 69) hx hb rfl (by decide : (64 : Int32).toInt = 64) dX4_readSum_10 (by decide) (fun c_10_19 => ?_) (fun c_10_19 => ?_)
      · exact hQ _ _ _ _ _ hw (⟨iM_10, (f_11), f_12, (f_13), (by unfold pp_sm; rw [← eg_6, j_18, lp_end (P := pp_qP) (f := 64 - x_7.toInt.toNat) (s := g_16) (Or.inl (by omega))]; exact hs_17)⟩) dX4_readSum_69
      · refine lv_aload_n hx hb dX4_readSum_13 rfl (lv_at hl 1 rfl) ?_
        refine ti_get (ci := 4) (k := 0) (N := 6) (T := TX4) (v := .ref (A 2 0)) C hw iw_4 rfl ob_1 (by decide) (by decide) fl_X4_12 rfl rfl dX4_readSum_14 ?_
        refine ti_get (ci := 7) (k := 4) (N := 7) (T := TX7) C hw iw_7 rfl ob_2 (by decide) (by decide) fl_X4_41 rfl rfl dX4_readSum_17 ?_
        refine lv_topi (fun x_21 ex_21 => ?_)
        have bx_21 : 0 ≤ x_21.toInt ∧ x_21.toInt ≤ 41 := cI_rd iM_10 ob_2.1 ex_21
        have ux_21 : (tI M_10 2 4).toInt = x_21.toInt := by rw [ex_21]
        refine lv_bipush (v := 38) hx hb dX4_readSum_20 (by decide) ?_
        refine sb_icmp_eq (tgt := 37) hx hb rfl (by decide : (38 : Int32).toInt = 38) dX4_readSum_22 (by decide) (fun c_22_21 => ?_) (fun c_22_21 => ?_)
        · refine lv_aload_n hx hb dX4_readSum_37 rfl (lv_at hl 1 rfl) ?_
          refine ti_get (ci := 4) (k := 0) (N := 6) (T := TX4) (v := .ref (A 2 0)) C hw iw_4 rfl ob_1 (by decide) (by decide) fl_X4_12 rfl rfl dX4_readSum_38 ?_
          refine ti_get (ci := 7) (k := 4) (N := 7) (T := TX7) C hw iw_7 rfl ob_2 (by decide) (by decide) fl_X4_41 rfl rfl dX4_readSum_41 ?_
          refine ti_top (y := x_21) (ex_21.symm) ?_
          have u_25 : (tI M_10 2 4).toInt = (x_21 : Int32).toInt := by rw [(ex_21.symm)]
          refine lv_istore_n (lv' := [(3, .int x_21), (2, .int x_7), (0, .ref (A 1 0)), (1, .int 7)]) hx hb dX4_readSum_44 rfl hl (by decide) rfl (fun ls hl => ?_)
          refine lv_aload_n hx hb dX4_readSum_45 rfl (lv_at hl 2 rfl) ?_
          refine ti_callVvE (ci := 4) (av := []) C hE hw (x_X4_knot l D A cy hJ M_10 iM_10 t ht (f_14) B n g_16 hs_17) ⟨ml_X4_167, ym_X4_knot, yv_X4_knot, yi_X4_knot, yc_X4_knot⟩ yd_X4_knot ob_1 (by decide) rfl rfl hl.1 (Nat.le_of_ble_eq_true rfl) ⟨by decide, by decide⟩ ⟨Nat.zero_le _, Nat.zero_le _⟩ dX4_readSum_46 (fun M_27 H locs hp_27 hw => ?_)
          obtain ⟨iM_27, q_28, q_29, q_30, p0r_26⟩ := hp_27
          obtain ⟨g_31, eg_31⟩ : ∃ z : Nat → Int, z = pp_kn B n g_16 := ⟨_, rfl⟩
          rw [← eg_31] at p0r_26
          have lg_31_0 : g_31 0 = (tI M_27 2 4).toInt := p0r_26.2.1.1
          have lg_31_1 : g_31 1 = (tI M_27 2 6).toInt := p0r_26.2.1.2.1
          have lg_31_4 : g_31 4 = (tI M_27 1 4).toInt := p0r_26.2.2.1.1
          have lg_31_7 : g_31 7 = (tI M_27 t 4).toInt := p0r_26.2.2.2.1.1
          have lg_31_8 : g_31 8 = (tI M_27 t 5).toInt := p0r_26.2.2.2.1.2.1
          refine lv_aload_n hx hb dX4_readSum_49 rfl (lv_at hl 2 rfl) ?_
          refine lv_iload_n hx hb dX4_readSum_50 rfl (lv_at hl 3 rfl) ?_
          refine ti_callVvE (ci := 4) (av := [.int 7]) C hE hw (x_X4_readProduct_7 l D A cy hJ M_27 iM_27 t ht ((tT_fr q_28).trans f_14) lw hlw ((tT_fr q_28).trans f_15) B n g_31 p0r_26) ⟨ml_X4_184, ym_X4_readProduct, yv_X4_readProduct, yi_X4_readProduct, yc_X4_readProduct⟩ yd_X4_readProduct ob_1 (by decide) rfl rfl hl.1 (Nat.le_of_ble_eq_true rfl) ⟨by decide, by decide⟩ ⟨Nat.zero_le _, Nat.zero_le _⟩ dX4_readSum_51 (fun M_33 H locs hp_33 hw => ?_)
          obtain ⟨iM_33, q_34, q_35, q_36, p0r_32⟩ := hp_33
          obtain ⟨g_37, eg_37⟩ : ∃ z : Nat → Int, z = pp_pd B n (pp_pt B n 1) g_31 := ⟨_, rfl⟩
          rw [← eg_37] at p0r_32
          have lg_37_0 : g_37 0 = (tI M_33 2 4).toInt := p0r_32.2.1.1
          have lg_37_1 : g_37 1 = (tI M_33 2 6).toInt := p0r_32.2.1.2.1
          have lg_37_4 : g_37 4 = (tI M_33 1 4).toInt := p0r_32.2.2.1.1
          have lg_37_7 : g_37 7 = (tI M_33 t 4).toInt := p0r_32.2.2.2.1.1
          have lg_37_8 : g_37 8 = (tI M_33 t 5).toInt := p0r_32.2.2.2.1.2.1
          refine lv_aload_n hx hb dX4_readSum_54 rfl (lv_at hl 2 rfl) ?_
          refine ti_get (ci := 4) (k := 2) (N := 6) (T := TX4) (v := .ref (A lw 0)) C hw iw_4 rfl ob_1 (by decide) (by decide) fl_X4_154 rfl (ti_Tv ((tT_fr q_34).trans ((tT_fr q_28).trans f_15))) dX4_readSum_55 ?_
          refine lv_iload_n hx hb dX4_readSum_58 rfl (lv_at hl 0 rfl) ?_
          refine lv_ineg hx hb dX4_readSum_59 ?_
          refine lv_topi (fun x_38 ex_38 => ?_)
          have tx_38 : x_38.toInt = -x_21.toInt := i_neg ex_38 rfl (by omega)
          refine ti_callVv (ci := 1) (av := [.int x_38]) C hw (x_X1_add l D A cy hJ M_33 iM_33 lw hlw x_38 (by first | omega | exact Or.inl (by decide) | exact Or.inr (by decide)) t ht B n g_37 p0r_32) ⟨ml_X4_170, ym_X1_add, yv_X1_add, yi_X1_add, yc_X1_add⟩ yd_X1_add hlw (by decide) rfl rfl hl.1 (Nat.le_of_ble_eq_true rfl) ⟨by decide, by decide⟩ ⟨Nat.zero_le _, Nat.zero_le _⟩ dX4_readSum_60 (fun M_40 H locs hp_40 hw => ?_)
          obtain ⟨iM_40, q_41, q_42, p0r_39⟩ := hp_40
          have lM_40_0 : g_37 0 = (tI M_40 2 4).toInt := p0r_39.2.1.1
          have lM_40_1 : g_37 1 = (tI M_40 2 6).toInt := p0r_39.2.1.2.1
          have lM_40_4 : g_37 4 = (tI M_40 1 4).toInt := p0r_39.2.2.1.1
          have lM_40_7 : g_37 7 = (tI M_40 t 4).toInt := p0r_39.2.2.2.1.1
          have lM_40_8 : g_37 8 = (tI M_40 t 5).toInt := p0r_39.2.2.2.1.2.1
          obtain ⟨x_43, ex_43⟩ : ∃ z : Int32, z = x_7 + 1 := ⟨_, rfl⟩
          have tx_43 : x_43.toInt = x_7.toInt + 1 := i_add ex_43 rfl (by decide) (by omega) (by omega)
          refine lv_iinc (v := x_43) (lv' := [(2, .int x_43), (3, .int x_21), (0, .ref (A 1 0)), (1, .int 7)]) hx hb dX4_readSum_63 hl (k := 1) rfl (by rw [ex_43]; rfl) (by decide) rfl (fun ls hl => ?_)
          refine lv_goto (tgt := 7) hx hb dX4_readSum_66 (by decide) ?_
          exact ih_19 x_43 M_40 g_37 _ _ _ (by omega) (by first | omega | decide) (by first | omega | decide) iM_40 ((q_41).trans ((q_34).trans ((q_28).trans f_11))) (f0.trans (f0_x q_42) (f0.trans q_35 (f0.trans q_29 f_12))) (((q_42 1).2.1).trans ((q_36).trans ((q_30).trans f_13))) ((tT_fr q_41).trans ((tT_fr q_34).trans ((tT_fr q_28).trans f_14))) ((tT_fr q_41).trans ((tT_fr q_34).trans ((tT_fr q_28).trans f_15))) p0r_39 (j_18.trans (lp_step (decide_eq_true (by omega)) (by rw [eg_37, eg_31]) (by omega))) hw (lv_sub hl [0, 2, 3] rfl)
        · refine lv_aload_n hx hb dX4_readSum_25 rfl (lv_at hl 1 rfl) ?_
          refine ti_get (ci := 4) (k := 0) (N := 6) (T := TX4) (v := .ref (A 2 0)) C hw iw_4 rfl ob_1 (by decide) (by decide) fl_X4_12 rfl rfl dX4_readSum_26 ?_
          refine ti_get (ci := 7) (k := 4) (N := 7) (T := TX7) C hw iw_7 rfl ob_2 (by decide) (by decide) fl_X4_41 rfl rfl dX4_readSum_29 ?_
          refine ti_top (y := x_21) (ex_21.symm) ?_
          have u_23 : (tI M_10 2 4).toInt = (x_21 : Int32).toInt := by rw [(ex_21.symm)]
          refine lv_bipush (v := 39) hx hb dX4_readSum_32 (by decide) ?_
          refine sb_icmp_ne (tgt := 69) hx hb rfl (by decide : (39 : Int32).toInt = 39) dX4_readSum_34 (by decide) (fun c_34_23 => ?_) (fun c_34_23 => ?_)
          · exact hQ _ _ _ _ _ hw (⟨iM_10, (f_11), f_12, (f_13), (by unfold pp_sm; rw [← eg_6, j_18, lp_end (P := pp_qP) (f := 64 - x_7.toInt.toNat) (s := g_16) (Or.inr (decide_eq_false (by omega)))]; exact hs_17)⟩) dX4_readSum_69
          · refine lv_aload_n hx hb dX4_readSum_37 rfl (lv_at hl 1 rfl) ?_
            refine ti_get (ci := 4) (k := 0) (N := 6) (T := TX4) (v := .ref (A 2 0)) C hw iw_4 rfl ob_1 (by decide) (by decide) fl_X4_12 rfl rfl dX4_readSum_38 ?_
            refine ti_get (ci := 7) (k := 4) (N := 7) (T := TX7) C hw iw_7 rfl ob_2 (by decide) (by decide) fl_X4_41 rfl rfl dX4_readSum_41 ?_
            refine ti_top (y := x_21) (ex_21.symm) ?_
            have u_44 : (tI M_10 2 4).toInt = (x_21 : Int32).toInt := by rw [(ex_21.symm)]
            refine lv_istore_n (lv' := [(3, .int x_21), (2, .int x_7), (0, .ref (A 1 0)), (1, .int 7)]) hx hb dX4_readSum_44 rfl hl (by decide) rfl (fun ls hl => ?_)
            refine lv_aload_n hx hb dX4_readSum_45 rfl (lv_at hl 2 rfl) ?_
            refine ti_callVvE (ci := 4) (av := []) C hE hw (x_X4_knot l D A cy hJ M_10 iM_10 t ht (f_14) B n g_16 hs_17) ⟨ml_X4_167, ym_X4_knot, yv_X4_knot, yi_X4_knot, yc_X4_knot⟩ yd_X4_knot ob_1 (by decide) rfl rfl hl.1 (Nat.le_of_ble_eq_true rfl) ⟨by decide, by decide⟩ ⟨Nat.zero_le _, Nat.zero_le _⟩ dX4_readSum_46 (fun M_46 H locs hp_46 hw => ?_)
            obtain ⟨iM_46, q_47, q_48, q_49, p0r_45⟩ := hp_46
            obtain ⟨g_50, eg_50⟩ : ∃ z : Nat → Int, z = pp_kn B n g_16 := ⟨_, rfl⟩
            rw [← eg_50] at p0r_45
            have lg_50_0 : g_50 0 = (tI M_46 2 4).toInt := p0r_45.2.1.1
            have lg_50_1 : g_50 1 = (tI M_46 2 6).toInt := p0r_45.2.1.2.1
            have lg_50_4 : g_50 4 = (tI M_46 1 4).toInt := p0r_45.2.2.1.1
            have lg_50_7 : g_50 7 = (tI M_46 t 4).toInt := p0r_45.2.2.2.1.1
            have lg_50_8 : g_50 8 = (tI M_46 t 5).toInt := p0r_45.2.2.2.1.2.1
            refine lv_aload_n hx hb dX4_readSum_49 rfl (lv_at hl 2 rfl) ?_
            refine lv_iload_n hx hb dX4_readSum_50 rfl (lv_at hl 3 rfl) ?_
            refine ti_callVvE (ci := 4) (av := [.int 7]) C hE hw (x_X4_readProduct_7 l D A cy hJ M_46 iM_46 t ht ((tT_fr q_47).trans f_14) lw hlw ((tT_fr q_47).trans f_15) B n g_50 p0r_45) ⟨ml_X4_184, ym_X4_readProduct, yv_X4_readProduct, yi_X4_readProduct, yc_X4_readProduct⟩ yd_X4_readProduct ob_1 (by decide) rfl rfl hl.1 (Nat.le_of_ble_eq_true rfl) ⟨by decide, by decide⟩ ⟨Nat.zero_le _, Nat.zero_le _⟩ dX4_readSum_51 (fun M_52 H locs hp_52 hw => ?_)
            obtain ⟨iM_52, q_53, q_54, q_55, p0r_51⟩ := hp_52
            obtain ⟨g_56, eg_56⟩ : ∃ z : Nat → Int, z = pp_pd B n (pp_pt B n 1) g_50 := ⟨_, rfl⟩
            rw [← eg_56] at p0r_51
            have lg_56_0 : g_56 0 = (tI M_52 2 4).toInt := p0r_51.2.1.1
            have lg_56_1 : g_56 1 = (tI M_52 2 6).toInt := p0r_51.2.1.2.1
            have lg_56_4 : g_56 4 = (tI M_52 1 4).toInt := p0r_51.2.2.1.1
            have lg_56_7 : g_56 7 = (tI M_52 t 4).toInt := p0r_51.2.2.2.1.1
            have lg_56_8 : g_56 8 = (tI M_52 t 5).toInt := p0r_51.2.2.2.1.2.1
            refine lv_aload_n hx hb dX4_readSum_54 rfl (lv_at hl 2 rfl) ?_
            refine ti_get (ci := 4) (k := 2) (N := 6) (T := TX4) (v := .ref (A lw 0)) C hw iw_4 rfl ob_1 (by decide) (by decide) fl_X4_154 rfl (ti_Tv ((tT_fr q_53).trans ((tT_fr q_47).trans f_15))) dX4_readSum_55 ?_
            refine lv_iload_n hx hb dX4_readSum_58 rfl (lv_at hl 0 rfl) ?_
            refine lv_ineg hx hb dX4_readSum_59 ?_
            refine lv_topi (fun x_57 ex_57 => ?_)
            have tx_57 : x_57.toInt = -x_21.toInt := i_neg ex_57 rfl (by omega)
            refine ti_callVv (ci := 1) (av := [.int x_57]) C hw (x_X1_add l D A cy hJ M_52 iM_52 lw hlw x_57 (by first | omega | exact Or.inl (by decide) | exact Or.inr (by decide)) t ht B n g_56 p0r_51) ⟨ml_X4_170, ym_X1_add, yv_X1_add, yi_X1_add, yc_X1_add⟩ yd_X1_add hlw (by decide) rfl rfl hl.1 (Nat.le_of_ble_eq_true rfl) ⟨by decide, by decide⟩ ⟨Nat.zero_le _, Nat.zero_le _⟩ dX4_readSum_60 (fun M_59 H locs hp_59 hw => ?_)
            obtain ⟨iM_59, q_60, q_61, p0r_58⟩ := hp_59
            have lM_59_0 : g_56 0 = (tI M_59 2 4).toInt := p0r_58.2.1.1
            have lM_59_1 : g_56 1 = (tI M_59 2 6).toInt := p0r_58.2.1.2.1
            have lM_59_4 : g_56 4 = (tI M_59 1 4).toInt := p0r_58.2.2.1.1
            have lM_59_7 : g_56 7 = (tI M_59 t 4).toInt := p0r_58.2.2.2.1.1
            have lM_59_8 : g_56 8 = (tI M_59 t 5).toInt := p0r_58.2.2.2.1.2.1
            obtain ⟨x_62, ex_62⟩ : ∃ z : Int32, z = x_7 + 1 := ⟨_, rfl⟩
            have tx_62 : x_62.toInt = x_7.toInt + 1 := i_add ex_62 rfl (by decide) (by omega) (by omega)
            refine lv_iinc (v := x_62) (lv' := [(2, .int x_62), (3, .int x_21), (0, .ref (A 1 0)), (1, .int 7)]) hx hb dX4_readSum_63 hl (k := 1) rfl (by rw [ex_62]; rfl) (by decide) rfl (fun ls hl => ?_)
            refine lv_goto (tgt := 7) hx hb dX4_readSum_66 (by decide) ?_
            exact ih_19 x_62 M_59 g_56 _ _ _ (by omega) (by first | omega | decide) (by first | omega | decide) iM_59 ((q_60).trans ((q_53).trans ((q_47).trans f_11))) (f0.trans (f0_x q_61) (f0.trans q_54 (f0.trans q_48 f_12))) (((q_61 1).2.1).trans ((q_55).trans ((q_49).trans f_13))) ((tT_fr q_60).trans ((tT_fr q_53).trans ((tT_fr q_47).trans f_14))) ((tT_fr q_60).trans ((tT_fr q_53).trans ((tT_fr q_47).trans f_15))) p0r_58 (j_18.trans (lp_step (decide_eq_true (by omega)) (by rw [eg_56, eg_50]) (by omega))) hw (lv_sub hl [0, 2, 3] rfl)
  exact hl_7_18 ((64 - 0 : Int).toNat + 1) 0 M_2 g_6 _ _ _ (Nat.lt_succ_self _) (by have lt0 : (0 : Int32).toInt = 0 := (by decide); first | omega | decide) (by have lt0 : (0 : Int32).toInt = 0 := (by decide); first | omega | decide) iM_2 (q_3) q_4 (q_5) ((tT_fr q_3).trans hT) ((tT_fr q_3).trans hL) p0r_1 rfl hw (lv_sub hl [0, 1, 2] rfl)
set_option maxHeartbeats 4000000 in
set_option maxRecDepth 100000 in
theorem x_X4_readComparison_7 (l : Launch) (D : va_G) (A : Nat → Nat → Nat) (cy : Nat → ClassId) (hJ : ti_inj ti_LT A) (M : ti_M) (hI : cI M) (t : Nat) (ht : t = 3 ∨ t = 4) (hT : tT M 1 1 = some t) (lw : Nat) (hlw : ti_ob ti_LT lw 1) (hL : tT M 1 2 = some lw) (B : Nat → Int) (n : Nat) (rg : Nat → Int) (hr : rC B n t rg M) : ti_KvE l yX4_readComparison cX4_readComparison 3 18 ti_LT D A cy M [.ref (A 1 0), .int 7] (fun M2 => cI M2 ∧ M2.2.2.2 = M.2.2.2 ∧ f0 M2 M ∧ tI M2 2 1 = tI M 2 1 ∧ rC B n t (pp_cm B n (pp_pt B n 1) rg) M2) := by
  refine ti_eVE yp_X4_readComparison hJ ti_LT_nd (Nat.le_of_ble_eq_true rfl) ?_
  intro p e s m args below meth c Q H0 C hE hQ hw ls hl
  have hx := C.1
  have hb := C.2.1
  have hl : lv_has ls 3 [(0, .ref (A 1 0)), (1, .int 7)] := hl
  have l0 : rg 0 = (tI M 2 4).toInt := hr.2.1.1
  have l1 : rg 1 = (tI M 2 6).toInt := hr.2.1.2.1
  have l2 : rg 2 = (tI M 2 5).toInt := hr.2.1.2.2.1
  have l3 : rg 3 = (tI M 2 3).toInt := hr.2.1.2.2.2
  have l4 : rg 4 = (tI M 1 4).toInt := hr.2.2.1.1
  have l5 : rg 5 = (tI M 1 5).toInt := hr.2.2.1.2.1
  have l7 : rg 7 = (tI M t 4).toInt := hr.2.2.2.1.1
  have l8 : rg 8 = (tI M t 5).toInt := hr.2.2.2.1.2.1
  have l9 : rg 9 = (tI M t 3).toInt := hr.2.2.2.1.2.2
  refine lv_aload_n hx hb dX4_readComparison_0 rfl (lv_at hl 0 rfl) ?_
  refine lv_iload_n hx hb dX4_readComparison_1 rfl (lv_at hl 1 rfl) ?_
  refine ti_callVvE (ci := 4) (av := [.int 7]) C hE hw (x_X4_readSum_7 l D A cy hJ M hI t ht (hT) lw hlw (hL) B n rg hr) ⟨ml_X4_181, ym_X4_readSum, yv_X4_readSum, yi_X4_readSum, yc_X4_readSum⟩ yd_X4_readSum ob_1 (by decide) rfl rfl hl.1 (Nat.le_of_ble_eq_true rfl) ⟨by decide, by decide⟩ ⟨Nat.zero_le _, Nat.zero_le _⟩ dX4_readComparison_2 (fun M_2 H locs hp_2 hw => ?_)
  obtain ⟨iM_2, q_3, q_4, q_5, p0r_1⟩ := hp_2
  obtain ⟨g_6, eg_6⟩ : ∃ z : Nat → Int, z = pp_sm B n (pp_pt B n 1) rg := ⟨_, rfl⟩
  rw [← eg_6] at p0r_1
  have lg_6_0 : g_6 0 = (tI M_2 2 4).toInt := p0r_1.2.1.1
  have lg_6_1 : g_6 1 = (tI M_2 2 6).toInt := p0r_1.2.1.2.1
  have lg_6_4 : g_6 4 = (tI M_2 1 4).toInt := p0r_1.2.2.1.1
  have lg_6_7 : g_6 7 = (tI M_2 t 4).toInt := p0r_1.2.2.2.1.1
  have lg_6_8 : g_6 8 = (tI M_2 t 5).toInt := p0r_1.2.2.2.1.2.1
  refine lv_aload_n hx hb dX4_readComparison_5 rfl (lv_at hl 0 rfl) ?_
  refine ti_get (ci := 4) (k := 0) (N := 6) (T := TX4) (v := .ref (A 2 0)) C hw iw_4 rfl ob_1 (by decide) (by decide) fl_X4_12 rfl rfl dX4_readComparison_6 ?_
  refine ti_get (ci := 7) (k := 4) (N := 7) (T := TX7) C hw iw_7 rfl ob_2 (by decide) (by decide) fl_X4_41 rfl rfl dX4_readComparison_9 ?_
  refine lv_topi (fun x_7 ex_7 => ?_)
  have bx_7 : 0 ≤ x_7.toInt ∧ x_7.toInt ≤ 41 := cI_rd iM_2 ob_2.1 ex_7
  have ux_7 : (tI M_2 2 4).toInt = x_7.toInt := by rw [ex_7]
  refine lv_istore_n (lv' := [(2, .int x_7), (0, .ref (A 1 0)), (1, .int 7)]) hx hb dX4_readComparison_12 rfl hl (by decide) rfl (fun ls hl => ?_)
  refine lv_iload_n hx hb dX4_readComparison_13 rfl (lv_at hl 0 rfl) ?_
  refine lv_bipush (v := 32) hx hb dX4_readComparison_14 (by decide) ?_
  refine sb_icmp_lt (tgt := 43) hx hb rfl (by decide : (32 : Int32).toInt = 32) dX4_readComparison_16 (by decide) (fun c_16_7 => ?_) (fun c_16_7 => ?_)
  · exact hQ _ _ _ _ _ hw (⟨iM_2, (q_3), q_4, (q_5), (by unfold pp_cm; rw [← eg_6]; unfold pp_c2; rw [if_neg (fun q => by omega)]; exact p0r_1)⟩) dX4_readComparison_43
  · refine lv_iload_n hx hb dX4_readComparison_19 rfl (lv_at hl 0 rfl) ?_
    refine lv_bipush (v := 37) hx hb dX4_readComparison_20 (by decide) ?_
    refine sb_icmp_gt (tgt := 43) hx hb rfl (by decide : (37 : Int32).toInt = 37) dX4_readComparison_22 (by decide) (fun c_22_8 => ?_) (fun c_22_8 => ?_)
    · exact hQ _ _ _ _ _ hw (⟨iM_2, (q_3), q_4, (q_5), (by unfold pp_cm; rw [← eg_6]; unfold pp_c2; rw [if_neg (fun q => by omega)]; exact p0r_1)⟩) dX4_readComparison_43
    · refine lv_aload_n hx hb dX4_readComparison_25 rfl (lv_at hl 1 rfl) ?_
      refine ti_callVvE (ci := 4) (av := []) C hE hw (x_X4_knot l D A cy hJ M_2 iM_2 t ht ((tT_fr q_3).trans hT) B n g_6 p0r_1) ⟨ml_X4_167, ym_X4_knot, yv_X4_knot, yi_X4_knot, yc_X4_knot⟩ yd_X4_knot ob_1 (by decide) rfl rfl hl.1 (Nat.le_of_ble_eq_true rfl) ⟨by decide, by decide⟩ ⟨Nat.zero_le _, Nat.zero_le _⟩ dX4_readComparison_26 (fun M_11 H locs hp_11 hw => ?_)
      obtain ⟨iM_11, q_12, q_13, q_14, p0r_10⟩ := hp_11
      obtain ⟨g_15, eg_15⟩ : ∃ z : Nat → Int, z = pp_kn B n g_6 := ⟨_, rfl⟩
      rw [← eg_15] at p0r_10
      have lg_15_0 : g_15 0 = (tI M_11 2 4).toInt := p0r_10.2.1.1
      have lg_15_1 : g_15 1 = (tI M_11 2 6).toInt := p0r_10.2.1.2.1
      have lg_15_4 : g_15 4 = (tI M_11 1 4).toInt := p0r_10.2.2.1.1
      have lg_15_7 : g_15 7 = (tI M_11 t 4).toInt := p0r_10.2.2.2.1.1
      have lg_15_8 : g_15 8 = (tI M_11 t 5).toInt := p0r_10.2.2.2.1.2.1
      refine lv_aload_n hx hb dX4_readComparison_29 rfl (lv_at hl 1 rfl) ?_
      refine lv_iload_n hx hb dX4_readComparison_30 rfl (lv_at hl 2 rfl) ?_
      refine ti_callVvE (ci := 4) (av := [.int 7]) C hE hw (x_X4_readSum_7 l D A cy hJ M_11 iM_11 t ht ((tT_fr q_12).trans ((tT_fr q_3).trans hT)) lw hlw ((tT_fr q_12).trans ((tT_fr q_3).trans hL)) B n g_15 p0r_10) ⟨ml_X4_181, ym_X4_readSum, yv_X4_readSum, yi_X4_readSum, yc_X4_readSum⟩ yd_X4_readSum ob_1 (by decide) rfl rfl hl.1 (Nat.le_of_ble_eq_true rfl) ⟨by decide, by decide⟩ ⟨Nat.zero_le _, Nat.zero_le _⟩ dX4_readComparison_31 (fun M_17 H locs hp_17 hw => ?_)
      obtain ⟨iM_17, q_18, q_19, q_20, p0r_16⟩ := hp_17
      obtain ⟨g_21, eg_21⟩ : ∃ z : Nat → Int, z = pp_sm B n (pp_pt B n 1) g_15 := ⟨_, rfl⟩
      rw [← eg_21] at p0r_16
      have lg_21_0 : g_21 0 = (tI M_17 2 4).toInt := p0r_16.2.1.1
      have lg_21_1 : g_21 1 = (tI M_17 2 6).toInt := p0r_16.2.1.2.1
      have lg_21_4 : g_21 4 = (tI M_17 1 4).toInt := p0r_16.2.2.1.1
      have lg_21_7 : g_21 7 = (tI M_17 t 4).toInt := p0r_16.2.2.2.1.1
      have lg_21_8 : g_21 8 = (tI M_17 t 5).toInt := p0r_16.2.2.2.1.2.1
      refine lv_aload_n hx hb dX4_readComparison_34 rfl (lv_at hl 1 rfl) ?_
      refine ti_get (ci := 4) (k := 2) (N := 6) (T := TX4) (v := .ref (A lw 0)) C hw iw_4 rfl ob_1 (by decide) (by decide) fl_X4_154 rfl (ti_Tv ((tT_fr q_18).trans ((tT_fr q_12).trans ((tT_fr q_3).trans hL)))) dX4_readComparison_35 ?_
      refine lv_iload_n hx hb dX4_readComparison_38 rfl (lv_at hl 0 rfl) ?_
      refine lv_ineg hx hb dX4_readComparison_39 ?_
      refine lv_topi (fun x_22 ex_22 => ?_)
      have tx_22 : x_22.toInt = -x_7.toInt := i_neg ex_22 rfl (by omega)
      refine ti_callVv (ci := 1) (av := [.int x_22]) C hw (x_X1_add l D A cy hJ M_17 iM_17 lw hlw x_22 (by first | omega | exact Or.inl (by decide) | exact Or.inr (by decide)) t ht B n g_21 p0r_16) ⟨ml_X4_170, ym_X1_add, yv_X1_add, yi_X1_add, yc_X1_add⟩ yd_X1_add hlw (by decide) rfl rfl hl.1 (Nat.le_of_ble_eq_true rfl) ⟨by decide, by decide⟩ ⟨Nat.zero_le _, Nat.zero_le _⟩ dX4_readComparison_40 (fun M_24 H locs hp_24 hw => ?_)
      obtain ⟨iM_24, q_25, q_26, p0r_23⟩ := hp_24
      have lM_24_0 : g_21 0 = (tI M_24 2 4).toInt := p0r_23.2.1.1
      have lM_24_1 : g_21 1 = (tI M_24 2 6).toInt := p0r_23.2.1.2.1
      have lM_24_4 : g_21 4 = (tI M_24 1 4).toInt := p0r_23.2.2.1.1
      have lM_24_7 : g_21 7 = (tI M_24 t 4).toInt := p0r_23.2.2.2.1.1
      have lM_24_8 : g_21 8 = (tI M_24 t 5).toInt := p0r_23.2.2.2.1.2.1
      exact hQ _ _ _ _ _ hw (⟨iM_24, ((q_25).trans ((q_18).trans ((q_12).trans q_3))), (f0.trans (f0_x q_26) (f0.trans q_19 (f0.trans q_13 q_4))), (((q_26 1).2.1).trans ((q_20).trans ((q_14).trans q_5))), (by unfold pp_cm; rw [← eg_6]; unfold pp_c2; rw [if_pos ⟨by omega, by omega⟩, ← eg_15, ← eg_21]; exact p0r_23)⟩) dX4_readComparison_43
set_option maxHeartbeats 4000000 in
set_option maxRecDepth 100000 in
theorem x_X4_readNegated_7 (l : Launch) (D : va_G) (A : Nat → Nat → Nat) (cy : Nat → ClassId) (hJ : ti_inj ti_LT A) (M : ti_M) (hI : cI M) (t : Nat) (ht : t = 3 ∨ t = 4) (hT : tT M 1 1 = some t) (lw : Nat) (hlw : ti_ob ti_LT lw 1) (hL : tT M 1 2 = some lw) (B : Nat → Int) (n : Nat) (rg : Nat → Int) (hr : rC B n t rg M) : ti_KvE l yX4_readNegated cX4_readNegated 4 19 ti_LT D A cy M [.ref (A 1 0), .int 7] (fun M2 => cI M2 ∧ M2.2.2.2 = M.2.2.2 ∧ f0 M2 M ∧ tI M2 2 1 = tI M 2 1 ∧ rC B n t (pp_ng B n (pp_pt B n 1) rg) M2) := by
  refine ti_eVE yp_X4_readNegated hJ ti_LT_nd (Nat.le_of_ble_eq_true rfl) ?_
  intro p e s m args below meth c Q H0 C hE hQ hw ls hl
  have hx := C.1
  have hb := C.2.1
  have hl : lv_has ls 4 [(0, .ref (A 1 0)), (1, .int 7)] := hl
  have l0 : rg 0 = (tI M 2 4).toInt := hr.2.1.1
  have l1 : rg 1 = (tI M 2 6).toInt := hr.2.1.2.1
  have l2 : rg 2 = (tI M 2 5).toInt := hr.2.1.2.2.1
  have l3 : rg 3 = (tI M 2 3).toInt := hr.2.1.2.2.2
  have l4 : rg 4 = (tI M 1 4).toInt := hr.2.2.1.1
  have l5 : rg 5 = (tI M 1 5).toInt := hr.2.2.1.2.1
  have l7 : rg 7 = (tI M t 4).toInt := hr.2.2.2.1.1
  have l8 : rg 8 = (tI M t 5).toInt := hr.2.2.2.1.2.1
  have l9 : rg 9 = (tI M t 3).toInt := hr.2.2.2.1.2.2
  refine lv_iconst (v := 0) hx hb dX4_readNegated_0 (by decide) ?_
  refine lv_istore_n (lv' := [(2, .int 0), (0, .ref (A 1 0)), (1, .int 7)]) hx hb dX4_readNegated_1 rfl hl (by decide) rfl (fun ls hl => ?_)
  have hl_2_12 : ∀ (n_13 : Nat) (x_1 : Int32) (M_4 : ti_M) (g_10 : Nat → Int) (H : Heap) (locs : List Loc) (ls : Array Slot), (65 - x_1.toInt : Int).toNat < n_13 → (0 ≤ x_1.toInt) → (x_1.toInt ≤ 65) → (cI M_4) → (M_4.2.2.2 = M.2.2.2) → (f0 M_4 M) → (tI M_4 2 1 = tI M 2 1) → (tT M_4 1 1 = (some t)) → (tT M_4 1 2 = (some lw)) → (rC B n t g_10 M_4) → (pp_lp pp_qN (pp_kn B n) 65 rg = pp_lp pp_qN (pp_kn B n) (65 - (x_1.toInt).toNat) g_10) → ti_H ti_LT D A cy H0 M_4 H locs → lv_has ls 4 [(2, .int x_1), (0, .ref (A 1 0)), (1, .int 7)] → W p l e (ti_rm 19) s m args below meth c H locs 0 0 Q (F0 m 2 ls []) := by
    intro n_13
    induction n_13 with
    | zero => intro x_1 M_4 g_10 H locs ls hf_13; exact absurd hf_13 (Nat.not_lt_zero _)
    | succ n_13 ih_13 =>
      intro x_1 M_4 g_10 H locs ls hf_13 b_2 b_3 iM_4 f_5 f_6 f_7 f_8 f_9 hs_11 j_12 hw hl
      have lg_10_0 : g_10 0 = (tI M_4 2 4).toInt := hs_11.2.1.1
      have lg_10_1 : g_10 1 = (tI M_4 2 6).toInt := hs_11.2.1.2.1
      have lg_10_4 : g_10 4 = (tI M_4 1 4).toInt := hs_11.2.2.1.1
      have lg_10_7 : g_10 7 = (tI M_4 t 4).toInt := hs_11.2.2.2.1.1
      have lg_10_8 : g_10 8 = (tI M_4 t 5).toInt := hs_11.2.2.2.1.2.1
      refine lv_iload_n hx hb dX4_readNegated_2 rfl (lv_at hl 0 rfl) ?_
      refine lv_bipush (v := 64) hx hb dX4_readNegated_3 (by decide) ?_
      have hj_30_24 : ∀  (H : Heap) (locs : List Loc) (ls : Array Slot), (pp_lp pp_qN (pp_kn B n) 65 rg = g_10) → ti_H ti_LT D A cy H0 M_4 H locs → lv_has ls 4 [(2, .int x_1), (0, .ref (A 1 0)), (1, .int 7)] → W p l e (ti_rm 19) s m args below meth c H locs 0 0 Q (F0 m 30 ls []) := by
        intro  H locs ls j_24 hw hl
        have lg_10_0 : g_10 0 = (tI M_4 2 4).toInt := hs_11.2.1.1
        have lg_10_1 : g_10 1 = (tI M_4 2 6).toInt := hs_11.2.1.2.1
        have lg_10_4 : g_10 4 = (tI M_4 1 4).toInt := hs_11.2.2.1.1
        have lg_10_7 : g_10 7 = (tI M_4 t 4).toInt := hs_11.2.2.2.1.1
        have lg_10_8 : g_10 8 = (tI M_4 t 5).toInt := hs_11.2.2.2.1.2.1
        refine lv_aload_n hx hb dX4_readNegated_30 rfl (lv_at hl 1 rfl) ?_
        refine lv_iload_n hx hb dX4_readNegated_31 rfl (lv_at hl 2 rfl) ?_
        refine ti_callVvE (ci := 4) (av := [.int 7]) C hE hw (x_X4_readComparison_7 l D A cy hJ M_4 iM_4 t ht (f_8) lw hlw (f_9) B n g_10 hs_11) ⟨ml_X4_178, ym_X4_readComparison, yv_X4_readComparison, yi_X4_readComparison, yc_X4_readComparison⟩ yd_X4_readComparison ob_1 (by decide) rfl rfl hl.1 (Nat.le_of_ble_eq_true rfl) ⟨by decide, by decide⟩ ⟨Nat.zero_le _, Nat.zero_le _⟩ dX4_readNegated_32 (fun M_26 H locs hp_26 hw => ?_)
        obtain ⟨iM_26, q_27, q_28, q_29, p0r_25⟩ := hp_26
        obtain ⟨g_30, eg_30⟩ : ∃ z : Nat → Int, z = pp_cm B n (pp_pt B n 1) g_10 := ⟨_, rfl⟩
        rw [← eg_30] at p0r_25
        have lg_30_0 : g_30 0 = (tI M_26 2 4).toInt := p0r_25.2.1.1
        have lg_30_1 : g_30 1 = (tI M_26 2 6).toInt := p0r_25.2.1.2.1
        have lg_30_4 : g_30 4 = (tI M_26 1 4).toInt := p0r_25.2.2.1.1
        have lg_30_7 : g_30 7 = (tI M_26 t 4).toInt := p0r_25.2.2.2.1.1
        have lg_30_8 : g_30 8 = (tI M_26 t 5).toInt := p0r_25.2.2.2.1.2.1
        have EM : pp_ng B n (pp_pt B n 1) rg = g_30 := by unfold pp_ng; rw [j_24, ← eg_30]
        refine lv_iconst (v := 0) hx hb dX4_readNegated_35 (by decide) ?_
        refine lv_istore_n (lv' := [(3, .int 0), (2, .int x_1), (0, .ref (A 1 0)), (1, .int 7)]) hx hb dX4_readNegated_36 rfl hl (by decide) rfl (fun ls hl => ?_)
        have hl_37_42 : ∀ (n_43 : Nat) (x_31 : Int32) (M_34 : ti_M) (g_40 : Nat → Int) (H : Heap) (locs : List Loc) (ls : Array Slot), (65 - x_31.toInt : Int).toNat < n_43 → (0 ≤ x_31.toInt) → (x_31.toInt ≤ 65) → (cI M_34) → (M_34.2.2.2 = M.2.2.2) → (f0 M_34 M) → (tI M_34 2 1 = tI M 2 1) → (tT M_34 1 1 = (some t)) → (tT M_34 1 2 = (some lw)) → (rC B n t g_40 M_34) → (g_30 = g_40) → ti_H ti_LT D A cy H0 M_34 H locs → lv_has ls 4 [(3, .int x_31), (2, .int x_1), (0, .ref (A 1 0)), (1, .int 7)] → W p l e (ti_rm 19) s m args below meth c H locs 0 0 Q (F0 m 37 ls []) := by
          intro n_43
          induction n_43 with
          | zero => intro x_31 M_34 g_40 H locs ls hf_43; exact absurd hf_43 (Nat.not_lt_zero _)
          | succ n_43 ih_43 =>
            intro x_31 M_34 g_40 H locs ls hf_43 b_32 b_33 iM_34 f_35 f_36 f_37 f_38 f_39 hs_41 j_42 hw hl
            have lg_40_0 : g_40 0 = (tI M_34 2 4).toInt := hs_41.2.1.1
            have lg_40_1 : g_40 1 = (tI M_34 2 6).toInt := hs_41.2.1.2.1
            have lg_40_4 : g_40 4 = (tI M_34 1 4).toInt := hs_41.2.2.1.1
            have lg_40_7 : g_40 7 = (tI M_34 t 4).toInt := hs_41.2.2.2.1.1
            have lg_40_8 : g_40 8 = (tI M_34 t 5).toInt := hs_41.2.2.2.1.2.1
            refine lv_iload_n hx hb dX4_readNegated_37 rfl (lv_at hl 0 rfl) ?_
            refine lv_iload_n hx hb dX4_readNegated_38 rfl (lv_at hl 1 rfl) ?_
            refine sb_icmp_ge (tgt := 57) hx hb rfl rfl dX4_readNegated_39 (by decide) (fun c_39_43 => ?_) (fun c_39_43 => ?_)
            · exact hQ _ _ _ _ _ hw (⟨iM_34, (f_35), f_36, (f_37), (by rw [EM, j_42]; exact hs_41)⟩) dX4_readNegated_57
            · refine lv_aload_n hx hb dX4_readNegated_42 rfl (lv_at hl 2 rfl) ?_
              refine ti_get (ci := 4) (k := 2) (N := 6) (T := TX4) (v := .ref (A lw 0)) C hw iw_4 rfl ob_1 (by decide) (by decide) fl_X4_154 rfl (ti_Tv (f_39)) dX4_readNegated_43 ?_
              refine lv_bipush (v := (-24)) hx hb dX4_readNegated_46 (by decide) ?_
              refine ti_callVv (ci := 1) (av := [.int (-24)]) C hw (x_X1_add l D A cy hJ M_34 iM_34 lw hlw (-24) (by first | omega | exact Or.inl (by decide) | exact Or.inr (by decide)) t ht B n g_40 hs_41) ⟨ml_X4_170, ym_X1_add, yv_X1_add, yi_X1_add, yc_X1_add⟩ yd_X1_add hlw (by decide) rfl rfl hl.1 (Nat.le_of_ble_eq_true rfl) ⟨by decide, by decide⟩ ⟨Nat.zero_le _, Nat.zero_le _⟩ dX4_readNegated_48 (fun M_46 H locs hp_46 hw => ?_)
              obtain ⟨iM_46, q_47, q_48, p0r_45⟩ := hp_46
              have lM_46_0 : g_40 0 = (tI M_46 2 4).toInt := p0r_45.2.1.1
              have lM_46_1 : g_40 1 = (tI M_46 2 6).toInt := p0r_45.2.1.2.1
              have lM_46_4 : g_40 4 = (tI M_46 1 4).toInt := p0r_45.2.2.1.1
              have lM_46_7 : g_40 7 = (tI M_46 t 4).toInt := p0r_45.2.2.2.1.1
              have lM_46_8 : g_40 8 = (tI M_46 t 5).toInt := p0r_45.2.2.2.1.2.1
              obtain ⟨x_49, ex_49⟩ : ∃ z : Int32, z = x_31 + 1 := ⟨_, rfl⟩
              have tx_49 : x_49.toInt = x_31.toInt + 1 := i_add ex_49 rfl (by decide) (by omega) (by omega)
              refine lv_iinc (v := x_49) (lv' := [(3, .int x_49), (2, .int x_1), (0, .ref (A 1 0)), (1, .int 7)]) hx hb dX4_readNegated_51 hl (k := 0) rfl (by rw [ex_49]; rfl) (by decide) rfl (fun ls hl => ?_)
              refine lv_goto (tgt := 37) hx hb dX4_readNegated_54 (by decide) ?_
              exact ih_43 x_49 M_46 g_40 _ _ _ (by omega) (by first | omega | decide) (by first | omega | decide) iM_46 ((q_47).trans f_35) (f0.trans (f0_x q_48) f_36) (((q_48 1).2.1).trans f_37) ((tT_fr q_47).trans f_38) ((tT_fr q_47).trans f_39) p0r_45 j_42 hw (lv_sub hl [0, 1, 2, 3] rfl)
        exact hl_37_42 ((65 - 0 : Int).toNat + 1) 0 M_26 g_30 _ _ _ (Nat.lt_succ_self _) (by have lt0 : (0 : Int32).toInt = 0 := (by decide); first | omega | decide) (by have lt0 : (0 : Int32).toInt = 0 := (by decide); first | omega | decide) iM_26 ((q_27).trans f_5) (f0.trans q_28 f_6) ((q_29).trans f_7) ((tT_fr q_27).trans f_8) ((tT_fr q_27).trans f_9) p0r_25 rfl hw (lv_sub hl [0, 1, 2, 3] rfl)
      refine sb_icmp_gt (tgt := 30) hx hb rfl (by decide : (64 : Int32).toInt = 64) dX4_readNegated_5 (by decide) (fun c_5_13 => ?_) (fun c_5_13 => ?_)
      · exact hj_30_24  _ _ _ (by rw [j_12, lp_end (P := pp_qN) (f := 65 - x_1.toInt.toNat) (s := g_10) (Or.inl (by omega))]) hw (lv_sub hl [0, 1, 2] rfl)
      · refine lv_aload_n hx hb dX4_readNegated_8 rfl (lv_at hl 1 rfl) ?_
        refine ti_get (ci := 4) (k := 0) (N := 6) (T := TX4) (v := .ref (A 2 0)) C hw iw_4 rfl ob_1 (by decide) (by decide) fl_X4_12 rfl rfl dX4_readNegated_9 ?_
        refine ti_get (ci := 7) (k := 4) (N := 7) (T := TX7) C hw iw_7 rfl ob_2 (by decide) (by decide) fl_X4_41 rfl rfl dX4_readNegated_12 ?_
        refine lv_topi (fun x_15 ex_15 => ?_)
        have bx_15 : 0 ≤ x_15.toInt ∧ x_15.toInt ≤ 41 := cI_rd iM_4 ob_2.1 ex_15
        have ux_15 : (tI M_4 2 4).toInt = x_15.toInt := by rw [ex_15]
        refine lv_bipush (v := 24) hx hb dX4_readNegated_15 (by decide) ?_
        refine sb_icmp_ne (tgt := 30) hx hb rfl (by decide : (24 : Int32).toInt = 24) dX4_readNegated_17 (by decide) (fun c_17_15 => ?_) (fun c_17_15 => ?_)
        · exact hj_30_24  _ _ _ (by rw [j_12, lp_end (P := pp_qN) (f := 65 - x_1.toInt.toNat) (s := g_10) (Or.inr (decide_eq_false (by omega)))]) hw (lv_sub hl [0, 1, 2] rfl)
        · refine lv_aload_n hx hb dX4_readNegated_20 rfl (lv_at hl 1 rfl) ?_
          refine ti_callVvE (ci := 4) (av := []) C hE hw (x_X4_knot l D A cy hJ M_4 iM_4 t ht (f_8) B n g_10 hs_11) ⟨ml_X4_167, ym_X4_knot, yv_X4_knot, yi_X4_knot, yc_X4_knot⟩ yd_X4_knot ob_1 (by decide) rfl rfl hl.1 (Nat.le_of_ble_eq_true rfl) ⟨by decide, by decide⟩ ⟨Nat.zero_le _, Nat.zero_le _⟩ dX4_readNegated_21 (fun M_18 H locs hp_18 hw => ?_)
          obtain ⟨iM_18, q_19, q_20, q_21, p0r_17⟩ := hp_18
          obtain ⟨g_22, eg_22⟩ : ∃ z : Nat → Int, z = pp_kn B n g_10 := ⟨_, rfl⟩
          rw [← eg_22] at p0r_17
          have lg_22_0 : g_22 0 = (tI M_18 2 4).toInt := p0r_17.2.1.1
          have lg_22_1 : g_22 1 = (tI M_18 2 6).toInt := p0r_17.2.1.2.1
          have lg_22_4 : g_22 4 = (tI M_18 1 4).toInt := p0r_17.2.2.1.1
          have lg_22_7 : g_22 7 = (tI M_18 t 4).toInt := p0r_17.2.2.2.1.1
          have lg_22_8 : g_22 8 = (tI M_18 t 5).toInt := p0r_17.2.2.2.1.2.1
          obtain ⟨x_23, ex_23⟩ : ∃ z : Int32, z = x_1 + 1 := ⟨_, rfl⟩
          have tx_23 : x_23.toInt = x_1.toInt + 1 := i_add ex_23 rfl (by decide) (by omega) (by omega)
          refine lv_iinc (v := x_23) (lv' := [(2, .int x_23), (0, .ref (A 1 0)), (1, .int 7)]) hx hb dX4_readNegated_24 hl (k := 0) rfl (by rw [ex_23]; rfl) (by decide) rfl (fun ls hl => ?_)
          refine lv_goto (tgt := 2) hx hb dX4_readNegated_27 (by decide) ?_
          exact ih_13 x_23 M_18 g_22 _ _ _ (by omega) (by first | omega | decide) (by first | omega | decide) iM_18 ((q_19).trans f_5) (f0.trans q_20 f_6) ((q_21).trans f_7) ((tT_fr q_19).trans f_8) ((tT_fr q_19).trans f_9) p0r_17 (j_12.trans (lp_step (decide_eq_true (by omega)) (by rw [eg_22]) (by omega))) hw (lv_sub hl [0, 1, 2] rfl)
  exact hl_2_12 ((65 - 0 : Int).toNat + 1) 0 M rg _ _ _ (Nat.lt_succ_self _) (by have lt0 : (0 : Int32).toInt = 0 := (by decide); first | omega | decide) (by have lt0 : (0 : Int32).toInt = 0 := (by decide); first | omega | decide) hI rfl f0.refl rfl (hT) (hL) hr rfl hw (lv_sub hl [0, 1, 2] rfl)
set_option maxHeartbeats 4000000 in
set_option maxRecDepth 100000 in
theorem x_X4_readBoth_7 (l : Launch) (D : va_G) (A : Nat → Nat → Nat) (cy : Nat → ClassId) (hJ : ti_inj ti_LT A) (M : ti_M) (hI : cI M) (t : Nat) (ht : t = 3 ∨ t = 4) (hT : tT M 1 1 = some t) (lw : Nat) (hlw : ti_ob ti_LT lw 1) (hL : tT M 1 2 = some lw) (B : Nat → Int) (n : Nat) (rg : Nat → Int) (hr : rC B n t rg M) : ti_KvE l yX4_readBoth cX4_readBoth 3 20 ti_LT D A cy M [.ref (A 1 0), .int 7] (fun M2 => cI M2 ∧ M2.2.2.2 = M.2.2.2 ∧ f0 M2 M ∧ tI M2 2 1 = tI M 2 1 ∧ rC B n t (pp_bo B n (pp_pt B n 1) rg) M2) := by
  refine ti_eVE yp_X4_readBoth hJ ti_LT_nd (Nat.le_of_ble_eq_true rfl) ?_
  intro p e s m args below meth c Q H0 C hE hQ hw ls hl
  have hx := C.1
  have hb := C.2.1
  have hl : lv_has ls 3 [(0, .ref (A 1 0)), (1, .int 7)] := hl
  have l0 : rg 0 = (tI M 2 4).toInt := hr.2.1.1
  have l1 : rg 1 = (tI M 2 6).toInt := hr.2.1.2.1
  have l2 : rg 2 = (tI M 2 5).toInt := hr.2.1.2.2.1
  have l3 : rg 3 = (tI M 2 3).toInt := hr.2.1.2.2.2
  have l4 : rg 4 = (tI M 1 4).toInt := hr.2.2.1.1
  have l5 : rg 5 = (tI M 1 5).toInt := hr.2.2.1.2.1
  have l7 : rg 7 = (tI M t 4).toInt := hr.2.2.2.1.1
  have l8 : rg 8 = (tI M t 5).toInt := hr.2.2.2.1.2.1
  have l9 : rg 9 = (tI M t 3).toInt := hr.2.2.2.1.2.2
  refine lv_aload_n hx hb dX4_readBoth_0 rfl (lv_at hl 0 rfl) ?_
  refine lv_iload_n hx hb dX4_readBoth_1 rfl (lv_at hl 1 rfl) ?_
  refine ti_callVvE (ci := 4) (av := [.int 7]) C hE hw (x_X4_readNegated_7 l D A cy hJ M hI t ht (hT) lw hlw (hL) B n rg hr) ⟨ml_X4_175, ym_X4_readNegated, yv_X4_readNegated, yi_X4_readNegated, yc_X4_readNegated⟩ yd_X4_readNegated ob_1 (by decide) rfl rfl hl.1 (Nat.le_of_ble_eq_true rfl) ⟨by decide, by decide⟩ ⟨Nat.zero_le _, Nat.zero_le _⟩ dX4_readBoth_2 (fun M_2 H locs hp_2 hw => ?_)
  obtain ⟨iM_2, q_3, q_4, q_5, p0r_1⟩ := hp_2
  obtain ⟨g_6, eg_6⟩ : ∃ z : Nat → Int, z = pp_ng B n (pp_pt B n 1) rg := ⟨_, rfl⟩
  rw [← eg_6] at p0r_1
  have lg_6_0 : g_6 0 = (tI M_2 2 4).toInt := p0r_1.2.1.1
  have lg_6_1 : g_6 1 = (tI M_2 2 6).toInt := p0r_1.2.1.2.1
  have lg_6_4 : g_6 4 = (tI M_2 1 4).toInt := p0r_1.2.2.1.1
  have lg_6_7 : g_6 7 = (tI M_2 t 4).toInt := p0r_1.2.2.2.1.1
  have lg_6_8 : g_6 8 = (tI M_2 t 5).toInt := p0r_1.2.2.2.1.2.1
  refine lv_iconst (v := 0) hx hb dX4_readBoth_5 (by decide) ?_
  refine lv_istore_n (lv' := [(2, .int 0), (0, .ref (A 1 0)), (1, .int 7)]) hx hb dX4_readBoth_6 rfl hl (by decide) rfl (fun ls hl => ?_)
  have hl_7_18 : ∀ (n_19 : Nat) (x_7 : Int32) (M_10 : ti_M) (g_16 : Nat → Int) (H : Heap) (locs : List Loc) (ls : Array Slot), (64 - x_7.toInt : Int).toNat < n_19 → (0 ≤ x_7.toInt) → (x_7.toInt ≤ 64) → (cI M_10) → (M_10.2.2.2 = M.2.2.2) → (f0 M_10 M) → (tI M_10 2 1 = tI M 2 1) → (tT M_10 1 1 = (some t)) → (tT M_10 1 2 = (some lw)) → (rC B n t g_16 M_10) → (pp_lp pp_qA (fun s => pp_ng B n (pp_pt B n 1) (pp_kn B n s)) 64 g_6 = pp_lp pp_qA (fun s => pp_ng B n (pp_pt B n 1) (pp_kn B n s)) (64 - (x_7.toInt).toNat) g_16) → ti_H ti_LT D A cy H0 M_10 H locs → lv_has ls 3 [(2, .int x_7), (0, .ref (A 1 0)), (1, .int 7)] → W p l e (ti_rm 20) s m args below meth c H locs 0 0 Q (F0 m 7 ls []) := by
    intro n_19
    induction n_19 with
    | zero => intro x_7 M_10 g_16 H locs ls hf_19; exact absurd hf_19 (Nat.not_lt_zero _)
    | succ n_19 ih_19 =>
      intro x_7 M_10 g_16 H locs ls hf_19 b_8 b_9 iM_10 f_11 f_12 f_13 f_14 f_15 hs_17 j_18 hw hl
      have lg_16_0 : g_16 0 = (tI M_10 2 4).toInt := hs_17.2.1.1
      have lg_16_1 : g_16 1 = (tI M_10 2 6).toInt := hs_17.2.1.2.1
      have lg_16_4 : g_16 4 = (tI M_10 1 4).toInt := hs_17.2.2.1.1
      have lg_16_7 : g_16 7 = (tI M_10 t 4).toInt := hs_17.2.2.2.1.1
      have lg_16_8 : g_16 8 = (tI M_10 t 5).toInt := hs_17.2.2.2.1.2.1
      refine lv_iload_n hx hb dX4_readBoth_7 rfl (lv_at hl 0 rfl) ?_
      refine lv_bipush (v := 64) hx hb dX4_readBoth_8 (by decide) ?_
      refine sb_icmp_ge (tgt := 49) hx hb rfl (by decide : (64 : Int32).toInt = 64) dX4_readBoth_10 (by decide) (fun c_10_19 => ?_) (fun c_10_19 => ?_)
      · exact hQ _ _ _ _ _ hw (⟨iM_10, (f_11), f_12, (f_13), (by unfold pp_bo; rw [← eg_6, j_18, lp_end (P := pp_qA) (f := 64 - x_7.toInt.toNat) (s := g_16) (Or.inl (by omega))]; exact hs_17)⟩) dX4_readBoth_49
      · refine lv_aload_n hx hb dX4_readBoth_13 rfl (lv_at hl 1 rfl) ?_
        refine ti_get (ci := 4) (k := 0) (N := 6) (T := TX4) (v := .ref (A 2 0)) C hw iw_4 rfl ob_1 (by decide) (by decide) fl_X4_12 rfl rfl dX4_readBoth_14 ?_
        refine ti_get (ci := 7) (k := 4) (N := 7) (T := TX7) C hw iw_7 rfl ob_2 (by decide) (by decide) fl_X4_41 rfl rfl dX4_readBoth_17 ?_
        refine lv_topi (fun x_21 ex_21 => ?_)
        have bx_21 : 0 ≤ x_21.toInt ∧ x_21.toInt ≤ 41 := cI_rd iM_10 ob_2.1 ex_21
        have ux_21 : (tI M_10 2 4).toInt = x_21.toInt := by rw [ex_21]
        refine lv_bipush (v := 22) hx hb dX4_readBoth_20 (by decide) ?_
        refine sb_icmp_ne (tgt := 49) hx hb rfl (by decide : (22 : Int32).toInt = 22) dX4_readBoth_22 (by decide) (fun c_22_21 => ?_) (fun c_22_21 => ?_)
        · exact hQ _ _ _ _ _ hw (⟨iM_10, (f_11), f_12, (f_13), (by unfold pp_bo; rw [← eg_6, j_18, lp_end (P := pp_qA) (f := 64 - x_7.toInt.toNat) (s := g_16) (Or.inr (decide_eq_false (by omega)))]; exact hs_17)⟩) dX4_readBoth_49
        · refine lv_aload_n hx hb dX4_readBoth_25 rfl (lv_at hl 1 rfl) ?_
          refine ti_callVvE (ci := 4) (av := []) C hE hw (x_X4_knot l D A cy hJ M_10 iM_10 t ht (f_14) B n g_16 hs_17) ⟨ml_X4_167, ym_X4_knot, yv_X4_knot, yi_X4_knot, yc_X4_knot⟩ yd_X4_knot ob_1 (by decide) rfl rfl hl.1 (Nat.le_of_ble_eq_true rfl) ⟨by decide, by decide⟩ ⟨Nat.zero_le _, Nat.zero_le _⟩ dX4_readBoth_26 (fun M_24 H locs hp_24 hw => ?_)
          obtain ⟨iM_24, q_25, q_26, q_27, p0r_23⟩ := hp_24
          obtain ⟨g_28, eg_28⟩ : ∃ z : Nat → Int, z = pp_kn B n g_16 := ⟨_, rfl⟩
          rw [← eg_28] at p0r_23
          have lg_28_0 : g_28 0 = (tI M_24 2 4).toInt := p0r_23.2.1.1
          have lg_28_1 : g_28 1 = (tI M_24 2 6).toInt := p0r_23.2.1.2.1
          have lg_28_4 : g_28 4 = (tI M_24 1 4).toInt := p0r_23.2.2.1.1
          have lg_28_7 : g_28 7 = (tI M_24 t 4).toInt := p0r_23.2.2.2.1.1
          have lg_28_8 : g_28 8 = (tI M_24 t 5).toInt := p0r_23.2.2.2.1.2.1
          refine lv_aload_n hx hb dX4_readBoth_29 rfl (lv_at hl 1 rfl) ?_
          refine lv_iload_n hx hb dX4_readBoth_30 rfl (lv_at hl 2 rfl) ?_
          refine ti_callVvE (ci := 4) (av := [.int 7]) C hE hw (x_X4_readNegated_7 l D A cy hJ M_24 iM_24 t ht ((tT_fr q_25).trans f_14) lw hlw ((tT_fr q_25).trans f_15) B n g_28 p0r_23) ⟨ml_X4_175, ym_X4_readNegated, yv_X4_readNegated, yi_X4_readNegated, yc_X4_readNegated⟩ yd_X4_readNegated ob_1 (by decide) rfl rfl hl.1 (Nat.le_of_ble_eq_true rfl) ⟨by decide, by decide⟩ ⟨Nat.zero_le _, Nat.zero_le _⟩ dX4_readBoth_31 (fun M_30 H locs hp_30 hw => ?_)
          obtain ⟨iM_30, q_31, q_32, q_33, p0r_29⟩ := hp_30
          obtain ⟨g_34, eg_34⟩ : ∃ z : Nat → Int, z = pp_ng B n (pp_pt B n 1) g_28 := ⟨_, rfl⟩
          rw [← eg_34] at p0r_29
          have lg_34_0 : g_34 0 = (tI M_30 2 4).toInt := p0r_29.2.1.1
          have lg_34_1 : g_34 1 = (tI M_30 2 6).toInt := p0r_29.2.1.2.1
          have lg_34_4 : g_34 4 = (tI M_30 1 4).toInt := p0r_29.2.2.1.1
          have lg_34_7 : g_34 7 = (tI M_30 t 4).toInt := p0r_29.2.2.2.1.1
          have lg_34_8 : g_34 8 = (tI M_30 t 5).toInt := p0r_29.2.2.2.1.2.1
          refine lv_aload_n hx hb dX4_readBoth_34 rfl (lv_at hl 1 rfl) ?_
          refine ti_get (ci := 4) (k := 2) (N := 6) (T := TX4) (v := .ref (A lw 0)) C hw iw_4 rfl ob_1 (by decide) (by decide) fl_X4_154 rfl (ti_Tv ((tT_fr q_31).trans ((tT_fr q_25).trans f_15))) dX4_readBoth_35 ?_
          refine lv_bipush (v := (-22)) hx hb dX4_readBoth_38 (by decide) ?_
          refine ti_callVv (ci := 1) (av := [.int (-22)]) C hw (x_X1_add l D A cy hJ M_30 iM_30 lw hlw (-22) (by first | omega | exact Or.inl (by decide) | exact Or.inr (by decide)) t ht B n g_34 p0r_29) ⟨ml_X4_170, ym_X1_add, yv_X1_add, yi_X1_add, yc_X1_add⟩ yd_X1_add hlw (by decide) rfl rfl hl.1 (Nat.le_of_ble_eq_true rfl) ⟨by decide, by decide⟩ ⟨Nat.zero_le _, Nat.zero_le _⟩ dX4_readBoth_40 (fun M_36 H locs hp_36 hw => ?_)
          obtain ⟨iM_36, q_37, q_38, p0r_35⟩ := hp_36
          have lM_36_0 : g_34 0 = (tI M_36 2 4).toInt := p0r_35.2.1.1
          have lM_36_1 : g_34 1 = (tI M_36 2 6).toInt := p0r_35.2.1.2.1
          have lM_36_4 : g_34 4 = (tI M_36 1 4).toInt := p0r_35.2.2.1.1
          have lM_36_7 : g_34 7 = (tI M_36 t 4).toInt := p0r_35.2.2.2.1.1
          have lM_36_8 : g_34 8 = (tI M_36 t 5).toInt := p0r_35.2.2.2.1.2.1
          obtain ⟨x_39, ex_39⟩ : ∃ z : Int32, z = x_7 + 1 := ⟨_, rfl⟩
          have tx_39 : x_39.toInt = x_7.toInt + 1 := i_add ex_39 rfl (by decide) (by omega) (by omega)
          refine lv_iinc (v := x_39) (lv' := [(2, .int x_39), (0, .ref (A 1 0)), (1, .int 7)]) hx hb dX4_readBoth_43 hl (k := 0) rfl (by rw [ex_39]; rfl) (by decide) rfl (fun ls hl => ?_)
          refine lv_goto (tgt := 7) hx hb dX4_readBoth_46 (by decide) ?_
          exact ih_19 x_39 M_36 g_34 _ _ _ (by omega) (by first | omega | decide) (by first | omega | decide) iM_36 ((q_37).trans ((q_31).trans ((q_25).trans f_11))) (f0.trans (f0_x q_38) (f0.trans q_32 (f0.trans q_26 f_12))) (((q_38 1).2.1).trans ((q_33).trans ((q_27).trans f_13))) ((tT_fr q_37).trans ((tT_fr q_31).trans ((tT_fr q_25).trans f_14))) ((tT_fr q_37).trans ((tT_fr q_31).trans ((tT_fr q_25).trans f_15))) p0r_35 (j_18.trans (lp_step (decide_eq_true (by omega)) (by rw [eg_34, eg_28]) (by omega))) hw (lv_sub hl [0, 1, 2] rfl)
  exact hl_7_18 ((64 - 0 : Int).toNat + 1) 0 M_2 g_6 _ _ _ (Nat.lt_succ_self _) (by have lt0 : (0 : Int32).toInt = 0 := (by decide); first | omega | decide) (by have lt0 : (0 : Int32).toInt = 0 := (by decide); first | omega | decide) iM_2 (q_3) q_4 (q_5) ((tT_fr q_3).trans hT) ((tT_fr q_3).trans hL) p0r_1 rfl hw (lv_sub hl [0, 1, 2] rfl)
set_option maxHeartbeats 4000000 in
set_option maxRecDepth 100000 in
theorem x_X4_readEither_7 (l : Launch) (D : va_G) (A : Nat → Nat → Nat) (cy : Nat → ClassId) (hJ : ti_inj ti_LT A) (M : ti_M) (hI : cI M) (t : Nat) (ht : t = 3 ∨ t = 4) (hT : tT M 1 1 = some t) (lw : Nat) (hlw : ti_ob ti_LT lw 1) (hL : tT M 1 2 = some lw) (B : Nat → Int) (n : Nat) (rg : Nat → Int) (hr : rC B n t rg M) : ti_KvE l yX4_readEither cX4_readEither 3 21 ti_LT D A cy M [.ref (A 1 0), .int 7] (fun M2 => cI M2 ∧ M2.2.2.2 = M.2.2.2 ∧ f0 M2 M ∧ tI M2 2 1 = tI M 2 1 ∧ rC B n t (pp_ei B n (pp_pt B n 1) rg) M2) := by
  refine ti_eVE yp_X4_readEither hJ ti_LT_nd (Nat.le_of_ble_eq_true rfl) ?_
  intro p e s m args below meth c Q H0 C hE hQ hw ls hl
  have hx := C.1
  have hb := C.2.1
  have hl : lv_has ls 3 [(0, .ref (A 1 0)), (1, .int 7)] := hl
  have l0 : rg 0 = (tI M 2 4).toInt := hr.2.1.1
  have l1 : rg 1 = (tI M 2 6).toInt := hr.2.1.2.1
  have l2 : rg 2 = (tI M 2 5).toInt := hr.2.1.2.2.1
  have l3 : rg 3 = (tI M 2 3).toInt := hr.2.1.2.2.2
  have l4 : rg 4 = (tI M 1 4).toInt := hr.2.2.1.1
  have l5 : rg 5 = (tI M 1 5).toInt := hr.2.2.1.2.1
  have l7 : rg 7 = (tI M t 4).toInt := hr.2.2.2.1.1
  have l8 : rg 8 = (tI M t 5).toInt := hr.2.2.2.1.2.1
  have l9 : rg 9 = (tI M t 3).toInt := hr.2.2.2.1.2.2
  refine lv_aload_n hx hb dX4_readEither_0 rfl (lv_at hl 0 rfl) ?_
  refine lv_iload_n hx hb dX4_readEither_1 rfl (lv_at hl 1 rfl) ?_
  refine ti_callVvE (ci := 4) (av := [.int 7]) C hE hw (x_X4_readBoth_7 l D A cy hJ M hI t ht (hT) lw hlw (hL) B n rg hr) ⟨ml_X4_164, ym_X4_readBoth, yv_X4_readBoth, yi_X4_readBoth, yc_X4_readBoth⟩ yd_X4_readBoth ob_1 (by decide) rfl rfl hl.1 (Nat.le_of_ble_eq_true rfl) ⟨by decide, by decide⟩ ⟨Nat.zero_le _, Nat.zero_le _⟩ dX4_readEither_2 (fun M_2 H locs hp_2 hw => ?_)
  obtain ⟨iM_2, q_3, q_4, q_5, p0r_1⟩ := hp_2
  obtain ⟨g_6, eg_6⟩ : ∃ z : Nat → Int, z = pp_bo B n (pp_pt B n 1) rg := ⟨_, rfl⟩
  rw [← eg_6] at p0r_1
  have lg_6_0 : g_6 0 = (tI M_2 2 4).toInt := p0r_1.2.1.1
  have lg_6_1 : g_6 1 = (tI M_2 2 6).toInt := p0r_1.2.1.2.1
  have lg_6_4 : g_6 4 = (tI M_2 1 4).toInt := p0r_1.2.2.1.1
  have lg_6_7 : g_6 7 = (tI M_2 t 4).toInt := p0r_1.2.2.2.1.1
  have lg_6_8 : g_6 8 = (tI M_2 t 5).toInt := p0r_1.2.2.2.1.2.1
  refine lv_iconst (v := 0) hx hb dX4_readEither_5 (by decide) ?_
  refine lv_istore_n (lv' := [(2, .int 0), (0, .ref (A 1 0)), (1, .int 7)]) hx hb dX4_readEither_6 rfl hl (by decide) rfl (fun ls hl => ?_)
  have hl_7_18 : ∀ (n_19 : Nat) (x_7 : Int32) (M_10 : ti_M) (g_16 : Nat → Int) (H : Heap) (locs : List Loc) (ls : Array Slot), (64 - x_7.toInt : Int).toNat < n_19 → (0 ≤ x_7.toInt) → (x_7.toInt ≤ 64) → (cI M_10) → (M_10.2.2.2 = M.2.2.2) → (f0 M_10 M) → (tI M_10 2 1 = tI M 2 1) → (tT M_10 1 1 = (some t)) → (tT M_10 1 2 = (some lw)) → (rC B n t g_16 M_10) → (pp_lp pp_qO (fun s => pp_bo B n (pp_pt B n 1) (pp_kn B n s)) 64 g_6 = pp_lp pp_qO (fun s => pp_bo B n (pp_pt B n 1) (pp_kn B n s)) (64 - (x_7.toInt).toNat) g_16) → ti_H ti_LT D A cy H0 M_10 H locs → lv_has ls 3 [(2, .int x_7), (0, .ref (A 1 0)), (1, .int 7)] → W p l e (ti_rm 21) s m args below meth c H locs 0 0 Q (F0 m 7 ls []) := by
    intro n_19
    induction n_19 with
    | zero => intro x_7 M_10 g_16 H locs ls hf_19; exact absurd hf_19 (Nat.not_lt_zero _)
    | succ n_19 ih_19 =>
      intro x_7 M_10 g_16 H locs ls hf_19 b_8 b_9 iM_10 f_11 f_12 f_13 f_14 f_15 hs_17 j_18 hw hl
      have lg_16_0 : g_16 0 = (tI M_10 2 4).toInt := hs_17.2.1.1
      have lg_16_1 : g_16 1 = (tI M_10 2 6).toInt := hs_17.2.1.2.1
      have lg_16_4 : g_16 4 = (tI M_10 1 4).toInt := hs_17.2.2.1.1
      have lg_16_7 : g_16 7 = (tI M_10 t 4).toInt := hs_17.2.2.2.1.1
      have lg_16_8 : g_16 8 = (tI M_10 t 5).toInt := hs_17.2.2.2.1.2.1
      refine lv_iload_n hx hb dX4_readEither_7 rfl (lv_at hl 0 rfl) ?_
      refine lv_bipush (v := 64) hx hb dX4_readEither_8 (by decide) ?_
      refine sb_icmp_ge (tgt := 49) hx hb rfl (by decide : (64 : Int32).toInt = 64) dX4_readEither_10 (by decide) (fun c_10_19 => ?_) (fun c_10_19 => ?_)
      · exact hQ _ _ _ _ _ hw (⟨iM_10, (f_11), f_12, (f_13), (by unfold pp_ei; rw [← eg_6, j_18, lp_end (P := pp_qO) (f := 64 - x_7.toInt.toNat) (s := g_16) (Or.inl (by omega))]; exact hs_17)⟩) dX4_readEither_49
      · refine lv_aload_n hx hb dX4_readEither_13 rfl (lv_at hl 1 rfl) ?_
        refine ti_get (ci := 4) (k := 0) (N := 6) (T := TX4) (v := .ref (A 2 0)) C hw iw_4 rfl ob_1 (by decide) (by decide) fl_X4_12 rfl rfl dX4_readEither_14 ?_
        refine ti_get (ci := 7) (k := 4) (N := 7) (T := TX7) C hw iw_7 rfl ob_2 (by decide) (by decide) fl_X4_41 rfl rfl dX4_readEither_17 ?_
        refine lv_topi (fun x_21 ex_21 => ?_)
        have bx_21 : 0 ≤ x_21.toInt ∧ x_21.toInt ≤ 41 := cI_rd iM_10 ob_2.1 ex_21
        have ux_21 : (tI M_10 2 4).toInt = x_21.toInt := by rw [ex_21]
        refine lv_bipush (v := 23) hx hb dX4_readEither_20 (by decide) ?_
        refine sb_icmp_ne (tgt := 49) hx hb rfl (by decide : (23 : Int32).toInt = 23) dX4_readEither_22 (by decide) (fun c_22_21 => ?_) (fun c_22_21 => ?_)
        · exact hQ _ _ _ _ _ hw (⟨iM_10, (f_11), f_12, (f_13), (by unfold pp_ei; rw [← eg_6, j_18, lp_end (P := pp_qO) (f := 64 - x_7.toInt.toNat) (s := g_16) (Or.inr (decide_eq_false (by omega)))]; exact hs_17)⟩) dX4_readEither_49
        · refine lv_aload_n hx hb dX4_readEither_25 rfl (lv_at hl 1 rfl) ?_
          refine ti_callVvE (ci := 4) (av := []) C hE hw (x_X4_knot l D A cy hJ M_10 iM_10 t ht (f_14) B n g_16 hs_17) ⟨ml_X4_167, ym_X4_knot, yv_X4_knot, yi_X4_knot, yc_X4_knot⟩ yd_X4_knot ob_1 (by decide) rfl rfl hl.1 (Nat.le_of_ble_eq_true rfl) ⟨by decide, by decide⟩ ⟨Nat.zero_le _, Nat.zero_le _⟩ dX4_readEither_26 (fun M_24 H locs hp_24 hw => ?_)
          obtain ⟨iM_24, q_25, q_26, q_27, p0r_23⟩ := hp_24
          obtain ⟨g_28, eg_28⟩ : ∃ z : Nat → Int, z = pp_kn B n g_16 := ⟨_, rfl⟩
          rw [← eg_28] at p0r_23
          have lg_28_0 : g_28 0 = (tI M_24 2 4).toInt := p0r_23.2.1.1
          have lg_28_1 : g_28 1 = (tI M_24 2 6).toInt := p0r_23.2.1.2.1
          have lg_28_4 : g_28 4 = (tI M_24 1 4).toInt := p0r_23.2.2.1.1
          have lg_28_7 : g_28 7 = (tI M_24 t 4).toInt := p0r_23.2.2.2.1.1
          have lg_28_8 : g_28 8 = (tI M_24 t 5).toInt := p0r_23.2.2.2.1.2.1
          refine lv_aload_n hx hb dX4_readEither_29 rfl (lv_at hl 1 rfl) ?_
          refine lv_iload_n hx hb dX4_readEither_30 rfl (lv_at hl 2 rfl) ?_
          refine ti_callVvE (ci := 4) (av := [.int 7]) C hE hw (x_X4_readBoth_7 l D A cy hJ M_24 iM_24 t ht ((tT_fr q_25).trans f_14) lw hlw ((tT_fr q_25).trans f_15) B n g_28 p0r_23) ⟨ml_X4_164, ym_X4_readBoth, yv_X4_readBoth, yi_X4_readBoth, yc_X4_readBoth⟩ yd_X4_readBoth ob_1 (by decide) rfl rfl hl.1 (Nat.le_of_ble_eq_true rfl) ⟨by decide, by decide⟩ ⟨Nat.zero_le _, Nat.zero_le _⟩ dX4_readEither_31 (fun M_30 H locs hp_30 hw => ?_)
          obtain ⟨iM_30, q_31, q_32, q_33, p0r_29⟩ := hp_30
          obtain ⟨g_34, eg_34⟩ : ∃ z : Nat → Int, z = pp_bo B n (pp_pt B n 1) g_28 := ⟨_, rfl⟩
          rw [← eg_34] at p0r_29
          have lg_34_0 : g_34 0 = (tI M_30 2 4).toInt := p0r_29.2.1.1
          have lg_34_1 : g_34 1 = (tI M_30 2 6).toInt := p0r_29.2.1.2.1
          have lg_34_4 : g_34 4 = (tI M_30 1 4).toInt := p0r_29.2.2.1.1
          have lg_34_7 : g_34 7 = (tI M_30 t 4).toInt := p0r_29.2.2.2.1.1
          have lg_34_8 : g_34 8 = (tI M_30 t 5).toInt := p0r_29.2.2.2.1.2.1
          refine lv_aload_n hx hb dX4_readEither_34 rfl (lv_at hl 1 rfl) ?_
          refine ti_get (ci := 4) (k := 2) (N := 6) (T := TX4) (v := .ref (A lw 0)) C hw iw_4 rfl ob_1 (by decide) (by decide) fl_X4_154 rfl (ti_Tv ((tT_fr q_31).trans ((tT_fr q_25).trans f_15))) dX4_readEither_35 ?_
          refine lv_bipush (v := (-23)) hx hb dX4_readEither_38 (by decide) ?_
          refine ti_callVv (ci := 1) (av := [.int (-23)]) C hw (x_X1_add l D A cy hJ M_30 iM_30 lw hlw (-23) (by first | omega | exact Or.inl (by decide) | exact Or.inr (by decide)) t ht B n g_34 p0r_29) ⟨ml_X4_170, ym_X1_add, yv_X1_add, yi_X1_add, yc_X1_add⟩ yd_X1_add hlw (by decide) rfl rfl hl.1 (Nat.le_of_ble_eq_true rfl) ⟨by decide, by decide⟩ ⟨Nat.zero_le _, Nat.zero_le _⟩ dX4_readEither_40 (fun M_36 H locs hp_36 hw => ?_)
          obtain ⟨iM_36, q_37, q_38, p0r_35⟩ := hp_36
          have lM_36_0 : g_34 0 = (tI M_36 2 4).toInt := p0r_35.2.1.1
          have lM_36_1 : g_34 1 = (tI M_36 2 6).toInt := p0r_35.2.1.2.1
          have lM_36_4 : g_34 4 = (tI M_36 1 4).toInt := p0r_35.2.2.1.1
          have lM_36_7 : g_34 7 = (tI M_36 t 4).toInt := p0r_35.2.2.2.1.1
          have lM_36_8 : g_34 8 = (tI M_36 t 5).toInt := p0r_35.2.2.2.1.2.1
          obtain ⟨x_39, ex_39⟩ : ∃ z : Int32, z = x_7 + 1 := ⟨_, rfl⟩
          have tx_39 : x_39.toInt = x_7.toInt + 1 := i_add ex_39 rfl (by decide) (by omega) (by omega)
          refine lv_iinc (v := x_39) (lv' := [(2, .int x_39), (0, .ref (A 1 0)), (1, .int 7)]) hx hb dX4_readEither_43 hl (k := 0) rfl (by rw [ex_39]; rfl) (by decide) rfl (fun ls hl => ?_)
          refine lv_goto (tgt := 7) hx hb dX4_readEither_46 (by decide) ?_
          exact ih_19 x_39 M_36 g_34 _ _ _ (by omega) (by first | omega | decide) (by first | omega | decide) iM_36 ((q_37).trans ((q_31).trans ((q_25).trans f_11))) (f0.trans (f0_x q_38) (f0.trans q_32 (f0.trans q_26 f_12))) (((q_38 1).2.1).trans ((q_33).trans ((q_27).trans f_13))) ((tT_fr q_37).trans ((tT_fr q_31).trans ((tT_fr q_25).trans f_14))) ((tT_fr q_37).trans ((tT_fr q_31).trans ((tT_fr q_25).trans f_15))) p0r_35 (j_18.trans (lp_step (decide_eq_true (by omega)) (by rw [eg_34, eg_28]) (by omega))) hw (lv_sub hl [0, 1, 2] rfl)
  exact hl_7_18 ((64 - 0 : Int).toNat + 1) 0 M_2 g_6 _ _ _ (Nat.lt_succ_self _) (by have lt0 : (0 : Int32).toInt = 0 := (by decide); first | omega | decide) (by have lt0 : (0 : Int32).toInt = 0 := (by decide); first | omega | decide) iM_2 (q_3) q_4 (q_5) ((tT_fr q_3).trans hT) ((tT_fr q_3).trans hL) p0r_1 rfl hw (lv_sub hl [0, 1, 2] rfl)

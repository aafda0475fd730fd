variable {Tc : gC} {Tm : gM}
/-! what an expression tells, beside the reference's knots -/
/-- a sign of the reference, as the class has it -/
def bq_sc (v : Int) : Int := if v = 43 then 38 else if v = 45 then 39 else if v = 42 then 40 else if v = 47 then 41 else if v = 60 then 32 else if v = 256 then 33 else if v = 61 then 34 else if v = 257 then 35 else if v = 258 then 36 else if v = 62 then 37 else if v = 261 then 22 else if v = 260 then 24 else 23
/-- a knot of the reference, as the class has it -/
def bq_kc (so v : Int) : Int := if so = 2 then -(bq_sc v) else if so = 0 then v else -(16 + v)
theorem sc_sg : ∀ k : Nat, k < 13 → 3 ≤ k → bq_sc (pt_sg (29 + (k : Int))) = 29 + (k : Int) := by decide +kernel
theorem sg_n6 : ∀ k : Nat, k < 13 → pt_sg (29 + (k : Int)) ≠ 260 := by decide +kernel
theorem sg_260 {k : Int} (h1 : 29 ≤ k) (h2 : k ≤ 41) : pt_sg k ≠ 260 := by
  have h := sg_n6 (k - 29).toNat (by omega)
  rw [show (29 : Int) + (((k - 29).toNat : Nat) : Int) = k by omega] at h; exact h
theorem ff_q {N M : ti_M} (h : ff N ≤ ff M) (q : (tI N 60 25).toInt = 0) : (tI M 60 25).toInt = 0 := by
  by_cases z : (tI M 60 25).toInt = 0
  · exact z
  · rw [ff_1 q, ff_0 z] at h; omega
theorem nf_ge {B : Nat → Int} {n : Nat} : ∀ (f a : Nat) (v : Int), 0 ≤ v → 0 ≤ pt_nf B n f a v := by
  intro f
  induction f with
  | zero => intro a v h; exact h
  | succ f ih =>
    intro a v h
    rw [pt_nf]
    split
    · rename_i c
      have d : 48 ≤ B a := (of_decide_eq_true c.2).1
      exact ih _ _ (by omega)
    · exact h
theorem wf_25 {v : Int} : ∀ f : Nat, f ≤ 25 → pt_wf v f ≤ 25 := by
  intro f
  induction f with
  | zero => intro _; rw [pt_wf]; decide
  | succ f ih =>
    intro h
    rw [pt_wf]
    split
    · omega
    · exact ih (by omega)
/-- a number is at least 0 -/
theorem kv_0 {B : Nat → Int} {n a : Nat} (h : pt_K B n a = 26) : 0 ≤ pt_V B n a := by
  unfold pt_K at h
  unfold pt_V
  split
  · decide
  · rename_i c1
    rw [if_neg c1] at h
    split
    · rename_i c2
      rw [if_pos c2] at h
      exfalso
      split at h
      · omega
      · have e : pt_wk (pt_ev B n (pt_P B n a) 0 0) 0 ≤ 25 := wf_25 _ (by decide)
        omega
    · split
      · exact nf_ge _ _ _ (by decide)
      · decide
theorem av_v {B : Nat → Int} {n : Nat} {s : Nat → Int} (h : pp_av B n s 0 = 26) : 0 ≤ pp_av B n s 1 := kv_0 h
/-- a number at hand is at least 0 -/
def vs (M : ti_M) : Prop := (tI M 60 25).toInt = 0 → (tI M 60 23).toInt = 2 → 0 ≤ (tI M 60 24).toInt
theorem vs_av {B : Nat → Int} {n : Nat} {s : Nat → Int} {M : ti_M} (h : rQ B n s M) (hv : s 0 = 26 → 0 ≤ s 1) : vs M := fun q q2 => by
  have T := (pt_Tnm (h.2.2.2 (h.2.1.trans q)).1).2.2.1 q2
  have := hv T.1
  omega
theorem vs_fr {N M : ti_M} (h : vs M) (hf : ff N ≤ ff M) (e1 : tI N 60 23 = tI M 60 23) (e2 : tI N 60 24 = tI M 60 24) : vs N := fun q q2 => by
  rw [e1] at q2
  rw [e2]; exact h (ff_q hf q) q2
/-- the law lj, begun at a: its knots so far, and how deep its pile is -/
def qE (a d lj : Nat) (td : Nat → Int) (M : ti_M) : Prop := (tI M 60 25).toInt = 0 → ((tY M 60 3 18).toInt = a + td (300 + lj) ∧ 0 ≤ td (300 + lj)) ∧ ud M a (td (300 + lj)).toNat = some d ∧ ∀ n : Nat, (n : Int) < td (300 + lj) → td (400 + 64 * lj + n) = bq_kc (tY M 60 16 (64 + (a + n))).toInt (tY M 60 17 (64 + (a + n))).toInt ∧ ((tY M 60 16 (64 + (a + n))).toInt = 0 → 0 ≤ (tY M 60 17 (64 + (a + n))).toInt)
theorem qE_fr {a d lj : Nat} {td : Nat → Int} {N M : ti_M} (h : qE a d lj td M) (e : N.2.1 = M.2.1) (hf : ff N ≤ ff M) : qE a d lj td N := fun q => by
  have y := h (ff_q hf q)
  have e2 : ∀ k, tY N 60 k = tY M 60 k := fun k => tY_fr e
  unfold ud at y ⊢
  simp only [e2]
  exact y
theorem qE_f {a d lj : Nat} {td : Nat → Int} {M : ti_M} (h : ff M = 0) : qE a d lj td M := fun q => absurd q (ff_n h)
/-- what puts leaves, exactly -/
def pu (pz v : Int32) (N M : ti_M) : Prop := tI N 60 25 = tI M 60 25 ∧ ((tI M 60 25).toInt = 0 → ∃ i : Nat, (i : Int) = 64 + (tY M 60 3 18).toInt ∧ tY N 60 16 = upd (tY M 60 16) i pz ∧ tY N 60 17 = upd (tY M 60 17) i v ∧ (tY N 60 3 18).toInt = (tY M 60 3 18).toInt + 1 ∧ (tY N 60 3 18).toInt ≤ 64)
theorem qE_pu {a d d2 lj : Nat} {td : Nat → Int} {N M : ti_M} {s v : Int32} {x : Int} (hj : lj < 3) (h : qE a d lj td M) (p : pu s v N M) (hx : (tI N 60 25).toInt = 0 → x = bq_kc s.toInt v.toInt ∧ (s.toInt = 0 → 0 ≤ v.toInt))
    (hs : (tI N 60 25).toInt = 0 → (s.toInt = 2 ∧ v.toInt = 260 ∧ 1 ≤ d ∧ d2 = d) ∨ (s.toInt = 2 ∧ v.toInt ≠ 260 ∧ 2 ≤ d ∧ d2 = d - 1) ∨ (s.toInt ≠ 2 ∧ (s.toInt = 0 ∨ (0 ≤ v.toInt ∧ v.toInt ≤ 5)) ∧ d2 = d + 1)) : qE a d2 lj (qa lj x td) N := fun q => by
  have q0 : (tI M 60 25).toInt = 0 := by rw [← p.1]; exact q
  obtain ⟨⟨y1, y2⟩, y3, y4⟩ := h q0
  obtain ⟨i, ei, e6, e7, e3, e64⟩ := p.2 q0
  have hx := hx q
  obtain ⟨L, hL⟩ : ∃ L : Nat, td (300 + lj) = L := ⟨(td (300 + lj)).toNat, by omega⟩
  have hi : i = 64 + (a + L) := by omega
  subst hi
  have eq : qa lj x td = pp_su (pp_su td (400 + 64 * lj + L) x) (300 + lj) (L + 1) := by
    unfold qa
    rw [if_pos (by omega), hL, show ((L : Nat) : Int).toNat = L by omega]
  rw [eq, su_s]
  rw [hL] at y1 y3 y4
  refine ⟨⟨by omega, by omega⟩, ?_, fun n hn => ?_⟩
  · rw [show ((L : Int) + 1).toNat = L + 1 by omega]
    rw [show ((L : Nat) : Int).toNat = L by omega] at y3
    unfold ud at *
    rw [e6, e7]
    simp only [dp]
    have ex : dp (fun i => upd (tY M 60 16) (64 + (a + L)) s (64 + i)) (fun i => upd (tY M 60 17) (64 + (a + L)) v (64 + i)) a L = dp (fun i => tY M 60 16 (64 + i)) (fun i => tY M 60 17 (64 + i)) a L := dp_ext L (fun x hx => ⟨pk_un (by omega), pk_un (by omega)⟩)
    rw [ex, y3, Option.bind_some]
    simp only [pk_us]
    rcases hs q with ⟨q1, q2, q3, q4⟩ | ⟨q1, q2, q3, q4⟩ | ⟨q1, q2, q4⟩
    · rw [if_pos q1, if_pos q2, if_pos (by omega), q4]
    · rw [if_pos q1, if_neg q2, if_pos (by omega), q4]
    · rw [if_neg q1, if_pos q2, q4]
  · rw [su_n (by omega), e6, e7]
    by_cases r : n = L
    · subst r
      rw [su_s, pk_us, pk_us]; exact hx
    · rw [su_n (by omega), pk_un (by omega), pk_un (by omega)]; exact y4 n (by omega)
/-! loops with what they tell: fuel -/
section
variable {P : Int → Bool} {F : (Nat → Int) → Nat → Int} {G : (Nat → Int) → (Nat → Int) → Nat → Int}
theorem qlp_st (hP : P 28 = false) (hF : ∀ s : Nat → Int, s 8 ≤ 64 → F s 0 = 28 ∨ (s 8 + 1 ≤ F s 8 ∧ F s 8 ≤ 64)) : ∀ (f : Nat) (s td : Nat → Int), s 8 ≤ 64 → 65 ≤ (f : Int) + s 8 → qq_lp P F G f s td = qq_lp P F G (f + 1) s td := by
  intro f
  induction f with
  | zero => intro s td h8 h; omega
  | succ f ih =>
    intro s td h8 h
    rw [qq_lp, qq_lp]
    split
    · rcases hF s h8 with g | g
      · rw [qlp_end (Or.inr (by rw [g]; exact hP)), qlp_end (Or.inr (by rw [g]; exact hP))]
      · exact ih (F s) (G s td) g.2 (by omega)
    · rfl
theorem qlp_nx (hP : P 28 = false) (hF : ∀ s : Nat → Int, s 8 ≤ 64 → F s 0 = 28 ∨ (s 8 + 1 ≤ F s 8 ∧ F s 8 ≤ 64)) {s s' td td' : Nat → Int} (f : Nat) (h : P (s 0) = true) (e : s' = F s) (e2 : td' = G s td) (h8 : s 8 ≤ 64) (hf : 64 ≤ (f : Int) + s 8) : qq_lp P F G (f + 1) s td = qq_lp P F G (f + 1) s' td' := by
  subst e e2
  rw [qq_lp, if_pos h]
  rcases hF s h8 with g | g
  · rw [qlp_end (Or.inr (by rw [g]; exact hP)), qlp_end (Or.inr (by rw [g]; exact hP))]
  · exact qlp_st hP hF f (F s) (G s td) g.2 (by omega)
end
section
variable {B : Nat → Int} {n j : Nat} {F : (Nat → Int) → Nat → Int} {G : (Nat → Int) → (Nat → Int) → Nat → Int} {s td : Nat → Int}
theorem qng_no (h : s 0 ≠ 24) : qq_ng B n j F G s td = qq_cm B n j F G s td := by
  unfold qq_ng
  rw [ca_end (Or.inr (decide_eq_false h)), lp_end (Or.inr (decide_eq_false h))]
  rfl
theorem ca_add : ∀ (f : Nat) (s : Nat → Int) (k : Nat), qq_ca B n f s (k + 1) = qq_ca B n f s k + 1 := by
  intro f
  induction f with
  | zero => intro s k; rfl
  | succ f ih =>
    intro s k
    rw [qq_ca, qq_ca]
    split
    · exact ih _ _
    · rfl
theorem ca_st : ∀ (f : Nat) (s : Nat → Int) (k : Nat), s 8 ≤ 64 → 65 ≤ (f : Int) + s 8 → qq_ca B n f s k = qq_ca B n (f + 1) s k := by
  intro f
  induction f with
  | zero => intro s k h8 h; omega
  | succ f ih =>
    intro s k h8 h
    rw [qq_ca, qq_ca]
    split
    · rcases kn_g (B := B) (n := n) h8 with g | g
      · rw [ca_end (Or.inr (decide_eq_false (by rw [g]; decide))), ca_end (Or.inr (decide_eq_false (by rw [g]; decide)))]
      · exact ih _ _ g.2 (by omega)
    · rfl
theorem qng_not (h : s 0 = 24) (h0 : 0 ≤ s 8) (h8 : s 8 ≤ 64) : qq_ng B n j F G s td = qa j (-24) (qq_ng B n j F G (pp_kn B n s) td) := by
  have hG : ∀ s : Nat → Int, s 8 ≤ 64 → pp_kn B n s 0 = 28 ∨ (s 8 + 1 ≤ pp_kn B n s 8 ∧ pp_kn B n s 8 ≤ 64) := fun s h => by
    rcases kn_g (B := B) (n := n) h with g | g
    · exact Or.inl g
    · exact Or.inr ⟨by omega, g.2⟩
  have e1 : pp_lp pp_qN (pp_kn B n) 65 s = pp_lp pp_qN (pp_kn B n) 65 (pp_kn B n s) := lp_nx (by decide) hG 64 (decide_eq_true h) rfl h8 (by omega)
  have e2 : qq_ca B n 65 s 0 = qq_ca B n 65 (pp_kn B n s) 0 + 1 := by
    rw [qq_ca, if_pos (show pp_qN (s 0) = true from decide_eq_true h), ca_add]
    rcases kn_g (B := B) (n := n) h8 with g | g
    · rw [ca_end (Or.inr (decide_eq_false (by rw [g]; decide))), ca_end (Or.inr (decide_eq_false (by rw [g]; decide)))]
    · rw [ca_st 64 _ _ g.2 (by omega)]
  unfold qq_ng
  rw [e1, e2]
  rfl
end
theorem qe_s {B : Nat → Int} {n lj j : Nat} {s td : Nat → Int} (h : 1 ≤ j) : qq_pt B n lj j s td = if s 0 = 30 then qq_ei B n lj (pp_pt B n (j - 1)) (qq_pt B n lj (j - 1)) (pp_av B n s) td else qq_p0 lj s td := by
  cases j with
  | zero => omega
  | succ j => rfl
theorem qe_n {B : Nat → Int} {n lj j : Nat} {s td : Nat → Int} (h : s 0 ≠ 30) : qq_pt B n lj j s td = qq_p0 lj s td := by
  cases j with
  | zero => rw [qq_pt, if_neg h]
  | succ j => rw [qq_pt, if_neg h]
set_option maxHeartbeats 4000000 in
set_option maxRecDepth 100000 in
theorem x_X10_puts (l : Launch) (D : va_G) (A : Nat → Nat → Nat) (cy : Nat → ClassId) (hJ : ti_inj ti_LM A) (M : ti_M) (hI : mI Tm M) (a d d2 : Nat) (pz v : Int32) (hu : us M a d) (h63 : (tI M 60 25).toInt ≠ 0 ∨ (tY M 60 3 18).toInt ≤ 63) (hs : (tI M 60 25).toInt ≠ 0 ∨ ((pz.toInt = 2 ∧ v.toInt = 260 ∧ 1 ≤ d ∧ d2 = d) ∨ (pz.toInt = 2 ∧ 2 ≤ d ∧ d2 = d - 1) ∨ (pz.toInt ≠ 2 ∧ (pz.toInt = 0 ∨ (0 ≤ v.toInt ∧ v.toInt ≤ 5)) ∧ d2 = d + 1))) : ti_Kv l yX10_puts cX10_puts 3 1 ti_LM D A cy M [.ref (A 60 0), .int pz, .int v] (fun M2 => pu pz v M2 M ∧ mI Tm M2 ∧ pe M2 M ∧ us M2 a d2 ∧ (∀ k, k ≠ 999 → tI M2 60 k = tI M 60 k) ∧ ((tI M2 60 25).toInt ≠ 0 ∨ (tY M2 60 3 18).toInt = (tY M 60 3 18).toInt + 1)) := by
  refine ti_eV yp_X10_puts hJ ti_LM_nd (Nat.le_of_ble_eq_true rfl) ?_
  intro p e s m args below meth c Q H0 C hQ hw ls hl
  have hx := C.1
  have hb := C.2.1
  have hl : lv_has ls 3 [(0, .ref (A 60 0)), (1, .int pz), (2, .int v)] := hl
  refine lv_aload_n hx hb dX10_puts_0 rfl (lv_at hl 0 rfl) ?_
  refine ti_get (ci := 10) (k := 25) (N := 67) (T := TX10) C hw iw_10 rfl ob_60 (by decide) (by decide) fl_X10_208 rfl rfl dX10_puts_1 ?_
  refine lv_topi (fun x_1 ex_1 => ?_)
  have u_2 : (tI M 60 25).toInt = x_1.toInt := by rw [ex_1]
  refine sb_if_eq (tgt := 8) hx hb rfl dX10_puts_4 (by decide) (fun c_4_2 => ?_) (fun c_4_2 => ?_)
  · refine lv_aload_n hx hb dX10_puts_8 rfl (lv_at hl 0 rfl) ?_
    refine ti_get (ci := 10) (k := 16) (N := 67) (T := TX10) (v := .ref (A 60 17)) C hw iw_10 rfl ob_60 (by decide) (by decide) fl_X10_52 rfl rfl dX10_puts_9 ?_
    refine lv_bipush (v := 64) hx hb dX10_puts_12 (by decide) ?_
    refine lv_aload_n hx hb dX10_puts_14 rfl (lv_at hl 0 rfl) ?_
    refine lv_bipush (v := 7) hx hb dX10_puts_15 (by decide) ?_
    refine ti_callVi (ci := 10) (av := [.int 7]) C hw (s_X10_fresher_7 l D A cy hJ M hI ) ⟨ml_X10_224, ym_X10_fresher, yv_X10_fresher, yi_X10_fresher, yc_X10_fresher⟩ yd_X10_fresher ob_60 (by decide) rfl rfl hl.1 (Nat.le_of_ble_eq_true rfl) ⟨by decide, by decide⟩ ⟨Nat.zero_le _, Nat.zero_le _⟩ dX10_puts_17 (fun r_4 M_5 H locs hp_5 hw => ?_)
    obtain ⟨hm, b0r_4, b1r_4, yr_4⟩ := hp_5
    have hw := hw.to hm
    have zr_4 : (tY M 60 3 18).toInt = r_4.toInt := by rw [yr_4]
    refine lv_iadd hx hb dX10_puts_20 ?_
    refine lv_topi (fun x_6 ex_6 => ?_)
    have tx_6 : x_6.toInt = 64 + r_4.toInt := i_add ex_6 (by decide : (64 : Int32).toInt = 64) rfl (by omega) (by omega)
    refine lv_iload_n hx hb dX10_puts_21 rfl (lv_at hl 1 rfl) ?_
    refine ti_iast (ci := 10) (k := 16) (n := 128) C hw ob_60 (by decide) (fun _ _ => rfl) (vp_in_iff.mpr (by omega)) dX10_puts_22 (fun H locs hw => ?_)
    obtain ⟨M_7, hM_7⟩ : ∃ z : ti_M, z = uY M 60 16 (upd (tY M 60 16) (x_6 : Int32).toNatClampNeg pz) := ⟨_, rfl⟩
    have hw := hw.to hM_7.symm
    have iM_7 : mI Tm M_7 := mI_up (i := x_6.toNatClampNeg) hI hM_7 trivial
    have v_8 : (tI M_7 60 25).toInt = (tI M 60 25).toInt := by rw [tI_uYE hM_7]
    refine lv_aload_n hx hb dX10_puts_23 rfl (lv_at hl 0 rfl) ?_
    refine ti_get (ci := 10) (k := 17) (N := 67) (T := TX10) (v := .ref (A 60 18)) C hw iw_10 rfl ob_60 (by decide) (by decide) fl_X10_55 rfl rfl dX10_puts_24 ?_
    refine lv_bipush (v := 64) hx hb dX10_puts_27 (by decide) ?_
    refine lv_aload_n hx hb dX10_puts_29 rfl (lv_at hl 0 rfl) ?_
    refine lv_bipush (v := 7) hx hb dX10_puts_30 (by decide) ?_
    refine ti_callVi (ci := 10) (av := [.int 7]) C hw (s_X10_fresher_7 l D A cy hJ M_7 iM_7 ) ⟨ml_X10_224, ym_X10_fresher, yv_X10_fresher, yi_X10_fresher, yc_X10_fresher⟩ yd_X10_fresher ob_60 (by decide) rfl rfl hl.1 (Nat.le_of_ble_eq_true rfl) ⟨by decide, by decide⟩ ⟨Nat.zero_le _, Nat.zero_le _⟩ dX10_puts_32 (fun r_9 M_10 H locs hp_10 hw => ?_)
    obtain ⟨hm, b0r_9, b1r_9, yr_9⟩ := hp_10
    have hw := hw.to hm
    have sr_9 : r_9.toInt = (r_4 : Int32).toInt := by rw [← yr_9, ((cg (tY_nE hM_7 (nk (by decide))) 18).trans yr_4)]
    have zr_9 : (tY M_7 60 3 18).toInt = r_9.toInt := by rw [yr_9]
    refine lv_iadd hx hb dX10_puts_35 ?_
    refine lv_topi (fun x_11 ex_11 => ?_)
    have tx_11 : x_11.toInt = 64 + r_9.toInt := i_add ex_11 (by decide : (64 : Int32).toInt = 64) rfl (by omega) (by omega)
    refine lv_iload_n hx hb dX10_puts_36 rfl (lv_at hl 2 rfl) ?_
    refine ti_iast (ci := 10) (k := 17) (n := 128) C hw ob_60 (by decide) (fun _ _ => rfl) (vp_in_iff.mpr (by omega)) dX10_puts_37 (fun H locs hw => ?_)
    obtain ⟨M_12, hM_12⟩ : ∃ z : ti_M, z = uY M_7 60 17 (upd (tY M_7 60 17) (x_11 : Int32).toNatClampNeg v) := ⟨_, rfl⟩
    have hw := hw.to hM_12.symm
    have iM_12 : mI Tm M_12 := mI_up (i := x_11.toNatClampNeg) iM_7 hM_12 trivial
    have v_13 : (tI M_12 60 25).toInt = (tI M_7 60 25).toInt := by rw [tI_uYE hM_12]
    refine lv_aload_n hx hb dX10_puts_38 rfl (lv_at hl 0 rfl) ?_
    refine lv_bipush (v := 7) hx hb dX10_puts_39 (by decide) ?_
    refine lv_aload_n hx hb dX10_puts_41 rfl (lv_at hl 0 rfl) ?_
    refine lv_bipush (v := 7) hx hb dX10_puts_42 (by decide) ?_
    refine ti_callVi (ci := 10) (av := [.int 7]) C hw (s_X10_fresher_7 l D A cy hJ M_12 iM_12 ) ⟨ml_X10_224, ym_X10_fresher, yv_X10_fresher, yi_X10_fresher, yc_X10_fresher⟩ yd_X10_fresher ob_60 (by decide) rfl rfl hl.1 (Nat.le_of_ble_eq_true rfl) ⟨by decide, by decide⟩ ⟨Nat.zero_le _, Nat.zero_le _⟩ dX10_puts_44 (fun r_14 M_15 H locs hp_15 hw => ?_)
    obtain ⟨hm, b0r_14, b1r_14, yr_14⟩ := hp_15
    have hw := hw.to hm
    have sr_14 : r_14.toInt = (r_4 : Int32).toInt := by rw [← yr_14, ((cg (tY_nE hM_12 (nk (by decide))) 18).trans ((cg (tY_nE hM_7 (nk (by decide))) 18).trans yr_4))]
    have zr_14 : (tY M_12 60 3 18).toInt = r_14.toInt := by rw [yr_14]
    refine lv_iconst (v := 1) hx hb dX10_puts_47 (by decide) ?_
    refine lv_iadd hx hb dX10_puts_48 ?_
    refine lv_topi (fun x_16 ex_16 => ?_)
    have tx_16 : x_16.toInt = r_14.toInt + 1 := i_add ex_16 rfl (by decide : (1 : Int32).toInt = 1) (by omega) (by omega)
    refine ti_callVv (ci := 10) (av := [.int 7, .int x_16]) C hw (s_X10_reads_7 l D A cy hJ M_12 iM_12 x_16 (by first | omega | decide) (by first | omega | decide)) ⟨ml_X10_244, ym_X10_reads, yv_X10_reads, yi_X10_reads, yc_X10_reads⟩ yd_X10_reads ob_60 (by decide) rfl rfl hl.1 (Nat.le_of_ble_eq_true rfl) ⟨by decide, by decide⟩ ⟨Nat.zero_le _, Nat.zero_le _⟩ dX10_puts_49 (fun M_18 H locs hp_18 hw => ?_)
    obtain ⟨iM_18, hM_18⟩ := hp_18
    have v_19 : (tI M_18 60 25).toInt = (tI M_12 60 25).toInt := by rw [tI_uYE hM_18]
    have e6 : tY M_18 60 16 = upd (tY M 60 16) (x_6 : Int32).toNatClampNeg pz := by rw [tY_nE hM_18 (nk (by decide)), tY_nE hM_12 (nk (by decide)), tY_uE hM_7]
    have e7 : tY M_18 60 17 = upd (tY M 60 17) (x_11 : Int32).toNatClampNeg v := by rw [tY_nE hM_18 (nk (by decide)), tY_uE hM_12, tY_nE hM_7 (nk (by decide))]
    have e3 : tY M_18 60 3 18 = x_16 := by rw [tY_uE hM_18, pk_us]
    have eo : ∀ k, k ≠ 3 → k ≠ 16 → k ≠ 17 → tY M_18 60 k = tY M 60 k := fun k a b c => (tY_nE hM_18 (nk a)).trans ((tY_nE hM_12 (nk c)).trans (tY_nE hM_7 (nk b)))
    have et : ∀ k, tI M_18 60 k = tI M 60 k := fun k => (tI_uYE hM_18).trans ((tI_uYE hM_12).trans (tI_uYE hM_7))
    have en : ∀ i, i ≠ 18 → tY M_18 60 3 i = tY M 60 3 i := fun i hi => by rw [tY_uE hM_18, pk_un hi, tY_nE hM_12 (nk (by decide)), tY_nE hM_7 (nk (by decide))]
    have ei : (((x_6 : Int32).toNatClampNeg : Nat) : Int) = 64 + (tY M 60 3 18).toInt := by show ((x_6.toInt.toNat : Nat) : Int) = _; rw [(yr_4)]; omega
    have ej : (x_11 : Int32).toNatClampNeg = (x_6 : Int32).toNatClampNeg := by show x_11.toInt.toNat = x_6.toInt.toNat; omega
    exact hQ _ _ _ _ _ hw (⟨⟨et 25, fun _ => ⟨(x_6 : Int32).toNatClampNeg, ei, e6, e7.trans (by rw [ej]), by rw [e3, (yr_4)]; omega, by rw [e3]; omega⟩⟩, iM_18, ⟨eo, en, fun i hi => ⟨by rw [e6, pk_un (by omega)], by rw [e7, pk_un (by omega)]⟩, by rw [e3, (yr_4)]; omega, fun k _ => et k⟩, us_put hu (by rw [et]) (by rw [(yr_4)]; omega) e6 e7 ei ej e3 (by rw [(yr_4)]; omega) (hs.resolve_left (by omega)), fun k _ => et k, by rw [et, e3, (yr_4)]; omega⟩) dX10_puts_52
  · exact hQ _ _ _ _ _ hw (⟨⟨rfl, fun q => absurd q (by omega)⟩, hI, pe.refl, Or.inl (by omega), fun _ _ => rfl, by omega⟩) dX10_puts_7

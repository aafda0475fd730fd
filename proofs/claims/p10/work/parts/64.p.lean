variable {Tc : gC} {Tm : gM}
/-! the bytes of a number; of five -/
def pp_by (z : Int32) (j : Nat) : Int := ((z >>> (nI (24 - 8 * j) &&& 31)) &&& 255).toInt
def pp_fb (a b c d e : Int32) (j : Nat) : Int := pp_by (if j < 4 then a else if j < 8 then b else if j < 12 then c else if j < 16 then d else e) (j % 4)
/-! lines, told once -/
section
variable {B : Nat → Int} {n : Nat} {s g : Nat → Int}
def pp_mq (B : Nat → Int) (n : Nat) (s : Nat → Int) : Nat → Int := pp_m5 (pp_m4 B n (pp_m3 B n (pp_m2 (pp_su s (100 + (s 7).toNat) (s 1)))))
theorem mn_q : pp_mn B n s = if s 7 < 8 then pp_mq B n (pp_av B n s) else pp_rf 2 s := by
  unfold pp_mn pp_mq pp_m1
  rw [av_n (j := 7) (by decide)]
def pp_gq (B : Nat → Int) (n : Nat) (a : Nat → Int) : Nat → Int := if pp_tv a = -1 then pp_tm a else pp_g3 B n (pp_tv a) (pp_g1 B n (pp_tv a) (pp_tm a))
theorem gd_q : pp_gd B n s = pp_gq B n (pp_av B n s) := rfl
def pp_pq (B : Nat → Int) (n : Nat) (a : Nat → Int) : Nat → Int := if 9 ≤ a 0 ∧ a 0 ≤ 11 then pp_nb B n 0 7 (pp_on B n a) else pp_rf 1 a
theorem pw_q : pp_pw B n s = pp_pq B n (pp_av B n s) := rfl
def pp_lq (B : Nat → Int) (n : Nat) (a : Nat → Int) : Nat → Int := if 12 ≤ a 0 ∧ a 0 ≤ 14 then pp_ei B n (pp_pt B n 8) (pp_on B n a) else pp_rf 1 a
def pp_lw (B : Nat → Int) (n : Nat) (s : Nat → Int) : Nat → Int := pp_lq B n (pp_av B n s)
/-- a line but its semicolon -/
def pp_lb (B : Nat → Int) (n : Nat) (s : Nat → Int) : Nat → Int := if s 0 = 0 then pp_mn B n s else if s 0 = 1 then pp_gd B n s else if s 0 = 2 then pp_pw B n s else if s 0 = 3 then pp_nb B n 1 9 (pp_nb B n 0 999 (pp_on B n s)) else if s 0 = 4 then pp_nb B n 1 30 (pp_on B n s) else if s 0 = 5 then pp_nb B n 1 7 (pp_on B n s) else if s 0 = 6 then pp_nb B n 0 99 (pp_on B n s) else if s 0 = 7 then pp_nb B n 0 99999 (pp_on B n s) else if s 0 = 8 then pp_lw B n s else pp_rf 1 s
def pp_l9 (s : Nat → Int) : Nat → Int := pp_su s 9 (s 9 + 1)
def pp_ln (B : Nat → Int) (n : Nat) (s : Nat → Int) : Nat → Int := pp_l9 (pp_tk B n 29 (pp_lb B n s))
/-- the lines of a text, up to the first fault -/
def pp_rd (B : Nat → Int) (n : Nat) : Nat → (Nat → Int) → Nat → Int
  | 0, s => s
  | f + 1, s => if s 0 ≠ 27 ∧ s 4 = 0 then pp_rd B n f (pp_ln B n s) else s
theorem rd_step {f f' : Nat} {s' : Nat → Int} (h : s 0 ≠ 27 ∧ s 4 = 0) (e : s' = pp_ln B n s) (hf : f = f' + 1) : pp_rd B n f s = pp_rd B n f' s' := by
  subst e hf
  rw [pp_rd, if_pos h]
theorem rd_end {f : Nat} (h : f = 0 ∨ s 0 = 27 ∨ s 4 ≠ 0) : pp_rd B n f s = s := by
  cases f with
  | zero => rfl
  | succ f => rw [pp_rd, if_neg (by omega)]
/-- the registers ahead of the first line; what J tells of men isn't looked at -/
def pp_r0 (B : Nat → Int) (n : Nat) (J : Nat → Int) : Nat → Int := fun j => if j = 0 then pt_K B n 0 else if j = 1 then pt_V B n 0 else if j = 2 then ((pt_P B n 0 : Nat) : Int) else if j = 3 then pt_A B n 0 else if j = 4 then 0 else if j = 5 then -1 else if j = 7 ∨ j = 8 ∨ j = 9 then 0 else if 300 ≤ j ∧ j < 315 then 0 else J j
/-- the registers behind the text -/
def pp_tx (B : Nat → Int) (n : Nat) (J : Nat → Int) : Nat → Int := pp_rd B n (n + 1) (pp_r0 B n J)
/-- what text() answers -/
def pp_an (s : Nat → Int) : Int := if s 4 = 0 then s 9 else -1
/-! register 9 is touched by lines alone -/
theorem m2_n {j : Nat} (hj : 6 ≤ j) : pp_m2 s j = s j := by
  unfold pp_m2
  split
  · exact rf_n hj
  · rfl
theorem m3_n {j : Nat} (hj : 6 ≤ j) : pp_m3 B n s j = s j := by
  unfold pp_m3
  rw [nb_n hj, nb_n hj, nb_n hj, nb_n hj, nb_n hj, nb_n hj, nb_n hj, tk_n hj]
theorem m4_n {j : Nat} (hj : 6 ≤ j) : pp_m4 B n s j = s j := by
  unfold pp_m4
  split
  · exact av_n (by omega)
  · rfl
theorem tm_n {j : Nat} (hj : 6 ≤ j) : pp_tm s j = s j := by
  unfold pp_tm
  split
  · split
    · exact rf_n hj
    · rfl
  · exact rf_n hj
theorem on_9 : pp_on B n s 9 = s 9 := by
  unfold pp_on
  split
  · rw [av_n (by decide), su_n (by omega)]
  · exact rf_n (by decide)
theorem kn_9 : pp_kn B n s 9 = s 9 := by
  unfold pp_kn
  split
  · rw [av_n (by decide), su_n (by decide)]
  · exact rf_n (by decide)
theorem lp_9 {P : Int → Bool} {F : (Nat → Int) → Nat → Int} (hF : ∀ s : Nat → Int, F s 9 = s 9) : ∀ (f : Nat) (s : Nat → Int), pp_lp P F f s 9 = s 9 := by
  intro f
  induction f with
  | zero => intro s; rfl
  | succ f ih =>
    intro s
    rw [pp_lp]
    split
    · rw [ih, hF]
    · rfl
section
variable {F : (Nat → Int) → Nat → Int}
theorem pd_9 (hF : ∀ s : Nat → Int, F s 9 = s 9) (s : Nat → Int) : pp_pd B n F s 9 = s 9 := by
  unfold pp_pd
  rw [lp_9 (fun s => by rw [hF, kn_9]), hF]
theorem sm_9 (hF : ∀ s : Nat → Int, F s 9 = s 9) (s : Nat → Int) : pp_sm B n F s 9 = s 9 := by
  unfold pp_sm
  rw [lp_9 (fun s => by rw [pd_9 hF, kn_9]), pd_9 hF]
theorem cm_9 (hF : ∀ s : Nat → Int, F s 9 = s 9) (s : Nat → Int) : pp_cm B n F s 9 = s 9 := by
  unfold pp_cm pp_c2
  split
  · rw [sm_9 hF, kn_9, sm_9 hF]
  · rw [sm_9 hF]
theorem ng_9 (hF : ∀ s : Nat → Int, F s 9 = s 9) (s : Nat → Int) : pp_ng B n F s 9 = s 9 := by
  unfold pp_ng
  rw [cm_9 hF, lp_9 (fun s => kn_9)]
theorem bo_9 (hF : ∀ s : Nat → Int, F s 9 = s 9) (s : Nat → Int) : pp_bo B n F s 9 = s 9 := by
  unfold pp_bo
  rw [lp_9 (fun s => by rw [ng_9 hF, kn_9]), ng_9 hF]
theorem ei_9 (hF : ∀ s : Nat → Int, F s 9 = s 9) (s : Nat → Int) : pp_ei B n F s 9 = s 9 := by
  unfold pp_ei
  rw [lp_9 (fun s => by rw [bo_9 hF, kn_9]), bo_9 hF]
end
theorem p0_9 (s : Nat → Int) : pp_p0 B n s 9 = s 9 := by
  unfold pp_p0
  split
  · split
    · exact rf_n (by decide)
    · exact kn_9
  · split
    · exact kn_9
    · exact rf_n (by decide)
theorem pt_9 : ∀ (d : Nat) (s : Nat → Int), pp_pt B n d s 9 = s 9 := by
  intro d
  induction d with
  | zero =>
    intro s
    rw [pp_pt]
    split
    · exact rf_n (by decide)
    · exact p0_9 s
  | succ d ih =>
    intro s
    rw [pp_pt]
    split
    · rw [tk_n (by decide), ei_9 ih, av_n (by decide)]
    · exact p0_9 s
theorem mn_9 : pp_mn B n s 9 = s 9 := by
  rw [mn_q]
  split
  · unfold pp_mq pp_m5
    rw [su_n (by decide), su_n (by omega), m4_n (by decide), m3_n (by decide), m2_n (by decide), su_n (by omega), av_n (by decide)]
  · exact rf_n (by decide)
theorem g1_9 {a : Int} : pp_g1 B n a s 9 = s 9 := by
  unfold pp_g1
  rw [tk_n (by decide)]
  split
  · rfl
  · exact rf_n (by decide)
theorem g3_9 {a : Int} : pp_g3 B n a s 9 = s 9 := by
  unfold pp_g3 pp_g2
  rw [su_n (by omega), tk_n (by decide)]
  split
  · rw [rf_n (by decide), tm_n (by decide)]
  · rw [tm_n (by decide)]
theorem gd_9 : pp_gd B n s 9 = s 9 := by
  unfold pp_gd
  split
  · rw [tm_n (by decide), av_n (by decide)]
  · rw [g3_9, g1_9, tm_n (by decide), av_n (by decide)]
theorem lb_9 : pp_lb B n s 9 = s 9 := by
  unfold pp_lb
  split
  · exact mn_9
  · split
    · exact gd_9
    · split
      · unfold pp_pw
        split
        · rw [nb_n (by decide), on_9, av_n (by decide)]
        · rw [rf_n (by decide), av_n (by decide)]
      · split
        · rw [nb_n (by decide), nb_n (by decide), on_9]
        · split
          · rw [nb_n (by decide), on_9]
          · split
            · rw [nb_n (by decide), on_9]
            · split
              · rw [nb_n (by decide), on_9]
              · split
                · rw [nb_n (by decide), on_9]
                · split
                  · unfold pp_lw pp_lq
                    split
                    · rw [ei_9 (pt_9 8), on_9, av_n (by decide)]
                    · rw [rf_n (by decide), av_n (by decide)]
                  · exact rf_n (by decide)
theorem ln_9 : pp_ln B n s 9 = s 9 + 1 := by
  unfold pp_ln pp_l9
  rw [su_s, tk_n (by decide), lb_9]
/-! where a fault stands -/
theorem fk_l {x y a : Nat → Int} (p : fk x a) (q : fk y a) : fk x y := ⟨p.1.trans q.1.symm, p.2.1.trans q.2.1.symm, p.2.2⟩
theorem l9_f (h : fz s) : fk (pp_l9 s) s := fk_su h (by decide)
theorem tm_f (h : fz s) : fk (pp_tm s) s := by
  unfold pp_tm
  rw [if_neg (by rw [h.2]; decide)]
  exact rf_f h
theorem on_f (h : fz s) (k : Int) : fk (pp_rf k s) s := rf_f h
theorem g1_f {a : Int} (h : fz s) : fk (pp_g1 B n a s) s := by
  unfold pp_g1
  split
  · exact tk_f h (by decide)
  · exact (tk_f ((rf_f h).zz h) (by decide)).trans (rf_f h)
theorem g2_f {a b : Int} (h : fz s) : fk (pp_g2 B n a b s) s := by
  unfold pp_g2
  split
  · have q : fk (pp_tk B n 25 (pp_rf 5 s)) s := (tk_f ((rf_f h).zz h) (by decide)).trans (rf_f h)
    exact (fk_su (q.zz h) (by omega)).trans q
  · have q : fk (pp_tk B n 25 s) s := tk_f h (by decide)
    exact (fk_su (q.zz h) (by omega)).trans q
theorem g3_f {a : Int} (h : fz s) : fk (pp_g3 B n a s) s := by
  unfold pp_g3
  exact (g2_f ((tm_f h).zz h)).trans (tm_f h)
theorem av_su {k : Nat} {v : Int} (hk : 4 ≤ k) : pp_av B n (pp_su s k v) = pp_su (pp_av B n s) k v := by
  funext j
  by_cases q : j = k
  · subst q; rw [av_n hk, su_s, su_s]
  · rw [su_n q]
    unfold pp_av
    rw [su_n (j := 3) (by omega), su_n q]
/-! a guard's line, way by way -/
theorem gq_1 (z : fz (pp_tm s)) (k : fk g (pp_tm s)) : fk (pp_gq B n s) g := by
  refine fk_l ?_ k
  unfold pp_gq
  split
  · exact fk.refl z
  · exact (g3_f ((g1_f z).zz z)).trans (g1_f z)
theorem tm_a (h : pp_tm s 4 = 0) : s 0 = 25 ∧ pp_tm s = s ∧ pp_tv s ≠ -1 ∧ pp_tv s = pp_fd s (s 1) 0 := by
  unfold pp_tm at *
  unfold pp_tv
  by_cases q : s 0 = 25
  · rw [if_pos q] at h ⊢
    by_cases q2 : pp_fd s (s 1) 0 = -1
    · rw [if_pos q2] at h; exact absurd h (rf_4 (by decide))
    · rw [if_neg q2, if_pos q]; exact ⟨q, rfl, q2, rfl⟩
  · rw [if_neg q] at h; exact absurd h (rf_4 (by decide))
theorem gq_2 (h : pp_tm s 4 = 0) (hg : pp_tm s (200 + (pp_tv s).toNat) ≠ -1) (k : fk g (pp_rf 3 (pp_tm s))) : fk (pp_gq B n s) g := by
  have e := tm_a h
  have z : fz (pp_rf 3 (pp_tm s)) := ⟨rf_4 (by decide), rf_0⟩
  refine fk_l ?_ k
  unfold pp_gq
  rw [if_neg e.2.2.1]
  have q : fk (pp_g1 B n (pp_tv s) (pp_tm s)) (pp_rf 3 (pp_tm s)) := by
    unfold pp_g1
    rw [if_neg hg]
    exact tk_f z (by decide)
  exact (g3_f (q.zz z)).trans q
theorem gq_e (h : pp_tm s 4 = 0) (hg : pp_tm s (200 + (pp_tv s).toNat) = -1) : pp_gq B n s = pp_g3 B n (pp_tv s) (pp_go B n (pp_tm s)) := by
  have e := tm_a h
  unfold pp_gq
  rw [if_neg e.2.2.1]
  unfold pp_g1
  rw [if_pos hg]
  unfold pp_tk pp_go
  rw [if_pos (show pp_tm s 0 = 25 by rw [e.2.1]; exact e.1), if_pos h]
theorem gq_3 (h : pp_tm s 4 = 0) (hg : pp_tm s (200 + (pp_tv s).toNat) = -1) (z : fz (pp_tm (pp_go B n (pp_tm s)))) (k : fk g (pp_tm (pp_go B n (pp_tm s)))) : fk (pp_gq B n s) g := by
  refine fk_l ?_ k
  rw [gq_e h hg]
  unfold pp_g3
  exact g2_f z
theorem gq_4 (h : pp_tm s 4 = 0) (hg : pp_tm s (200 + (pp_tv s).toNat) = -1) (hb : pp_tv (pp_go B n (pp_tm s)) = pp_tv s) (k : fk g (pp_rf 5 (pp_tm (pp_go B n (pp_tm s))))) : fk (pp_gq B n s) g := by
  have z : fz (pp_rf 5 (pp_tm (pp_go B n (pp_tm s)))) := ⟨rf_4 (by decide), rf_0⟩
  refine fk_l ?_ k
  rw [gq_e h hg]
  unfold pp_g3 pp_g2
  rw [if_pos hb]
  have q := tk_f (B := B) (n := n) (k := 25) z (by decide)
  exact (fk_su (q.zz z) (by omega)).trans q
theorem gq_5 (h : pp_tm s 4 = 0) (hg : pp_tm s (200 + (pp_tv s).toNat) = -1) (h2 : pp_tm (pp_go B n (pp_tm s)) 4 = 0) (hb : pp_tv (pp_go B n (pp_tm s)) ≠ pp_tv s) : pp_gq B n s = pp_av B n (pp_su (pp_tm (pp_go B n (pp_tm s))) (200 + (pp_tv s).toNat) (pp_tv (pp_go B n (pp_tm s)))) := by
  have e := tm_a h2
  rw [gq_e h hg, av_su (by omega)]
  unfold pp_g3 pp_g2
  rw [if_neg hb]
  unfold pp_tk
  rw [if_pos (by rw [e.2.1]; exact e.1)]
/-! powers and laws -/
theorem pt_pw0 : ∀ k : Nat, k < 25 → ((10 ≤ pt_pm.getD k 0 ∧ pt_pm.getD k 0 ≤ 12) ↔ (9 ≤ k ∧ k ≤ 11)) ∧ ((13 ≤ pt_pm.getD k 0 ∧ pt_pm.getD k 0 ≤ 15) ↔ (12 ≤ k ∧ k ≤ 14)) ∧ (9 ≤ k → k ≤ 14 → pt_pm.getD k 0 = k + 1) ∧ (pt_pm.getD k 0 ≤ 8 ↔ k ≤ 8) ∧ (k ≤ 8 → pt_pm.getD k 0 = k) := by decide +kernel
theorem pT_pw {x w : Int} (T : pt_T (s 0) (s 1) x w) : ((x = 0 ∧ 10 ≤ w ∧ w ≤ 12) → 9 ≤ s 0 ∧ s 0 ≤ 11 ∧ w = s 0 + 1) ∧ ((x = 0 ∧ 13 ≤ w ∧ w ≤ 15) → 12 ≤ s 0 ∧ s 0 ≤ 14 ∧ w = s 0 + 1) ∧ ((x = 0 ∧ w ≤ 8) → 0 ≤ s 0 ∧ s 0 ≤ 8 ∧ w = s 0) := by
  refine ⟨fun q => ?_, fun q => ?_, fun q => ?_⟩
  all_goals
    have e := pt_Twd T q.1
    have r := pt_pw0 (s 0).toNat (by omega)
    omega
theorem pT_nw {x w : Int} (T : pt_T (s 0) (s 1) x w) : (9 ≤ s 0 ∧ s 0 ≤ 11 → x = 0 ∧ 10 ≤ w ∧ w ≤ 12) ∧ (12 ≤ s 0 ∧ s 0 ≤ 14 → x = 0 ∧ 13 ≤ w ∧ w ≤ 15) ∧ (s 0 ≤ 8 → x = 0 ∧ w ≤ 8) := by
  have h0 := T.1.1
  refine ⟨fun q => ?_, fun q => ?_, fun q => ?_⟩
  all_goals
    have e := T.2.1 (by omega)
    have r := pt_pw0 (s 0).toNat (by omega)
    omega
end

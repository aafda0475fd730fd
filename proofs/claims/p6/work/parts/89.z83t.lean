section
variable {Tc : gC} {Tm : gM}
theorem cl_v {K : Nat → Int} : qq_cl K 6 = 200 ∧ qq_cl K 7 = 2 ∧ qq_cl K 8 = 10 ∧ qq_cl K 9 = 3 ∧ qq_cl K 10 = 0 ∧ qq_cl K 11 = 0 ∧ qq_cl K 32 = 0 ∧ qq_cl K 33 = 1 ∧ qq_cl K 34 = 2 ∧ qq_cl K 300 = 0 ∧ qq_cl K 301 = 0 ∧ qq_cl K 302 = 0 := by
  unfold qq_cl pp_su
  refine ⟨rfl, rfl, rfl, rfl, rfl, rfl, rfl, rfl, rfl, rfl, rfl, rfl⟩
theorem qL_0 {K : Nat → Int} {M : ti_M} (a11 : tY M 60 3 11 = 0) (a12 : tY M 60 3 12 = 200) (a13 : tY M 60 3 13 = 2) (a14 : tY M 60 3 14 = 10) (a15 : tY M 60 3 15 = 3) (a16 : tY M 60 3 16 = 0) (a17 : tY M 60 3 17 = 0) (a18 : tY M 60 3 18 = 0) (a19 : tY M 60 3 19 = 0) (a20 : tY M 60 3 20 = 1) (a21 : tY M 60 3 21 = 2) (b0 : tY M 60 14 3 = 0) (b1 : tY M 60 14 4 = 0) (b2 : tY M 60 14 5 = 0) (c0 : tY M 60 15 3 = 0) (c1 : tY M 60 15 4 = 0) (c2 : tY M 60 15 5 = 0) (e30 : tI M 60 30 = 0) : qL (qq_cl K) M := by
  obtain ⟨v6, v7, v8, v9, v10, v11, w0, w1, w2, l0, l1, l2⟩ := cl_v (K := K)
  have z : (0 : Int32).toInt = 0 := by decide
  refine fun _ => ⟨⟨by rw [a18, e30], by rw [v6, v7, v8, v9, v10, v11]; decide, fun k hk => ?_, fun i h => by rw [a11, z] at h; omega⟩, fun k h1 h2 => ?_, fun k hk => ?_, fun i f h => ?_, fun j hj => ?_⟩
  · obtain rfl | rfl | rfl : k = 0 ∨ k = 1 ∨ k = 2 := by omega
    · show 0 ≤ qq_cl K 32 ∧ qq_cl K 32 ≤ 7; rw [w0]; decide
    · show 0 ≤ qq_cl K 33 ∧ qq_cl K 33 ≤ 7; rw [w1]; decide
    · show 0 ≤ qq_cl K 34 ∧ qq_cl K 34 ≤ 7; rw [w2]; decide
  · obtain rfl | rfl | rfl | rfl | rfl | rfl : k = 6 ∨ k = 7 ∨ k = 8 ∨ k = 9 ∨ k = 10 ∨ k = 11 := by omega
    · rw [v6]; show _ = (tY M 60 3 12).toInt; rw [a12]; rfl
    · rw [v7]; show _ = (tY M 60 3 13).toInt; rw [a13]; rfl
    · rw [v8]; show _ = (tY M 60 3 14).toInt; rw [a14]; rfl
    · rw [v9]; show _ = (tY M 60 3 15).toInt; rw [a15]; rfl
    · rw [v10]; show _ = (tY M 60 3 16).toInt; rw [a16]; rfl
    · rw [v11]; show _ = (tY M 60 3 17).toInt; rw [a17]; rfl
  · obtain rfl | rfl | rfl : k = 0 ∨ k = 1 ∨ k = 2 := by omega
    · show qq_cl K 32 = (tY M 60 3 19).toInt; rw [w0, a19]; rfl
    · show qq_cl K 33 = (tY M 60 3 20).toInt; rw [w1, a20]; rfl
    · show qq_cl K 34 = (tY M 60 3 21).toInt; rw [w2, a21]; rfl
  · rw [a11] at h; exact absurd h (by have : (0 : Int32).toInt = 0 := by decide
                                      omega)
  · have e : qq_cl K (300 + j) = 0 ∧ tY M 60 14 (3 + j) = 0 ∧ tY M 60 15 (3 + j) = 0 := by
      obtain rfl | rfl | rfl : j = 0 ∨ j = 1 ∨ j = 2 := by omega
      · exact ⟨l0, b0, c0⟩
      · exact ⟨l1, b1, c1⟩
      · exact ⟨l2, b2, c2⟩
    have z : (0 : Int32).toInt = 0 := by decide
    unfold qO
    rw [e.1, e.2.1, e.2.2, a18, z]
    exact ⟨fun _ => rfl, by decide, by decide, 0, rfl, rfl, by decide, fun h => absurd h (by decide), fun m h => absurd h (by omega)⟩
/-- all that a text tells: s its registers, td beside them -/
def tX (s td : Nat → Int) : Nat → Int := fun j => if j = 4 then s 7 else if j = 5 then s 8 else if 100 ≤ j ∧ j < 228 ∧ (j - 100) % 16 = 9 then s (200 + (j - 100) / 16) else td j
section
variable {s td : Nat → Int} {j m : Nat}
theorem tX_4 : tX s td 4 = s 7 := rfl
theorem tX_5 : tX s td 5 = s 8 := rfl
theorem tX_9 (h : m < 8) : tX s td (100 + 16 * m + 9) = s (200 + m) := by
  unfold tX
  rw [if_neg (by omega), if_neg (by omega), if_pos ⟨by omega, by omega, by omega⟩, show 200 + (100 + 16 * m + 9 - 100) / 16 = 200 + m by omega]
theorem tX_o (h : j ≠ 4) (h2 : j ≠ 5) (h3 : j < 100 ∨ 228 ≤ j ∨ (j - 100) % 16 ≠ 9) : tX s td j = td j := by
  unfold tX
  rw [if_neg h, if_neg h2, if_neg (by omega)]
end
theorem tR_hv {B : Nat → Int} {n : Nat} {s td : Nat → Int} {G X : ti_M} (h : qL td G) (hr : rQ B n s G) (hz : s 4 = 0) (hI : mI Tm G) (e3 : ∀ i : Nat, i < 11 → tY X 60 3 i = tY G 60 3 (11 + i)) (e5 : ∀ i : Nat, i < 8 → tY X 60 5 i = tY G 60 5 (8 + i)) (e6 : ∀ i : Nat, i < 8 → tY X 60 6 i = tY G 60 6 (8 + i)) (e7 : ∀ i : Nat, i < 8 → tY X 60 7 i = tY G 60 7 (8 + i)) (e8 : ∀ i : Nat, i < 8 → tY X 60 8 i = tY G 60 8 (8 + i)) (e9 : ∀ i : Nat, i < 8 → tY X 60 9 i = tY G 60 9 (8 + i)) (e10 : ∀ i : Nat, i < 8 → tY X 60 10 i = tY G 60 10 (8 + i)) (e11 : ∀ i : Nat, i < 8 → tY X 60 11 i = tY G 60 11 (8 + i)) (e12 : ∀ i : Nat, i < 8 → tY X 60 12 i = tY G 60 12 (8 + i)) (e13 : ∀ i : Nat, i < 8 → tY X 60 13 i = tY G 60 13 (8 + i)) (e14 : ∀ i : Nat, i < 3 → tY X 60 14 i = tY G 60 14 (3 + i)) (e15 : ∀ i : Nat, i < 3 → tY X 60 15 i = tY G 60 15 (3 + i)) (e16 : ∀ i : Nat, i < 64 → tY X 60 16 i = tY G 60 16 (64 + i)) (e17 : ∀ i : Nat, i < 64 → tY X 60 17 i = tY G 60 17 (64 + i)) : tR (tX s td) X := by
  have q0 := hr.2.2.2 hz
  have b := b18 hI
  obtain ⟨⟨k30, -⟩, a1, a2, a3, a4⟩ := h (hr.2.1.symm.trans hz)
  have s7 : s 7 = (tY G 60 3 11).toInt := q0.2.2.1.1
  have s8 : s 8 = (tY G 60 3 18).toInt := q0.2.2.1.2.1.trans k30.symm
  have o : ∀ k : Nat, 6 ≤ k → k ≤ 11 → tX s td k = (tY X 60 3 (k - 5)).toInt := fun k h1 h2 => by
    rw [tX_o (by omega) (by omega) (by omega), e3 _ (by omega), show 11 + (k - 5) = 6 + k by omega]; exact a1 k h1 h2
  refine ⟨⟨?_, o 6 (by decide) (by decide), o 7 (by decide) (by decide), o 8 (by decide) (by decide), o 9 (by decide) (by decide), o 10 (by decide) (by decide), o 11 (by decide) (by decide), ?_⟩, fun k hk => ?_, fun m hm hl => ?_, fun j hj => ?_⟩
  · rw [tX_4, e3 0 (by decide)]; exact s7
  · rw [tX_5, e3 7 (by decide)]; exact s8
  · rw [tX_o (by omega) (by omega) (by omega), e3 _ (by omega), show 11 + (8 + k) = 19 + k by omega]; exact a2 k hk
  · rw [tX_4, s7] at hl
    have f : ∀ f : Nat, 1 ≤ f → f ≤ 8 → tX s td (100 + 16 * m + f) = (tY G 60 (4 + f) (8 + m)).toInt := fun f h1 h2 => by rw [tX_o (by omega) (by omega) (by omega)]; exact a3 m f hl hm h1 h2
    have g := (q0.2.2.2.1 m hm (by omega)).2
    rw [e5 m hm, e6 m hm, e7 m hm, e8 m hm, e9 m hm, e10 m hm, e11 m hm, e12 m hm, e13 m hm, tX_9 hm]
    exact ⟨f 1 (by decide) (by decide), f 2 (by decide) (by decide), f 3 (by decide) (by decide), f 4 (by decide) (by decide), f 5 (by decide) (by decide), f 6 (by decide) (by decide), f 7 (by decide) (by decide), f 8 (by decide) (by decide), g.1⟩
  · obtain ⟨-, w64, w2, a, w3, w4, w5, w6, w7⟩ := a4 j hj
    rw [tX_o (by omega) (by omega) (by omega), e14 j hj, e15 j hj]
    refine ⟨a, w3, w4, w2, fun h => ?_, fun m hm => ?_⟩
    · rw [← w6 h]
      unfold ud
      exact dp_ext _ (fun x hx => ⟨e16 _ (by omega), e17 _ (by omega)⟩)
    · rw [tX_o (by omega) (by omega) (by omega), e16 _ (by omega), e17 _ (by omega)]
      exact w7 m hm
/-- a text that fails leaves what was told -/
theorem tR_lx {tx : Nat → Int} {N M : ti_M} (h : tR tx M) (hI : mI Tm M) (x : lx N M) (g : gU N M) : tR tx N := by
  obtain ⟨⟨a0, a1, a2, a3, a4, a5, a6, a7⟩, b, c, d⟩ := h
  have r3 : ∀ i : Nat, i < 11 → tY N 60 3 i = tY M 60 3 i := fun i hi => (x.2.1 i).1 hi
  refine ⟨?_, fun k hk => by rw [r3 _ (by omega)]; exact b k hk, fun m hm hl => ?_, fun j hj => ?_⟩
  · rw [r3 0 (by decide), r3 1 (by decide), r3 2 (by decide), r3 3 (by decide), r3 4 (by decide), r3 5 (by decide), r3 6 (by decide), r3 7 (by decide)]
    exact ⟨a0, a1, a2, a3, a4, a5, a6, a7⟩
  · rw [g 5 m (by decide) (by decide) hm, g 6 m (by decide) (by decide) hm, g 7 m (by decide) (by decide) hm, g 8 m (by decide) (by decide) hm, g 9 m (by decide) (by decide) hm, g 10 m (by decide) (by decide) hm, g 11 m (by decide) (by decide) hm, g 12 m (by decide) (by decide) hm, g 13 m (by decide) (by decide) hm]
    exact c m hm hl
  · have b15 : ib 0 64 (tY M 60 15 j) := hI.2.1 15 j
    have b2 := b15.2
    obtain ⟨a, w3, w4, w2, w6, w7⟩ := d j hj
    rw [(x.2.2.1 j hj).1, (x.2.2.1 j hj).2]
    have e : ∀ m : Nat, (m : Int) < tx (300 + j) → tY N 60 16 (a + m) = tY M 60 16 (a + m) ∧ tY N 60 17 (a + m) = tY M 60 17 (a + m) := fun m hm => x.2.2.2.1 (a + m) (by omega)
    refine ⟨a, w3, w4, w2, fun h => ?_, fun m hm => ?_⟩
    · rw [← w6 h]
      exact dp_ext _ (fun y hy => e y (by omega))
    · rw [(e m hm).1, (e m hm).2]; exact w7 m hm
theorem tW_hv {B : Nat → Int} {n : Nat} {s td : Nat → Int} {G : ti_M} (h : qL td G) (hr : rQ B n s G) (hz : s 4 = 0) (hI : mI Tm G) : tW (tX s td) := by
  have q0 := hr.2.2.2 hz
  obtain ⟨⟨-, ⟨k6, k7, k8, k9, k10, k11⟩, k32, k4⟩, -⟩ := h (hr.2.1.symm.trans hz)
  have s7 : s 7 = (tY G 60 3 11).toInt := q0.2.2.1.1
  have b : ib 0 8 (tY G 60 3 11) := hI.2.1 3 11
  have b1 := b.1
  have b2 := b.2
  have o : ∀ k : Nat, 6 ≤ k → k < 100 → tX s td k = td k := fun k h1 h2 => tX_o (by omega) (by omega) (by omega)
  unfold tW
  rw [tX_4, o 6 (by decide) (by decide), o 7 (by decide) (by decide), o 8 (by decide) (by decide), o 9 (by decide) (by decide), o 10 (by decide) (by decide), o 11 (by decide) (by decide)]
  refine ⟨by omega, k6, k7, k8, k9, k10, k11, fun m hm hl => ?_, fun k hk => by rw [o _ (by omega) (by omega)]; exact k32 k hk, fun m hm hl => ?_⟩
  · rw [tX_o (by omega) (by omega) (by omega)]; exact (k4 m (by omega) hm).1
  · rw [tX_9 hm]
    have g := (q0.2.2.2.1 m hm hl).2
    have u := (k4 m (by omega) hm).2
    omega
end
section
variable {Tc : gC} {Tm : gM}
theorem tR_4 {tx : Nat → Int} {M : ti_M} (h : tR tx M) (hI : mI Tm M) : 0 ≤ tx 4 ∧ tx 4 ≤ 8 := by
  have b : ib 0 8 (tY M 60 3 0) := hI.2.1 3 0
  rw [h.1.1]; exact b
set_option maxHeartbeats 4000000 in
set_option maxRecDepth 100000 in
theorem z_X10_begins (l : Launch) (D : va_G) (A : Nat → Nat → Nat) (cy : Nat → ClassId) (hJ : ti_inj ti_LM A) (M : ti_M) (hI : mI Tm M) (tx J : Nat → Int) (htr : tR tx M) (ht4 : 0 ≤ tx 4 ∧ tx 4 ≤ 8) : ti_Kv l yX10_begins cX10_begins 1 1 ti_LM D A cy M [.ref (A 60 0)] (fun M2 => eR 0 M2 M ∧ qR (tx 4).toNat 0 (bq_s0 tx J) M2 ∧ qV (tx 4).toNat 0 (bq_s0 tx J) M2 ∧ mI Tm M2 ∧ rq 0 M2 M ∧ mC M2 0 ∧ mP M2 0) := by
  refine ti_eV yp_X10_begins hJ ti_LM_nd (Nat.le_of_ble_eq_true rfl) ?_
  intro p e s m args below meth c Q H0 C hQ hw ls hl
  have hx := C.1
  have hb := C.2.1
  have hl : lv_has ls 1 [(0, .ref (A 60 0))] := hl
  refine lv_aload_n hx hb dX10_begins_0 rfl (lv_at hl 0 rfl) ?_
  refine lv_iconst (v := 0) hx hb dX10_begins_1 (by decide) ?_
  refine ti_callVv (ci := 10) (av := [.int 0]) C hw (z_X10_starts_0 l D A cy hJ M hI tx J htr ht4) ⟨ml_X10_353, ym_X10_starts, yv_X10_starts, yi_X10_starts, yc_X10_starts⟩ yd_X10_starts ob_60 (by decide) rfl rfl hl.1 (Nat.le_of_ble_eq_true rfl) ⟨by decide, by decide⟩ ⟨Nat.zero_le _, Nat.zero_le _⟩ dX10_begins_2 (fun M_2 H locs hp_2 hw => ?_)
  obtain ⟨q_3, q_4, q_5, iM_2, q_6, q_7, q_8⟩ := hp_2
  exact hQ _ _ _ _ _ hw (⟨q_3, q_4, q_5, iM_2, q_6, q_7, q_8⟩) dX10_begins_5
set_option maxHeartbeats 4000000 in
set_option maxRecDepth 100000 in
theorem z_X10_text (l : Launch) (D : va_G) (A : Nat → Nat → Nat) (cy : Nat → ClassId) (hJ : ti_inj ti_LM A) (M : ti_M) (hI : mI Tm M) (hF : mF Tm M) (nn : Int32) (B J : Nat → Int) (hB0 : nn.toInt ≤ (tI M 60 2).toInt → ∀ i : Nat, i < nn.toInt.toNat → (tY M 60 1 i).toInt = B i) (K0 J2 : Nat → Int) : ti_KiE l yX10_text cX10_text 3 (some .int) 652 ti_LM D A cy M [.ref (A 60 0), .int nn] (fun r M2 => ((nn.toInt < 0 ∨ (tI M 60 2).toInt < nn.toInt) ∧ r.toInt = -2 ∧ mF Tm M2 ∧ tI M2 60 2 = tI M 60 2 ∧ ∃ z : Int32, M2 = uI M 60 0 z) ∨ (¬ (nn.toInt < 0 ∨ (tI M 60 2).toInt < nn.toInt) ∧ tI M2 60 2 = 0 ∧ mF (mG M2) M2 ∧ r.toInt = pp_an (pp_tx B nn.toInt.toNat J) ∧ (tI M2 60 27).toInt = (pp_tx B nn.toInt.toNat J) 4 ∧ (tI M2 60 28).toInt = (pp_tx B nn.toInt.toNat J) 5 ∧ ((pp_tx B nn.toInt.toNat J) 4 ≠ 0 → lx M2 M ∧ gU M2 M) ∧ ((pp_tx B nn.toInt.toNat J) 4 = 0 → tdR M2 (pp_tx B nn.toInt.toNat J) ∧ tW (tX (pp_tx B nn.toInt.toNat J) (qq_tx B nn.toInt.toNat J K0)) ∧ tR (tX (pp_tx B nn.toInt.toNat J) (qq_tx B nn.toInt.toNat J K0)) M2 ∧ qR ((tX (pp_tx B nn.toInt.toNat J) (qq_tx B nn.toInt.toNat J K0)) 4).toNat 0 (bq_s0 (tX (pp_tx B nn.toInt.toNat J) (qq_tx B nn.toInt.toNat J K0)) J2) M2 ∧ qV ((tX (pp_tx B nn.toInt.toNat J) (qq_tx B nn.toInt.toNat J K0)) 4).toNat 0 (bq_s0 (tX (pp_tx B nn.toInt.toNat J) (qq_tx B nn.toInt.toNat J K0)) J2) M2 ∧ tI M2 60 51 = 0 ∧ tI M2 60 52 = 0 ∧ tI M2 60 53 = tI M 60 53 ∧ tI M2 60 58 = 0 ∧ tI M2 60 59 = -1))) := by
  refine ti_eIE yp_X10_text hJ ti_LM_nd (Nat.le_of_ble_eq_true rfl) ?_
  intro p e s m args below meth c Q H0 C hE hQ hw ls hl
  have hx := C.1
  have hb := C.2.1
  have hl : lv_has ls 3 [(0, .ref (A 60 0)), (1, .int nn)] := hl
  refine lv_aload_n hx hb dX10_text_0 rfl (lv_at hl 0 rfl) ?_
  refine lv_iconst (v := 0) hx hb dX10_text_1 (by decide) ?_
  refine ti_putI (ci := 10) (k := 0) (N := 67) (T := TX10) C hw iw_10 tyX10 tyX10_ok nmX10 rfl ob_60 (by decide) (by decide) fl_X10_154 rfl rfl rfl rfl (fn_10 A _) fs_10_0 dX10_text_2 (fun H locs hw => ?_)
  obtain ⟨M_1, hM_1⟩ : ∃ z : ti_M, z = uI M 60 0 0 := ⟨_, rfl⟩
  have hw := hw.to hM_1.symm
  have iM_1 : mI Tm M_1 := mI_uI hI hM_1 (by decide) (by decide) trivial
  refine lv_iload_n hx hb dX10_text_5 rfl (lv_at hl 1 rfl) ?_
  have hj_17_5 : ∀  (H : Heap) (locs : List Loc) (ls : Array Slot), ((nn.toInt < 0 ∨ (tI M 60 2).toInt < nn.toInt)) → ti_H ti_LM D A cy H0 M_1 H locs → lv_has ls 3 [(0, .ref (A 60 0)), (1, .int nn)] → W p l e (ti_rm 652) s m args below meth c H locs 0 0 Q (F0 m 17 ls []) := by
    intro  H locs ls j_5 hw hl
    refine lv_bipush (v := (-2)) hx hb dX10_text_17 (by decide) ?_
    exact hQ _ _ _ _ _ _ hw rfl (Or.inl ⟨by omega, by decide, mF_qw hF iM_1 (qw_I hM_1 (by decide)), (tI_nE hM_1 (nk (by decide))), ⟨_, hM_1⟩⟩) dX10_text_19
  refine sb_if_lt (tgt := 17) hx hb rfl dX10_text_6 (by decide) (fun c_6_1 => ?_) (fun c_6_1 => ?_)
  · exact hj_17_5  _ _ _ (by first | omega | decide) hw (lv_sub hl [0, 1] rfl)
  · refine lv_iload_n hx hb dX10_text_9 rfl (lv_at hl 1 rfl) ?_
    refine lv_aload_n hx hb dX10_text_10 rfl (lv_at hl 0 rfl) ?_
    refine ti_get (ci := 10) (k := 2) (N := 67) (T := TX10) C hw iw_10 rfl ob_60 (by decide) (by decide) fl_X10_157 rfl rfl dX10_text_11 ?_
    refine lv_topi (fun x_3 ex_3 => ?_)
    have bx_3 : 0 ≤ x_3.toInt ∧ x_3.toInt ≤ 700 := mI_rd iM_1 ex_3
    have ux_3 : (tI M_1 60 2).toInt = x_3.toInt := by rw [ex_3]
    have w2 : (tI M_1 60 2).toInt = (tI M 60 2).toInt := by rw [(tI_nE hM_1 (nk (by decide)))]
    refine sb_icmp_le (tgt := 20) hx hb rfl rfl dX10_text_14 (by decide) (fun c_14_3 => ?_) (fun c_14_3 => ?_)
    · refine lv_aload_n hx hb dX10_text_20 rfl (lv_at hl 0 rfl) ?_
      refine lv_iload_n hx hb dX10_text_21 rfl (lv_at hl 1 rfl) ?_
      refine ti_putI (ci := 10) (k := 20) (N := 67) (T := TX10) C hw iw_10 tyX10 tyX10_ok nmX10 rfl ob_60 (by decide) (by decide) fl_X10_163 rfl rfl rfl rfl (fn_10 A _) fs_10_20 dX10_text_22 (fun H locs hw => ?_)
      obtain ⟨M_6, hM_6⟩ : ∃ z : ti_M, z = uI M_1 60 20 nn := ⟨_, rfl⟩
      have hw := hw.to hM_6.symm
      have iM_6 : mI Tm M_6 := mI_uI iM_1 hM_6 (by decide) (by decide) (ib_mk (lo := 0) (hi := 700) (by omega) (by omega))
      have vM_6 : (tI M_6 60 20).toInt = (nn : Int32).toInt := by rw [tI_uE hM_6]
      refine lv_aload_n hx hb dX10_text_25 rfl (lv_at hl 0 rfl) ?_
      refine lv_iconst (v := 0) hx hb dX10_text_26 (by decide) ?_
      refine ti_putI (ci := 10) (k := 2) (N := 67) (T := TX10) C hw iw_10 tyX10 tyX10_ok nmX10 rfl ob_60 (by decide) (by decide) fl_X10_157 rfl rfl rfl rfl (fn_10 A _) fs_10_2 dX10_text_27 (fun H locs hw => ?_)
      obtain ⟨M_7, hM_7⟩ : ∃ z : ti_M, z = uI M_6 60 2 0 := ⟨_, rfl⟩
      have hw := hw.to hM_7.symm
      have iM_7 : mI Tm M_7 := mI_uI iM_6 hM_7 (by decide) (by decide) (ib_mk (lo := 0) (hi := 700) (by decide) (by decide))
      have vM_7 : (tI M_7 60 2).toInt = 0 := by rw [tI_uE hM_7]; decide
      refine lv_aload_n hx hb dX10_text_30 rfl (lv_at hl 0 rfl) ?_
      refine lv_iconst (v := 0) hx hb dX10_text_31 (by decide) ?_
      refine ti_putI (ci := 10) (k := 21) (N := 67) (T := TX10) C hw iw_10 tyX10 tyX10_ok nmX10 rfl ob_60 (by decide) (by decide) fl_X10_160 rfl rfl rfl rfl (fn_10 A _) fs_10_21 dX10_text_32 (fun H locs hw => ?_)
      obtain ⟨M_8, hM_8⟩ : ∃ z : ti_M, z = uI M_7 60 21 0 := ⟨_, rfl⟩
      have hw := hw.to hM_8.symm
      have iM_8 : mI Tm M_8 := mI_uI iM_7 hM_8 (by decide) (by decide) (ib_mk (lo := 0) (hi := 700) (by decide) (by decide))
      have vM_8 : (tI M_8 60 21).toInt = 0 := by rw [tI_uE hM_8]; decide
      refine lv_aload_n hx hb dX10_text_35 rfl (lv_at hl 0 rfl) ?_
      refine lv_iconst (v := 0) hx hb dX10_text_36 (by decide) ?_
      refine ti_putI (ci := 10) (k := 25) (N := 67) (T := TX10) C hw iw_10 tyX10 tyX10_ok nmX10 rfl ob_60 (by decide) (by decide) fl_X10_208 rfl rfl rfl rfl (fn_10 A _) fs_10_25 dX10_text_37 (fun H locs hw => ?_)
      obtain ⟨M_9, hM_9⟩ : ∃ z : ti_M, z = uI M_8 60 25 0 := ⟨_, rfl⟩
      have hw := hw.to hM_9.symm
      have iM_9 : mI Tm M_9 := mI_uI iM_8 hM_9 (by decide) (by decide) trivial
      refine lv_aload_n hx hb dX10_text_40 rfl (lv_at hl 0 rfl) ?_
      refine lv_iconst (v := (-1)) hx hb dX10_text_41 (by decide) ?_
      refine ti_putI (ci := 10) (k := 26) (N := 67) (T := TX10) C hw iw_10 tyX10 tyX10_ok nmX10 rfl ob_60 (by decide) (by decide) fl_X10_211 rfl rfl rfl rfl (fn_10 A _) fs_10_26 dX10_text_42 (fun H locs hw => ?_)
      obtain ⟨M_10, hM_10⟩ : ∃ z : ti_M, z = uI M_9 60 26 (-1) := ⟨_, rfl⟩
      have hw := hw.to hM_10.symm
      have iM_10 : mI Tm M_10 := mI_uI iM_9 hM_10 (by decide) (by decide) trivial
      refine lv_iconst (v := 0) hx hb dX10_text_45 (by decide) ?_
      refine lv_istore_n (lv' := [(2, .int 0), (0, .ref (A 60 0)), (1, .int nn)]) hx hb dX10_text_46 rfl hl (by decide) rfl (fun ls hl => ?_)
      refine lv_iload_n hx hb dX10_text_47 rfl (lv_at hl 0 rfl) ?_
      refine lv_bipush (v := 11) hx hb dX10_text_48 (by decide) ?_
      refine sb_icmp_ge (tgt := 120) hx hb (by decide : (0 : Int32).toInt = 0) (by decide : (11 : Int32).toInt = 11) dX10_text_50 (by decide) (fun h => absurd h (by decide)) (fun c_50_10 => ?_)
      refine lv_aload_n hx hb dX10_text_53 rfl (lv_at hl 1 rfl) ?_
      refine lv_iload_n hx hb dX10_text_54 rfl (lv_at hl 0 rfl) ?_
      refine lv_iload_n hx hb dX10_text_55 rfl (lv_at hl 0 rfl) ?_
      refine lv_iconst (v := 1) hx hb dX10_text_56 (by decide) ?_
      refine sb_icmp_ne (tgt := 66) hx hb (by decide : (0 : Int32).toInt = 0) (by decide : (1 : Int32).toInt = 1) dX10_text_57 (by decide) (fun c_57_11 => ?_) (fun h => absurd h (by decide))
      refine lv_iload_n hx hb dX10_text_66 rfl (lv_at hl 0 rfl) ?_
      refine lv_iconst (v := 2) hx hb dX10_text_67 (by decide) ?_
      refine sb_icmp_eq (tgt := 77) hx hb (by decide : (0 : Int32).toInt = 0) (by decide : (2 : Int32).toInt = 2) dX10_text_68 (by decide) (fun h => absurd h (by decide)) (fun c_68_12 => ?_)
      refine lv_iload_n hx hb dX10_text_71 rfl (lv_at hl 0 rfl) ?_
      refine lv_bipush (v := 10) hx hb dX10_text_72 (by decide) ?_
      refine sb_icmp_ne (tgt := 81) hx hb (by decide : (0 : Int32).toInt = 0) (by decide : (10 : Int32).toInt = 10) dX10_text_74 (by decide) (fun c_74_13 => ?_) (fun h => absurd h (by decide))
      refine lv_iload_n hx hb dX10_text_81 rfl (lv_at hl 0 rfl) ?_
      refine lv_iconst (v := 3) hx hb dX10_text_82 (by decide) ?_
      refine sb_icmp_ne (tgt := 91) hx hb (by decide : (0 : Int32).toInt = 0) (by decide : (3 : Int32).toInt = 3) dX10_text_83 (by decide) (fun c_83_14 => ?_) (fun h => absurd h (by decide))
      refine lv_iload_n hx hb dX10_text_91 rfl (lv_at hl 0 rfl) ?_
      refine lv_iconst (v := 4) hx hb dX10_text_92 (by decide) ?_
      refine sb_icmp_ne (tgt := 100) hx hb (by decide : (0 : Int32).toInt = 0) (by decide : (4 : Int32).toInt = 4) dX10_text_93 (by decide) (fun c_93_15 => ?_) (fun h => absurd h (by decide))
      refine lv_iload_n hx hb dX10_text_100 rfl (lv_at hl 0 rfl) ?_
      refine lv_bipush (v := 9) hx hb dX10_text_101 (by decide) ?_
      refine sb_icmp_ne (tgt := 110) hx hb (by decide : (0 : Int32).toInt = 0) (by decide : (9 : Int32).toInt = 9) dX10_text_103 (by decide) (fun c_103_16 => ?_) (fun h => absurd h (by decide))
      refine lv_iconst (v := 0) hx hb dX10_text_110 (by decide) ?_
      refine ti_callVv (ci := 10) (av := [.int 0, .int 0]) C hw (s_X10_reads l D A cy hJ M_10 iM_10 0 0 (by decide) (by decide) (by rw [show (11 + (0 : Int32).toInt).toNat = 11 by decide]; exact (ib_mk (lo := 0) (hi := 8) (by decide) (by decide)))) ⟨ml_X10_244, ym_X10_reads, yv_X10_reads, yi_X10_reads, yc_X10_reads⟩ yd_X10_reads ob_60 (by decide) rfl rfl hl.1 (Nat.le_of_ble_eq_true rfl) ⟨by decide, by decide⟩ ⟨Nat.zero_le _, Nat.zero_le _⟩ dX10_text_111 (fun M_19 H locs hp_19 hw => ?_)
      obtain ⟨iM_19, hM_19⟩ := hp_19
      rw [show (11 + (0 : Int32).toInt).toNat = 11 by decide] at hM_19
      refine lv_iinc (v := 1) (lv' := [(2, .int 1), (0, .ref (A 60 0)), (1, .int nn)]) hx hb dX10_text_114 hl (k := 0) rfl (by decide) (by decide) rfl (fun ls hl => ?_)
      refine lv_goto (tgt := 47) hx hb dX10_text_117 (by decide) ?_
      refine lv_iload_n hx hb dX10_text_47 rfl (lv_at hl 0 rfl) ?_
      refine lv_bipush (v := 11) hx hb dX10_text_48 (by decide) ?_
      refine sb_icmp_ge (tgt := 120) hx hb (by decide : (1 : Int32).toInt = 1) (by decide : (11 : Int32).toInt = 11) dX10_text_50 (by decide) (fun h => absurd h (by decide)) (fun c_50_19 => ?_)
      refine lv_aload_n hx hb dX10_text_53 rfl (lv_at hl 1 rfl) ?_
      refine lv_iload_n hx hb dX10_text_54 rfl (lv_at hl 0 rfl) ?_
      refine lv_iload_n hx hb dX10_text_55 rfl (lv_at hl 0 rfl) ?_
      refine lv_iconst (v := 1) hx hb dX10_text_56 (by decide) ?_
      refine sb_icmp_ne (tgt := 66) hx hb (by decide : (1 : Int32).toInt = 1) (by decide : (1 : Int32).toInt = 1) dX10_text_57 (by decide) (fun h => absurd h (by decide)) (fun c_57_20 => ?_)
      refine lv_sipush (v := 200) hx hb dX10_text_60 (by decide) ?_
      refine lv_goto (tgt := 111) hx hb dX10_text_63 (by decide) ?_
      refine ti_callVv (ci := 10) (av := [.int 1, .int 200]) C hw (s_X10_reads l D A cy hJ M_19 iM_19 1 200 (by decide) (by decide) (by rw [show (11 + (1 : Int32).toInt).toNat = 12 by decide]; exact trivial)) ⟨ml_X10_244, ym_X10_reads, yv_X10_reads, yi_X10_reads, yc_X10_reads⟩ yd_X10_reads ob_60 (by decide) rfl rfl hl.1 (Nat.le_of_ble_eq_true rfl) ⟨by decide, by decide⟩ ⟨Nat.zero_le _, Nat.zero_le _⟩ dX10_text_111 (fun M_23 H locs hp_23 hw => ?_)
      obtain ⟨iM_23, hM_23⟩ := hp_23
      rw [show (11 + (1 : Int32).toInt).toNat = 12 by decide] at hM_23
      refine lv_iinc (v := 2) (lv' := [(2, .int 2), (0, .ref (A 60 0)), (1, .int nn)]) hx hb dX10_text_114 hl (k := 0) rfl (by decide) (by decide) rfl (fun ls hl => ?_)
      refine lv_goto (tgt := 47) hx hb dX10_text_117 (by decide) ?_
      refine lv_iload_n hx hb dX10_text_47 rfl (lv_at hl 0 rfl) ?_
      refine lv_bipush (v := 11) hx hb dX10_text_48 (by decide) ?_
      refine sb_icmp_ge (tgt := 120) hx hb (by decide : (2 : Int32).toInt = 2) (by decide : (11 : Int32).toInt = 11) dX10_text_50 (by decide) (fun h => absurd h (by decide)) (fun c_50_23 => ?_)
      refine lv_aload_n hx hb dX10_text_53 rfl (lv_at hl 1 rfl) ?_
      refine lv_iload_n hx hb dX10_text_54 rfl (lv_at hl 0 rfl) ?_
      refine lv_iload_n hx hb dX10_text_55 rfl (lv_at hl 0 rfl) ?_
      refine lv_iconst (v := 1) hx hb dX10_text_56 (by decide) ?_
      refine sb_icmp_ne (tgt := 66) hx hb (by decide : (2 : Int32).toInt = 2) (by decide : (1 : Int32).toInt = 1) dX10_text_57 (by decide) (fun c_57_24 => ?_) (fun h => absurd h (by decide))
      refine lv_iload_n hx hb dX10_text_66 rfl (lv_at hl 0 rfl) ?_
      refine lv_iconst (v := 2) hx hb dX10_text_67 (by decide) ?_
      refine sb_icmp_eq (tgt := 77) hx hb (by decide : (2 : Int32).toInt = 2) (by decide : (2 : Int32).toInt = 2) dX10_text_68 (by decide) (fun c_68_25 => ?_) (fun h => absurd h (by decide))
      refine lv_iconst (v := 2) hx hb dX10_text_77 (by decide) ?_
      refine lv_goto (tgt := 111) hx hb dX10_text_78 (by decide) ?_
      refine ti_callVv (ci := 10) (av := [.int 2, .int 2]) C hw (s_X10_reads l D A cy hJ M_23 iM_23 2 2 (by decide) (by decide) (by rw [show (11 + (2 : Int32).toInt).toNat = 13 by decide]; exact trivial)) ⟨ml_X10_244, ym_X10_reads, yv_X10_reads, yi_X10_reads, yc_X10_reads⟩ yd_X10_reads ob_60 (by decide) rfl rfl hl.1 (Nat.le_of_ble_eq_true rfl) ⟨by decide, by decide⟩ ⟨Nat.zero_le _, Nat.zero_le _⟩ dX10_text_111 (fun M_28 H locs hp_28 hw => ?_)
      obtain ⟨iM_28, hM_28⟩ := hp_28
      rw [show (11 + (2 : Int32).toInt).toNat = 13 by decide] at hM_28
      refine lv_iinc (v := 3) (lv' := [(2, .int 3), (0, .ref (A 60 0)), (1, .int nn)]) hx hb dX10_text_114 hl (k := 0) rfl (by decide) (by decide) rfl (fun ls hl => ?_)
      refine lv_goto (tgt := 47) hx hb dX10_text_117 (by decide) ?_
      refine lv_iload_n hx hb dX10_text_47 rfl (lv_at hl 0 rfl) ?_
      refine lv_bipush (v := 11) hx hb dX10_text_48 (by decide) ?_
      refine sb_icmp_ge (tgt := 120) hx hb (by decide : (3 : Int32).toInt = 3) (by decide : (11 : Int32).toInt = 11) dX10_text_50 (by decide) (fun h => absurd h (by decide)) (fun c_50_28 => ?_)
      refine lv_aload_n hx hb dX10_text_53 rfl (lv_at hl 1 rfl) ?_
      refine lv_iload_n hx hb dX10_text_54 rfl (lv_at hl 0 rfl) ?_
      refine lv_iload_n hx hb dX10_text_55 rfl (lv_at hl 0 rfl) ?_
      refine lv_iconst (v := 1) hx hb dX10_text_56 (by decide) ?_
      refine sb_icmp_ne (tgt := 66) hx hb (by decide : (3 : Int32).toInt = 3) (by decide : (1 : Int32).toInt = 1) dX10_text_57 (by decide) (fun c_57_29 => ?_) (fun h => absurd h (by decide))
      refine lv_iload_n hx hb dX10_text_66 rfl (lv_at hl 0 rfl) ?_
      refine lv_iconst (v := 2) hx hb dX10_text_67 (by decide) ?_
      refine sb_icmp_eq (tgt := 77) hx hb (by decide : (3 : Int32).toInt = 3) (by decide : (2 : Int32).toInt = 2) dX10_text_68 (by decide) (fun h => absurd h (by decide)) (fun c_68_30 => ?_)
      refine lv_iload_n hx hb dX10_text_71 rfl (lv_at hl 0 rfl) ?_
      refine lv_bipush (v := 10) hx hb dX10_text_72 (by decide) ?_
      refine sb_icmp_ne (tgt := 81) hx hb (by decide : (3 : Int32).toInt = 3) (by decide : (10 : Int32).toInt = 10) dX10_text_74 (by decide) (fun c_74_31 => ?_) (fun h => absurd h (by decide))
      refine lv_iload_n hx hb dX10_text_81 rfl (lv_at hl 0 rfl) ?_
      refine lv_iconst (v := 3) hx hb dX10_text_82 (by decide) ?_
      refine sb_icmp_ne (tgt := 91) hx hb (by decide : (3 : Int32).toInt = 3) (by decide : (3 : Int32).toInt = 3) dX10_text_83 (by decide) (fun h => absurd h (by decide)) (fun c_83_32 => ?_)
      refine lv_bipush (v := 10) hx hb dX10_text_86 (by decide) ?_
      refine lv_goto (tgt := 111) hx hb dX10_text_88 (by decide) ?_
      refine ti_callVv (ci := 10) (av := [.int 3, .int 10]) C hw (s_X10_reads l D A cy hJ M_28 iM_28 3 10 (by decide) (by decide) (by rw [show (11 + (3 : Int32).toInt).toNat = 14 by decide]; exact (ib_mk (lo := 1) (hi := 30) (by decide) (by decide)))) ⟨ml_X10_244, ym_X10_reads, yv_X10_reads, yi_X10_reads, yc_X10_reads⟩ yd_X10_reads ob_60 (by decide) rfl rfl hl.1 (Nat.le_of_ble_eq_true rfl) ⟨by decide, by decide⟩ ⟨Nat.zero_le _, Nat.zero_le _⟩ dX10_text_111 (fun M_35 H locs hp_35 hw => ?_)
      obtain ⟨iM_35, hM_35⟩ := hp_35
      rw [show (11 + (3 : Int32).toInt).toNat = 14 by decide] at hM_35
      refine lv_iinc (v := 4) (lv' := [(2, .int 4), (0, .ref (A 60 0)), (1, .int nn)]) hx hb dX10_text_114 hl (k := 0) rfl (by decide) (by decide) rfl (fun ls hl => ?_)
      refine lv_goto (tgt := 47) hx hb dX10_text_117 (by decide) ?_
      refine lv_iload_n hx hb dX10_text_47 rfl (lv_at hl 0 rfl) ?_
      refine lv_bipush (v := 11) hx hb dX10_text_48 (by decide) ?_
      refine sb_icmp_ge (tgt := 120) hx hb (by decide : (4 : Int32).toInt = 4) (by decide : (11 : Int32).toInt = 11) dX10_text_50 (by decide) (fun h => absurd h (by decide)) (fun c_50_35 => ?_)
      refine lv_aload_n hx hb dX10_text_53 rfl (lv_at hl 1 rfl) ?_
      refine lv_iload_n hx hb dX10_text_54 rfl (lv_at hl 0 rfl) ?_
      refine lv_iload_n hx hb dX10_text_55 rfl (lv_at hl 0 rfl) ?_
      refine lv_iconst (v := 1) hx hb dX10_text_56 (by decide) ?_
      refine sb_icmp_ne (tgt := 66) hx hb (by decide : (4 : Int32).toInt = 4) (by decide : (1 : Int32).toInt = 1) dX10_text_57 (by decide) (fun c_57_36 => ?_) (fun h => absurd h (by decide))
      refine lv_iload_n hx hb dX10_text_66 rfl (lv_at hl 0 rfl) ?_
      refine lv_iconst (v := 2) hx hb dX10_text_67 (by decide) ?_
      refine sb_icmp_eq (tgt := 77) hx hb (by decide : (4 : Int32).toInt = 4) (by decide : (2 : Int32).toInt = 2) dX10_text_68 (by decide) (fun h => absurd h (by decide)) (fun c_68_37 => ?_)
      refine lv_iload_n hx hb dX10_text_71 rfl (lv_at hl 0 rfl) ?_
      refine lv_bipush (v := 10) hx hb dX10_text_72 (by decide) ?_
      refine sb_icmp_ne (tgt := 81) hx hb (by decide : (4 : Int32).toInt = 4) (by decide : (10 : Int32).toInt = 10) dX10_text_74 (by decide) (fun c_74_38 => ?_) (fun h => absurd h (by decide))
      refine lv_iload_n hx hb dX10_text_81 rfl (lv_at hl 0 rfl) ?_
      refine lv_iconst (v := 3) hx hb dX10_text_82 (by decide) ?_
      refine sb_icmp_ne (tgt := 91) hx hb (by decide : (4 : Int32).toInt = 4) (by decide : (3 : Int32).toInt = 3) dX10_text_83 (by decide) (fun c_83_39 => ?_) (fun h => absurd h (by decide))
      refine lv_iload_n hx hb dX10_text_91 rfl (lv_at hl 0 rfl) ?_
      refine lv_iconst (v := 4) hx hb dX10_text_92 (by decide) ?_
      refine sb_icmp_ne (tgt := 100) hx hb (by decide : (4 : Int32).toInt = 4) (by decide : (4 : Int32).toInt = 4) dX10_text_93 (by decide) (fun h => absurd h (by decide)) (fun c_93_40 => ?_)
      refine lv_iconst (v := 3) hx hb dX10_text_96 (by decide) ?_
      refine lv_goto (tgt := 111) hx hb dX10_text_97 (by decide) ?_
      refine ti_callVv (ci := 10) (av := [.int 4, .int 3]) C hw (s_X10_reads l D A cy hJ M_35 iM_35 4 3 (by decide) (by decide) (by rw [show (11 + (4 : Int32).toInt).toNat = 15 by decide]; exact trivial)) ⟨ml_X10_244, ym_X10_reads, yv_X10_reads, yi_X10_reads, yc_X10_reads⟩ yd_X10_reads ob_60 (by decide) rfl rfl hl.1 (Nat.le_of_ble_eq_true rfl) ⟨by decide, by decide⟩ ⟨Nat.zero_le _, Nat.zero_le _⟩ dX10_text_111 (fun M_43 H locs hp_43 hw => ?_)
      obtain ⟨iM_43, hM_43⟩ := hp_43
      rw [show (11 + (4 : Int32).toInt).toNat = 15 by decide] at hM_43
      refine lv_iinc (v := 5) (lv' := [(2, .int 5), (0, .ref (A 60 0)), (1, .int nn)]) hx hb dX10_text_114 hl (k := 0) rfl (by decide) (by decide) rfl (fun ls hl => ?_)
      refine lv_goto (tgt := 47) hx hb dX10_text_117 (by decide) ?_
      refine lv_iload_n hx hb dX10_text_47 rfl (lv_at hl 0 rfl) ?_
      refine lv_bipush (v := 11) hx hb dX10_text_48 (by decide) ?_
      refine sb_icmp_ge (tgt := 120) hx hb (by decide : (5 : Int32).toInt = 5) (by decide : (11 : Int32).toInt = 11) dX10_text_50 (by decide) (fun h => absurd h (by decide)) (fun c_50_43 => ?_)
      refine lv_aload_n hx hb dX10_text_53 rfl (lv_at hl 1 rfl) ?_
      refine lv_iload_n hx hb dX10_text_54 rfl (lv_at hl 0 rfl) ?_
      refine lv_iload_n hx hb dX10_text_55 rfl (lv_at hl 0 rfl) ?_
      refine lv_iconst (v := 1) hx hb dX10_text_56 (by decide) ?_
      refine sb_icmp_ne (tgt := 66) hx hb (by decide : (5 : Int32).toInt = 5) (by decide : (1 : Int32).toInt = 1) dX10_text_57 (by decide) (fun c_57_44 => ?_) (fun h => absurd h (by decide))
      refine lv_iload_n hx hb dX10_text_66 rfl (lv_at hl 0 rfl) ?_
      refine lv_iconst (v := 2) hx hb dX10_text_67 (by decide) ?_
      refine sb_icmp_eq (tgt := 77) hx hb (by decide : (5 : Int32).toInt = 5) (by decide : (2 : Int32).toInt = 2) dX10_text_68 (by decide) (fun h => absurd h (by decide)) (fun c_68_45 => ?_)
      refine lv_iload_n hx hb dX10_text_71 rfl (lv_at hl 0 rfl) ?_
      refine lv_bipush (v := 10) hx hb dX10_text_72 (by decide) ?_
      refine sb_icmp_ne (tgt := 81) hx hb (by decide : (5 : Int32).toInt = 5) (by decide : (10 : Int32).toInt = 10) dX10_text_74 (by decide) (fun c_74_46 => ?_) (fun h => absurd h (by decide))
      refine lv_iload_n hx hb dX10_text_81 rfl (lv_at hl 0 rfl) ?_
      refine lv_iconst (v := 3) hx hb dX10_text_82 (by decide) ?_
      refine sb_icmp_ne (tgt := 91) hx hb (by decide : (5 : Int32).toInt = 5) (by decide : (3 : Int32).toInt = 3) dX10_text_83 (by decide) (fun c_83_47 => ?_) (fun h => absurd h (by decide))
      refine lv_iload_n hx hb dX10_text_91 rfl (lv_at hl 0 rfl) ?_
      refine lv_iconst (v := 4) hx hb dX10_text_92 (by decide) ?_
      refine sb_icmp_ne (tgt := 100) hx hb (by decide : (5 : Int32).toInt = 5) (by decide : (4 : Int32).toInt = 4) dX10_text_93 (by decide) (fun c_93_48 => ?_) (fun h => absurd h (by decide))
      refine lv_iload_n hx hb dX10_text_100 rfl (lv_at hl 0 rfl) ?_
      refine lv_bipush (v := 9) hx hb dX10_text_101 (by decide) ?_
      refine sb_icmp_ne (tgt := 110) hx hb (by decide : (5 : Int32).toInt = 5) (by decide : (9 : Int32).toInt = 9) dX10_text_103 (by decide) (fun c_103_49 => ?_) (fun h => absurd h (by decide))
      refine lv_iconst (v := 0) hx hb dX10_text_110 (by decide) ?_
      refine ti_callVv (ci := 10) (av := [.int 5, .int 0]) C hw (s_X10_reads l D A cy hJ M_43 iM_43 5 0 (by decide) (by decide) (by rw [show (11 + (5 : Int32).toInt).toNat = 16 by decide]; exact trivial)) ⟨ml_X10_244, ym_X10_reads, yv_X10_reads, yi_X10_reads, yc_X10_reads⟩ yd_X10_reads ob_60 (by decide) rfl rfl hl.1 (Nat.le_of_ble_eq_true rfl) ⟨by decide, by decide⟩ ⟨Nat.zero_le _, Nat.zero_le _⟩ dX10_text_111 (fun M_52 H locs hp_52 hw => ?_)
      obtain ⟨iM_52, hM_52⟩ := hp_52
      rw [show (11 + (5 : Int32).toInt).toNat = 16 by decide] at hM_52
      refine lv_iinc (v := 6) (lv' := [(2, .int 6), (0, .ref (A 60 0)), (1, .int nn)]) hx hb dX10_text_114 hl (k := 0) rfl (by decide) (by decide) rfl (fun ls hl => ?_)
      refine lv_goto (tgt := 47) hx hb dX10_text_117 (by decide) ?_
      refine lv_iload_n hx hb dX10_text_47 rfl (lv_at hl 0 rfl) ?_
      refine lv_bipush (v := 11) hx hb dX10_text_48 (by decide) ?_
      refine sb_icmp_ge (tgt := 120) hx hb (by decide : (6 : Int32).toInt = 6) (by decide : (11 : Int32).toInt = 11) dX10_text_50 (by decide) (fun h => absurd h (by decide)) (fun c_50_52 => ?_)
      refine lv_aload_n hx hb dX10_text_53 rfl (lv_at hl 1 rfl) ?_
      refine lv_iload_n hx hb dX10_text_54 rfl (lv_at hl 0 rfl) ?_
      refine lv_iload_n hx hb dX10_text_55 rfl (lv_at hl 0 rfl) ?_
      refine lv_iconst (v := 1) hx hb dX10_text_56 (by decide) ?_
      refine sb_icmp_ne (tgt := 66) hx hb (by decide : (6 : Int32).toInt = 6) (by decide : (1 : Int32).toInt = 1) dX10_text_57 (by decide) (fun c_57_53 => ?_) (fun h => absurd h (by decide))
      refine lv_iload_n hx hb dX10_text_66 rfl (lv_at hl 0 rfl) ?_
      refine lv_iconst (v := 2) hx hb dX10_text_67 (by decide) ?_
      refine sb_icmp_eq (tgt := 77) hx hb (by decide : (6 : Int32).toInt = 6) (by decide : (2 : Int32).toInt = 2) dX10_text_68 (by decide) (fun h => absurd h (by decide)) (fun c_68_54 => ?_)
      refine lv_iload_n hx hb dX10_text_71 rfl (lv_at hl 0 rfl) ?_
      refine lv_bipush (v := 10) hx hb dX10_text_72 (by decide) ?_
      refine sb_icmp_ne (tgt := 81) hx hb (by decide : (6 : Int32).toInt = 6) (by decide : (10 : Int32).toInt = 10) dX10_text_74 (by decide) (fun c_74_55 => ?_) (fun h => absurd h (by decide))
      refine lv_iload_n hx hb dX10_text_81 rfl (lv_at hl 0 rfl) ?_
      refine lv_iconst (v := 3) hx hb dX10_text_82 (by decide) ?_
      refine sb_icmp_ne (tgt := 91) hx hb (by decide : (6 : Int32).toInt = 6) (by decide : (3 : Int32).toInt = 3) dX10_text_83 (by decide) (fun c_83_56 => ?_) (fun h => absurd h (by decide))
      refine lv_iload_n hx hb dX10_text_91 rfl (lv_at hl 0 rfl) ?_
      refine lv_iconst (v := 4) hx hb dX10_text_92 (by decide) ?_
      refine sb_icmp_ne (tgt := 100) hx hb (by decide : (6 : Int32).toInt = 6) (by decide : (4 : Int32).toInt = 4) dX10_text_93 (by decide) (fun c_93_57 => ?_) (fun h => absurd h (by decide))
      refine lv_iload_n hx hb dX10_text_100 rfl (lv_at hl 0 rfl) ?_
      refine lv_bipush (v := 9) hx hb dX10_text_101 (by decide) ?_
      refine sb_icmp_ne (tgt := 110) hx hb (by decide : (6 : Int32).toInt = 6) (by decide : (9 : Int32).toInt = 9) dX10_text_103 (by decide) (fun c_103_58 => ?_) (fun h => absurd h (by decide))
      refine lv_iconst (v := 0) hx hb dX10_text_110 (by decide) ?_
      refine ti_callVv (ci := 10) (av := [.int 6, .int 0]) C hw (s_X10_reads l D A cy hJ M_52 iM_52 6 0 (by decide) (by decide) (by rw [show (11 + (6 : Int32).toInt).toNat = 17 by decide]; exact trivial)) ⟨ml_X10_244, ym_X10_reads, yv_X10_reads, yi_X10_reads, yc_X10_reads⟩ yd_X10_reads ob_60 (by decide) rfl rfl hl.1 (Nat.le_of_ble_eq_true rfl) ⟨by decide, by decide⟩ ⟨Nat.zero_le _, Nat.zero_le _⟩ dX10_text_111 (fun M_61 H locs hp_61 hw => ?_)
      obtain ⟨iM_61, hM_61⟩ := hp_61
      rw [show (11 + (6 : Int32).toInt).toNat = 17 by decide] at hM_61
      refine lv_iinc (v := 7) (lv' := [(2, .int 7), (0, .ref (A 60 0)), (1, .int nn)]) hx hb dX10_text_114 hl (k := 0) rfl (by decide) (by decide) rfl (fun ls hl => ?_)
      refine lv_goto (tgt := 47) hx hb dX10_text_117 (by decide) ?_
      refine lv_iload_n hx hb dX10_text_47 rfl (lv_at hl 0 rfl) ?_
      refine lv_bipush (v := 11) hx hb dX10_text_48 (by decide) ?_
      refine sb_icmp_ge (tgt := 120) hx hb (by decide : (7 : Int32).toInt = 7) (by decide : (11 : Int32).toInt = 11) dX10_text_50 (by decide) (fun h => absurd h (by decide)) (fun c_50_61 => ?_)
      refine lv_aload_n hx hb dX10_text_53 rfl (lv_at hl 1 rfl) ?_
      refine lv_iload_n hx hb dX10_text_54 rfl (lv_at hl 0 rfl) ?_
      refine lv_iload_n hx hb dX10_text_55 rfl (lv_at hl 0 rfl) ?_
      refine lv_iconst (v := 1) hx hb dX10_text_56 (by decide) ?_
      refine sb_icmp_ne (tgt := 66) hx hb (by decide : (7 : Int32).toInt = 7) (by decide : (1 : Int32).toInt = 1) dX10_text_57 (by decide) (fun c_57_62 => ?_) (fun h => absurd h (by decide))
      refine lv_iload_n hx hb dX10_text_66 rfl (lv_at hl 0 rfl) ?_
      refine lv_iconst (v := 2) hx hb dX10_text_67 (by decide) ?_
      refine sb_icmp_eq (tgt := 77) hx hb (by decide : (7 : Int32).toInt = 7) (by decide : (2 : Int32).toInt = 2) dX10_text_68 (by decide) (fun h => absurd h (by decide)) (fun c_68_63 => ?_)
      refine lv_iload_n hx hb dX10_text_71 rfl (lv_at hl 0 rfl) ?_
      refine lv_bipush (v := 10) hx hb dX10_text_72 (by decide) ?_
      refine sb_icmp_ne (tgt := 81) hx hb (by decide : (7 : Int32).toInt = 7) (by decide : (10 : Int32).toInt = 10) dX10_text_74 (by decide) (fun c_74_64 => ?_) (fun h => absurd h (by decide))
      refine lv_iload_n hx hb dX10_text_81 rfl (lv_at hl 0 rfl) ?_
      refine lv_iconst (v := 3) hx hb dX10_text_82 (by decide) ?_
      refine sb_icmp_ne (tgt := 91) hx hb (by decide : (7 : Int32).toInt = 7) (by decide : (3 : Int32).toInt = 3) dX10_text_83 (by decide) (fun c_83_65 => ?_) (fun h => absurd h (by decide))
      refine lv_iload_n hx hb dX10_text_91 rfl (lv_at hl 0 rfl) ?_
      refine lv_iconst (v := 4) hx hb dX10_text_92 (by decide) ?_
      refine sb_icmp_ne (tgt := 100) hx hb (by decide : (7 : Int32).toInt = 7) (by decide : (4 : Int32).toInt = 4) dX10_text_93 (by decide) (fun c_93_66 => ?_) (fun h => absurd h (by decide))
      refine lv_iload_n hx hb dX10_text_100 rfl (lv_at hl 0 rfl) ?_
      refine lv_bipush (v := 9) hx hb dX10_text_101 (by decide) ?_
      refine sb_icmp_ne (tgt := 110) hx hb (by decide : (7 : Int32).toInt = 7) (by decide : (9 : Int32).toInt = 9) dX10_text_103 (by decide) (fun c_103_67 => ?_) (fun h => absurd h (by decide))
      refine lv_iconst (v := 0) hx hb dX10_text_110 (by decide) ?_
      refine ti_callVv (ci := 10) (av := [.int 7, .int 0]) C hw (s_X10_reads l D A cy hJ M_61 iM_61 7 0 (by decide) (by decide) (by rw [show (11 + (7 : Int32).toInt).toNat = 18 by decide]; exact (ib_mk (lo := 0) (hi := 64) (by decide) (by decide)))) ⟨ml_X10_244, ym_X10_reads, yv_X10_reads, yi_X10_reads, yc_X10_reads⟩ yd_X10_reads ob_60 (by decide) rfl rfl hl.1 (Nat.le_of_ble_eq_true rfl) ⟨by decide, by decide⟩ ⟨Nat.zero_le _, Nat.zero_le _⟩ dX10_text_111 (fun M_70 H locs hp_70 hw => ?_)
      obtain ⟨iM_70, hM_70⟩ := hp_70
      rw [show (11 + (7 : Int32).toInt).toNat = 18 by decide] at hM_70
      refine lv_iinc (v := 8) (lv' := [(2, .int 8), (0, .ref (A 60 0)), (1, .int nn)]) hx hb dX10_text_114 hl (k := 0) rfl (by decide) (by decide) rfl (fun ls hl => ?_)
      refine lv_goto (tgt := 47) hx hb dX10_text_117 (by decide) ?_
      refine lv_iload_n hx hb dX10_text_47 rfl (lv_at hl 0 rfl) ?_
      refine lv_bipush (v := 11) hx hb dX10_text_48 (by decide) ?_
      refine sb_icmp_ge (tgt := 120) hx hb (by decide : (8 : Int32).toInt = 8) (by decide : (11 : Int32).toInt = 11) dX10_text_50 (by decide) (fun h => absurd h (by decide)) (fun c_50_70 => ?_)
      refine lv_aload_n hx hb dX10_text_53 rfl (lv_at hl 1 rfl) ?_
      refine lv_iload_n hx hb dX10_text_54 rfl (lv_at hl 0 rfl) ?_
      refine lv_iload_n hx hb dX10_text_55 rfl (lv_at hl 0 rfl) ?_
      refine lv_iconst (v := 1) hx hb dX10_text_56 (by decide) ?_
      refine sb_icmp_ne (tgt := 66) hx hb (by decide : (8 : Int32).toInt = 8) (by decide : (1 : Int32).toInt = 1) dX10_text_57 (by decide) (fun c_57_71 => ?_) (fun h => absurd h (by decide))
      refine lv_iload_n hx hb dX10_text_66 rfl (lv_at hl 0 rfl) ?_
      refine lv_iconst (v := 2) hx hb dX10_text_67 (by decide) ?_
      refine sb_icmp_eq (tgt := 77) hx hb (by decide : (8 : Int32).toInt = 8) (by decide : (2 : Int32).toInt = 2) dX10_text_68 (by decide) (fun h => absurd h (by decide)) (fun c_68_72 => ?_)
      refine lv_iload_n hx hb dX10_text_71 rfl (lv_at hl 0 rfl) ?_
      refine lv_bipush (v := 10) hx hb dX10_text_72 (by decide) ?_
      refine sb_icmp_ne (tgt := 81) hx hb (by decide : (8 : Int32).toInt = 8) (by decide : (10 : Int32).toInt = 10) dX10_text_74 (by decide) (fun c_74_73 => ?_) (fun h => absurd h (by decide))
      refine lv_iload_n hx hb dX10_text_81 rfl (lv_at hl 0 rfl) ?_
      refine lv_iconst (v := 3) hx hb dX10_text_82 (by decide) ?_
      refine sb_icmp_ne (tgt := 91) hx hb (by decide : (8 : Int32).toInt = 8) (by decide : (3 : Int32).toInt = 3) dX10_text_83 (by decide) (fun c_83_74 => ?_) (fun h => absurd h (by decide))
      refine lv_iload_n hx hb dX10_text_91 rfl (lv_at hl 0 rfl) ?_
      refine lv_iconst (v := 4) hx hb dX10_text_92 (by decide) ?_
      refine sb_icmp_ne (tgt := 100) hx hb (by decide : (8 : Int32).toInt = 8) (by decide : (4 : Int32).toInt = 4) dX10_text_93 (by decide) (fun c_93_75 => ?_) (fun h => absurd h (by decide))
      refine lv_iload_n hx hb dX10_text_100 rfl (lv_at hl 0 rfl) ?_
      refine lv_bipush (v := 9) hx hb dX10_text_101 (by decide) ?_
      refine sb_icmp_ne (tgt := 110) hx hb (by decide : (8 : Int32).toInt = 8) (by decide : (9 : Int32).toInt = 9) dX10_text_103 (by decide) (fun c_103_76 => ?_) (fun h => absurd h (by decide))
      refine lv_iconst (v := 0) hx hb dX10_text_110 (by decide) ?_
      refine ti_callVv (ci := 10) (av := [.int 8, .int 0]) C hw (s_X10_reads l D A cy hJ M_70 iM_70 8 0 (by decide) (by decide) (by rw [show (11 + (8 : Int32).toInt).toNat = 19 by decide]; exact (ib_mk (lo := 0) (hi := 7) (by decide) (by decide)))) ⟨ml_X10_244, ym_X10_reads, yv_X10_reads, yi_X10_reads, yc_X10_reads⟩ yd_X10_reads ob_60 (by decide) rfl rfl hl.1 (Nat.le_of_ble_eq_true rfl) ⟨by decide, by decide⟩ ⟨Nat.zero_le _, Nat.zero_le _⟩ dX10_text_111 (fun M_79 H locs hp_79 hw => ?_)
      obtain ⟨iM_79, hM_79⟩ := hp_79
      rw [show (11 + (8 : Int32).toInt).toNat = 19 by decide] at hM_79
      refine lv_iinc (v := 9) (lv' := [(2, .int 9), (0, .ref (A 60 0)), (1, .int nn)]) hx hb dX10_text_114 hl (k := 0) rfl (by decide) (by decide) rfl (fun ls hl => ?_)
      refine lv_goto (tgt := 47) hx hb dX10_text_117 (by decide) ?_
      refine lv_iload_n hx hb dX10_text_47 rfl (lv_at hl 0 rfl) ?_
      refine lv_bipush (v := 11) hx hb dX10_text_48 (by decide) ?_
      refine sb_icmp_ge (tgt := 120) hx hb (by decide : (9 : Int32).toInt = 9) (by decide : (11 : Int32).toInt = 11) dX10_text_50 (by decide) (fun h => absurd h (by decide)) (fun c_50_79 => ?_)
      refine lv_aload_n hx hb dX10_text_53 rfl (lv_at hl 1 rfl) ?_
      refine lv_iload_n hx hb dX10_text_54 rfl (lv_at hl 0 rfl) ?_
      refine lv_iload_n hx hb dX10_text_55 rfl (lv_at hl 0 rfl) ?_
      refine lv_iconst (v := 1) hx hb dX10_text_56 (by decide) ?_
      refine sb_icmp_ne (tgt := 66) hx hb (by decide : (9 : Int32).toInt = 9) (by decide : (1 : Int32).toInt = 1) dX10_text_57 (by decide) (fun c_57_80 => ?_) (fun h => absurd h (by decide))
      refine lv_iload_n hx hb dX10_text_66 rfl (lv_at hl 0 rfl) ?_
      refine lv_iconst (v := 2) hx hb dX10_text_67 (by decide) ?_
      refine sb_icmp_eq (tgt := 77) hx hb (by decide : (9 : Int32).toInt = 9) (by decide : (2 : Int32).toInt = 2) dX10_text_68 (by decide) (fun h => absurd h (by decide)) (fun c_68_81 => ?_)
      refine lv_iload_n hx hb dX10_text_71 rfl (lv_at hl 0 rfl) ?_
      refine lv_bipush (v := 10) hx hb dX10_text_72 (by decide) ?_
      refine sb_icmp_ne (tgt := 81) hx hb (by decide : (9 : Int32).toInt = 9) (by decide : (10 : Int32).toInt = 10) dX10_text_74 (by decide) (fun c_74_82 => ?_) (fun h => absurd h (by decide))
      refine lv_iload_n hx hb dX10_text_81 rfl (lv_at hl 0 rfl) ?_
      refine lv_iconst (v := 3) hx hb dX10_text_82 (by decide) ?_
      refine sb_icmp_ne (tgt := 91) hx hb (by decide : (9 : Int32).toInt = 9) (by decide : (3 : Int32).toInt = 3) dX10_text_83 (by decide) (fun c_83_83 => ?_) (fun h => absurd h (by decide))
      refine lv_iload_n hx hb dX10_text_91 rfl (lv_at hl 0 rfl) ?_
      refine lv_iconst (v := 4) hx hb dX10_text_92 (by decide) ?_
      refine sb_icmp_ne (tgt := 100) hx hb (by decide : (9 : Int32).toInt = 9) (by decide : (4 : Int32).toInt = 4) dX10_text_93 (by decide) (fun c_93_84 => ?_) (fun h => absurd h (by decide))
      refine lv_iload_n hx hb dX10_text_100 rfl (lv_at hl 0 rfl) ?_
      refine lv_bipush (v := 9) hx hb dX10_text_101 (by decide) ?_
      refine sb_icmp_ne (tgt := 110) hx hb (by decide : (9 : Int32).toInt = 9) (by decide : (9 : Int32).toInt = 9) dX10_text_103 (by decide) (fun h => absurd h (by decide)) (fun c_103_85 => ?_)
      refine lv_iconst (v := 1) hx hb dX10_text_106 (by decide) ?_
      refine lv_goto (tgt := 111) hx hb dX10_text_107 (by decide) ?_
      refine ti_callVv (ci := 10) (av := [.int 9, .int 1]) C hw (s_X10_reads l D A cy hJ M_79 iM_79 9 1 (by decide) (by decide) (by rw [show (11 + (9 : Int32).toInt).toNat = 20 by decide]; exact (ib_mk (lo := 0) (hi := 7) (by decide) (by decide)))) ⟨ml_X10_244, ym_X10_reads, yv_X10_reads, yi_X10_reads, yc_X10_reads⟩ yd_X10_reads ob_60 (by decide) rfl rfl hl.1 (Nat.le_of_ble_eq_true rfl) ⟨by decide, by decide⟩ ⟨Nat.zero_le _, Nat.zero_le _⟩ dX10_text_111 (fun M_88 H locs hp_88 hw => ?_)
      obtain ⟨iM_88, hM_88⟩ := hp_88
      rw [show (11 + (9 : Int32).toInt).toNat = 20 by decide] at hM_88
      refine lv_iinc (v := 10) (lv' := [(2, .int 10), (0, .ref (A 60 0)), (1, .int nn)]) hx hb dX10_text_114 hl (k := 0) rfl (by decide) (by decide) rfl (fun ls hl => ?_)
      refine lv_goto (tgt := 47) hx hb dX10_text_117 (by decide) ?_
      refine lv_iload_n hx hb dX10_text_47 rfl (lv_at hl 0 rfl) ?_
      refine lv_bipush (v := 11) hx hb dX10_text_48 (by decide) ?_
      refine sb_icmp_ge (tgt := 120) hx hb (by decide : (10 : Int32).toInt = 10) (by decide : (11 : Int32).toInt = 11) dX10_text_50 (by decide) (fun h => absurd h (by decide)) (fun c_50_88 => ?_)
      refine lv_aload_n hx hb dX10_text_53 rfl (lv_at hl 1 rfl) ?_
      refine lv_iload_n hx hb dX10_text_54 rfl (lv_at hl 0 rfl) ?_
      refine lv_iload_n hx hb dX10_text_55 rfl (lv_at hl 0 rfl) ?_
      refine lv_iconst (v := 1) hx hb dX10_text_56 (by decide) ?_
      refine sb_icmp_ne (tgt := 66) hx hb (by decide : (10 : Int32).toInt = 10) (by decide : (1 : Int32).toInt = 1) dX10_text_57 (by decide) (fun c_57_89 => ?_) (fun h => absurd h (by decide))
      refine lv_iload_n hx hb dX10_text_66 rfl (lv_at hl 0 rfl) ?_
      refine lv_iconst (v := 2) hx hb dX10_text_67 (by decide) ?_
      refine sb_icmp_eq (tgt := 77) hx hb (by decide : (10 : Int32).toInt = 10) (by decide : (2 : Int32).toInt = 2) dX10_text_68 (by decide) (fun h => absurd h (by decide)) (fun c_68_90 => ?_)
      refine lv_iload_n hx hb dX10_text_71 rfl (lv_at hl 0 rfl) ?_
      refine lv_bipush (v := 10) hx hb dX10_text_72 (by decide) ?_
      refine sb_icmp_ne (tgt := 81) hx hb (by decide : (10 : Int32).toInt = 10) (by decide : (10 : Int32).toInt = 10) dX10_text_74 (by decide) (fun h => absurd h (by decide)) (fun c_74_91 => ?_)
      refine lv_iconst (v := 2) hx hb dX10_text_77 (by decide) ?_
      refine lv_goto (tgt := 111) hx hb dX10_text_78 (by decide) ?_
      refine ti_callVv (ci := 10) (av := [.int 10, .int 2]) C hw (s_X10_reads l D A cy hJ M_88 iM_88 10 2 (by decide) (by decide) (by rw [show (11 + (10 : Int32).toInt).toNat = 21 by decide]; exact (ib_mk (lo := 0) (hi := 7) (by decide) (by decide)))) ⟨ml_X10_244, ym_X10_reads, yv_X10_reads, yi_X10_reads, yc_X10_reads⟩ yd_X10_reads ob_60 (by decide) rfl rfl hl.1 (Nat.le_of_ble_eq_true rfl) ⟨by decide, by decide⟩ ⟨Nat.zero_le _, Nat.zero_le _⟩ dX10_text_111 (fun M_94 H locs hp_94 hw => ?_)
      obtain ⟨iM_94, hM_94⟩ := hp_94
      rw [show (11 + (10 : Int32).toInt).toNat = 21 by decide] at hM_94
      refine lv_iinc (v := 11) (lv' := [(2, .int 11), (0, .ref (A 60 0)), (1, .int nn)]) hx hb dX10_text_114 hl (k := 0) rfl (by decide) (by decide) rfl (fun ls hl => ?_)
      refine lv_goto (tgt := 47) hx hb dX10_text_117 (by decide) ?_
      refine lv_iload_n hx hb dX10_text_47 rfl (lv_at hl 0 rfl) ?_
      refine lv_bipush (v := 11) hx hb dX10_text_48 (by decide) ?_
      refine sb_icmp_ge (tgt := 120) hx hb (by decide : (11 : Int32).toInt = 11) (by decide : (11 : Int32).toInt = 11) dX10_text_50 (by decide) (fun c_50_94 => ?_) (fun h => absurd h (by decide))
      refine lv_iconst (v := 3) hx hb dX10_text_120 (by decide) ?_
      refine lv_istore_n (lv' := [(2, .int 3), (0, .ref (A 60 0)), (1, .int nn)]) hx hb dX10_text_121 rfl hl (by decide) rfl (fun ls hl => ?_)
      refine lv_iload_n hx hb dX10_text_122 rfl (lv_at hl 0 rfl) ?_
      refine lv_bipush (v := 6) hx hb dX10_text_123 (by decide) ?_
      refine sb_icmp_ge (tgt := 148) hx hb (by decide : (3 : Int32).toInt = 3) (by decide : (6 : Int32).toInt = 6) dX10_text_125 (by decide) (fun h => absurd h (by decide)) (fun c_125_95 => ?_)
      refine lv_aload_n hx hb dX10_text_128 rfl (lv_at hl 1 rfl) ?_
      refine ti_get (ci := 10) (k := 14) (N := 67) (T := TX10) (v := .ref (A 60 15)) C hw iw_10 rfl ob_60 (by decide) (by decide) fl_X10_46 rfl rfl dX10_text_129 ?_
      refine lv_iload_n hx hb dX10_text_132 rfl (lv_at hl 0 rfl) ?_
      refine lv_iconst (v := 0) hx hb dX10_text_133 (by decide) ?_
      refine ti_iast (ci := 10) (k := 14) (n := 6) C hw ob_60 (by decide) (fun _ _ => rfl) (by unfold vp_in; decide) dX10_text_134 (fun H locs hw => ?_)
      obtain ⟨M_97, hM_97⟩ : ∃ z : ti_M, z = uY M_94 60 14 (upd (tY M_94 60 14) (3 : Int32).toNatClampNeg 0) := ⟨_, rfl⟩
      have hw := hw.to hM_97.symm
      have iM_97 : mI Tm M_97 := mI_up (i := 3) iM_94 hM_97 (ib_mk (lo := 0) (hi := 64) (by decide) (by decide))
      refine lv_aload_n hx hb dX10_text_135 rfl (lv_at hl 1 rfl) ?_
      refine ti_get (ci := 10) (k := 15) (N := 67) (T := TX10) (v := .ref (A 60 16)) C hw iw_10 rfl ob_60 (by decide) (by decide) fl_X10_49 rfl rfl dX10_text_136 ?_
      refine lv_iload_n hx hb dX10_text_139 rfl (lv_at hl 0 rfl) ?_
      refine lv_iconst (v := 0) hx hb dX10_text_140 (by decide) ?_
      refine ti_iast (ci := 10) (k := 15) (n := 6) C hw ob_60 (by decide) (fun _ _ => rfl) (by unfold vp_in; decide) dX10_text_141 (fun H locs hw => ?_)
      obtain ⟨M_98, hM_98⟩ : ∃ z : ti_M, z = uY M_97 60 15 (upd (tY M_97 60 15) (3 : Int32).toNatClampNeg 0) := ⟨_, rfl⟩
      have hw := hw.to hM_98.symm
      have iM_98 : mI Tm M_98 := mI_up (i := 3) iM_97 hM_98 (ib_mk (lo := 0) (hi := 64) (by decide) (by decide))
      refine lv_iinc (v := 4) (lv' := [(2, .int 4), (0, .ref (A 60 0)), (1, .int nn)]) hx hb dX10_text_142 hl (k := 0) rfl (by decide) (by decide) rfl (fun ls hl => ?_)
      refine lv_goto (tgt := 122) hx hb dX10_text_145 (by decide) ?_
      refine lv_iload_n hx hb dX10_text_122 rfl (lv_at hl 0 rfl) ?_
      refine lv_bipush (v := 6) hx hb dX10_text_123 (by decide) ?_
      refine sb_icmp_ge (tgt := 148) hx hb (by decide : (4 : Int32).toInt = 4) (by decide : (6 : Int32).toInt = 6) dX10_text_125 (by decide) (fun h => absurd h (by decide)) (fun c_125_98 => ?_)
      refine lv_aload_n hx hb dX10_text_128 rfl (lv_at hl 1 rfl) ?_
      refine ti_get (ci := 10) (k := 14) (N := 67) (T := TX10) (v := .ref (A 60 15)) C hw iw_10 rfl ob_60 (by decide) (by decide) fl_X10_46 rfl rfl dX10_text_129 ?_
      refine lv_iload_n hx hb dX10_text_132 rfl (lv_at hl 0 rfl) ?_
      refine lv_iconst (v := 0) hx hb dX10_text_133 (by decide) ?_
      refine ti_iast (ci := 10) (k := 14) (n := 6) C hw ob_60 (by decide) (fun _ _ => rfl) (by unfold vp_in; decide) dX10_text_134 (fun H locs hw => ?_)
      obtain ⟨M_100, hM_100⟩ : ∃ z : ti_M, z = uY M_98 60 14 (upd (tY M_98 60 14) (4 : Int32).toNatClampNeg 0) := ⟨_, rfl⟩
      have hw := hw.to hM_100.symm
      have iM_100 : mI Tm M_100 := mI_up (i := 4) iM_98 hM_100 (ib_mk (lo := 0) (hi := 64) (by decide) (by decide))
      refine lv_aload_n hx hb dX10_text_135 rfl (lv_at hl 1 rfl) ?_
      refine ti_get (ci := 10) (k := 15) (N := 67) (T := TX10) (v := .ref (A 60 16)) C hw iw_10 rfl ob_60 (by decide) (by decide) fl_X10_49 rfl rfl dX10_text_136 ?_
      refine lv_iload_n hx hb dX10_text_139 rfl (lv_at hl 0 rfl) ?_
      refine lv_iconst (v := 0) hx hb dX10_text_140 (by decide) ?_
      refine ti_iast (ci := 10) (k := 15) (n := 6) C hw ob_60 (by decide) (fun _ _ => rfl) (by unfold vp_in; decide) dX10_text_141 (fun H locs hw => ?_)
      obtain ⟨M_101, hM_101⟩ : ∃ z : ti_M, z = uY M_100 60 15 (upd (tY M_100 60 15) (4 : Int32).toNatClampNeg 0) := ⟨_, rfl⟩
      have hw := hw.to hM_101.symm
      have iM_101 : mI Tm M_101 := mI_up (i := 4) iM_100 hM_101 (ib_mk (lo := 0) (hi := 64) (by decide) (by decide))
      refine lv_iinc (v := 5) (lv' := [(2, .int 5), (0, .ref (A 60 0)), (1, .int nn)]) hx hb dX10_text_142 hl (k := 0) rfl (by decide) (by decide) rfl (fun ls hl => ?_)
      refine lv_goto (tgt := 122) hx hb dX10_text_145 (by decide) ?_
      refine lv_iload_n hx hb dX10_text_122 rfl (lv_at hl 0 rfl) ?_
      refine lv_bipush (v := 6) hx hb dX10_text_123 (by decide) ?_
      refine sb_icmp_ge (tgt := 148) hx hb (by decide : (5 : Int32).toInt = 5) (by decide : (6 : Int32).toInt = 6) dX10_text_125 (by decide) (fun h => absurd h (by decide)) (fun c_125_101 => ?_)
      refine lv_aload_n hx hb dX10_text_128 rfl (lv_at hl 1 rfl) ?_
      refine ti_get (ci := 10) (k := 14) (N := 67) (T := TX10) (v := .ref (A 60 15)) C hw iw_10 rfl ob_60 (by decide) (by decide) fl_X10_46 rfl rfl dX10_text_129 ?_
      refine lv_iload_n hx hb dX10_text_132 rfl (lv_at hl 0 rfl) ?_
      refine lv_iconst (v := 0) hx hb dX10_text_133 (by decide) ?_
      refine ti_iast (ci := 10) (k := 14) (n := 6) C hw ob_60 (by decide) (fun _ _ => rfl) (by unfold vp_in; decide) dX10_text_134 (fun H locs hw => ?_)
      obtain ⟨M_103, hM_103⟩ : ∃ z : ti_M, z = uY M_101 60 14 (upd (tY M_101 60 14) (5 : Int32).toNatClampNeg 0) := ⟨_, rfl⟩
      have hw := hw.to hM_103.symm
      have iM_103 : mI Tm M_103 := mI_up (i := 5) iM_101 hM_103 (ib_mk (lo := 0) (hi := 64) (by decide) (by decide))
      refine lv_aload_n hx hb dX10_text_135 rfl (lv_at hl 1 rfl) ?_
      refine ti_get (ci := 10) (k := 15) (N := 67) (T := TX10) (v := .ref (A 60 16)) C hw iw_10 rfl ob_60 (by decide) (by decide) fl_X10_49 rfl rfl dX10_text_136 ?_
      refine lv_iload_n hx hb dX10_text_139 rfl (lv_at hl 0 rfl) ?_
      refine lv_iconst (v := 0) hx hb dX10_text_140 (by decide) ?_
      refine ti_iast (ci := 10) (k := 15) (n := 6) C hw ob_60 (by decide) (fun _ _ => rfl) (by unfold vp_in; decide) dX10_text_141 (fun H locs hw => ?_)
      obtain ⟨M_104, hM_104⟩ : ∃ z : ti_M, z = uY M_103 60 15 (upd (tY M_103 60 15) (5 : Int32).toNatClampNeg 0) := ⟨_, rfl⟩
      have hw := hw.to hM_104.symm
      have iM_104 : mI Tm M_104 := mI_up (i := 5) iM_103 hM_104 (ib_mk (lo := 0) (hi := 64) (by decide) (by decide))
      refine lv_iinc (v := 6) (lv' := [(2, .int 6), (0, .ref (A 60 0)), (1, .int nn)]) hx hb dX10_text_142 hl (k := 0) rfl (by decide) (by decide) rfl (fun ls hl => ?_)
      refine lv_goto (tgt := 122) hx hb dX10_text_145 (by decide) ?_
      refine lv_iload_n hx hb dX10_text_122 rfl (lv_at hl 0 rfl) ?_
      refine lv_bipush (v := 6) hx hb dX10_text_123 (by decide) ?_
      refine sb_icmp_ge (tgt := 148) hx hb (by decide : (6 : Int32).toInt = 6) (by decide : (6 : Int32).toInt = 6) dX10_text_125 (by decide) (fun c_125_104 => ?_) (fun h => absurd h (by decide))
      refine lv_aload_n hx hb dX10_text_148 rfl (lv_at hl 1 rfl) ?_
      refine lv_iconst (v := 0) hx hb dX10_text_149 (by decide) ?_
      refine ti_putI (ci := 10) (k := 18) (N := 67) (T := TX10) C hw iw_10 tyX10 tyX10_ok nmX10 rfl ob_60 (by decide) (by decide) fl_X10_228 rfl rfl rfl rfl (fn_10 A _) fs_10_18 dX10_text_150 (fun H locs hw => ?_)
      obtain ⟨M_106, hM_106⟩ : ∃ z : ti_M, z = uI M_104 60 18 0 := ⟨_, rfl⟩
      have hw := hw.to hM_106.symm
      have iM_106 : mI Tm M_106 := mI_uI iM_104 hM_106 (by decide) (by decide) trivial
      refine lv_aload_n hx hb dX10_text_153 rfl (lv_at hl 1 rfl) ?_
      refine lv_iconst (v := 0) hx hb dX10_text_154 (by decide) ?_
      refine ti_putI (ci := 10) (k := 19) (N := 67) (T := TX10) C hw iw_10 tyX10 tyX10_ok nmX10 rfl ob_60 (by decide) (by decide) fl_X10_254 rfl rfl rfl rfl (fn_10 A _) fs_10_19 dX10_text_155 (fun H locs hw => ?_)
      obtain ⟨M_107, hM_107⟩ : ∃ z : ti_M, z = uI M_106 60 19 0 := ⟨_, rfl⟩
      have hw := hw.to hM_107.symm
      have iM_107 : mI Tm M_107 := mI_uI iM_106 hM_107 (by decide) (by decide) trivial
      refine lv_aload_n hx hb dX10_text_158 rfl (lv_at hl 1 rfl) ?_
      refine lv_iconst (v := 0) hx hb dX10_text_159 (by decide) ?_
      refine ti_putI (ci := 10) (k := 29) (N := 67) (T := TX10) C hw iw_10 tyX10 tyX10_ok nmX10 rfl ob_60 (by decide) (by decide) fl_X10_297 rfl rfl rfl rfl (fn_10 A _) fs_10_29 dX10_text_160 (fun H locs hw => ?_)
      obtain ⟨M_108, hM_108⟩ : ∃ z : ti_M, z = uI M_107 60 29 0 := ⟨_, rfl⟩
      have hw := hw.to hM_108.symm
      have iM_108 : mI Tm M_108 := mI_uI iM_107 hM_108 (by decide) (by decide) (ib_mk (lo := 0) (hi := 8) (by decide) (by decide))
      have vM_108 : (tI M_108 60 29).toInt = 0 := by rw [tI_uE hM_108]; decide
      refine lv_aload_n hx hb dX10_text_163 rfl (lv_at hl 1 rfl) ?_
      refine lv_iconst (v := 0) hx hb dX10_text_164 (by decide) ?_
      refine ti_putI (ci := 10) (k := 30) (N := 67) (T := TX10) C hw iw_10 tyX10 tyX10_ok nmX10 rfl ob_60 (by decide) (by decide) fl_X10_273 rfl rfl rfl rfl (fn_10 A _) fs_10_30 dX10_text_165 (fun H locs hw => ?_)
      obtain ⟨M_109, hM_109⟩ : ∃ z : ti_M, z = uI M_108 60 30 0 := ⟨_, rfl⟩
      have hw := hw.to hM_109.symm
      have iM_109 : mI Tm M_109 := mI_uI iM_108 hM_109 (by decide) (by decide) (ib_mk (lo := 0) (hi := 64) (by decide) (by decide))
      have vM_109 : (tI M_109 60 30).toInt = 0 := by rw [tI_uE hM_109]; decide
      have hB := hB0 (by omega)
      have f1 : ff M_109 = 1 := ff_1 (by rw [((tI_nE hM_109 (nk (by decide))).trans ((tI_nE hM_108 (nk (by decide))).trans ((tI_nE hM_107 (nk (by decide))).trans ((tI_nE hM_106 (nk (by decide))).trans ((tI_uYE hM_104).trans ((tI_uYE hM_103).trans ((tI_uYE hM_101).trans ((tI_uYE hM_100).trans ((tI_uYE hM_98).trans ((tI_uYE hM_97).trans ((tI_uYE hM_94).trans ((tI_uYE hM_88).trans ((tI_uYE hM_79).trans ((tI_uYE hM_70).trans ((tI_uYE hM_61).trans ((tI_uYE hM_52).trans ((tI_uYE hM_43).trans ((tI_uYE hM_35).trans ((tI_uYE hM_28).trans ((tI_uYE hM_23).trans ((tI_uYE hM_19).trans ((tI_nE hM_10 (nk (by decide))).trans (tI_uE hM_9)))))))))))))))))))))))]; decide)
      have f29 : (tI M_109 60 29).toInt = 0 := by rw [((tI_nE hM_109 (nk (by decide))).trans (tI_uE hM_108))]; decide
      have f30 : (tI M_109 60 30).toInt = 0 := by rw [(tI_uE hM_109)]; decide
      have f18 : (tY M_109 60 3 18).toInt = 0 := by rw [((cg (tY_uIE hM_109) 18).trans ((cg (tY_uIE hM_108) 18).trans ((cg (tY_uIE hM_107) 18).trans ((cg (tY_uIE hM_106) 18).trans ((cg (tY_nE hM_104 (nk (by decide))) 18).trans ((cg (tY_nE hM_103 (nk (by decide))) 18).trans ((cg (tY_nE hM_101 (nk (by decide))) 18).trans ((cg (tY_nE hM_100 (nk (by decide))) 18).trans ((cg (tY_nE hM_98 (nk (by decide))) 18).trans ((cg (tY_nE hM_97 (nk (by decide))) 18).trans (((cg (tY_uE hM_94) 18).trans (pk_un (by decide))).trans (((cg (tY_uE hM_88) 18).trans (pk_un (by decide))).trans (((cg (tY_uE hM_79) 18).trans (pk_un (by decide))).trans ((cg (tY_uE hM_70) 18).trans (upl (by decide))))))))))))))))]; decide
      have fu : um M_109 := um_0 iM_109 ((cg (tY_uIE hM_109) 3).trans ((cg (tY_uIE hM_108) 3).trans ((cg (tY_uIE hM_107) 3).trans ((cg (tY_uIE hM_106) 3).trans ((cg (tY_nE hM_104 (nk (by decide))) 3).trans (((cg (tY_uE hM_103) 3).trans (pk_un (by decide))).trans ((cg (tY_nE hM_101 (nk (by decide))) 3).trans (((cg (tY_uE hM_100) 3).trans (pk_un (by decide))).trans ((cg (tY_nE hM_98 (nk (by decide))) 3).trans ((cg (tY_uE hM_97) 3).trans (upl (by decide)))))))))))) ((cg (tY_uIE hM_109) 4).trans ((cg (tY_uIE hM_108) 4).trans ((cg (tY_uIE hM_107) 4).trans ((cg (tY_uIE hM_106) 4).trans ((cg (tY_nE hM_104 (nk (by decide))) 4).trans (((cg (tY_uE hM_103) 4).trans (pk_un (by decide))).trans ((cg (tY_nE hM_101 (nk (by decide))) 4).trans ((cg (tY_uE hM_100) 4).trans (upl (by decide)))))))))) ((cg (tY_uIE hM_109) 5).trans ((cg (tY_uIE hM_108) 5).trans ((cg (tY_uIE hM_107) 5).trans ((cg (tY_uIE hM_106) 5).trans ((cg (tY_nE hM_104 (nk (by decide))) 5).trans ((cg (tY_uE hM_103) 5).trans (upl (by decide)))))))) ((cg (tY_uIE hM_109) 3).trans ((cg (tY_uIE hM_108) 3).trans ((cg (tY_uIE hM_107) 3).trans ((cg (tY_uIE hM_106) 3).trans (((cg (tY_uE hM_104) 3).trans (pk_un (by decide))).trans ((cg (tY_nE hM_103 (nk (by decide))) 3).trans (((cg (tY_uE hM_101) 3).trans (pk_un (by decide))).trans ((cg (tY_nE hM_100 (nk (by decide))) 3).trans ((cg (tY_uE hM_98) 3).trans (upl (by decide))))))))))) ((cg (tY_uIE hM_109) 4).trans ((cg (tY_uIE hM_108) 4).trans ((cg (tY_uIE hM_107) 4).trans ((cg (tY_uIE hM_106) 4).trans (((cg (tY_uE hM_104) 4).trans (pk_un (by decide))).trans ((cg (tY_nE hM_103 (nk (by decide))) 4).trans ((cg (tY_uE hM_101) 4).trans (upl (by decide))))))))) ((cg (tY_uIE hM_109) 5).trans ((cg (tY_uIE hM_108) 5).trans ((cg (tY_uIE hM_107) 5).trans ((cg (tY_uIE hM_106) 5).trans ((cg (tY_uE hM_104) 5).trans (upl (by decide)))))))
      have tl0 : qL (qq_cl K0) M_109 := qL_0 ((cg (tY_uIE hM_109) 11).trans ((cg (tY_uIE hM_108) 11).trans ((cg (tY_uIE hM_107) 11).trans ((cg (tY_uIE hM_106) 11).trans ((cg (tY_nE hM_104 (nk (by decide))) 11).trans ((cg (tY_nE hM_103 (nk (by decide))) 11).trans ((cg (tY_nE hM_101 (nk (by decide))) 11).trans ((cg (tY_nE hM_100 (nk (by decide))) 11).trans ((cg (tY_nE hM_98 (nk (by decide))) 11).trans ((cg (tY_nE hM_97 (nk (by decide))) 11).trans (((cg (tY_uE hM_94) 11).trans (pk_un (by decide))).trans (((cg (tY_uE hM_88) 11).trans (pk_un (by decide))).trans (((cg (tY_uE hM_79) 11).trans (pk_un (by decide))).trans (((cg (tY_uE hM_70) 11).trans (pk_un (by decide))).trans (((cg (tY_uE hM_61) 11).trans (pk_un (by decide))).trans (((cg (tY_uE hM_52) 11).trans (pk_un (by decide))).trans (((cg (tY_uE hM_43) 11).trans (pk_un (by decide))).trans (((cg (tY_uE hM_35) 11).trans (pk_un (by decide))).trans (((cg (tY_uE hM_28) 11).trans (pk_un (by decide))).trans (((cg (tY_uE hM_23) 11).trans (pk_un (by decide))).trans ((cg (tY_uE hM_19) 11).trans (upl (by decide))))))))))))))))))))))) ((cg (tY_uIE hM_109) 12).trans ((cg (tY_uIE hM_108) 12).trans ((cg (tY_uIE hM_107) 12).trans ((cg (tY_uIE hM_106) 12).trans ((cg (tY_nE hM_104 (nk (by decide))) 12).trans ((cg (tY_nE hM_103 (nk (by decide))) 12).trans ((cg (tY_nE hM_101 (nk (by decide))) 12).trans ((cg (tY_nE hM_100 (nk (by decide))) 12).trans ((cg (tY_nE hM_98 (nk (by decide))) 12).trans ((cg (tY_nE hM_97 (nk (by decide))) 12).trans (((cg (tY_uE hM_94) 12).trans (pk_un (by decide))).trans (((cg (tY_uE hM_88) 12).trans (pk_un (by decide))).trans (((cg (tY_uE hM_79) 12).trans (pk_un (by decide))).trans (((cg (tY_uE hM_70) 12).trans (pk_un (by decide))).trans (((cg (tY_uE hM_61) 12).trans (pk_un (by decide))).trans (((cg (tY_uE hM_52) 12).trans (pk_un (by decide))).trans (((cg (tY_uE hM_43) 12).trans (pk_un (by decide))).trans (((cg (tY_uE hM_35) 12).trans (pk_un (by decide))).trans (((cg (tY_uE hM_28) 12).trans (pk_un (by decide))).trans ((cg (tY_uE hM_23) 12).trans (upl (by decide)))))))))))))))))))))) ((cg (tY_uIE hM_109) 13).trans ((cg (tY_uIE hM_108) 13).trans ((cg (tY_uIE hM_107) 13).trans ((cg (tY_uIE hM_106) 13).trans ((cg (tY_nE hM_104 (nk (by decide))) 13).trans ((cg (tY_nE hM_103 (nk (by decide))) 13).trans ((cg (tY_nE hM_101 (nk (by decide))) 13).trans ((cg (tY_nE hM_100 (nk (by decide))) 13).trans ((cg (tY_nE hM_98 (nk (by decide))) 13).trans ((cg (tY_nE hM_97 (nk (by decide))) 13).trans (((cg (tY_uE hM_94) 13).trans (pk_un (by decide))).trans (((cg (tY_uE hM_88) 13).trans (pk_un (by decide))).trans (((cg (tY_uE hM_79) 13).trans (pk_un (by decide))).trans (((cg (tY_uE hM_70) 13).trans (pk_un (by decide))).trans (((cg (tY_uE hM_61) 13).trans (pk_un (by decide))).trans (((cg (tY_uE hM_52) 13).trans (pk_un (by decide))).trans (((cg (tY_uE hM_43) 13).trans (pk_un (by decide))).trans (((cg (tY_uE hM_35) 13).trans (pk_un (by decide))).trans ((cg (tY_uE hM_28) 13).trans (upl (by decide))))))))))))))))))))) ((cg (tY_uIE hM_109) 14).trans ((cg (tY_uIE hM_108) 14).trans ((cg (tY_uIE hM_107) 14).trans ((cg (tY_uIE hM_106) 14).trans ((cg (tY_nE hM_104 (nk (by decide))) 14).trans ((cg (tY_nE hM_103 (nk (by decide))) 14).trans ((cg (tY_nE hM_101 (nk (by decide))) 14).trans ((cg (tY_nE hM_100 (nk (by decide))) 14).trans ((cg (tY_nE hM_98 (nk (by decide))) 14).trans ((cg (tY_nE hM_97 (nk (by decide))) 14).trans (((cg (tY_uE hM_94) 14).trans (pk_un (by decide))).trans (((cg (tY_uE hM_88) 14).trans (pk_un (by decide))).trans (((cg (tY_uE hM_79) 14).trans (pk_un (by decide))).trans (((cg (tY_uE hM_70) 14).trans (pk_un (by decide))).trans (((cg (tY_uE hM_61) 14).trans (pk_un (by decide))).trans (((cg (tY_uE hM_52) 14).trans (pk_un (by decide))).trans (((cg (tY_uE hM_43) 14).trans (pk_un (by decide))).trans ((cg (tY_uE hM_35) 14).trans (upl (by decide)))))))))))))))))))) ((cg (tY_uIE hM_109) 15).trans ((cg (tY_uIE hM_108) 15).trans ((cg (tY_uIE hM_107) 15).trans ((cg (tY_uIE hM_106) 15).trans ((cg (tY_nE hM_104 (nk (by decide))) 15).trans ((cg (tY_nE hM_103 (nk (by decide))) 15).trans ((cg (tY_nE hM_101 (nk (by decide))) 15).trans ((cg (tY_nE hM_100 (nk (by decide))) 15).trans ((cg (tY_nE hM_98 (nk (by decide))) 15).trans ((cg (tY_nE hM_97 (nk (by decide))) 15).trans (((cg (tY_uE hM_94) 15).trans (pk_un (by decide))).trans (((cg (tY_uE hM_88) 15).trans (pk_un (by decide))).trans (((cg (tY_uE hM_79) 15).trans (pk_un (by decide))).trans (((cg (tY_uE hM_70) 15).trans (pk_un (by decide))).trans (((cg (tY_uE hM_61) 15).trans (pk_un (by decide))).trans (((cg (tY_uE hM_52) 15).trans (pk_un (by decide))).trans ((cg (tY_uE hM_43) 15).trans (upl (by decide))))))))))))))))))) ((cg (tY_uIE hM_109) 16).trans ((cg (tY_uIE hM_108) 16).trans ((cg (tY_uIE hM_107) 16).trans ((cg (tY_uIE hM_106) 16).trans ((cg (tY_nE hM_104 (nk (by decide))) 16).trans ((cg (tY_nE hM_103 (nk (by decide))) 16).trans ((cg (tY_nE hM_101 (nk (by decide))) 16).trans ((cg (tY_nE hM_100 (nk (by decide))) 16).trans ((cg (tY_nE hM_98 (nk (by decide))) 16).trans ((cg (tY_nE hM_97 (nk (by decide))) 16).trans (((cg (tY_uE hM_94) 16).trans (pk_un (by decide))).trans (((cg (tY_uE hM_88) 16).trans (pk_un (by decide))).trans (((cg (tY_uE hM_79) 16).trans (pk_un (by decide))).trans (((cg (tY_uE hM_70) 16).trans (pk_un (by decide))).trans (((cg (tY_uE hM_61) 16).trans (pk_un (by decide))).trans ((cg (tY_uE hM_52) 16).trans (upl (by decide)))))))))))))))))) ((cg (tY_uIE hM_109) 17).trans ((cg (tY_uIE hM_108) 17).trans ((cg (tY_uIE hM_107) 17).trans ((cg (tY_uIE hM_106) 17).trans ((cg (tY_nE hM_104 (nk (by decide))) 17).trans ((cg (tY_nE hM_103 (nk (by decide))) 17).trans ((cg (tY_nE hM_101 (nk (by decide))) 17).trans ((cg (tY_nE hM_100 (nk (by decide))) 17).trans ((cg (tY_nE hM_98 (nk (by decide))) 17).trans ((cg (tY_nE hM_97 (nk (by decide))) 17).trans (((cg (tY_uE hM_94) 17).trans (pk_un (by decide))).trans (((cg (tY_uE hM_88) 17).trans (pk_un (by decide))).trans (((cg (tY_uE hM_79) 17).trans (pk_un (by decide))).trans (((cg (tY_uE hM_70) 17).trans (pk_un (by decide))).trans ((cg (tY_uE hM_61) 17).trans (upl (by decide))))))))))))))))) ((cg (tY_uIE hM_109) 18).trans ((cg (tY_uIE hM_108) 18).trans ((cg (tY_uIE hM_107) 18).trans ((cg (tY_uIE hM_106) 18).trans ((cg (tY_nE hM_104 (nk (by decide))) 18).trans ((cg (tY_nE hM_103 (nk (by decide))) 18).trans ((cg (tY_nE hM_101 (nk (by decide))) 18).trans ((cg (tY_nE hM_100 (nk (by decide))) 18).trans ((cg (tY_nE hM_98 (nk (by decide))) 18).trans ((cg (tY_nE hM_97 (nk (by decide))) 18).trans (((cg (tY_uE hM_94) 18).trans (pk_un (by decide))).trans (((cg (tY_uE hM_88) 18).trans (pk_un (by decide))).trans (((cg (tY_uE hM_79) 18).trans (pk_un (by decide))).trans ((cg (tY_uE hM_70) 18).trans (upl (by decide)))))))))))))))) ((cg (tY_uIE hM_109) 19).trans ((cg (tY_uIE hM_108) 19).trans ((cg (tY_uIE hM_107) 19).trans ((cg (tY_uIE hM_106) 19).trans ((cg (tY_nE hM_104 (nk (by decide))) 19).trans ((cg (tY_nE hM_103 (nk (by decide))) 19).trans ((cg (tY_nE hM_101 (nk (by decide))) 19).trans ((cg (tY_nE hM_100 (nk (by decide))) 19).trans ((cg (tY_nE hM_98 (nk (by decide))) 19).trans ((cg (tY_nE hM_97 (nk (by decide))) 19).trans (((cg (tY_uE hM_94) 19).trans (pk_un (by decide))).trans (((cg (tY_uE hM_88) 19).trans (pk_un (by decide))).trans ((cg (tY_uE hM_79) 19).trans (upl (by decide))))))))))))))) ((cg (tY_uIE hM_109) 20).trans ((cg (tY_uIE hM_108) 20).trans ((cg (tY_uIE hM_107) 20).trans ((cg (tY_uIE hM_106) 20).trans ((cg (tY_nE hM_104 (nk (by decide))) 20).trans ((cg (tY_nE hM_103 (nk (by decide))) 20).trans ((cg (tY_nE hM_101 (nk (by decide))) 20).trans ((cg (tY_nE hM_100 (nk (by decide))) 20).trans ((cg (tY_nE hM_98 (nk (by decide))) 20).trans ((cg (tY_nE hM_97 (nk (by decide))) 20).trans (((cg (tY_uE hM_94) 20).trans (pk_un (by decide))).trans ((cg (tY_uE hM_88) 20).trans (upl (by decide)))))))))))))) ((cg (tY_uIE hM_109) 21).trans ((cg (tY_uIE hM_108) 21).trans ((cg (tY_uIE hM_107) 21).trans ((cg (tY_uIE hM_106) 21).trans ((cg (tY_nE hM_104 (nk (by decide))) 21).trans ((cg (tY_nE hM_103 (nk (by decide))) 21).trans ((cg (tY_nE hM_101 (nk (by decide))) 21).trans ((cg (tY_nE hM_100 (nk (by decide))) 21).trans ((cg (tY_nE hM_98 (nk (by decide))) 21).trans ((cg (tY_nE hM_97 (nk (by decide))) 21).trans ((cg (tY_uE hM_94) 21).trans (upl (by decide))))))))))))) ((cg (tY_uIE hM_109) 3).trans ((cg (tY_uIE hM_108) 3).trans ((cg (tY_uIE hM_107) 3).trans ((cg (tY_uIE hM_106) 3).trans ((cg (tY_nE hM_104 (nk (by decide))) 3).trans (((cg (tY_uE hM_103) 3).trans (pk_un (by decide))).trans ((cg (tY_nE hM_101 (nk (by decide))) 3).trans (((cg (tY_uE hM_100) 3).trans (pk_un (by decide))).trans ((cg (tY_nE hM_98 (nk (by decide))) 3).trans ((cg (tY_uE hM_97) 3).trans (upl (by decide)))))))))))) ((cg (tY_uIE hM_109) 4).trans ((cg (tY_uIE hM_108) 4).trans ((cg (tY_uIE hM_107) 4).trans ((cg (tY_uIE hM_106) 4).trans ((cg (tY_nE hM_104 (nk (by decide))) 4).trans (((cg (tY_uE hM_103) 4).trans (pk_un (by decide))).trans ((cg (tY_nE hM_101 (nk (by decide))) 4).trans ((cg (tY_uE hM_100) 4).trans (upl (by decide)))))))))) ((cg (tY_uIE hM_109) 5).trans ((cg (tY_uIE hM_108) 5).trans ((cg (tY_uIE hM_107) 5).trans ((cg (tY_uIE hM_106) 5).trans ((cg (tY_nE hM_104 (nk (by decide))) 5).trans ((cg (tY_uE hM_103) 5).trans (upl (by decide)))))))) ((cg (tY_uIE hM_109) 3).trans ((cg (tY_uIE hM_108) 3).trans ((cg (tY_uIE hM_107) 3).trans ((cg (tY_uIE hM_106) 3).trans (((cg (tY_uE hM_104) 3).trans (pk_un (by decide))).trans ((cg (tY_nE hM_103 (nk (by decide))) 3).trans (((cg (tY_uE hM_101) 3).trans (pk_un (by decide))).trans ((cg (tY_nE hM_100 (nk (by decide))) 3).trans ((cg (tY_uE hM_98) 3).trans (upl (by decide))))))))))) ((cg (tY_uIE hM_109) 4).trans ((cg (tY_uIE hM_108) 4).trans ((cg (tY_uIE hM_107) 4).trans ((cg (tY_uIE hM_106) 4).trans (((cg (tY_uE hM_104) 4).trans (pk_un (by decide))).trans ((cg (tY_nE hM_103 (nk (by decide))) 4).trans ((cg (tY_uE hM_101) 4).trans (upl (by decide))))))))) ((cg (tY_uIE hM_109) 5).trans ((cg (tY_uIE hM_108) 5).trans ((cg (tY_uIE hM_107) 5).trans ((cg (tY_uIE hM_106) 5).trans ((cg (tY_uE hM_104) 5).trans (upl (by decide))))))) (tI_uE hM_109)
      refine lv_aload_n hx hb dX10_text_168 rfl (lv_at hl 1 rfl) ?_
      refine ti_callVvE (ci := 10) (av := []) C hE hw (x_X10_token l D A cy hJ M_109 iM_109 ) ⟨ml_X10_214, ym_X10_token, yv_X10_token, yi_X10_token, yc_X10_token⟩ yd_X10_token ob_60 (by decide) rfl rfl hl.1 (Nat.le_of_ble_eq_true rfl) ⟨by decide, by decide⟩ ⟨Nat.zero_le _, Nat.zero_le _⟩ dX10_text_169 (fun M_111 H locs hp_111 hw => ?_)
      obtain ⟨iM_111, q_114, z_112, z_113, k2M_111, k3M_111, k4M_111⟩ := hp_111
      have hs0 := rQ_st (J := J) (fun i hi => (congrArg Int32.toInt (congrFun (show tY M_109 60 1 = tY M 60 1 from ((tY_uIE hM_109).trans ((tY_uIE hM_108).trans ((tY_uIE hM_107).trans ((tY_uIE hM_106).trans ((tY_nE hM_104 (nk (by decide))).trans ((tY_nE hM_103 (nk (by decide))).trans ((tY_nE hM_101 (nk (by decide))).trans ((tY_nE hM_100 (nk (by decide))).trans ((tY_nE hM_98 (nk (by decide))).trans ((tY_nE hM_97 (nk (by decide))).trans ((tY_nE hM_94 (nk (by decide))).trans ((tY_nE hM_88 (nk (by decide))).trans ((tY_nE hM_79 (nk (by decide))).trans ((tY_nE hM_70 (nk (by decide))).trans ((tY_nE hM_61 (nk (by decide))).trans ((tY_nE hM_52 (nk (by decide))).trans ((tY_nE hM_43 (nk (by decide))).trans ((tY_nE hM_35 (nk (by decide))).trans ((tY_nE hM_28 (nk (by decide))).trans ((tY_nE hM_23 (nk (by decide))).trans ((tY_nE hM_19 (nk (by decide))).trans ((tY_uIE hM_10).trans ((tY_uIE hM_9).trans ((tY_uIE hM_8).trans ((tY_uIE hM_7).trans ((tY_uIE hM_6).trans (tY_uIE hM_1)))))))))))))))))))))))))))) i)).trans (hB i hi)) (by rw [((tI_nE hM_109 (nk (by decide))).trans ((tI_nE hM_108 (nk (by decide))).trans ((tI_nE hM_107 (nk (by decide))).trans ((tI_nE hM_106 (nk (by decide))).trans ((tI_uYE hM_104).trans ((tI_uYE hM_103).trans ((tI_uYE hM_101).trans ((tI_uYE hM_100).trans ((tI_uYE hM_98).trans ((tI_uYE hM_97).trans ((tI_uYE hM_94).trans ((tI_uYE hM_88).trans ((tI_uYE hM_79).trans ((tI_uYE hM_70).trans ((tI_uYE hM_61).trans ((tI_uYE hM_52).trans ((tI_uYE hM_43).trans ((tI_uYE hM_35).trans ((tI_uYE hM_28).trans ((tI_uYE hM_23).trans ((tI_uYE hM_19).trans ((tI_nE hM_10 (nk (by decide))).trans ((tI_nE hM_9 (nk (by decide))).trans ((tI_nE hM_8 (nk (by decide))).trans ((tI_nE hM_7 (nk (by decide))).trans (tI_uE hM_6))))))))))))))))))))))))))]) (by rw [((tI_nE hM_109 (nk (by decide))).trans ((tI_nE hM_108 (nk (by decide))).trans ((tI_nE hM_107 (nk (by decide))).trans ((tI_nE hM_106 (nk (by decide))).trans ((tI_uYE hM_104).trans ((tI_uYE hM_103).trans ((tI_uYE hM_101).trans ((tI_uYE hM_100).trans ((tI_uYE hM_98).trans ((tI_uYE hM_97).trans ((tI_uYE hM_94).trans ((tI_uYE hM_88).trans ((tI_uYE hM_79).trans ((tI_uYE hM_70).trans ((tI_uYE hM_61).trans ((tI_uYE hM_52).trans ((tI_uYE hM_43).trans ((tI_uYE hM_35).trans ((tI_uYE hM_28).trans ((tI_uYE hM_23).trans ((tI_uYE hM_19).trans ((tI_nE hM_10 (nk (by decide))).trans ((tI_nE hM_9 (nk (by decide))).trans (tI_uE hM_8))))))))))))))))))))))))]; decide) q_114 k2M_111 k3M_111 k4M_111 (by rw [((tI_nE hM_109 (nk (by decide))).trans ((tI_nE hM_108 (nk (by decide))).trans ((tI_nE hM_107 (nk (by decide))).trans ((tI_nE hM_106 (nk (by decide))).trans ((tI_uYE hM_104).trans ((tI_uYE hM_103).trans ((tI_uYE hM_101).trans ((tI_uYE hM_100).trans ((tI_uYE hM_98).trans ((tI_uYE hM_97).trans ((tI_uYE hM_94).trans ((tI_uYE hM_88).trans ((tI_uYE hM_79).trans ((tI_uYE hM_70).trans ((tI_uYE hM_61).trans ((tI_uYE hM_52).trans ((tI_uYE hM_43).trans ((tI_uYE hM_35).trans ((tI_uYE hM_28).trans ((tI_uYE hM_23).trans ((tI_uYE hM_19).trans ((tI_nE hM_10 (nk (by decide))).trans (tI_uE hM_9)))))))))))))))))))))))]; decide) (by rw [((tI_nE hM_109 (nk (by decide))).trans ((tI_nE hM_108 (nk (by decide))).trans ((tI_nE hM_107 (nk (by decide))).trans ((tI_nE hM_106 (nk (by decide))).trans ((tI_uYE hM_104).trans ((tI_uYE hM_103).trans ((tI_uYE hM_101).trans ((tI_uYE hM_100).trans ((tI_uYE hM_98).trans ((tI_uYE hM_97).trans ((tI_uYE hM_94).trans ((tI_uYE hM_88).trans ((tI_uYE hM_79).trans ((tI_uYE hM_70).trans ((tI_uYE hM_61).trans ((tI_uYE hM_52).trans ((tI_uYE hM_43).trans ((tI_uYE hM_35).trans ((tI_uYE hM_28).trans ((tI_uYE hM_23).trans ((tI_uYE hM_19).trans (tI_uE hM_10))))))))))))))))))))))]; decide) (by rw [((tI_nE hM_109 (nk (by decide))).trans ((tI_nE hM_108 (nk (by decide))).trans (tI_uE hM_107)))]; decide) (by rw [(tI_uE hM_109)]; decide) (((tI_nE hM_109 (nk (by decide))).trans ((tI_nE hM_108 (nk (by decide))).trans ((tI_nE hM_107 (nk (by decide))).trans (tI_uE hM_106))))) (by rw [((cg (tY_uIE hM_109) 11).trans ((cg (tY_uIE hM_108) 11).trans ((cg (tY_uIE hM_107) 11).trans ((cg (tY_uIE hM_106) 11).trans ((cg (tY_nE hM_104 (nk (by decide))) 11).trans ((cg (tY_nE hM_103 (nk (by decide))) 11).trans ((cg (tY_nE hM_101 (nk (by decide))) 11).trans ((cg (tY_nE hM_100 (nk (by decide))) 11).trans ((cg (tY_nE hM_98 (nk (by decide))) 11).trans ((cg (tY_nE hM_97 (nk (by decide))) 11).trans (((cg (tY_uE hM_94) 11).trans (pk_un (by decide))).trans (((cg (tY_uE hM_88) 11).trans (pk_un (by decide))).trans (((cg (tY_uE hM_79) 11).trans (pk_un (by decide))).trans (((cg (tY_uE hM_70) 11).trans (pk_un (by decide))).trans (((cg (tY_uE hM_61) 11).trans (pk_un (by decide))).trans (((cg (tY_uE hM_52) 11).trans (pk_un (by decide))).trans (((cg (tY_uE hM_43) 11).trans (pk_un (by decide))).trans (((cg (tY_uE hM_35) 11).trans (pk_un (by decide))).trans (((cg (tY_uE hM_28) 11).trans (pk_un (by decide))).trans (((cg (tY_uE hM_23) 11).trans (pk_un (by decide))).trans ((cg (tY_uE hM_19) 11).trans (upl (by decide)))))))))))))))))))))))]; decide)
      obtain ⟨-, -, z_115, z_116, z_117, z_118, z_119, z_120⟩ := l_tk ⟨iM_111, q_114, z_112, z_113⟩
      clear z_112 z_113 k2M_111 k3M_111 k4M_111
      obtain ⟨g_121, eg_121⟩ : ∃ z : Nat → Int, z = pp_r0 B nn.toInt.toNat J := ⟨_, rfl⟩
      rw [← eg_121] at hs0
      have n0 : g_121 9 = 0 := by rw [eg_121]; exact r0_9
      have gb0 := pg_b M_111
      have gc0 := b21 iM_111
      have fb0 := ff_b M_111
      have tl_122 : qL (qq_cl K0) M_111 := qL_fr tl0 q_114.1 (q_114.2 18 (by decide)) (q_114.2 30 (by decide)) (by omega)
      have hl_172_144 : ∀ (n_145 : Nat) (M_123 : ti_M) (g_127 : Nat → Int) (d_129 : Nat → Int) (H : Heap) (locs : List Loc) (ls : Array Slot), (1401 - pg M_123 + ff M_123 : Int).toNat < n_145 → (mI Tm M_123) → (lx M_123 M) → (gU M_123 M) → (tI M_123 60 2 = 0) → (rQ B nn.toInt.toNat g_127 M_123) → (qL d_129 M_123) → (pp_tx B nn.toInt.toNat J = pp_rd B nn.toInt.toNat (nn.toInt.toNat + 1 - (g_127 9).toNat) g_127) → (qq_tx B nn.toInt.toNat J K0 = qq_rd B nn.toInt.toNat (nn.toInt.toNat + 1 - (g_127 9).toNat) g_127 d_129) → (0 ≤ g_127 9 ∧ 2 * g_127 9 ≤ pg M_123 + 2 - 2 * ff M_123) → (0 ≤ ff M_123) → (ff M_123 ≤ 1) → ((tY M_123 60 3 18).toInt ≤ (tI M_123 60 30).toInt + 64 - 64 * ff M_123) → ((tI M_123 60 29).toInt ≤ 8 - 8 * ff M_123) → (0 ≤ (tY M_123 60 3 18).toInt) → ((tY M_123 60 3 18).toInt ≤ 64) → (0 ≤ (tI M_123 60 29).toInt) → ((tI M_123 60 29).toInt ≤ 8) → (0 ≤ (tI M_123 60 30).toInt) → ((tI M_123 60 30).toInt ≤ 64) → (um M_123) → ti_H ti_LM D A cy H0 M_123 H locs → lv_has ls 3 [(2, .int 6), (0, .ref (A 60 0)), (1, .int nn)] → W p l e (ti_rm 652) s m args below meth c H locs 0 0 Q (F0 m 172 ls []) := by
        intro n_145
        induction n_145 with
        | zero => intro M_123 g_127 d_129 H locs ls hf_145; exact absurd hf_145 (Nat.not_lt_zero _)
        | succ n_145 ih_145 =>
          intro M_123 g_127 d_129 H locs ls hf_145 iM_123 f_124 f_125 f_126 hs_128 tl_130 j_131 j_132 j_133 j_134 j_135 j_136 j_137 j_138 j_139 j_140 j_141 j_142 j_143 j_144 hw hl
          have gb := pg_b M_123
          have gc := b21 iM_123
          refine lv_aload_n hx hb dX10_text_172 rfl (lv_at hl 1 rfl) ?_
          refine ti_get (ci := 10) (k := 25) (N := 67) (T := TX10) C hw iw_10 rfl ob_60 (by decide) (by decide) fl_X10_208 rfl rfl dX10_text_173 ?_
          refine lv_topi (fun x_146 ex_146 => ?_)
          have u_147 : (tI M_123 60 25).toInt = x_146.toInt := by rw [ex_146]
          have ufx_146 : (tI M_123 60 25).toInt = x_146.toInt := by rw [ex_146]
          refine sb_if_ne (tgt := 194) hx hb rfl dX10_text_176 (by decide) (fun c_176_147 => ?_) (fun c_176_147 => ?_)
          · have z_149 : ff M_123 = 0 := ff_0 (fun h => c_176_147 (ufx_146.symm.trans h))
            clear c_176_147
            have h4 := rQ_g1 hs_128 (by omega)
            have E9 : pp_tx B nn.toInt.toNat J = g_127 := (j_131).trans (rd_end (Or.inr (Or.inr h4)))
            have EQ9 : qq_tx B nn.toInt.toNat J K0 = d_129 := (j_132).trans (qrd_end (Or.inr (Or.inr h4)))
            refine lv_aload_n hx hb dX10_text_194 rfl (lv_at hl 1 rfl) ?_
            refine lv_aload_n hx hb dX10_text_195 rfl (lv_at hl 1 rfl) ?_
            refine ti_get (ci := 10) (k := 25) (N := 67) (T := TX10) C hw iw_10 rfl ob_60 (by decide) (by decide) fl_X10_208 rfl rfl dX10_text_196 ?_
            refine ti_top (y := x_146) (ex_146.symm) ?_
            refine ti_putI (ci := 10) (k := 27) (N := 67) (T := TX10) C hw iw_10 tyX10 tyX10_ok nmX10 rfl ob_60 (by decide) (by decide) fl_X10_303 rfl rfl rfl rfl (fn_10 A _) fs_10_27 dX10_text_199 (fun H locs hw => ?_)
            obtain ⟨M_174, hM_174⟩ : ∃ z : ti_M, z = uI M_123 60 27 x_146 := ⟨_, rfl⟩
            have hw := hw.to hM_174.symm
            have iM_174 : mI (mG M_174) M_174 := mI_lf iM_123 hM_174 (Or.inl rfl) trivial
            have z_175 : ff M_174 = ff M_123 := ff_I hM_174 (by decide)
            have z_176 : pg M_174 = pg M_123 := pg_I hM_174 (by decide)
            have tl_177 : qL d_129 M_174 := qL_fr tl_130 (ry_I hM_174) (tI_nE hM_174 (nk (by decide))) (tI_nE hM_174 (nk (by decide))) (by omega)
            refine lv_aload_n hx hb dX10_text_202 rfl (lv_at hl 1 rfl) ?_
            refine lv_aload_n hx hb dX10_text_203 rfl (lv_at hl 1 rfl) ?_
            refine ti_get (ci := 10) (k := 26) (N := 67) (T := TX10) C hw iw_10 rfl ob_60 (by decide) (by decide) fl_X10_211 rfl rfl dX10_text_204 ?_
            refine lv_topi (fun x_178 ex_178 => ?_)
            refine ti_putI (ci := 10) (k := 28) (N := 67) (T := TX10) C hw iw_10 tyX10 tyX10_ok nmX10 rfl ob_60 (by decide) (by decide) fl_X10_58 rfl rfl rfl rfl (fn_10 A _) fs_10_28 dX10_text_207 (fun H locs hw => ?_)
            obtain ⟨M_179, hM_179⟩ : ∃ z : ti_M, z = uI M_174 60 28 x_178 := ⟨_, rfl⟩
            have hw := hw.to hM_179.symm
            have iM_179 : mI (mG M_179) M_179 := mI_lf iM_174 hM_179 (Or.inr rfl) trivial
            have z_180 : ff M_179 = ff M_174 := ff_I hM_179 (by decide)
            have z_181 : pg M_179 = pg M_174 := pg_I hM_179 (by decide)
            have tl_182 : qL d_129 M_179 := qL_fr tl_177 (ry_I hM_179) (tI_nE hM_179 (nk (by decide))) (tI_nE hM_179 (nk (by decide))) (by omega)
            refine lv_aload_n hx hb dX10_text_210 rfl (lv_at hl 1 rfl) ?_
            refine ti_get (ci := 10) (k := 25) (N := 67) (T := TX10) C hw iw_10 rfl ob_60 (by decide) (by decide) fl_X10_208 rfl rfl dX10_text_211 ?_
            refine ti_top (y := x_146) ((tI_nE hM_179 (nk (by decide))).trans ((tI_nE hM_174 (nk (by decide))).trans ex_146.symm)) ?_
            refine sb_if_eq (tgt := 219) hx hb rfl dX10_text_214 (by decide) (fun c_214_182 => by have z_184 : ff M_123 = 1 := ff_1 (ufx_146.trans c_214_182); omega) (fun c_214_182 => ?_)
            have z_184 : ff M_123 = 0 := ff_0 (fun h => c_214_182 (ufx_146.symm.trans h))
            clear c_214_182
            refine lv_iconst (v := (-1)) hx hb dX10_text_217 (by decide) ?_
            exact hQ _ _ _ _ _ _ hw rfl (Or.inr ⟨by omega, ((tI_nE hM_179 (nk (by decide))).trans ((tI_nE hM_174 (nk (by decide))).trans f_126)), mF_self (mF_lx hF iM_179 (lx.trans (lx_I hM_179 (by decide)) (lx.trans (lx_I hM_174 (by decide)) f_124))), (by rw [E9]; unfold pp_an; rw [if_neg h4]; decide), ((congrArg Int32.toInt ((tI_nE hM_179 (nk (by decide))).trans (tI_uE hM_174))).trans ((congrArg Int32.toInt (ex_146.symm)).symm.trans (by rw [E9]; exact hs_128.2.1.symm))), ((congrArg Int32.toInt (tI_uE hM_179)).trans ((congrArg Int32.toInt (ex_178.symm)).symm.trans (by rw [tI_nE hM_174 (nk (by decide)), E9]; exact hs_128.2.2.1.1.symm))), (fun _ => ⟨(lx.trans (lx_I hM_179 (by decide)) (lx.trans (lx_I hM_174 (by decide)) f_124)), (gU.trans (gU_e (ry_I hM_179)) (gU.trans (gU_e (ry_I hM_174)) f_125))⟩), (fun q => absurd ((congrFun E9 4).symm.trans q) h4)⟩) dX10_text_218
          · have z_149 : ff M_123 = 1 := ff_1 (ufx_146.trans c_176_147)
            clear c_176_147
            refine lv_aload_n hx hb dX10_text_179 rfl (lv_at hl 1 rfl) ?_
            refine ti_get (ci := 10) (k := 23) (N := 67) (T := TX10) C hw iw_10 rfl ob_60 (by decide) (by decide) fl_X10_173 rfl rfl dX10_text_180 ?_
            refine lv_topi (fun x_150 ex_150 => ?_)
            refine lv_iconst (v := 4) hx hb dX10_text_183 (by decide) ?_
            refine sb_icmp_eq (tgt := 194) hx hb rfl (by decide : (4 : Int32).toInt = 4) dX10_text_184 (by decide) (fun c_184_150 => ?_) (fun c_184_150 => ?_)
            · have h4 := rQ_g0 hs_128 (show ff M_123 = 1 by omega)
              have h27 : g_127 0 = 27 := (pt_Tnm (rQ_T hs_128 (by omega))).2.2.2.2.1 (by rw [(ex_150.symm)]; exact c_184_150)
              have E9 : pp_tx B nn.toInt.toNat J = g_127 := (j_131).trans (rd_end (Or.inr (Or.inl h27)))
              have EQ9 : qq_tx B nn.toInt.toNat J K0 = d_129 := (j_132).trans (qrd_end (Or.inr (Or.inl h27)))
              refine lv_aload_n hx hb dX10_text_194 rfl (lv_at hl 1 rfl) ?_
              refine lv_aload_n hx hb dX10_text_195 rfl (lv_at hl 1 rfl) ?_
              refine ti_get (ci := 10) (k := 25) (N := 67) (T := TX10) C hw iw_10 rfl ob_60 (by decide) (by decide) fl_X10_208 rfl rfl dX10_text_196 ?_
              refine ti_top (y := x_146) (ex_146.symm) ?_
              refine ti_putI (ci := 10) (k := 27) (N := 67) (T := TX10) C hw iw_10 tyX10 tyX10_ok nmX10 rfl ob_60 (by decide) (by decide) fl_X10_303 rfl rfl rfl rfl (fn_10 A _) fs_10_27 dX10_text_199 (fun H locs hw => ?_)
              obtain ⟨M_185, hM_185⟩ : ∃ z : ti_M, z = uI M_123 60 27 x_146 := ⟨_, rfl⟩
              have hw := hw.to hM_185.symm
              have iM_185 : mI (mG M_185) M_185 := mI_lf iM_123 hM_185 (Or.inl rfl) trivial
              have z_186 : ff M_185 = ff M_123 := ff_I hM_185 (by decide)
              have z_187 : pg M_185 = pg M_123 := pg_I hM_185 (by decide)
              have tl_188 : qL d_129 M_185 := qL_fr tl_130 (ry_I hM_185) (tI_nE hM_185 (nk (by decide))) (tI_nE hM_185 (nk (by decide))) (by omega)
              refine lv_aload_n hx hb dX10_text_202 rfl (lv_at hl 1 rfl) ?_
              refine lv_aload_n hx hb dX10_text_203 rfl (lv_at hl 1 rfl) ?_
              refine ti_get (ci := 10) (k := 26) (N := 67) (T := TX10) C hw iw_10 rfl ob_60 (by decide) (by decide) fl_X10_211 rfl rfl dX10_text_204 ?_
              refine lv_topi (fun x_189 ex_189 => ?_)
              refine ti_putI (ci := 10) (k := 28) (N := 67) (T := TX10) C hw iw_10 tyX10 tyX10_ok nmX10 rfl ob_60 (by decide) (by decide) fl_X10_58 rfl rfl rfl rfl (fn_10 A _) fs_10_28 dX10_text_207 (fun H locs hw => ?_)
              obtain ⟨M_190, hM_190⟩ : ∃ z : ti_M, z = uI M_185 60 28 x_189 := ⟨_, rfl⟩
              have hw := hw.to hM_190.symm
              have iM_190 : mI (mG M_190) M_190 := mI_lf iM_185 hM_190 (Or.inr rfl) trivial
              have z_191 : ff M_190 = ff M_185 := ff_I hM_190 (by decide)
              have z_192 : pg M_190 = pg M_185 := pg_I hM_190 (by decide)
              have tl_193 : qL d_129 M_190 := qL_fr tl_188 (ry_I hM_190) (tI_nE hM_190 (nk (by decide))) (tI_nE hM_190 (nk (by decide))) (by omega)
              refine lv_aload_n hx hb dX10_text_210 rfl (lv_at hl 1 rfl) ?_
              refine ti_get (ci := 10) (k := 25) (N := 67) (T := TX10) C hw iw_10 rfl ob_60 (by decide) (by decide) fl_X10_208 rfl rfl dX10_text_211 ?_
              refine ti_top (y := x_146) ((tI_nE hM_190 (nk (by decide))).trans ((tI_nE hM_185 (nk (by decide))).trans ex_146.symm)) ?_
              refine sb_if_eq (tgt := 219) hx hb rfl dX10_text_214 (by decide) (fun c_214_193 => ?_) (fun c_214_193 => by have z_195 : ff M_123 = 0 := ff_0 (fun h => c_214_193 (ufx_146.symm.trans h)); omega)
              have z_195 : ff M_123 = 1 := ff_1 (ufx_146.trans c_214_193)
              clear c_214_193
              refine lv_aload_n hx hb dX10_text_219 rfl (lv_at hl 1 rfl) ?_
              refine ti_get (ci := 10) (k := 3) (N := 67) (T := TX10) (v := .ref (A 60 4)) C hw iw_10 rfl ob_60 (by decide) (by decide) fl_X10_13 rfl rfl dX10_text_220 ?_
              refine ti_callSv (av := [.ref (A 60 4)]) C hw (s_X10_half_3 l D A cy hJ M_190 iM_190 ) ⟨ml_X10_306, ys_X10_half, yi_X10_half, yc_X10_half⟩ yd_X10_half rfl hl.1 (Nat.le_of_ble_eq_true rfl) ⟨by decide, by decide⟩ ⟨Nat.zero_le _, Nat.zero_le _⟩ dX10_text_223 (fun M_197 H locs hp_197 hw => ?_)
              obtain ⟨iM_197, q_198⟩ := hp_197
              refine lv_aload_n hx hb dX10_text_226 rfl (lv_at hl 1 rfl) ?_
              refine ti_get (ci := 10) (k := 4) (N := 67) (T := TX10) (v := .ref (A 60 5)) C hw iw_10 rfl ob_60 (by decide) (by decide) fl_X10_16 rfl rfl dX10_text_227 ?_
              refine ti_callSv (av := [.ref (A 60 5)]) C hw (s_X10_half_4 l D A cy hJ M_197 iM_197 ) ⟨ml_X10_306, ys_X10_half, yi_X10_half, yc_X10_half⟩ yd_X10_half rfl hl.1 (Nat.le_of_ble_eq_true rfl) ⟨by decide, by decide⟩ ⟨Nat.zero_le _, Nat.zero_le _⟩ dX10_text_230 (fun M_200 H locs hp_200 hw => ?_)
              obtain ⟨iM_200, q_201⟩ := hp_200
              refine lv_aload_n hx hb dX10_text_233 rfl (lv_at hl 1 rfl) ?_
              refine ti_get (ci := 10) (k := 5) (N := 67) (T := TX10) (v := .ref (A 60 6)) C hw iw_10 rfl ob_60 (by decide) (by decide) fl_X10_19 rfl rfl dX10_text_234 ?_
              refine ti_callSv (av := [.ref (A 60 6)]) C hw (s_X10_half_5 l D A cy hJ M_200 iM_200 ) ⟨ml_X10_306, ys_X10_half, yi_X10_half, yc_X10_half⟩ yd_X10_half rfl hl.1 (Nat.le_of_ble_eq_true rfl) ⟨by decide, by decide⟩ ⟨Nat.zero_le _, Nat.zero_le _⟩ dX10_text_237 (fun M_203 H locs hp_203 hw => ?_)
              obtain ⟨iM_203, q_204⟩ := hp_203
              refine lv_aload_n hx hb dX10_text_240 rfl (lv_at hl 1 rfl) ?_
              refine ti_get (ci := 10) (k := 6) (N := 67) (T := TX10) (v := .ref (A 60 7)) C hw iw_10 rfl ob_60 (by decide) (by decide) fl_X10_22 rfl rfl dX10_text_241 ?_
              refine ti_callSv (av := [.ref (A 60 7)]) C hw (s_X10_half_6 l D A cy hJ M_203 iM_203 ) ⟨ml_X10_306, ys_X10_half, yi_X10_half, yc_X10_half⟩ yd_X10_half rfl hl.1 (Nat.le_of_ble_eq_true rfl) ⟨by decide, by decide⟩ ⟨Nat.zero_le _, Nat.zero_le _⟩ dX10_text_244 (fun M_206 H locs hp_206 hw => ?_)
              obtain ⟨iM_206, q_207⟩ := hp_206
              refine lv_aload_n hx hb dX10_text_247 rfl (lv_at hl 1 rfl) ?_
              refine ti_get (ci := 10) (k := 7) (N := 67) (T := TX10) (v := .ref (A 60 8)) C hw iw_10 rfl ob_60 (by decide) (by decide) fl_X10_25 rfl rfl dX10_text_248 ?_
              refine ti_callSv (av := [.ref (A 60 8)]) C hw (s_X10_half_7 l D A cy hJ M_206 iM_206 ) ⟨ml_X10_306, ys_X10_half, yi_X10_half, yc_X10_half⟩ yd_X10_half rfl hl.1 (Nat.le_of_ble_eq_true rfl) ⟨by decide, by decide⟩ ⟨Nat.zero_le _, Nat.zero_le _⟩ dX10_text_251 (fun M_209 H locs hp_209 hw => ?_)
              obtain ⟨iM_209, q_210⟩ := hp_209
              refine lv_aload_n hx hb dX10_text_254 rfl (lv_at hl 1 rfl) ?_
              refine ti_get (ci := 10) (k := 8) (N := 67) (T := TX10) (v := .ref (A 60 9)) C hw iw_10 rfl ob_60 (by decide) (by decide) fl_X10_28 rfl rfl dX10_text_255 ?_
              refine ti_callSv (av := [.ref (A 60 9)]) C hw (s_X10_half_8 l D A cy hJ M_209 iM_209 ) ⟨ml_X10_306, ys_X10_half, yi_X10_half, yc_X10_half⟩ yd_X10_half rfl hl.1 (Nat.le_of_ble_eq_true rfl) ⟨by decide, by decide⟩ ⟨Nat.zero_le _, Nat.zero_le _⟩ dX10_text_258 (fun M_212 H locs hp_212 hw => ?_)
              obtain ⟨iM_212, q_213⟩ := hp_212
              refine lv_aload_n hx hb dX10_text_261 rfl (lv_at hl 1 rfl) ?_
              refine ti_get (ci := 10) (k := 9) (N := 67) (T := TX10) (v := .ref (A 60 10)) C hw iw_10 rfl ob_60 (by decide) (by decide) fl_X10_31 rfl rfl dX10_text_262 ?_
              refine ti_callSv (av := [.ref (A 60 10)]) C hw (s_X10_half_9 l D A cy hJ M_212 iM_212 ) ⟨ml_X10_306, ys_X10_half, yi_X10_half, yc_X10_half⟩ yd_X10_half rfl hl.1 (Nat.le_of_ble_eq_true rfl) ⟨by decide, by decide⟩ ⟨Nat.zero_le _, Nat.zero_le _⟩ dX10_text_265 (fun M_215 H locs hp_215 hw => ?_)
              obtain ⟨iM_215, q_216⟩ := hp_215
              refine lv_aload_n hx hb dX10_text_268 rfl (lv_at hl 1 rfl) ?_
              refine ti_get (ci := 10) (k := 10) (N := 67) (T := TX10) (v := .ref (A 60 11)) C hw iw_10 rfl ob_60 (by decide) (by decide) fl_X10_34 rfl rfl dX10_text_269 ?_
              refine ti_callSv (av := [.ref (A 60 11)]) C hw (s_X10_half_10 l D A cy hJ M_215 iM_215 ) ⟨ml_X10_306, ys_X10_half, yi_X10_half, yc_X10_half⟩ yd_X10_half rfl hl.1 (Nat.le_of_ble_eq_true rfl) ⟨by decide, by decide⟩ ⟨Nat.zero_le _, Nat.zero_le _⟩ dX10_text_272 (fun M_218 H locs hp_218 hw => ?_)
              obtain ⟨iM_218, q_219⟩ := hp_218
              refine lv_aload_n hx hb dX10_text_275 rfl (lv_at hl 1 rfl) ?_
              refine ti_get (ci := 10) (k := 11) (N := 67) (T := TX10) (v := .ref (A 60 12)) C hw iw_10 rfl ob_60 (by decide) (by decide) fl_X10_37 rfl rfl dX10_text_276 ?_
              refine ti_callSv (av := [.ref (A 60 12)]) C hw (s_X10_half_11 l D A cy hJ M_218 iM_218 ) ⟨ml_X10_306, ys_X10_half, yi_X10_half, yc_X10_half⟩ yd_X10_half rfl hl.1 (Nat.le_of_ble_eq_true rfl) ⟨by decide, by decide⟩ ⟨Nat.zero_le _, Nat.zero_le _⟩ dX10_text_279 (fun M_221 H locs hp_221 hw => ?_)
              obtain ⟨iM_221, q_222⟩ := hp_221
              refine lv_aload_n hx hb dX10_text_282 rfl (lv_at hl 1 rfl) ?_
              refine ti_get (ci := 10) (k := 12) (N := 67) (T := TX10) (v := .ref (A 60 13)) C hw iw_10 rfl ob_60 (by decide) (by decide) fl_X10_40 rfl rfl dX10_text_283 ?_
              refine ti_callSv (av := [.ref (A 60 13)]) C hw (s_X10_half_12 l D A cy hJ M_221 iM_221 ) ⟨ml_X10_306, ys_X10_half, yi_X10_half, yc_X10_half⟩ yd_X10_half rfl hl.1 (Nat.le_of_ble_eq_true rfl) ⟨by decide, by decide⟩ ⟨Nat.zero_le _, Nat.zero_le _⟩ dX10_text_286 (fun M_224 H locs hp_224 hw => ?_)
              obtain ⟨iM_224, q_225⟩ := hp_224
              refine lv_aload_n hx hb dX10_text_289 rfl (lv_at hl 1 rfl) ?_
              refine ti_get (ci := 10) (k := 13) (N := 67) (T := TX10) (v := .ref (A 60 14)) C hw iw_10 rfl ob_60 (by decide) (by decide) fl_X10_43 rfl rfl dX10_text_290 ?_
              refine ti_callSv (av := [.ref (A 60 14)]) C hw (s_X10_half_13 l D A cy hJ M_224 iM_224 ) ⟨ml_X10_306, ys_X10_half, yi_X10_half, yc_X10_half⟩ yd_X10_half rfl hl.1 (Nat.le_of_ble_eq_true rfl) ⟨by decide, by decide⟩ ⟨Nat.zero_le _, Nat.zero_le _⟩ dX10_text_293 (fun M_227 H locs hp_227 hw => ?_)
              obtain ⟨iM_227, q_228⟩ := hp_227
              refine lv_aload_n hx hb dX10_text_296 rfl (lv_at hl 1 rfl) ?_
              refine ti_get (ci := 10) (k := 14) (N := 67) (T := TX10) (v := .ref (A 60 15)) C hw iw_10 rfl ob_60 (by decide) (by decide) fl_X10_46 rfl rfl dX10_text_297 ?_
              refine ti_callSv (av := [.ref (A 60 15)]) C hw (s_X10_half_14 l D A cy hJ M_227 iM_227 ) ⟨ml_X10_306, ys_X10_half, yi_X10_half, yc_X10_half⟩ yd_X10_half rfl hl.1 (Nat.le_of_ble_eq_true rfl) ⟨by decide, by decide⟩ ⟨Nat.zero_le _, Nat.zero_le _⟩ dX10_text_300 (fun M_230 H locs hp_230 hw => ?_)
              obtain ⟨iM_230, q_231⟩ := hp_230
              refine lv_aload_n hx hb dX10_text_303 rfl (lv_at hl 1 rfl) ?_
              refine ti_get (ci := 10) (k := 15) (N := 67) (T := TX10) (v := .ref (A 60 16)) C hw iw_10 rfl ob_60 (by decide) (by decide) fl_X10_49 rfl rfl dX10_text_304 ?_
              refine ti_callSv (av := [.ref (A 60 16)]) C hw (s_X10_half_15 l D A cy hJ M_230 iM_230 ) ⟨ml_X10_306, ys_X10_half, yi_X10_half, yc_X10_half⟩ yd_X10_half rfl hl.1 (Nat.le_of_ble_eq_true rfl) ⟨by decide, by decide⟩ ⟨Nat.zero_le _, Nat.zero_le _⟩ dX10_text_307 (fun M_233 H locs hp_233 hw => ?_)
              obtain ⟨iM_233, q_234⟩ := hp_233
              refine lv_aload_n hx hb dX10_text_310 rfl (lv_at hl 1 rfl) ?_
              refine ti_get (ci := 10) (k := 16) (N := 67) (T := TX10) (v := .ref (A 60 17)) C hw iw_10 rfl ob_60 (by decide) (by decide) fl_X10_52 rfl rfl dX10_text_311 ?_
              refine ti_callSv (av := [.ref (A 60 17)]) C hw (s_X10_half_16 l D A cy hJ M_233 iM_233 ) ⟨ml_X10_306, ys_X10_half, yi_X10_half, yc_X10_half⟩ yd_X10_half rfl hl.1 (Nat.le_of_ble_eq_true rfl) ⟨by decide, by decide⟩ ⟨Nat.zero_le _, Nat.zero_le _⟩ dX10_text_314 (fun M_236 H locs hp_236 hw => ?_)
              obtain ⟨iM_236, q_237⟩ := hp_236
              refine lv_aload_n hx hb dX10_text_317 rfl (lv_at hl 1 rfl) ?_
              refine ti_get (ci := 10) (k := 17) (N := 67) (T := TX10) (v := .ref (A 60 18)) C hw iw_10 rfl ob_60 (by decide) (by decide) fl_X10_55 rfl rfl dX10_text_318 ?_
              refine ti_callSv (av := [.ref (A 60 18)]) C hw (s_X10_half_17 l D A cy hJ M_236 iM_236 ) ⟨ml_X10_306, ys_X10_half, yi_X10_half, yc_X10_half⟩ yd_X10_half rfl hl.1 (Nat.le_of_ble_eq_true rfl) ⟨by decide, by decide⟩ ⟨Nat.zero_le _, Nat.zero_le _⟩ dX10_text_321 (fun M_239 H locs hp_239 hw => ?_)
              obtain ⟨iM_239, q_240⟩ := hp_239
              refine lv_aload_n hx hb dX10_text_324 rfl (lv_at hl 1 rfl) ?_
              refine lv_iconst (v := 0) hx hb dX10_text_325 (by decide) ?_
              refine ti_putI (ci := 10) (k := 58) (N := 67) (T := TX10) C hw iw_10 tyX10 tyX10_ok nmX10 rfl ob_60 (by decide) (by decide) fl_X10_310 rfl rfl rfl rfl (fn_10 A _) fs_10_58 dX10_text_326 (fun H locs hw => ?_)
              obtain ⟨M_241, hM_241⟩ : ∃ z : ti_M, z = uI M_239 60 58 0 := ⟨_, rfl⟩
              have hw := hw.to hM_241.symm
              have iM_241 : mI (mG M_241) M_241 := mI_ls iM_239 hM_241 (Or.inl rfl) (by first | trivial | exact ⟨by decide, by decide⟩)
              refine lv_aload_n hx hb dX10_text_329 rfl (lv_at hl 1 rfl) ?_
              refine lv_iconst (v := (-1)) hx hb dX10_text_330 (by decide) ?_
              refine ti_putI (ci := 10) (k := 59) (N := 67) (T := TX10) C hw iw_10 tyX10 tyX10_ok nmX10 rfl ob_60 (by decide) (by decide) fl_X10_132 rfl rfl rfl rfl (fn_10 A _) fs_10_59 dX10_text_331 (fun H locs hw => ?_)
              obtain ⟨M_242, hM_242⟩ : ∃ z : ti_M, z = uI M_241 60 59 (-1) := ⟨_, rfl⟩
              have hw := hw.to hM_242.symm
              have iM_242 : mI (mG M_242) M_242 := mI_ls iM_241 hM_242 (Or.inr rfl) (by first | trivial | exact ⟨by decide, by decide⟩)
              refine lv_aload_n hx hb dX10_text_334 rfl (lv_at hl 1 rfl) ?_
              refine lv_iconst (v := 0) hx hb dX10_text_335 (by decide) ?_
              refine ti_putI (ci := 10) (k := 51) (N := 67) (T := TX10) C hw iw_10 tyX10 tyX10_ok nmX10 rfl ob_60 (by decide) (by decide) fl_X10_313 rfl rfl rfl rfl (fn_10 A _) fs_10_51 dX10_text_336 (fun H locs hw => ?_)
              obtain ⟨M_243, hM_243⟩ : ∃ z : ti_M, z = uI M_242 60 51 0 := ⟨_, rfl⟩
              have hw := hw.to hM_243.symm
              have iM_243 : mI (mG M_242) M_243 := mI_uI iM_242 hM_243 (by decide) (by decide) trivial
              refine lv_aload_n hx hb dX10_text_339 rfl (lv_at hl 1 rfl) ?_
              refine lv_iconst (v := 0) hx hb dX10_text_340 (by decide) ?_
              refine ti_putI (ci := 10) (k := 52) (N := 67) (T := TX10) C hw iw_10 tyX10 tyX10_ok nmX10 rfl ob_60 (by decide) (by decide) fl_X10_317 rfl rfl rfl rfl (fn_10 A _) fs_10_52 dX10_text_341 (fun H locs hw => ?_)
              obtain ⟨M_244, hM_244⟩ : ∃ z : ti_M, z = uI M_243 60 52 0 := ⟨_, rfl⟩
              have hw := hw.to hM_244.symm
              have iM_244 : mI (mG M_242) M_244 := mI_uI iM_243 hM_244 (by decide) (by decide) (ib_mk (lo := 0) (hi := 20) (by decide) (by decide))
              have vM_244 : (tI M_244 60 52).toInt = 0 := by rw [tI_uE hM_244]; decide
              refine lv_aload_n hx hb dX10_text_344 rfl (lv_at hl 1 rfl) ?_
              have h4b := rQ_g0 hs_128 (show ff M_123 = 1 by omega)
              have tR9 : tR (tX (pp_tx B nn.toInt.toNat J) (qq_tx B nn.toInt.toNat J K0)) M_244 := by rw [E9, EQ9]; exact tR_hv tl_130 hs_128 h4b iM_123 (fun i hi => ((cg (tY_uIE hM_244) i).trans ((cg (tY_uIE hM_243) i).trans ((cg (tY_uIE hM_242) i).trans ((cg (tY_uIE hM_241) i).trans ((cg (q_240.1 3 (by decide)) i).trans ((cg (q_237.1 3 (by decide)) i).trans ((cg (q_234.1 3 (by decide)) i).trans ((cg (q_231.1 3 (by decide)) i).trans ((cg (q_228.1 3 (by decide)) i).trans ((cg (q_225.1 3 (by decide)) i).trans ((cg (q_222.1 3 (by decide)) i).trans ((cg (q_219.1 3 (by decide)) i).trans ((cg (q_216.1 3 (by decide)) i).trans ((cg (q_213.1 3 (by decide)) i).trans ((cg (q_210.1 3 (by decide)) i).trans ((cg (q_207.1 3 (by decide)) i).trans ((cg (q_204.1 3 (by decide)) i).trans ((cg (q_201.1 3 (by decide)) i).trans ((q_198.2.1 i hi).trans ((cg (tY_uIE hM_190) _).trans (cg (tY_uIE hM_185) _)))))))))))))))))))))) (fun i hi => ((cg (tY_uIE hM_244) i).trans ((cg (tY_uIE hM_243) i).trans ((cg (tY_uIE hM_242) i).trans ((cg (tY_uIE hM_241) i).trans ((cg (q_240.1 5 (by decide)) i).trans ((cg (q_237.1 5 (by decide)) i).trans ((cg (q_234.1 5 (by decide)) i).trans ((cg (q_231.1 5 (by decide)) i).trans ((cg (q_228.1 5 (by decide)) i).trans ((cg (q_225.1 5 (by decide)) i).trans ((cg (q_222.1 5 (by decide)) i).trans ((cg (q_219.1 5 (by decide)) i).trans ((cg (q_216.1 5 (by decide)) i).trans ((cg (q_213.1 5 (by decide)) i).trans ((cg (q_210.1 5 (by decide)) i).trans ((cg (q_207.1 5 (by decide)) i).trans ((q_204.2.1 i hi).trans ((cg (q_201.1 5 (by decide)) _).trans ((cg (q_198.1 5 (by decide)) _).trans ((cg (tY_uIE hM_190) _).trans (cg (tY_uIE hM_185) _)))))))))))))))))))))) (fun i hi => ((cg (tY_uIE hM_244) i).trans ((cg (tY_uIE hM_243) i).trans ((cg (tY_uIE hM_242) i).trans ((cg (tY_uIE hM_241) i).trans ((cg (q_240.1 6 (by decide)) i).trans ((cg (q_237.1 6 (by decide)) i).trans ((cg (q_234.1 6 (by decide)) i).trans ((cg (q_231.1 6 (by decide)) i).trans ((cg (q_228.1 6 (by decide)) i).trans ((cg (q_225.1 6 (by decide)) i).trans ((cg (q_222.1 6 (by decide)) i).trans ((cg (q_219.1 6 (by decide)) i).trans ((cg (q_216.1 6 (by decide)) i).trans ((cg (q_213.1 6 (by decide)) i).trans ((cg (q_210.1 6 (by decide)) i).trans ((q_207.2.1 i hi).trans ((cg (q_204.1 6 (by decide)) _).trans ((cg (q_201.1 6 (by decide)) _).trans ((cg (q_198.1 6 (by decide)) _).trans ((cg (tY_uIE hM_190) _).trans (cg (tY_uIE hM_185) _)))))))))))))))))))))) (fun i hi => ((cg (tY_uIE hM_244) i).trans ((cg (tY_uIE hM_243) i).trans ((cg (tY_uIE hM_242) i).trans ((cg (tY_uIE hM_241) i).trans ((cg (q_240.1 7 (by decide)) i).trans ((cg (q_237.1 7 (by decide)) i).trans ((cg (q_234.1 7 (by decide)) i).trans ((cg (q_231.1 7 (by decide)) i).trans ((cg (q_228.1 7 (by decide)) i).trans ((cg (q_225.1 7 (by decide)) i).trans ((cg (q_222.1 7 (by decide)) i).trans ((cg (q_219.1 7 (by decide)) i).trans ((cg (q_216.1 7 (by decide)) i).trans ((cg (q_213.1 7 (by decide)) i).trans ((q_210.2.1 i hi).trans ((cg (q_207.1 7 (by decide)) _).trans ((cg (q_204.1 7 (by decide)) _).trans ((cg (q_201.1 7 (by decide)) _).trans ((cg (q_198.1 7 (by decide)) _).trans ((cg (tY_uIE hM_190) _).trans (cg (tY_uIE hM_185) _)))))))))))))))))))))) (fun i hi => ((cg (tY_uIE hM_244) i).trans ((cg (tY_uIE hM_243) i).trans ((cg (tY_uIE hM_242) i).trans ((cg (tY_uIE hM_241) i).trans ((cg (q_240.1 8 (by decide)) i).trans ((cg (q_237.1 8 (by decide)) i).trans ((cg (q_234.1 8 (by decide)) i).trans ((cg (q_231.1 8 (by decide)) i).trans ((cg (q_228.1 8 (by decide)) i).trans ((cg (q_225.1 8 (by decide)) i).trans ((cg (q_222.1 8 (by decide)) i).trans ((cg (q_219.1 8 (by decide)) i).trans ((cg (q_216.1 8 (by decide)) i).trans ((q_213.2.1 i hi).trans ((cg (q_210.1 8 (by decide)) _).trans ((cg (q_207.1 8 (by decide)) _).trans ((cg (q_204.1 8 (by decide)) _).trans ((cg (q_201.1 8 (by decide)) _).trans ((cg (q_198.1 8 (by decide)) _).trans ((cg (tY_uIE hM_190) _).trans (cg (tY_uIE hM_185) _)))))))))))))))))))))) (fun i hi => ((cg (tY_uIE hM_244) i).trans ((cg (tY_uIE hM_243) i).trans ((cg (tY_uIE hM_242) i).trans ((cg (tY_uIE hM_241) i).trans ((cg (q_240.1 9 (by decide)) i).trans ((cg (q_237.1 9 (by decide)) i).trans ((cg (q_234.1 9 (by decide)) i).trans ((cg (q_231.1 9 (by decide)) i).trans ((cg (q_228.1 9 (by decide)) i).trans ((cg (q_225.1 9 (by decide)) i).trans ((cg (q_222.1 9 (by decide)) i).trans ((cg (q_219.1 9 (by decide)) i).trans ((q_216.2.1 i hi).trans ((cg (q_213.1 9 (by decide)) _).trans ((cg (q_210.1 9 (by decide)) _).trans ((cg (q_207.1 9 (by decide)) _).trans ((cg (q_204.1 9 (by decide)) _).trans ((cg (q_201.1 9 (by decide)) _).trans ((cg (q_198.1 9 (by decide)) _).trans ((cg (tY_uIE hM_190) _).trans (cg (tY_uIE hM_185) _)))))))))))))))))))))) (fun i hi => ((cg (tY_uIE hM_244) i).trans ((cg (tY_uIE hM_243) i).trans ((cg (tY_uIE hM_242) i).trans ((cg (tY_uIE hM_241) i).trans ((cg (q_240.1 10 (by decide)) i).trans ((cg (q_237.1 10 (by decide)) i).trans ((cg (q_234.1 10 (by decide)) i).trans ((cg (q_231.1 10 (by decide)) i).trans ((cg (q_228.1 10 (by decide)) i).trans ((cg (q_225.1 10 (by decide)) i).trans ((cg (q_222.1 10 (by decide)) i).trans ((q_219.2.1 i hi).trans ((cg (q_216.1 10 (by decide)) _).trans ((cg (q_213.1 10 (by decide)) _).trans ((cg (q_210.1 10 (by decide)) _).trans ((cg (q_207.1 10 (by decide)) _).trans ((cg (q_204.1 10 (by decide)) _).trans ((cg (q_201.1 10 (by decide)) _).trans ((cg (q_198.1 10 (by decide)) _).trans ((cg (tY_uIE hM_190) _).trans (cg (tY_uIE hM_185) _)))))))))))))))))))))) (fun i hi => ((cg (tY_uIE hM_244) i).trans ((cg (tY_uIE hM_243) i).trans ((cg (tY_uIE hM_242) i).trans ((cg (tY_uIE hM_241) i).trans ((cg (q_240.1 11 (by decide)) i).trans ((cg (q_237.1 11 (by decide)) i).trans ((cg (q_234.1 11 (by decide)) i).trans ((cg (q_231.1 11 (by decide)) i).trans ((cg (q_228.1 11 (by decide)) i).trans ((cg (q_225.1 11 (by decide)) i).trans ((q_222.2.1 i hi).trans ((cg (q_219.1 11 (by decide)) _).trans ((cg (q_216.1 11 (by decide)) _).trans ((cg (q_213.1 11 (by decide)) _).trans ((cg (q_210.1 11 (by decide)) _).trans ((cg (q_207.1 11 (by decide)) _).trans ((cg (q_204.1 11 (by decide)) _).trans ((cg (q_201.1 11 (by decide)) _).trans ((cg (q_198.1 11 (by decide)) _).trans ((cg (tY_uIE hM_190) _).trans (cg (tY_uIE hM_185) _)))))))))))))))))))))) (fun i hi => ((cg (tY_uIE hM_244) i).trans ((cg (tY_uIE hM_243) i).trans ((cg (tY_uIE hM_242) i).trans ((cg (tY_uIE hM_241) i).trans ((cg (q_240.1 12 (by decide)) i).trans ((cg (q_237.1 12 (by decide)) i).trans ((cg (q_234.1 12 (by decide)) i).trans ((cg (q_231.1 12 (by decide)) i).trans ((cg (q_228.1 12 (by decide)) i).trans ((q_225.2.1 i hi).trans ((cg (q_222.1 12 (by decide)) _).trans ((cg (q_219.1 12 (by decide)) _).trans ((cg (q_216.1 12 (by decide)) _).trans ((cg (q_213.1 12 (by decide)) _).trans ((cg (q_210.1 12 (by decide)) _).trans ((cg (q_207.1 12 (by decide)) _).trans ((cg (q_204.1 12 (by decide)) _).trans ((cg (q_201.1 12 (by decide)) _).trans ((cg (q_198.1 12 (by decide)) _).trans ((cg (tY_uIE hM_190) _).trans (cg (tY_uIE hM_185) _)))))))))))))))))))))) (fun i hi => ((cg (tY_uIE hM_244) i).trans ((cg (tY_uIE hM_243) i).trans ((cg (tY_uIE hM_242) i).trans ((cg (tY_uIE hM_241) i).trans ((cg (q_240.1 13 (by decide)) i).trans ((cg (q_237.1 13 (by decide)) i).trans ((cg (q_234.1 13 (by decide)) i).trans ((cg (q_231.1 13 (by decide)) i).trans ((q_228.2.1 i hi).trans ((cg (q_225.1 13 (by decide)) _).trans ((cg (q_222.1 13 (by decide)) _).trans ((cg (q_219.1 13 (by decide)) _).trans ((cg (q_216.1 13 (by decide)) _).trans ((cg (q_213.1 13 (by decide)) _).trans ((cg (q_210.1 13 (by decide)) _).trans ((cg (q_207.1 13 (by decide)) _).trans ((cg (q_204.1 13 (by decide)) _).trans ((cg (q_201.1 13 (by decide)) _).trans ((cg (q_198.1 13 (by decide)) _).trans ((cg (tY_uIE hM_190) _).trans (cg (tY_uIE hM_185) _)))))))))))))))))))))) (fun i hi => ((cg (tY_uIE hM_244) i).trans ((cg (tY_uIE hM_243) i).trans ((cg (tY_uIE hM_242) i).trans ((cg (tY_uIE hM_241) i).trans ((cg (q_240.1 14 (by decide)) i).trans ((cg (q_237.1 14 (by decide)) i).trans ((cg (q_234.1 14 (by decide)) i).trans ((q_231.2.1 i hi).trans ((cg (q_228.1 14 (by decide)) _).trans ((cg (q_225.1 14 (by decide)) _).trans ((cg (q_222.1 14 (by decide)) _).trans ((cg (q_219.1 14 (by decide)) _).trans ((cg (q_216.1 14 (by decide)) _).trans ((cg (q_213.1 14 (by decide)) _).trans ((cg (q_210.1 14 (by decide)) _).trans ((cg (q_207.1 14 (by decide)) _).trans ((cg (q_204.1 14 (by decide)) _).trans ((cg (q_201.1 14 (by decide)) _).trans ((cg (q_198.1 14 (by decide)) _).trans ((cg (tY_uIE hM_190) _).trans (cg (tY_uIE hM_185) _)))))))))))))))))))))) (fun i hi => ((cg (tY_uIE hM_244) i).trans ((cg (tY_uIE hM_243) i).trans ((cg (tY_uIE hM_242) i).trans ((cg (tY_uIE hM_241) i).trans ((cg (q_240.1 15 (by decide)) i).trans ((cg (q_237.1 15 (by decide)) i).trans ((q_234.2.1 i hi).trans ((cg (q_231.1 15 (by decide)) _).trans ((cg (q_228.1 15 (by decide)) _).trans ((cg (q_225.1 15 (by decide)) _).trans ((cg (q_222.1 15 (by decide)) _).trans ((cg (q_219.1 15 (by decide)) _).trans ((cg (q_216.1 15 (by decide)) _).trans ((cg (q_213.1 15 (by decide)) _).trans ((cg (q_210.1 15 (by decide)) _).trans ((cg (q_207.1 15 (by decide)) _).trans ((cg (q_204.1 15 (by decide)) _).trans ((cg (q_201.1 15 (by decide)) _).trans ((cg (q_198.1 15 (by decide)) _).trans ((cg (tY_uIE hM_190) _).trans (cg (tY_uIE hM_185) _)))))))))))))))))))))) (fun i hi => ((cg (tY_uIE hM_244) i).trans ((cg (tY_uIE hM_243) i).trans ((cg (tY_uIE hM_242) i).trans ((cg (tY_uIE hM_241) i).trans ((cg (q_240.1 16 (by decide)) i).trans ((q_237.2.1 i hi).trans ((cg (q_234.1 16 (by decide)) _).trans ((cg (q_231.1 16 (by decide)) _).trans ((cg (q_228.1 16 (by decide)) _).trans ((cg (q_225.1 16 (by decide)) _).trans ((cg (q_222.1 16 (by decide)) _).trans ((cg (q_219.1 16 (by decide)) _).trans ((cg (q_216.1 16 (by decide)) _).trans ((cg (q_213.1 16 (by decide)) _).trans ((cg (q_210.1 16 (by decide)) _).trans ((cg (q_207.1 16 (by decide)) _).trans ((cg (q_204.1 16 (by decide)) _).trans ((cg (q_201.1 16 (by decide)) _).trans ((cg (q_198.1 16 (by decide)) _).trans ((cg (tY_uIE hM_190) _).trans (cg (tY_uIE hM_185) _)))))))))))))))))))))) (fun i hi => ((cg (tY_uIE hM_244) i).trans ((cg (tY_uIE hM_243) i).trans ((cg (tY_uIE hM_242) i).trans ((cg (tY_uIE hM_241) i).trans ((q_240.2.1 i hi).trans ((cg (q_237.1 17 (by decide)) _).trans ((cg (q_234.1 17 (by decide)) _).trans ((cg (q_231.1 17 (by decide)) _).trans ((cg (q_228.1 17 (by decide)) _).trans ((cg (q_225.1 17 (by decide)) _).trans ((cg (q_222.1 17 (by decide)) _).trans ((cg (q_219.1 17 (by decide)) _).trans ((cg (q_216.1 17 (by decide)) _).trans ((cg (q_213.1 17 (by decide)) _).trans ((cg (q_210.1 17 (by decide)) _).trans ((cg (q_207.1 17 (by decide)) _).trans ((cg (q_204.1 17 (by decide)) _).trans ((cg (q_201.1 17 (by decide)) _).trans ((cg (q_198.1 17 (by decide)) _).trans ((cg (tY_uIE hM_190) _).trans (cg (tY_uIE hM_185) _))))))))))))))))))))))
              have tW9 : tW (tX (pp_tx B nn.toInt.toNat J) (qq_tx B nn.toInt.toNat J K0)) := by rw [E9, EQ9]; exact tW_hv tl_130 hs_128 h4b iM_123
              have tX4 : 0 ≤ (tX (pp_tx B nn.toInt.toNat J) (qq_tx B nn.toInt.toNat J K0)) 4 ∧ (tX (pp_tx B nn.toInt.toNat J) (qq_tx B nn.toInt.toNat J K0)) 4 ≤ 8 := tR_4 tR9 (iM_244)
              refine ti_callVv (ci := 10) (av := []) C hw (z_X10_begins l D A cy hJ M_244 iM_244 (tX (pp_tx B nn.toInt.toNat J) (qq_tx B nn.toInt.toNat J K0)) J2 tR9 tX4) ⟨ml_X10_151, ym_X10_begins, yv_X10_begins, yi_X10_begins, yc_X10_begins⟩ yd_X10_begins ob_60 (by decide) rfl rfl hl.1 (Nat.le_of_ble_eq_true rfl) ⟨by decide, by decide⟩ ⟨Nat.zero_le _, Nat.zero_le _⟩ dX10_text_345 (fun M_246 H locs hp_246 hw => ?_)
              obtain ⟨q_247, q_248, q_249, iM_246, q_250, q_251, q_252⟩ := hp_246
              have y19 : tI M_246 60 19 = tI M_123 60 19 := (((q_247.1 19 (by decide))).trans ((tI_nE hM_244 (nk (by decide))).trans ((tI_nE hM_243 (nk (by decide))).trans ((tI_nE hM_242 (nk (by decide))).trans ((tI_nE hM_241 (nk (by decide))).trans ((q_240.2.2 19).trans ((q_237.2.2 19).trans ((q_234.2.2 19).trans ((q_231.2.2 19).trans ((q_228.2.2 19).trans ((q_225.2.2 19).trans ((q_222.2.2 19).trans ((q_219.2.2 19).trans ((q_216.2.2 19).trans ((q_213.2.2 19).trans ((q_210.2.2 19).trans ((q_207.2.2 19).trans ((q_204.2.2 19).trans ((q_201.2.2 19).trans ((q_198.2.2 19).trans ((tI_nE hM_190 (nk (by decide))).trans (tI_nE hM_185 (nk (by decide))))))))))))))))))))))))
              refine lv_aload_n hx hb dX10_text_348 rfl (lv_at hl 1 rfl) ?_
              refine ti_get (ci := 10) (k := 19) (N := 67) (T := TX10) C hw iw_10 rfl ob_60 (by decide) (by decide) fl_X10_254 rfl rfl dX10_text_349 ?_
              refine lv_topi (fun x_253 ex_253 => ?_)
              have um9 : mU M_190 := ((um_l0 j_144 (l0.trans (l0_I hM_190 (by decide)) (l0_I hM_185 (by decide))) (by omega))).resolve_left (by omega)
              have mL9 : mL M_244 := mL_hv iM_190 um9 (fun i hi => ((cg (tY_uIE hM_244) i).trans ((cg (tY_uIE hM_243) i).trans ((cg (tY_uIE hM_242) i).trans ((cg (tY_uIE hM_241) i).trans ((cg (q_240.1 14 (by decide)) i).trans ((cg (q_237.1 14 (by decide)) i).trans ((cg (q_234.1 14 (by decide)) i).trans ((q_231.2.1 i hi).trans ((cg (q_228.1 14 (by decide)) _).trans ((cg (q_225.1 14 (by decide)) _).trans ((cg (q_222.1 14 (by decide)) _).trans ((cg (q_219.1 14 (by decide)) _).trans ((cg (q_216.1 14 (by decide)) _).trans ((cg (q_213.1 14 (by decide)) _).trans ((cg (q_210.1 14 (by decide)) _).trans ((cg (q_207.1 14 (by decide)) _).trans ((cg (q_204.1 14 (by decide)) _).trans ((cg (q_201.1 14 (by decide)) _).trans (cg (q_198.1 14 (by decide)) _)))))))))))))))))))) (fun i hi => ((cg (tY_uIE hM_244) i).trans ((cg (tY_uIE hM_243) i).trans ((cg (tY_uIE hM_242) i).trans ((cg (tY_uIE hM_241) i).trans ((cg (q_240.1 15 (by decide)) i).trans ((cg (q_237.1 15 (by decide)) i).trans ((q_234.2.1 i hi).trans ((cg (q_231.1 15 (by decide)) _).trans ((cg (q_228.1 15 (by decide)) _).trans ((cg (q_225.1 15 (by decide)) _).trans ((cg (q_222.1 15 (by decide)) _).trans ((cg (q_219.1 15 (by decide)) _).trans ((cg (q_216.1 15 (by decide)) _).trans ((cg (q_213.1 15 (by decide)) _).trans ((cg (q_210.1 15 (by decide)) _).trans ((cg (q_207.1 15 (by decide)) _).trans ((cg (q_204.1 15 (by decide)) _).trans ((cg (q_201.1 15 (by decide)) _).trans (cg (q_198.1 15 (by decide)) _)))))))))))))))))))) (fun i hi => ((cg (tY_uIE hM_244) i).trans ((cg (tY_uIE hM_243) i).trans ((cg (tY_uIE hM_242) i).trans ((cg (tY_uIE hM_241) i).trans ((cg (q_240.1 16 (by decide)) i).trans ((q_237.2.1 i hi).trans ((cg (q_234.1 16 (by decide)) _).trans ((cg (q_231.1 16 (by decide)) _).trans ((cg (q_228.1 16 (by decide)) _).trans ((cg (q_225.1 16 (by decide)) _).trans ((cg (q_222.1 16 (by decide)) _).trans ((cg (q_219.1 16 (by decide)) _).trans ((cg (q_216.1 16 (by decide)) _).trans ((cg (q_213.1 16 (by decide)) _).trans ((cg (q_210.1 16 (by decide)) _).trans ((cg (q_207.1 16 (by decide)) _).trans ((cg (q_204.1 16 (by decide)) _).trans ((cg (q_201.1 16 (by decide)) _).trans (cg (q_198.1 16 (by decide)) _)))))))))))))))))))) (fun i hi => ((cg (tY_uIE hM_244) i).trans ((cg (tY_uIE hM_243) i).trans ((cg (tY_uIE hM_242) i).trans ((cg (tY_uIE hM_241) i).trans ((q_240.2.1 i hi).trans ((cg (q_237.1 17 (by decide)) _).trans ((cg (q_234.1 17 (by decide)) _).trans ((cg (q_231.1 17 (by decide)) _).trans ((cg (q_228.1 17 (by decide)) _).trans ((cg (q_225.1 17 (by decide)) _).trans ((cg (q_222.1 17 (by decide)) _).trans ((cg (q_219.1 17 (by decide)) _).trans ((cg (q_216.1 17 (by decide)) _).trans ((cg (q_213.1 17 (by decide)) _).trans ((cg (q_210.1 17 (by decide)) _).trans ((cg (q_207.1 17 (by decide)) _).trans ((cg (q_204.1 17 (by decide)) _).trans ((cg (q_201.1 17 (by decide)) _).trans (cg (q_198.1 17 (by decide)) _))))))))))))))))))))
              exact hQ _ _ _ _ _ _ hw rfl (Or.inr ⟨by omega, ((q_247.1 2 (by decide)).trans ((tI_nE hM_244 (nk (by decide))).trans ((tI_nE hM_243 (nk (by decide))).trans ((tI_nE hM_242 (nk (by decide))).trans ((tI_nE hM_241 (nk (by decide))).trans ((q_240.2.2 2).trans ((q_237.2.2 2).trans ((q_234.2.2 2).trans ((q_231.2.2 2).trans ((q_228.2.2 2).trans ((q_225.2.2 2).trans ((q_222.2.2 2).trans ((q_219.2.2 2).trans ((q_216.2.2 2).trans ((q_213.2.2 2).trans ((q_210.2.2 2).trans ((q_207.2.2 2).trans ((q_204.2.2 2).trans ((q_201.2.2 2).trans ((q_198.2.2 2).trans ((tI_nE hM_190 (nk (by decide))).trans ((tI_nE hM_185 (nk (by decide))).trans f_126)))))))))))))))))))))), mF_self (mF_st iM_246 mL9 q_250 q_251 q_252 ((tI_nE hM_244 (nk (by decide))).trans (tI_uE hM_243)) (tI_uE hM_244)), (by rw [E9]; unfold pp_an; rw [if_pos h4]; exact (congrArg Int32.toInt (ex_253.symm)).symm.trans ((congrArg Int32.toInt y19).trans ((hs_128.2.2.2 h4).2.2.1.2.2).symm)), ((congrArg Int32.toInt ((q_247.1 27 (by decide)).trans ((tI_nE hM_244 (nk (by decide))).trans ((tI_nE hM_243 (nk (by decide))).trans ((tI_nE hM_242 (nk (by decide))).trans ((tI_nE hM_241 (nk (by decide))).trans ((q_240.2.2 27).trans ((q_237.2.2 27).trans ((q_234.2.2 27).trans ((q_231.2.2 27).trans ((q_228.2.2 27).trans ((q_225.2.2 27).trans ((q_222.2.2 27).trans ((q_219.2.2 27).trans ((q_216.2.2 27).trans ((q_213.2.2 27).trans ((q_210.2.2 27).trans ((q_207.2.2 27).trans ((q_204.2.2 27).trans ((q_201.2.2 27).trans ((q_198.2.2 27).trans ((tI_nE hM_190 (nk (by decide))).trans (tI_uE hM_185))))))))))))))))))))))).trans ((congrArg Int32.toInt (ex_146.symm)).symm.trans (by rw [E9]; exact hs_128.2.1.symm))), ((congrArg Int32.toInt ((q_247.1 28 (by decide)).trans ((tI_nE hM_244 (nk (by decide))).trans ((tI_nE hM_243 (nk (by decide))).trans ((tI_nE hM_242 (nk (by decide))).trans ((tI_nE hM_241 (nk (by decide))).trans ((q_240.2.2 28).trans ((q_237.2.2 28).trans ((q_234.2.2 28).trans ((q_231.2.2 28).trans ((q_228.2.2 28).trans ((q_225.2.2 28).trans ((q_222.2.2 28).trans ((q_219.2.2 28).trans ((q_216.2.2 28).trans ((q_213.2.2 28).trans ((q_210.2.2 28).trans ((q_207.2.2 28).trans ((q_204.2.2 28).trans ((q_201.2.2 28).trans ((q_198.2.2 28).trans (tI_uE hM_190)))))))))))))))))))))).trans ((congrArg Int32.toInt (ex_189.symm)).symm.trans (by rw [tI_nE hM_185 (nk (by decide)), E9]; exact hs_128.2.2.1.1.symm))), (fun q => absurd ((congrFun E9 4).trans h4) q), (fun _ => ⟨by rw [E9]; exact ⟨(hs_128.2.2.2 h4).2.2.1.1.trans (congrArg Int32.toInt ((cg (q_250.1 3 (by decide) (by decide)) 0).trans ((cg (tY_uIE hM_244) 0).trans ((cg (tY_uIE hM_243) 0).trans ((cg (tY_uIE hM_242) 0).trans ((cg (tY_uIE hM_241) 0).trans ((cg (q_240.1 3 (by decide)) 0).trans ((cg (q_237.1 3 (by decide)) 0).trans ((cg (q_234.1 3 (by decide)) 0).trans ((cg (q_231.1 3 (by decide)) 0).trans ((cg (q_228.1 3 (by decide)) 0).trans ((cg (q_225.1 3 (by decide)) 0).trans ((cg (q_222.1 3 (by decide)) 0).trans ((cg (q_219.1 3 (by decide)) 0).trans ((cg (q_216.1 3 (by decide)) 0).trans ((cg (q_213.1 3 (by decide)) 0).trans ((cg (q_210.1 3 (by decide)) 0).trans ((cg (q_207.1 3 (by decide)) 0).trans ((cg (q_204.1 3 (by decide)) 0).trans ((cg (q_201.1 3 (by decide)) 0).trans ((q_198.2.1 0 (by decide)).trans ((cg (tY_uIE hM_190) _).trans (cg (tY_uIE hM_185) _))))))))))))))))))))))).symm, fun i hi hl => ((hs_128.2.2.2 h4).2.2.2.1 i hi hl).1.trans (congrArg Int32.toInt ((cg (q_250.1 4 (by decide) (by decide)) i).trans ((cg (tY_uIE hM_244) i).trans ((cg (tY_uIE hM_243) i).trans ((cg (tY_uIE hM_242) i).trans ((cg (tY_uIE hM_241) i).trans ((cg (q_240.1 4 (by decide)) i).trans ((cg (q_237.1 4 (by decide)) i).trans ((cg (q_234.1 4 (by decide)) i).trans ((cg (q_231.1 4 (by decide)) i).trans ((cg (q_228.1 4 (by decide)) i).trans ((cg (q_225.1 4 (by decide)) i).trans ((cg (q_222.1 4 (by decide)) i).trans ((cg (q_219.1 4 (by decide)) i).trans ((cg (q_216.1 4 (by decide)) i).trans ((cg (q_213.1 4 (by decide)) i).trans ((cg (q_210.1 4 (by decide)) i).trans ((cg (q_207.1 4 (by decide)) i).trans ((cg (q_204.1 4 (by decide)) i).trans ((q_201.2.1 i hi).trans ((cg (q_198.1 4 (by decide)) _).trans ((cg (tY_uIE hM_190) _).trans (cg (tY_uIE hM_185) _))))))))))))))))))))))).symm⟩, tW9, tR_lw tR9 (eR_lw q_247), q_248, q_249, ((q_247.1 51 (by decide)).trans ((tI_nE hM_244 (nk (by decide))).trans (tI_uE hM_243))), ((q_247.1 52 (by decide)).trans (tI_uE hM_244)), ((q_247.1 53 (by decide)).trans ((tI_nE hM_244 (nk (by decide))).trans ((tI_nE hM_243 (nk (by decide))).trans ((tI_nE hM_242 (nk (by decide))).trans ((tI_nE hM_241 (nk (by decide))).trans ((q_240.2.2 53).trans ((q_237.2.2 53).trans ((q_234.2.2 53).trans ((q_231.2.2 53).trans ((q_228.2.2 53).trans ((q_225.2.2 53).trans ((q_222.2.2 53).trans ((q_219.2.2 53).trans ((q_216.2.2 53).trans ((q_213.2.2 53).trans ((q_210.2.2 53).trans ((q_207.2.2 53).trans ((q_204.2.2 53).trans ((q_201.2.2 53).trans ((q_198.2.2 53).trans ((tI_nE hM_190 (nk (by decide))).trans ((tI_nE hM_185 (nk (by decide))).trans (f_124.2.2.2.2 53 (by decide)))))))))))))))))))))))), ((q_247.1 58 (by decide)).trans ((tI_nE hM_244 (nk (by decide))).trans ((tI_nE hM_243 (nk (by decide))).trans ((tI_nE hM_242 (nk (by decide))).trans (tI_uE hM_241))))), ((q_247.1 59 (by decide)).trans ((tI_nE hM_244 (nk (by decide))).trans ((tI_nE hM_243 (nk (by decide))).trans (tI_uE hM_242))))⟩)⟩) dX10_text_352
            · have hs : pg M_123 = 2 * (tI M_123 60 21).toInt := pg_3 (by rw [(ex_150.symm)]; exact c_184_150)
              have rr0 := rQ_g0 hs_128 (show ff M_123 = 1 by omega)
              have n27 : g_127 0 ≠ 27 := fun q => by have e := (pt_Tnm (rQ_T hs_128 (by omega))).2.2.2.2.2 q; rw [(ex_150.symm)] at e; exact c_184_150 e
              have a3 := (hs_128.2.2.2 rr0).2.1
              refine lv_aload_n hx hb dX10_text_187 rfl (lv_at hl 1 rfl) ?_
              refine ti_callVvE (ci := 10) (av := []) C hE hw (x_X10_line l D A cy hJ M_123 iM_123 (by omega) j_144 (by omega) (by omega) hs B nn.toInt.toNat g_127 hs_128 (by omega) d_129 tl_130) ⟨ml_X10_300, ym_X10_line, yv_X10_line, yi_X10_line, yc_X10_line⟩ yd_X10_line ob_60 (by decide) rfl rfl hl.1 (Nat.le_of_ble_eq_true rfl) ⟨by decide, by decide⟩ ⟨Nat.zero_le _, Nat.zero_le _⟩ dX10_text_188 (fun M_153 H locs hp_153 hw => ?_)
              obtain ⟨gu_156, tl_154, hp_155⟩ := hp_153
              obtain ⟨hs_157, hp_158⟩ := hp_155
              obtain ⟨iM_153, q_159, z_160, z_161, z_162, z_163, z_164, z_165, z_166, z_167, z_168, z_169, z_170, u_171⟩ := hp_158
              obtain ⟨g_172, eg_172⟩ : ∃ z : Nat → Int, z = pp_ln B nn.toInt.toNat g_127 := ⟨_, rfl⟩
              rw [← eg_172] at hs_157
              have n9 : g_172 9 = g_127 9 + 1 := by rw [eg_172]; exact ln_9
              obtain ⟨d_173, ed_173⟩ : ∃ z : Nat → Int, z = qq_lb B nn.toInt.toNat g_127 d_129 := ⟨_, rfl⟩
              rw [← ed_173] at tl_154
              refine lv_goto (tgt := 172) hx hb dX10_text_191 (by decide) ?_
              exact ih_145 M_153 g_172 d_173 _ _ _ (by omega) iM_153 (lx.trans (lx_ln q_159) f_124) (gU.trans gu_156 f_125) ((q_159.2.2.2.2 2 (by decide)).trans f_126) hs_157 tl_154 (j_131.trans (rd_step ⟨n27, rr0⟩ eg_172 (by omega))) (j_132.trans (qrd_step ⟨n27, rr0⟩ eg_172 ed_173 (by omega))) (by first | omega | decide) (by first | omega | decide) (by first | omega | decide) (by first | omega | decide) (by first | omega | decide) (by first | omega | decide) (by first | omega | decide) (by first | omega | decide) (by first | omega | decide) (by first | omega | decide) (by first | omega | decide) u_171 hw (lv_sub hl [0, 1, 2] rfl)
      exact hl_172_144 ((1401 - pg M_111 + ff M_111 : Int).toNat + 1) M_111 g_121 (qq_cl K0) _ _ _ (Nat.lt_succ_self _) iM_111 (lx.trans (lx_ln (ln_l0 (l0_pr q_114 (by decide) (by decide)))) (lx.trans (lx_I hM_109 (by decide)) (lx.trans (lx_I hM_108 (by decide)) (lx.trans (lx_I hM_107 (by decide)) (lx.trans (lx_I hM_106 (by decide)) (lx.trans (lx_ln (ln_15 hM_104 (by decide))) (lx.trans (lx_ln (ln_14 hM_103 (by decide))) (lx.trans (lx_ln (ln_15 hM_101 (by decide))) (lx.trans (lx_ln (ln_14 hM_100 (by decide))) (lx.trans (lx_ln (ln_15 hM_98 (by decide))) (lx.trans (lx_ln (ln_14 hM_97 (by decide))) (lx.trans (lx_3 hM_94 (by decide)) (lx.trans (lx_3 hM_88 (by decide)) (lx.trans (lx_3 hM_79 (by decide)) (lx.trans (lx_3 hM_70 (by decide)) (lx.trans (lx_3 hM_61 (by decide)) (lx.trans (lx_3 hM_52 (by decide)) (lx.trans (lx_3 hM_43 (by decide)) (lx.trans (lx_3 hM_35 (by decide)) (lx.trans (lx_3 hM_28 (by decide)) (lx.trans (lx_3 hM_23 (by decide)) (lx.trans (lx_3 hM_19 (by decide)) (lx.trans (lx_I hM_10 (by decide)) (lx.trans (lx_I hM_9 (by decide)) (lx.trans (lx_I hM_8 (by decide)) (lx.trans (lx_I hM_7 (by decide)) (lx.trans (lx_I hM_6 (by decide)) (lx_I hM_1 (by decide))))))))))))))))))))))))))))) (gU.trans (gU_e q_114.1) (gU.trans (gU_e (ry_I hM_109)) (gU.trans (gU_e (ry_I hM_108)) (gU.trans (gU_e (ry_I hM_107)) (gU.trans (gU_e (ry_I hM_106)) (gU.trans (gU_Yx hM_104 (by decide)) (gU.trans (gU_Yx hM_103 (by decide)) (gU.trans (gU_Yx hM_101 (by decide)) (gU.trans (gU_Yx hM_100 (by decide)) (gU.trans (gU_Yx hM_98 (by decide)) (gU.trans (gU_Yx hM_97 (by decide)) (gU.trans (gU_Yx hM_94 (by decide)) (gU.trans (gU_Yx hM_88 (by decide)) (gU.trans (gU_Yx hM_79 (by decide)) (gU.trans (gU_Yx hM_70 (by decide)) (gU.trans (gU_Yx hM_61 (by decide)) (gU.trans (gU_Yx hM_52 (by decide)) (gU.trans (gU_Yx hM_43 (by decide)) (gU.trans (gU_Yx hM_35 (by decide)) (gU.trans (gU_Yx hM_28 (by decide)) (gU.trans (gU_Yx hM_23 (by decide)) (gU.trans (gU_Yx hM_19 (by decide)) (gU.trans (gU_e (ry_I hM_10)) (gU.trans (gU_e (ry_I hM_9)) (gU.trans (gU_e (ry_I hM_8)) (gU.trans (gU_e (ry_I hM_7)) (gU.trans (gU_e (ry_I hM_6)) (gU_e (ry_I hM_1))))))))))))))))))))))))))))) ((q_114.2 2 (by decide)).trans ((tI_nE hM_109 (nk (by decide))).trans ((tI_nE hM_108 (nk (by decide))).trans ((tI_nE hM_107 (nk (by decide))).trans ((tI_nE hM_106 (nk (by decide))).trans ((tI_uYE hM_104).trans ((tI_uYE hM_103).trans ((tI_uYE hM_101).trans ((tI_uYE hM_100).trans ((tI_uYE hM_98).trans ((tI_uYE hM_97).trans ((tI_uYE hM_94).trans ((tI_uYE hM_88).trans ((tI_uYE hM_79).trans ((tI_uYE hM_70).trans ((tI_uYE hM_61).trans ((tI_uYE hM_52).trans ((tI_uYE hM_43).trans ((tI_uYE hM_35).trans ((tI_uYE hM_28).trans ((tI_uYE hM_23).trans ((tI_uYE hM_19).trans ((tI_nE hM_10 (nk (by decide))).trans ((tI_nE hM_9 (nk (by decide))).trans ((tI_nE hM_8 (nk (by decide))).trans (tI_uE hM_7)))))))))))))))))))))))))) hs0 tl_122 (by unfold pp_tx; rw [← eg_121, n0]; rfl) (by unfold qq_tx; rw [← eg_121, n0]; rfl) (by first | omega | decide) (by first | omega | decide) (by first | omega | decide) (by first | omega | decide) (by first | omega | decide) (by first | omega | decide) (by first | omega | decide) (by first | omega | decide) (by first | omega | decide) (by first | omega | decide) (by first | omega | decide) (um_l0 fu (l0_pr q_114 (by decide) (by decide)) (by omega)) hw (lv_sub hl [0, 1, 2] rfl)
    · exact hj_17_5  _ _ _ (by first | omega | decide) hw (lv_sub hl [0, 1] rfl)
end
section
variable {Tc : gC} {Tm : gM}
variable {Tc : gC}
/-- a queue's registers, whatever it holds -/
def qQ (q : Nat) (M : ti_M) : Nat → Int := fun j => if j < 96 then (tI M q j).toInt else (tY M q (j / 16) (j % 16)).toInt
theorem qC_Q {q : Nat} {M : ti_M} : qC q (qQ q M) M := by
  refine ⟨fun k h1 h2 => ?_, fun k i h1 h2 hi h7 => ?_⟩
  · unfold qQ; rw [if_pos (by omega)]
  · unfold qQ; rw [if_neg (by omega), show (16 * k + i) / 16 = k by omega, show (16 * k + i) % 16 = i by omega]
theorem tC_rq {B : Nat → Int} {n t : Nat} {s td : Nat → Int} {M : ti_M} (h : rC B n t s M) (g : tq t td M) : tC t (tX s td) M := by
  refine ⟨fun k h1 h2 => ?_, fun i hi => ?_, fun i k hi h1 h2 => ?_, fun j hj => ⟨?_, fun m hm => ?_⟩⟩
  · by_cases a : k = 4
    · subst a; rw [tX_4]; exact h.2.2.2.1.1
    · by_cases b : k = 5
      · subst b; rw [tX_5]; exact h.2.2.2.1.2.1
      · rw [tX_o a b (by omega)]; exact g.1 k (by omega) h2
  · rw [tX_o (by omega) (by omega) (by omega)]; exact g.2.1 i hi
  · by_cases a : k = 9
    · subst a; rw [tX_9 hi]; exact (h.2.2.2.2 i hi).2
    · rw [tX_o (by omega) (by omega) (by omega)]; exact g.2.2.1 i k hi h1 (by omega)
  · rw [tX_o (by omega) (by omega) (by omega)]; exact (g.2.2.2 j hj).1
  · rw [tX_o (by omega) (by omega) (by omega)]; exact (g.2.2.2 j hj).2 m hm
theorem tC_ot {t1 t2 : Nat} {tx : Nat → Int} {M N : ti_M} (e : t2 = 7 - t1) (ht : t2 = 3 ∨ t2 = 4) (h : tC t1 tx M) (x : ot t2 N M) : tC t1 tx N := by
  have e3 : 7 - t2 = t1 := by omega
  unfold ot at x
  rw [e3] at x
  obtain ⟨x1, x2, x3, x4, -⟩ := x
  refine ⟨fun k h1 h2 => by rw [x1]; exact h.1 k h1 h2, fun i hi => by rw [x3]; exact h.2.1 i hi, fun i k hi h1 h2 => by rw [x2 i k hi]; exact h.2.2.1 i k hi h1 h2, fun j hj => ⟨by rw [(x4 j 3 hj).1]; exact (h.2.2.2 j hj).1, fun n hn => by rw [(x4 j 0 hj).2]; exact (h.2.2.2 j hj).2 n hn⟩⟩
theorem fX_50 {N M : ti_M} (E : eo 50 N M) : fX N M := fun k => ⟨E.1 0 k (by decide), E.1 2 k (by decide), E.1 28 k (by decide), fun o h => E.1 o k (by omega)⟩
set_option maxHeartbeats 4000000 in
set_option maxRecDepth 100000 in
theorem z_X6_clear (l : Launch) (D : va_G) (A : Nat → Nat → Nat) (cy : Nat → ClassId) (hJ : ti_inj ti_LT A) (M : ti_M) (hI : cI Tc M)  : ti_Kv l yX6_clear cX6_clear 1 0 ti_LT D A cy M [.ref (A 50 0)] (fun M2 => cI (cG M2) M2 ∧ M2.2.2.2 = M.2.2.2 ∧ eo 50 M2 M ∧ tI M2 50 5 = 0 ∧ tI M2 50 6 = -1) := by
  refine ti_eV yp_X6_clear hJ ti_LT_nd (Nat.le_of_ble_eq_true rfl) ?_
  intro p e s m args below meth c Q H0 C hQ hw ls hl
  have hx := C.1
  have hb := C.2.1
  have hl : lv_has ls 1 [(0, .ref (A 50 0))] := hl
  refine lv_aload_n hx hb dX6_clear_0 rfl (lv_at hl 0 rfl) ?_
  refine lv_iconst (v := 0) hx hb dX6_clear_1 (by decide) ?_
  refine ti_putI (ci := 6) (k := 5) (N := 13) (T := TX6) C hw iw_6 tyX6 tyX6_ok nmX6 rfl ob_50 (by decide) (by decide) fl_X6_28 rfl rfl rfl rfl (fn_6 A _) fs_6_5 dX6_clear_2 (fun H locs hw => ?_)
  obtain ⟨M_1, hM_1⟩ : ∃ z : ti_M, z = uI M 50 5 0 := ⟨_, rfl⟩
  have hw := hw.to hM_1.symm
  have iM_1 : cI (cG M_1) M_1 := cI_gI hI hM_1 ob_50.1 (ib_mk (lo := 0) (hi := 24) (by decide) (by decide))
  have vM_1 : (tI M_1 50 5).toInt = 0 := by rw [tI_uE hM_1]; decide
  refine lv_aload_n hx hb dX6_clear_5 rfl (lv_at hl 0 rfl) ?_
  refine lv_iconst (v := (-1)) hx hb dX6_clear_6 (by decide) ?_
  refine ti_putI (ci := 6) (k := 6) (N := 13) (T := TX6) C hw iw_6 tyX6 tyX6_ok nmX6 rfl ob_50 (by decide) (by decide) fl_X6_31 rfl rfl rfl rfl (fn_6 A _) fs_6_6 dX6_clear_7 (fun H locs hw => ?_)
  obtain ⟨M_2, hM_2⟩ : ∃ z : ti_M, z = uI M_1 50 6 (-1) := ⟨_, rfl⟩
  have hw := hw.to hM_2.symm
  have iM_2 : cI (cG M_2) M_2 := cI_gI iM_1 hM_2 ob_50.1 (ib_mk (lo := (-1)) (hi := 24) (by decide) (by decide))
  have vM_2 : (tI M_2 50 6).toInt = (-1) := by rw [tI_uE hM_2]; decide
  refine lv_aload_n hx hb dX6_clear_10 rfl (lv_at hl 0 rfl) ?_
  refine lv_iconst (v := 0) hx hb dX6_clear_11 (by decide) ?_
  refine ti_putI (ci := 6) (k := 7) (N := 13) (T := TX6) C hw iw_6 tyX6 tyX6_ok nmX6 rfl ob_50 (by decide) (by decide) fl_X6_34 rfl rfl rfl rfl (fn_6 A _) fs_6_7 dX6_clear_12 (fun H locs hw => ?_)
  obtain ⟨M_3, hM_3⟩ : ∃ z : ti_M, z = uI M_2 50 7 0 := ⟨_, rfl⟩
  have hw := hw.to hM_3.symm
  have iM_3 : cI (cG M_2) M_3 := cI_uI iM_2 hM_3 ob_50.1 trivial
  exact hQ _ _ _ _ _ hw (⟨cI_self iM_3, ((rf_I hM_3).trans ((rf_I hM_2).trans (rf_I hM_1))), (eo.trans (eo_I hM_3) (eo.trans (eo_I hM_2) (eo_I hM_1))), ((tI_nE hM_3 (nk (by decide))).trans ((tI_nE hM_2 (nk (by decide))).trans (tI_uE hM_1))), ((tI_nE hM_3 (nk (by decide))).trans (tI_uE hM_2))⟩) dX6_clear_15
set_option maxHeartbeats 4000000 in
set_option maxRecDepth 100000 in
theorem z_X9_text (l : Launch) (D : va_G) (A : Nat → Nat → Nat) (cy : Nat → ClassId) (hJ : ti_inj ti_LT A) (M : ti_M) (hI : cI Tc M) (hF : cF Tc M) (nn : Int32) (B : Nat → Int) (n : Nat) (hB : B = fun i => (Tc.1 i &&& 255).toInt) (hn : n = nn.toInt.toNat) (rg : Nat → Int) (htd : tdC M rg) : ti_KiE l yX9_text cX9_text 3 (some .int) 74 ti_LT D A cy M [.ref (A 0 0), .int nn] (fun r M2 => ((nn.toInt < 0 ∨ (tI M 2 1).toInt < nn.toInt) ∧ r.toInt = -2 ∧ M2 = M) ∨ (¬ (nn.toInt < 0 ∨ (tI M 2 1).toInt < nn.toInt) ∧ cF (cG M2) M2 ∧ tI M2 2 1 = 0 ∧ ∃ J K : Nat → Int, r.toInt = pp_an (pp_tx B n J) ∧ (tI M2 1 4).toInt = (pp_tx B n J) 4 ∧ (tI M2 1 5).toInt = (pp_tx B n J) 5 ∧ ((pp_tx B n J) 4 ≠ 0 → tdC M2 rg ∧ cG M2 = Tc ∧ rR M2 M ∧ (∀ (t0 : Nat) (tx0 : Nat → Int), tT M 0 1 = some t0 → tC t0 tx0 M → tC t0 tx0 M2) ∧ ∀ o k : Nat, (o = 0 ∨ 26 < o) → tI M2 o k = tI M o k ∧ tY M2 o k = tY M o k) ∧ ((pp_tx B n J) 4 = 0 → tdC M2 (pp_tx B n J) ∧ ∃ t : Nat, (t = 3 ∨ t = 4) ∧ tC t (tX (pp_tx B n J) (qq_tx B n J K)) M2 ∧ tT M2 0 1 = some t ∧ tT M2 27 0 = some t ∧ (∃ rg2 : Nat → Int, qC 27 (bq_s0 (tX (pp_tx B n J) (qq_tx B n J K)) rg2) M2) ∧ tI M2 28 2 = 0 ∧ tI M2 0 7 = 0 ∧ tI M2 50 5 = 0 ∧ tI M2 50 6 = -1))) := by
  refine ti_eIE yp_X9_text hJ ti_LT_nd (Nat.le_of_ble_eq_true rfl) ?_
  intro p e s m args below meth c Q H0 C hE hQ hw ls hl
  have hx := C.1
  have hb := C.2.1
  have hl : lv_has ls 3 [(0, .ref (A 0 0)), (1, .int nn)] := hl
  obtain ⟨-, ⟨t1, ht1, hT1⟩, ⟨t2, ht2, hT2⟩, ⟨t, ht, hT⟩, hS, hM⟩ := id hF
  refine lv_iload_n hx hb dX9_text_0 rfl (lv_at hl 1 rfl) ?_
  refine sb_if_lt (tgt := 18) hx hb rfl dX9_text_1 (by decide) (fun c_1_0 => ?_) (fun c_1_0 => ?_)
  · refine lv_bipush (v := (-2)) hx hb dX9_text_18 (by decide) ?_
    exact hQ _ _ _ _ _ _ hw rfl (Or.inl ⟨by omega, by decide, rfl⟩) dX9_text_20
  · refine lv_iload_n hx hb dX9_text_4 rfl (lv_at hl 1 rfl) ?_
    refine lv_aload_n hx hb dX9_text_5 rfl (lv_at hl 0 rfl) ?_
    refine ti_get (ci := 9) (k := 0) (N := 10) (T := TX9) (v := .ref (A 1 0)) C hw iw_9 rfl ob_0 (by decide) (by decide) fl_X9_12 rfl rfl dX9_text_6 ?_
    refine ti_get (ci := 4) (k := 0) (N := 6) (T := TX4) (v := .ref (A 2 0)) C hw iw_4 rfl ob_1 (by decide) (by decide) fl_X9_69 rfl rfl dX9_text_9 ?_
    refine ti_get (ci := 7) (k := 1) (N := 7) (T := TX7) C hw iw_7 rfl ob_2 (by decide) (by decide) fl_X9_73 rfl rfl dX9_text_12 ?_
    refine lv_topi (fun x_2 ex_2 => ?_)
    have bx_2 : 0 ≤ x_2.toInt ∧ x_2.toInt ≤ 700 := cI_rd hI ob_2.1 ex_2
    have ux_2 : (tI M 2 1).toInt = x_2.toInt := by rw [ex_2]
    refine sb_icmp_le (tgt := 21) hx hb rfl rfl dX9_text_15 (by decide) (fun c_15_2 => ?_) (fun c_15_2 => ?_)
    · refine lv_aload_n hx hb dX9_text_21 rfl (lv_at hl 0 rfl) ?_
      refine ti_get (ci := 9) (k := 0) (N := 10) (T := TX9) (v := .ref (A 1 0)) C hw iw_9 rfl ob_0 (by decide) (by decide) fl_X9_12 rfl rfl dX9_text_22 ?_
      refine ti_get (ci := 4) (k := 0) (N := 6) (T := TX4) (v := .ref (A 2 0)) C hw iw_4 rfl ob_1 (by decide) (by decide) fl_X9_69 rfl rfl dX9_text_25 ?_
      refine lv_iconst (v := 0) hx hb dX9_text_28 (by decide) ?_
      refine ti_putI (ci := 7) (k := 1) (N := 7) (T := TX7) C hw iw_7 tyX7 tyX7_ok nmX7 rfl ob_2 (by decide) (by decide) fl_X9_73 rfl rfl rfl rfl (fn_7 A _) fs_7_1 dX9_text_29 (fun H locs hw => ?_)
      obtain ⟨M_4, hM_4⟩ : ∃ z : ti_M, z = uI M 2 1 0 := ⟨_, rfl⟩
      have hw := hw.to hM_4.symm
      have iM_4 : cI Tc M_4 := cI_uI hI hM_4 ob_2.1 (ib_mk (lo := 0) (hi := 700) (by decide) (by decide))
      have vM_4 : (tI M_4 2 1).toInt = 0 := by rw [tI_uE hM_4]; decide
      refine lv_aload_n hx hb dX9_text_32 rfl (lv_at hl 0 rfl) ?_
      refine ti_get (ci := 9) (k := 0) (N := 10) (T := TX9) (v := .ref (A 1 0)) C hw iw_9 rfl ob_0 (by decide) (by decide) fl_X9_12 rfl rfl dX9_text_33 ?_
      refine lv_iload_n hx hb dX9_text_36 rfl (lv_at hl 1 rfl) ?_
      refine lv_aload_n hx hb dX9_text_37 rfl (lv_at hl 0 rfl) ?_
      refine ti_get (ci := 9) (k := 2) (N := 10) (T := TX9) (v := .ref (A t2 0)) C hw iw_9 rfl ob_0 (by decide) (by decide) fl_X9_23 rfl (ti_Tv ((tT_uIE hM_4).trans hT2)) dX9_text_38 ?_
      refine ti_callViE (ci := 4) (av := [.int nn, .ref (A t2 0)]) C hE hw (x_X4_read l D A cy hJ M_4 iM_4 t2 ht2 nn (by omega) (by omega) B n hB hn) ⟨ml_X9_83, ym_X4_read, yv_X4_read, yi_X4_read, yc_X4_read⟩ yd_X4_read ob_1 (by decide) rfl rfl hl.1 (Nat.le_of_ble_eq_true rfl) ⟨by decide, by decide⟩ ⟨Nat.zero_le _, Nat.zero_le _⟩ dX9_text_41 (fun r_5 M_6 H locs hp_6 hw => ?_)
      obtain ⟨iM_6, q_7, q_8, q_9, q_10, p0r_5⟩ := hp_6
      obtain ⟨J, K, hJr, hJq, hJ4⟩ := p0r_5
      rcases hJ4 with ⟨rfl, hJ4⟩ | ⟨rfl, hJ4⟩
      · refine sb_if_ne (tgt := 49) hx hb (by decide : (1 : Int32).toInt = 1) dX9_text_44 (by decide) (fun c_44_10 => ?_) (fun h => absurd h (by decide))
        refine lv_aload_n hx hb dX9_text_49 rfl (lv_at hl 0 rfl) ?_
        refine ti_get (ci := 9) (k := 1) (N := 10) (T := TX9) (v := .ref (A t1 0)) C hw iw_9 rfl ob_0 (by decide) (by decide) fl_X9_19 rfl (ti_Tv ((q_7 0 1 (by decide)).trans ((tT_uIE hM_4).trans hT1))) dX9_text_50 ?_
        refine lv_astore_n (lv' := [(2, .ref (A t1 0)), (0, .ref (A 0 0)), (1, .int nn)]) hx hb dX9_text_53 rfl hl (by decide) rfl (fun ls hl => ?_)
        refine lv_aload_n hx hb dX9_text_54 rfl (lv_at hl 1 rfl) ?_
        refine lv_aload_n hx hb dX9_text_55 rfl (lv_at hl 1 rfl) ?_
        refine ti_get (ci := 9) (k := 2) (N := 10) (T := TX9) (v := .ref (A t2 0)) C hw iw_9 rfl ob_0 (by decide) (by decide) fl_X9_23 rfl (ti_Tv ((q_7 0 2 (by decide)).trans ((tT_uIE hM_4).trans hT2))) dX9_text_56 ?_
        refine ti_putT (ci := 9) (k := 1) (N := 10) (T := TX9) C hw iw_9 tyX9 tyX9_ok nmX9 rfl ob_0 (by decide) (by decide) fl_X9_19 rfl rfl rfl rfl (fn_9 A _) fs_9_1 dX9_text_59 (fun H locs hw => ?_)
        obtain ⟨M_13, hM_13⟩ : ∃ z : ti_M, z = uT M_6 0 1 (some t2) := ⟨_, rfl⟩
        have hw := hw.to hM_13.symm
        have iM_13 : cI Tc M_13 := cI_uT iM_6 hM_13
        refine lv_aload_n hx hb dX9_text_62 rfl (lv_at hl 1 rfl) ?_
        refine lv_aload_n hx hb dX9_text_63 rfl (lv_at hl 0 rfl) ?_
        refine ti_putT (ci := 9) (k := 2) (N := 10) (T := TX9) C hw iw_9 tyX9 tyX9_ok nmX9 rfl ob_0 (by decide) (by decide) fl_X9_23 rfl rfl rfl rfl (fn_9 A _) fs_9_2 dX9_text_64 (fun H locs hw => ?_)
        obtain ⟨M_14, hM_14⟩ : ∃ z : ti_M, z = uT M_13 0 2 (some t1) := ⟨_, rfl⟩
        have hw := hw.to hM_14.symm
        have iM_14 : cI Tc M_14 := cI_uT iM_13 hM_14
        refine lv_aload_n hx hb dX9_text_67 rfl (lv_at hl 1 rfl) ?_
        refine ti_get (ci := 9) (k := 3) (N := 10) (T := TX9) (v := .ref (A 27 0)) C hw iw_9 rfl ob_0 (by decide) (by decide) fl_X9_29 rfl rfl dX9_text_68 ?_
        refine lv_aload_n hx hb dX9_text_71 rfl (lv_at hl 1 rfl) ?_
        refine ti_get (ci := 9) (k := 1) (N := 10) (T := TX9) (v := .ref (A t2 0)) C hw iw_9 rfl ob_0 (by decide) (by decide) fl_X9_19 rfl (ti_Tv ((tT_nE hM_14 (nk (by decide))).trans (tT_uE hM_13))) dX9_text_72 ?_
        have tCP : tC t2 (tX (pp_tx B n J) (qq_tx B n J K)) M_14 := tC_lo ht2 (tC_rq hJr hJq) (fun o k _ _ => ⟨tI_fr (((ra_T hM_14).trans (ra_T hM_13))), tY_fr (((ry_T hM_14).trans (ry_T hM_13)))⟩)
        refine ti_callVv (ci := 3) (av := [.ref (A t2 0)]) C hw (z_X3_start l D A cy hJ M_14 iM_14 27 t2 ob_27 ht2 (tX (pp_tx B n J) (qq_tx B n J K)) (qQ 27 M_14) tCP qC_Q) ⟨ml_X9_65, ym_X3_start, yv_X3_start, yi_X3_start, yc_X3_start⟩ yd_X3_start ob_27 (by decide) rfl rfl hl.1 (Nat.le_of_ble_eq_true rfl) ⟨by decide, by decide⟩ ⟨Nat.zero_le _, Nat.zero_le _⟩ dX9_text_75 (fun M_16 H locs hp_16 hw => ?_)
        obtain ⟨iM_16, q_17, q_18, p0r_15⟩ := hp_16
        have q_19 := fX_eo q_18
        refine lv_aload_n hx hb dX9_text_78 rfl (lv_at hl 1 rfl) ?_
        refine ti_get (ci := 9) (k := 5) (N := 10) (T := TX9) (v := .ref (A 28 0)) C hw iw_9 rfl ob_0 (by decide) (by decide) fl_X9_40 rfl rfl dX9_text_79 ?_
        refine ti_callVv (ci := 5) (av := []) C hw (s_X5_clear l D A cy hJ M_16 iM_16 ) ⟨ml_X9_87, ym_X5_clear, yv_X5_clear, yi_X5_clear, yc_X5_clear⟩ yd_X5_clear ob_28 (by decide) rfl rfl hl.1 (Nat.le_of_ble_eq_true rfl) ⟨by decide, by decide⟩ ⟨Nat.zero_le _, Nat.zero_le _⟩ dX9_text_82 (fun M_21 H locs hp_21 hw => ?_)
        have hM_21 := hp_21
        have iM_21 : cI Tc M_21 := cI_uI iM_16 hM_21 ob_28.1 (ib_mk (lo := 0) (hi := 20) (by decide) (by decide))
        refine lv_aload_n hx hb dX9_text_85 rfl (lv_at hl 1 rfl) ?_
        refine ti_get (ci := 9) (k := 8) (N := 10) (T := TX9) (v := .ref (A 50 0)) C hw iw_9 rfl ob_0 (by decide) (by decide) fl_X9_54 rfl rfl dX9_text_86 ?_
        refine ti_callVv (ci := 6) (av := []) C hw (z_X6_clear l D A cy hJ M_21 iM_21 ) ⟨ml_X9_90, ym_X6_clear, yv_X6_clear, yi_X6_clear, yc_X6_clear⟩ yd_X6_clear ob_50 (by decide) rfl rfl hl.1 (Nat.le_of_ble_eq_true rfl) ⟨by decide, by decide⟩ ⟨Nat.zero_le _, Nat.zero_le _⟩ dX9_text_89 (fun M_23 H locs hp_23 hw => ?_)
        obtain ⟨iM_23, q_24, q_25, q_26, q_27⟩ := hp_23
        have q_28 := fX_50 q_25
        refine lv_aload_n hx hb dX9_text_92 rfl (lv_at hl 1 rfl) ?_
        refine lv_iconst (v := 0) hx hb dX9_text_93 (by decide) ?_
        refine ti_putI (ci := 9) (k := 7) (N := 10) (T := TX9) C hw iw_9 tyX9 tyX9_ok nmX9 rfl ob_0 (by decide) (by decide) fl_X9_47 rfl rfl rfl rfl (fn_9 A _) fs_9_7 dX9_text_94 (fun H locs hw => ?_)
        obtain ⟨M_29, hM_29⟩ : ∃ z : ti_M, z = uI M_23 0 7 0 := ⟨_, rfl⟩
        have hw := hw.to hM_29.symm
        have iM_29 : cI (cG M_23) M_29 := cI_uI iM_23 hM_29 ob_0.1 trivial
        refine lv_aload_n hx hb dX9_text_97 rfl (lv_at hl 1 rfl) ?_
        refine ti_get (ci := 9) (k := 1) (N := 10) (T := TX9) (v := .ref (A t2 0)) C hw iw_9 rfl ob_0 (by decide) (by decide) fl_X9_19 rfl (ti_Tv ((tT_uIE hM_29).trans ((tT_fr q_24).trans ((tT_uIE hM_21).trans ((tT_fr q_17).trans ((tT_n _ _ _ _ (nk (by decide))).trans ((tT_nE hM_14 (nk (by decide))).trans (tT_uE hM_13)))))))) dX9_text_98 ?_
        refine ti_get (ci := 8) (k := 3) (N := 12) (T := TX8) C hw iw_8 rfl (ob_t ht2) (by decide) (by decide) fl_X9_91 rfl rfl dX9_text_101 ?_
        refine lv_topi (fun x_30 ex_30 => ?_)
        have lo9 : ∀ o k : Nat, 1 ≤ o → o ≤ 27 → tI M_29 o k = tI M_16 o k ∧ tY M_29 o k = tY M_16 o k := fun o k a b => ⟨(tI_nE hM_29 (no (by omega))).trans ((q_25.1 o k (by omega)).trans (tI_nE hM_21 (no (by omega)))), (tY_uIE hM_29).trans ((q_25.2 o k (by omega)).trans (tY_uIE hM_21))⟩
        exact hQ _ _ _ _ _ _ hw rfl (Or.inr ⟨by omega, cF_self (cF_mk iM_29 ⟨t2, ht2, ((tT_uIE hM_29).trans ((tT_fr q_24).trans ((tT_uIE hM_21).trans ((tT_fr q_17).trans ((tT_n _ _ _ _ (nk (by decide))).trans ((tT_nE hM_14 (nk (by decide))).trans (tT_uE hM_13)))))))⟩ ⟨t1, ht1, ((tT_uIE hM_29).trans ((tT_fr q_24).trans ((tT_uIE hM_21).trans ((tT_fr q_17).trans ((tT_n _ _ _ _ (nk (by decide))).trans (tT_uE hM_14))))))⟩ ⟨t2, ht2, ((tT_uIE hM_29).trans ((tT_fr q_24).trans ((tT_uIE hM_21).trans ((tT_fr q_17).trans (tT_u _ _ _ _)))))⟩ (by rw [((tI_nE hM_29 (nk (by decide))).trans (((q_28 2).2.2.1).trans (tI_uE hM_21)))]; decide) (by rw [(tI_uE hM_29)]; decide)), ((tI_nE hM_29 (nk (by decide))).trans (((q_28 1).2.1).trans ((tI_nE hM_21 (nk (by decide))).trans (((q_19 1).2.1).trans ((tI_uTE hM_14).trans ((tI_uTE hM_13).trans ((q_9).trans (tI_uE hM_4)))))))), J, K, (by unfold pp_an; rw [if_pos hJ4, hJr.2.2.2.1.2.2]; exact (congrArg Int32.toInt (ex_30.symm)).symm.trans (congrArg Int32.toInt (((tI_nE hM_29 (nk (by decide))).trans (((q_28 3).2.2.2 t2 (by omega)).trans ((tI_nE hM_21 (nk (by decide))).trans (((q_19 3).2.2.2 t2 (by omega)).trans ((tI_uTE hM_14).trans (tI_uTE hM_13))))))))), (congrArg Int32.toInt (((tI_nE hM_29 (nk (by decide))).trans (((q_28 4).2.2.2 1 (by decide)).trans ((tI_nE hM_21 (nk (by decide))).trans (((q_19 4).2.2.2 1 (by decide)).trans ((tI_uTE hM_14).trans (tI_uTE hM_13)))))))).trans hJr.2.2.1.1.symm, (congrArg Int32.toInt (((tI_nE hM_29 (nk (by decide))).trans (((q_28 5).2.2.2 1 (by decide)).trans ((tI_nE hM_21 (nk (by decide))).trans (((q_19 5).2.2.2 1 (by decide)).trans ((tI_uTE hM_14).trans (tI_uTE hM_13)))))))).trans hJr.2.2.1.2.1.symm, (fun q => absurd hJ4 q), (fun _ => ⟨tdC_rc htd ht2 hT1 hT2 hJr (fun o k a b => ((lo9 o k a (by omega)).1.trans (q_18.1 o k (by omega))).trans (tI_fr (((ra_T hM_14).trans (ra_T hM_13))))) ((tT_uIE hM_29).trans ((tT_fr q_24).trans ((tT_uIE hM_21).trans ((tT_fr q_17).trans ((tT_n _ _ _ _ (nk (by decide))).trans ((tT_nE hM_14 (nk (by decide))).trans (tT_uE hM_13))))))) ((tT_uIE hM_29).trans ((tT_fr q_24).trans ((tT_uIE hM_21).trans ((tT_fr q_17).trans ((tT_n _ _ _ _ (nk (by decide))).trans (tT_uE hM_14)))))), t2, ht2, tC_lo ht2 (tC_eo ht2 ob_27.1 tCP q_18) (fun o k a b => lo9 o k a (by omega)), ((tT_uIE hM_29).trans ((tT_fr q_24).trans ((tT_uIE hM_21).trans ((tT_fr q_17).trans ((tT_n _ _ _ _ (nk (by decide))).trans ((tT_nE hM_14 (nk (by decide))).trans (tT_uE hM_13))))))), ((tT_uIE hM_29).trans ((tT_fr q_24).trans ((tT_uIE hM_21).trans ((tT_fr q_17).trans (tT_u _ _ _ _))))), ⟨_, qC_same p0r_15 (fun k => lo9 27 k (by decide) (by decide))⟩, ((tI_nE hM_29 (nk (by decide))).trans (((q_28 2).2.2.1).trans (tI_uE hM_21))), (tI_uE hM_29), (tI_nE hM_29 (no (by decide))).trans q_26, (tI_nE hM_29 (no (by decide))).trans q_27⟩)⟩) dX9_text_104
      · refine sb_if_ne (tgt := 49) hx hb (by decide : (0 : Int32).toInt = 0) dX9_text_44 (by decide) (fun h => absurd h (by decide)) (fun c_44_11 => ?_)
        refine lv_iconst (v := (-1)) hx hb dX9_text_47 (by decide) ?_
        have OT9 := (ot.trans q_10 (ot_I ht2 hM_4 (by omega)))
        have sp9 := tdC_sp htd hT1 hT2
        exact hQ _ _ _ _ _ _ hw rfl (Or.inr ⟨by omega, cF_self (cF_rr hF iM_6 (rR.trans q_7 (rr_of (rf_I hM_4))) (f0.trans q_8 (f0_I hM_4 (by decide)))), ((q_9).trans (tI_uE hM_4)), J, K, (by unfold pp_an; rw [if_neg hJ4]; decide), hJr.2.2.1.1.symm, hJr.2.2.1.2.1.symm, (fun _ => ⟨tdC_ot htd hT1 hT2 OT9 ((q_7 0 1 (by decide)).trans ((tT_uIE hM_4).trans hT1)) ((q_7 0 2 (by decide)).trans ((tT_uIE hM_4).trans hT2)), iM_6.2.2, (rR.trans q_7 (rr_of (rf_I hM_4))), fun t0 tx0 e0 h0 => by
        obtain rfl : t1 = t0 := Option.some.inj (hT1.symm.trans e0)
        exact tC_ot sp9 ht2 h0 OT9, OT9.2.2.2.2⟩), (fun q => absurd q hJ4)⟩) dX9_text_48
    · refine lv_bipush (v := (-2)) hx hb dX9_text_18 (by decide) ?_
      exact hQ _ _ _ _ _ _ hw rfl (Or.inl ⟨by omega, by decide, rfl⟩) dX9_text_20
end
section
variable {Tc : gC} {Tm : gM}
variable {Tc : gC}
set_option maxHeartbeats 4000000 in
set_option maxRecDepth 100000 in
theorem w_X6_lay (l : Launch) (D : va_G) (A : Nat → Nat → Nat) (cy : Nat → ClassId) (hJ : ti_inj ti_LT A) (M : ti_M) (hI : cI Tc M) (mi pl mn : Int32) (h1 : 0 ≤ mi.toInt) (h2 : mi.toInt ≤ 59) : ti_Ki l yX6_lay cX6_lay 4 (some .int) 0 ti_LT D A cy M [.ref (A 50 0), .int mi, .int pl, .int mn] (fun r M2 => (24 ≤ (tI M 50 5).toInt ∧ r.toInt = -1 ∧ M2 = M) ∨ ((tI M 50 5).toInt < 24 ∧ r.toInt = (tI M 50 5).toInt ∧ cI (cG M2) M2 ∧ M2.2.2.2 = M.2.2.2 ∧ fX M2 M ∧ tY M2 2 0 = tY M 2 0 ∧ eo 50 M2 M ∧ (tI M2 50 5).toInt = (tI M 50 5).toInt + 1 ∧ tI M2 50 6 = tI M 50 6)) := by
  refine ti_eI yp_X6_lay hJ ti_LT_nd (Nat.le_of_ble_eq_true rfl) ?_
  intro p e s m args below meth c Q H0 C hQ hw ls hl
  have hx := C.1
  have hb := C.2.1
  have hl : lv_has ls 4 [(0, .ref (A 50 0)), (1, .int mi), (2, .int pl), (3, .int mn)] := hl
  refine lv_aload_n hx hb dX6_lay_0 rfl (lv_at hl 0 rfl) ?_
  refine ti_get (ci := 6) (k := 5) (N := 13) (T := TX6) C hw iw_6 rfl ob_50 (by decide) (by decide) fl_X6_28 rfl rfl dX6_lay_1 ?_
  refine lv_topi (fun x_1 ex_1 => ?_)
  have bx_1 : 0 ≤ x_1.toInt ∧ x_1.toInt ≤ 24 := cI_rd hI ob_50.1 ex_1
  have ux_1 : (tI M 50 5).toInt = x_1.toInt := by rw [ex_1]
  refine lv_bipush (v := 24) hx hb dX6_lay_4 (by decide) ?_
  refine sb_icmp_lt (tgt := 11) hx hb rfl (by decide : (24 : Int32).toInt = 24) dX6_lay_6 (by decide) (fun c_6_1 => ?_) (fun c_6_1 => ?_)
  · refine lv_aload_n hx hb dX6_lay_11 rfl (lv_at hl 0 rfl) ?_
    refine ti_get (ci := 6) (k := 0) (N := 13) (T := TX6) (v := .ref (A 50 1)) C hw iw_6 rfl ob_50 (by decide) (by decide) fl_X6_9 rfl rfl dX6_lay_12 ?_
    refine lv_aload_n hx hb dX6_lay_15 rfl (lv_at hl 0 rfl) ?_
    refine ti_get (ci := 6) (k := 5) (N := 13) (T := TX6) C hw iw_6 rfl ob_50 (by decide) (by decide) fl_X6_28 rfl rfl dX6_lay_16 ?_
    refine ti_top (y := x_1) (ex_1.symm) ?_
    have u_3 : (tI M 50 5).toInt = (x_1 : Int32).toInt := by rw [(ex_1.symm)]
    refine lv_iload_n hx hb dX6_lay_19 rfl (lv_at hl 1 rfl) ?_
    refine ti_iast (ci := 6) (k := 0) (n := 24) C hw ob_50 (by decide) (fun _ _ => rfl) (vp_in_iff.mpr (by omega)) dX6_lay_20 (fun H locs hw => ?_)
    obtain ⟨M_4, hM_4⟩ : ∃ z : ti_M, z = uY M 50 0 (upd (tY M 50 0) (x_1 : Int32).toNatClampNeg mi) := ⟨_, rfl⟩
    have hw := hw.to hM_4.symm
    have iM_4 : cI (cG M_4) M_4 := cI_gY hI hM_4 ob_50.1 (ib_mk (lo := 0) (hi := 59) (by omega) (by omega))
    refine lv_aload_n hx hb dX6_lay_21 rfl (lv_at hl 0 rfl) ?_
    refine ti_get (ci := 6) (k := 1) (N := 13) (T := TX6) (v := .ref (A 50 2)) C hw iw_6 rfl ob_50 (by decide) (by decide) fl_X6_15 rfl rfl dX6_lay_22 ?_
    refine lv_aload_n hx hb dX6_lay_25 rfl (lv_at hl 0 rfl) ?_
    refine ti_get (ci := 6) (k := 5) (N := 13) (T := TX6) C hw iw_6 rfl ob_50 (by decide) (by decide) fl_X6_28 rfl rfl dX6_lay_26 ?_
    refine ti_top (y := x_1) ((tI_uYE hM_4).trans ex_1.symm) ?_
    have u_5 : (tI M_4 50 5).toInt = (x_1 : Int32).toInt := by rw [((tI_uYE hM_4).trans ex_1.symm)]
    refine lv_iload_n hx hb dX6_lay_29 rfl (lv_at hl 2 rfl) ?_
    refine ti_iast (ci := 6) (k := 1) (n := 24) C hw ob_50 (by decide) (fun _ _ => rfl) (vp_in_iff.mpr (by omega)) dX6_lay_30 (fun H locs hw => ?_)
    obtain ⟨M_6, hM_6⟩ : ∃ z : ti_M, z = uY M_4 50 1 (upd (tY M_4 50 1) (x_1 : Int32).toNatClampNeg pl) := ⟨_, rfl⟩
    have hw := hw.to hM_6.symm
    have iM_6 : cI (cG M_6) M_6 := cI_gY iM_4 hM_6 ob_50.1 trivial
    refine lv_aload_n hx hb dX6_lay_31 rfl (lv_at hl 0 rfl) ?_
    refine ti_get (ci := 6) (k := 2) (N := 13) (T := TX6) (v := .ref (A 50 3)) C hw iw_6 rfl ob_50 (by decide) (by decide) fl_X6_18 rfl rfl dX6_lay_32 ?_
    refine lv_aload_n hx hb dX6_lay_35 rfl (lv_at hl 0 rfl) ?_
    refine ti_get (ci := 6) (k := 5) (N := 13) (T := TX6) C hw iw_6 rfl ob_50 (by decide) (by decide) fl_X6_28 rfl rfl dX6_lay_36 ?_
    refine ti_top (y := x_1) ((tI_uYE hM_6).trans ((tI_uYE hM_4).trans ex_1.symm)) ?_
    have u_7 : (tI M_6 50 5).toInt = (x_1 : Int32).toInt := by rw [((tI_uYE hM_6).trans ((tI_uYE hM_4).trans ex_1.symm))]
    refine lv_iload_n hx hb dX6_lay_39 rfl (lv_at hl 3 rfl) ?_
    refine ti_iast (ci := 6) (k := 2) (n := 24) C hw ob_50 (by decide) (fun _ _ => rfl) (vp_in_iff.mpr (by omega)) dX6_lay_40 (fun H locs hw => ?_)
    obtain ⟨M_8, hM_8⟩ : ∃ z : ti_M, z = uY M_6 50 2 (upd (tY M_6 50 2) (x_1 : Int32).toNatClampNeg mn) := ⟨_, rfl⟩
    have hw := hw.to hM_8.symm
    have iM_8 : cI (cG M_8) M_8 := cI_gY iM_6 hM_8 ob_50.1 trivial
    refine lv_aload_n hx hb dX6_lay_41 rfl (lv_at hl 0 rfl) ?_
    refine ti_get (ci := 6) (k := 3) (N := 13) (T := TX6) (v := .ref (A 50 4)) C hw iw_6 rfl ob_50 (by decide) (by decide) fl_X6_21 rfl rfl dX6_lay_42 ?_
    refine lv_aload_n hx hb dX6_lay_45 rfl (lv_at hl 0 rfl) ?_
    refine ti_get (ci := 6) (k := 5) (N := 13) (T := TX6) C hw iw_6 rfl ob_50 (by decide) (by decide) fl_X6_28 rfl rfl dX6_lay_46 ?_
    refine ti_top (y := x_1) ((tI_uYE hM_8).trans ((tI_uYE hM_6).trans ((tI_uYE hM_4).trans ex_1.symm))) ?_
    have u_9 : (tI M_8 50 5).toInt = (x_1 : Int32).toInt := by rw [((tI_uYE hM_8).trans ((tI_uYE hM_6).trans ((tI_uYE hM_4).trans ex_1.symm)))]
    refine lv_iconst (v := (-1)) hx hb dX6_lay_49 (by decide) ?_
    refine ti_iast (ci := 6) (k := 3) (n := 24) C hw ob_50 (by decide) (fun _ _ => rfl) (vp_in_iff.mpr (by omega)) dX6_lay_50 (fun H locs hw => ?_)
    obtain ⟨M_10, hM_10⟩ : ∃ z : ti_M, z = uY M_8 50 3 (upd (tY M_8 50 3) (x_1 : Int32).toNatClampNeg (-1)) := ⟨_, rfl⟩
    have hw := hw.to hM_10.symm
    have iM_10 : cI (cG M_10) M_10 := cI_gY iM_8 hM_10 ob_50.1 trivial
    refine lv_aload_n hx hb dX6_lay_51 rfl (lv_at hl 0 rfl) ?_
    refine lv_iconst (v := 0) hx hb dX6_lay_52 (by decide) ?_
    refine ti_putI (ci := 6) (k := 7) (N := 13) (T := TX6) C hw iw_6 tyX6 tyX6_ok nmX6 rfl ob_50 (by decide) (by decide) fl_X6_34 rfl rfl rfl rfl (fn_6 A _) fs_6_7 dX6_lay_53 (fun H locs hw => ?_)
    obtain ⟨M_11, hM_11⟩ : ∃ z : ti_M, z = uI M_10 50 7 0 := ⟨_, rfl⟩
    have hw := hw.to hM_11.symm
    have iM_11 : cI (cG M_10) M_11 := cI_uI iM_10 hM_11 ob_50.1 trivial
    refine lv_aload_n hx hb dX6_lay_56 rfl (lv_at hl 0 rfl) ?_
    refine lv_dup hx hb dX6_lay_57 rfl ?_
    refine ti_get (ci := 6) (k := 5) (N := 13) (T := TX6) C hw iw_6 rfl ob_50 (by decide) (by decide) fl_X6_28 rfl rfl dX6_lay_58 ?_
    refine ti_top (y := x_1) ((tI_nE hM_11 (nk (by decide))).trans ((tI_uYE hM_10).trans ((tI_uYE hM_8).trans ((tI_uYE hM_6).trans ((tI_uYE hM_4).trans ex_1.symm))))) ?_
    have u_12 : (tI M_11 50 5).toInt = (x_1 : Int32).toInt := by rw [((tI_nE hM_11 (nk (by decide))).trans ((tI_uYE hM_10).trans ((tI_uYE hM_8).trans ((tI_uYE hM_6).trans ((tI_uYE hM_4).trans ex_1.symm)))))]
    refine lv_iconst (v := 1) hx hb dX6_lay_61 (by decide) ?_
    refine lv_iadd hx hb dX6_lay_62 ?_
    refine lv_topi (fun x_13 ex_13 => ?_)
    have tx_13 : x_13.toInt = x_1.toInt + 1 := i_add ex_13 rfl (by decide : (1 : Int32).toInt = 1) (by omega) (by omega)
    refine ti_putI (ci := 6) (k := 5) (N := 13) (T := TX6) C hw iw_6 tyX6 tyX6_ok nmX6 rfl ob_50 (by decide) (by decide) fl_X6_28 rfl rfl rfl rfl (fn_6 A _) fs_6_5 dX6_lay_63 (fun H locs hw => ?_)
    obtain ⟨M_14, hM_14⟩ : ∃ z : ti_M, z = uI M_11 50 5 x_13 := ⟨_, rfl⟩
    have hw := hw.to hM_14.symm
    have iM_14 : cI (cG M_14) M_14 := cI_gI iM_11 hM_14 ob_50.1 (ib_mk (lo := 0) (hi := 24) (by omega) (by omega))
    have vM_14 : (tI M_14 50 5).toInt = (x_13 : Int32).toInt := by rw [tI_uE hM_14]
    refine lv_aload_n hx hb dX6_lay_66 rfl (lv_at hl 0 rfl) ?_
    refine ti_get (ci := 6) (k := 5) (N := 13) (T := TX6) C hw iw_6 rfl ob_50 (by decide) (by decide) fl_X6_28 rfl rfl dX6_lay_67 ?_
    refine ti_top (y := x_13) (tI_uE hM_14) ?_
    have u_15 : (tI M_14 50 5).toInt = (x_13 : Int32).toInt := by rw [(tI_uE hM_14)]
    refine lv_iconst (v := 1) hx hb dX6_lay_70 (by decide) ?_
    refine lv_isub hx hb dX6_lay_71 ?_
    refine lv_topi (fun x_16 ex_16 => ?_)
    have tx_16 : x_16.toInt = x_13.toInt - 1 := i_sub ex_16 rfl (by decide : (1 : Int32).toInt = 1) (by omega) (by omega)
    exact hQ _ _ _ _ _ _ hw rfl (Or.inr ⟨by omega, by omega, cI_self iM_14, ((rf_I hM_14).trans ((rf_I hM_11).trans ((rf_Y hM_10).trans ((rf_Y hM_8).trans ((rf_Y hM_6).trans (rf_Y hM_4)))))), (fX.trans (fx_I hM_14 (by decide)) (fX.trans (fx_I hM_11 (by decide)) (fX.trans (fx_of (ra_Y hM_10)) (fX.trans (fx_of (ra_Y hM_8)) (fX.trans (fx_of (ra_Y hM_6)) (fx_of (ra_Y hM_4))))))), ((tY_uIE hM_14).trans ((tY_uIE hM_11).trans ((tY_nE hM_10 (no (by decide))).trans ((tY_nE hM_8 (no (by decide))).trans ((tY_nE hM_6 (no (by decide))).trans (tY_nE hM_4 (no (by decide)))))))), (eo.trans (eo_I hM_14) (eo.trans (eo_I hM_11) (eo.trans (eo_Y hM_10) (eo.trans (eo_Y hM_8) (eo.trans (eo_Y hM_6) (eo_Y hM_4)))))), (by rw [(tI_uE hM_14)]; omega), (((tI_nE hM_14 (nk (by decide))).trans ((tI_nE hM_11 (nk (by decide))).trans ((tI_uYE hM_10).trans ((tI_uYE hM_8).trans ((tI_uYE hM_6).trans (tI_uYE hM_4)))))))⟩) dX6_lay_72
  · refine lv_iconst (v := (-1)) hx hb dX6_lay_9 (by decide) ?_
    exact hQ _ _ _ _ _ _ hw rfl (Or.inl ⟨by omega, by decide, rfl⟩) dX6_lay_10
set_option maxHeartbeats 4000000 in
set_option maxRecDepth 100000 in
theorem w_X6_layStrike (l : Launch) (D : va_G) (A : Nat → Nat → Nat) (cy : Nat → ClassId) (hJ : ti_inj ti_LT A) (M : ti_M) (hI : cI Tc M) (sn : Int32) : ti_Ki l yX6_layStrike cX6_layStrike 2 (some .int) 0 ti_LT D A cy M [.ref (A 50 0), .int sn] (fun r M2 => ((sn.toInt < 0 ∨ (tI M 50 5).toInt ≤ sn.toInt ∨ 24 ≤ (tI M 50 5).toInt) ∧ r.toInt = -1 ∧ M2 = M) ∨ (¬ (sn.toInt < 0 ∨ (tI M 50 5).toInt ≤ sn.toInt ∨ 24 ≤ (tI M 50 5).toInt) ∧ r.toInt = (tI M 50 5).toInt ∧ cI (cG M2) M2 ∧ M2.2.2.2 = M.2.2.2 ∧ fX M2 M ∧ tY M2 2 0 = tY M 2 0 ∧ eo 50 M2 M ∧ (tI M2 50 5).toInt = (tI M 50 5).toInt + 1 ∧ tI M2 50 6 = tI M 50 6)) := by
  refine ti_eI yp_X6_layStrike hJ ti_LT_nd (Nat.le_of_ble_eq_true rfl) ?_
  intro p e s m args below meth c Q H0 C hQ hw ls hl
  have hx := C.1
  have hb := C.2.1
  have hl : lv_has ls 2 [(0, .ref (A 50 0)), (1, .int sn)] := hl
  refine lv_iload_n hx hb dX6_layStrike_0 rfl (lv_at hl 1 rfl) ?_
  refine sb_if_lt (tgt := 21) hx hb rfl dX6_layStrike_1 (by decide) (fun c_1_0 => ?_) (fun c_1_0 => ?_)
  · refine lv_iconst (v := (-1)) hx hb dX6_layStrike_21 (by decide) ?_
    exact hQ _ _ _ _ _ _ hw rfl (Or.inl ⟨by omega, by decide, rfl⟩) dX6_layStrike_22
  · refine lv_iload_n hx hb dX6_layStrike_4 rfl (lv_at hl 1 rfl) ?_
    refine lv_aload_n hx hb dX6_layStrike_5 rfl (lv_at hl 0 rfl) ?_
    refine ti_get (ci := 6) (k := 5) (N := 13) (T := TX6) C hw iw_6 rfl ob_50 (by decide) (by decide) fl_X6_28 rfl rfl dX6_layStrike_6 ?_
    refine lv_topi (fun x_2 ex_2 => ?_)
    have bx_2 : 0 ≤ x_2.toInt ∧ x_2.toInt ≤ 24 := cI_rd hI ob_50.1 ex_2
    have ux_2 : (tI M 50 5).toInt = x_2.toInt := by rw [ex_2]
    refine sb_icmp_ge (tgt := 21) hx hb rfl rfl dX6_layStrike_9 (by decide) (fun c_9_2 => ?_) (fun c_9_2 => ?_)
    · refine lv_iconst (v := (-1)) hx hb dX6_layStrike_21 (by decide) ?_
      exact hQ _ _ _ _ _ _ hw rfl (Or.inl ⟨by omega, by decide, rfl⟩) dX6_layStrike_22
    · refine lv_aload_n hx hb dX6_layStrike_12 rfl (lv_at hl 0 rfl) ?_
      refine ti_get (ci := 6) (k := 5) (N := 13) (T := TX6) C hw iw_6 rfl ob_50 (by decide) (by decide) fl_X6_28 rfl rfl dX6_layStrike_13 ?_
      refine ti_top (y := x_2) (ex_2.symm) ?_
      have u_4 : (tI M 50 5).toInt = (x_2 : Int32).toInt := by rw [(ex_2.symm)]
      refine lv_bipush (v := 24) hx hb dX6_layStrike_16 (by decide) ?_
      refine sb_icmp_lt (tgt := 23) hx hb rfl (by decide : (24 : Int32).toInt = 24) dX6_layStrike_18 (by decide) (fun c_18_4 => ?_) (fun c_18_4 => ?_)
      · refine lv_aload_n hx hb dX6_layStrike_23 rfl (lv_at hl 0 rfl) ?_
        refine ti_get (ci := 6) (k := 3) (N := 13) (T := TX6) (v := .ref (A 50 4)) C hw iw_6 rfl ob_50 (by decide) (by decide) fl_X6_21 rfl rfl dX6_layStrike_24 ?_
        refine lv_aload_n hx hb dX6_layStrike_27 rfl (lv_at hl 0 rfl) ?_
        refine ti_get (ci := 6) (k := 5) (N := 13) (T := TX6) C hw iw_6 rfl ob_50 (by decide) (by decide) fl_X6_28 rfl rfl dX6_layStrike_28 ?_
        refine ti_top (y := x_2) (ex_2.symm) ?_
        have u_6 : (tI M 50 5).toInt = (x_2 : Int32).toInt := by rw [(ex_2.symm)]
        refine lv_iload_n hx hb dX6_layStrike_31 rfl (lv_at hl 1 rfl) ?_
        refine ti_iast (ci := 6) (k := 3) (n := 24) C hw ob_50 (by decide) (fun _ _ => rfl) (vp_in_iff.mpr (by omega)) dX6_layStrike_32 (fun H locs hw => ?_)
        obtain ⟨M_7, hM_7⟩ : ∃ z : ti_M, z = uY M 50 3 (upd (tY M 50 3) (x_2 : Int32).toNatClampNeg sn) := ⟨_, rfl⟩
        have hw := hw.to hM_7.symm
        have iM_7 : cI (cG M_7) M_7 := cI_gY hI hM_7 ob_50.1 trivial
        refine lv_aload_n hx hb dX6_layStrike_33 rfl (lv_at hl 0 rfl) ?_
        refine lv_iconst (v := 0) hx hb dX6_layStrike_34 (by decide) ?_
        refine ti_putI (ci := 6) (k := 7) (N := 13) (T := TX6) C hw iw_6 tyX6 tyX6_ok nmX6 rfl ob_50 (by decide) (by decide) fl_X6_34 rfl rfl rfl rfl (fn_6 A _) fs_6_7 dX6_layStrike_35 (fun H locs hw => ?_)
        obtain ⟨M_8, hM_8⟩ : ∃ z : ti_M, z = uI M_7 50 7 0 := ⟨_, rfl⟩
        have hw := hw.to hM_8.symm
        have iM_8 : cI (cG M_7) M_8 := cI_uI iM_7 hM_8 ob_50.1 trivial
        refine lv_aload_n hx hb dX6_layStrike_38 rfl (lv_at hl 0 rfl) ?_
        refine lv_dup hx hb dX6_layStrike_39 rfl ?_
        refine ti_get (ci := 6) (k := 5) (N := 13) (T := TX6) C hw iw_6 rfl ob_50 (by decide) (by decide) fl_X6_28 rfl rfl dX6_layStrike_40 ?_
        refine ti_top (y := x_2) ((tI_nE hM_8 (nk (by decide))).trans ((tI_uYE hM_7).trans ex_2.symm)) ?_
        have u_9 : (tI M_8 50 5).toInt = (x_2 : Int32).toInt := by rw [((tI_nE hM_8 (nk (by decide))).trans ((tI_uYE hM_7).trans ex_2.symm))]
        refine lv_iconst (v := 1) hx hb dX6_layStrike_43 (by decide) ?_
        refine lv_iadd hx hb dX6_layStrike_44 ?_
        refine lv_topi (fun x_10 ex_10 => ?_)
        have tx_10 : x_10.toInt = x_2.toInt + 1 := i_add ex_10 rfl (by decide : (1 : Int32).toInt = 1) (by omega) (by omega)
        refine ti_putI (ci := 6) (k := 5) (N := 13) (T := TX6) C hw iw_6 tyX6 tyX6_ok nmX6 rfl ob_50 (by decide) (by decide) fl_X6_28 rfl rfl rfl rfl (fn_6 A _) fs_6_5 dX6_layStrike_45 (fun H locs hw => ?_)
        obtain ⟨M_11, hM_11⟩ : ∃ z : ti_M, z = uI M_8 50 5 x_10 := ⟨_, rfl⟩
        have hw := hw.to hM_11.symm
        have iM_11 : cI (cG M_11) M_11 := cI_gI iM_8 hM_11 ob_50.1 (ib_mk (lo := 0) (hi := 24) (by omega) (by omega))
        have vM_11 : (tI M_11 50 5).toInt = (x_10 : Int32).toInt := by rw [tI_uE hM_11]
        refine lv_aload_n hx hb dX6_layStrike_48 rfl (lv_at hl 0 rfl) ?_
        refine ti_get (ci := 6) (k := 5) (N := 13) (T := TX6) C hw iw_6 rfl ob_50 (by decide) (by decide) fl_X6_28 rfl rfl dX6_layStrike_49 ?_
        refine ti_top (y := x_10) (tI_uE hM_11) ?_
        have u_12 : (tI M_11 50 5).toInt = (x_10 : Int32).toInt := by rw [(tI_uE hM_11)]
        refine lv_iconst (v := 1) hx hb dX6_layStrike_52 (by decide) ?_
        refine lv_isub hx hb dX6_layStrike_53 ?_
        refine lv_topi (fun x_13 ex_13 => ?_)
        have tx_13 : x_13.toInt = x_10.toInt - 1 := i_sub ex_13 rfl (by decide : (1 : Int32).toInt = 1) (by omega) (by omega)
        exact hQ _ _ _ _ _ _ hw rfl (Or.inr ⟨by omega, by omega, cI_self iM_11, ((rf_I hM_11).trans ((rf_I hM_8).trans (rf_Y hM_7))), (fX.trans (fx_I hM_11 (by decide)) (fX.trans (fx_I hM_8 (by decide)) (fx_of (ra_Y hM_7)))), ((tY_uIE hM_11).trans ((tY_uIE hM_8).trans (tY_nE hM_7 (no (by decide))))), (eo.trans (eo_I hM_11) (eo.trans (eo_I hM_8) (eo_Y hM_7))), (by rw [(tI_uE hM_11)]; omega), (((tI_nE hM_11 (nk (by decide))).trans ((tI_nE hM_8 (nk (by decide))).trans (tI_uYE hM_7))))⟩) dX6_layStrike_54
      · refine lv_iconst (v := (-1)) hx hb dX6_layStrike_21 (by decide) ?_
        exact hQ _ _ _ _ _ _ hw rfl (Or.inl ⟨by omega, by decide, rfl⟩) dX6_layStrike_22
set_option maxHeartbeats 4000000 in
set_option maxRecDepth 100000 in
theorem w_X6_knowBy (l : Launch) (D : va_G) (A : Nat → Nat → Nat) (cy : Nat → ClassId) (hJ : ti_inj ti_LT A) (M : ti_M) (hI : cI Tc M) (sn : Int32) : ti_Ki l yX6_knowBy cX6_knowBy 2 (some .boolean) 0 ti_LT D A cy M [.ref (A 50 0), .int sn] (fun r M2 => ((sn.toInt < -1 ∨ (tI M 50 5).toInt < sn.toInt) ∧ r.toInt = 0 ∧ M2 = M) ∨ (¬ (sn.toInt < -1 ∨ (tI M 50 5).toInt < sn.toInt) ∧ r.toInt = 1 ∧ cI (cG M2) M2 ∧ M2.2.2.2 = M.2.2.2 ∧ fX M2 M ∧ tY M2 2 0 = tY M 2 0 ∧ eo 50 M2 M ∧ tI M2 50 5 = tI M 50 5 ∧ tI M2 50 6 = sn)) := by
  refine ti_eI yp_X6_knowBy hJ ti_LT_nd (Nat.le_of_ble_eq_true rfl) ?_
  intro p e s m args below meth c Q H0 C hQ hw ls hl
  have hx := C.1
  have hb := C.2.1
  have hl : lv_has ls 2 [(0, .ref (A 50 0)), (1, .int sn)] := hl
  refine lv_iload_n hx hb dX6_knowBy_0 rfl (lv_at hl 1 rfl) ?_
  refine lv_iconst (v := (-1)) hx hb dX6_knowBy_1 (by decide) ?_
  refine sb_icmp_lt (tgt := 13) hx hb rfl (by decide : ((-1) : Int32).toInt = (-1)) dX6_knowBy_2 (by decide) (fun c_2_0 => ?_) (fun c_2_0 => ?_)
  · refine lv_iconst (v := 0) hx hb dX6_knowBy_13 (by decide) ?_
    exact hQ _ _ _ _ _ _ hw rfl (Or.inl ⟨by omega, by decide, rfl⟩) dX6_knowBy_14
  · refine lv_iload_n hx hb dX6_knowBy_5 rfl (lv_at hl 1 rfl) ?_
    refine lv_aload_n hx hb dX6_knowBy_6 rfl (lv_at hl 0 rfl) ?_
    refine ti_get (ci := 6) (k := 5) (N := 13) (T := TX6) C hw iw_6 rfl ob_50 (by decide) (by decide) fl_X6_28 rfl rfl dX6_knowBy_7 ?_
    refine lv_topi (fun x_2 ex_2 => ?_)
    have bx_2 : 0 ≤ x_2.toInt ∧ x_2.toInt ≤ 24 := cI_rd hI ob_50.1 ex_2
    have ux_2 : (tI M 50 5).toInt = x_2.toInt := by rw [ex_2]
    refine sb_icmp_le (tgt := 15) hx hb rfl rfl dX6_knowBy_10 (by decide) (fun c_10_2 => ?_) (fun c_10_2 => ?_)
    · refine lv_aload_n hx hb dX6_knowBy_15 rfl (lv_at hl 0 rfl) ?_
      refine lv_iload_n hx hb dX6_knowBy_16 rfl (lv_at hl 1 rfl) ?_
      refine ti_putI (ci := 6) (k := 6) (N := 13) (T := TX6) C hw iw_6 tyX6 tyX6_ok nmX6 rfl ob_50 (by decide) (by decide) fl_X6_31 rfl rfl rfl rfl (fn_6 A _) fs_6_6 dX6_knowBy_17 (fun H locs hw => ?_)
      obtain ⟨M_4, hM_4⟩ : ∃ z : ti_M, z = uI M 50 6 sn := ⟨_, rfl⟩
      have hw := hw.to hM_4.symm
      have iM_4 : cI (cG M_4) M_4 := cI_gI hI hM_4 ob_50.1 (ib_mk (lo := (-1)) (hi := 24) (by omega) (by omega))
      have vM_4 : (tI M_4 50 6).toInt = (sn : Int32).toInt := by rw [tI_uE hM_4]
      refine lv_aload_n hx hb dX6_knowBy_20 rfl (lv_at hl 0 rfl) ?_
      refine lv_iconst (v := 0) hx hb dX6_knowBy_21 (by decide) ?_
      refine ti_putI (ci := 6) (k := 7) (N := 13) (T := TX6) C hw iw_6 tyX6 tyX6_ok nmX6 rfl ob_50 (by decide) (by decide) fl_X6_34 rfl rfl rfl rfl (fn_6 A _) fs_6_7 dX6_knowBy_22 (fun H locs hw => ?_)
      obtain ⟨M_5, hM_5⟩ : ∃ z : ti_M, z = uI M_4 50 7 0 := ⟨_, rfl⟩
      have hw := hw.to hM_5.symm
      have iM_5 : cI (cG M_4) M_5 := cI_uI iM_4 hM_5 ob_50.1 trivial
      refine lv_iconst (v := 1) hx hb dX6_knowBy_25 (by decide) ?_
      exact hQ _ _ _ _ _ _ hw rfl (Or.inr ⟨by omega, by decide, cI_self iM_5, ((rf_I hM_5).trans (rf_I hM_4)), (fX.trans (fx_I hM_5 (by decide)) (fx_I hM_4 (by decide))), ((tY_uIE hM_5).trans (tY_uIE hM_4)), (eo.trans (eo_I hM_5) (eo_I hM_4)), (((tI_nE hM_5 (nk (by decide))).trans (tI_nE hM_4 (nk (by decide))))), (by rw [((tI_nE hM_5 (nk (by decide))).trans (tI_uE hM_4))])⟩) dX6_knowBy_26
    · refine lv_iconst (v := 0) hx hb dX6_knowBy_13 (by decide) ?_
      exact hQ _ _ _ _ _ _ hw rfl (Or.inl ⟨by omega, by decide, rfl⟩) dX6_knowBy_14
set_option maxHeartbeats 4000000 in
set_option maxRecDepth 100000 in
theorem w_X9_isPlace (l : Launch) (D : va_G) (A : Nat → Nat → Nat) (cy : Nat → ClassId) (hJ : ti_inj ti_LT A) (M : ti_M) (hI : cI Tc M)  (mn : Int32) : ti_Ki l yX9_isPlace cX9_isPlace 2 (some .boolean) 0 ti_LT D A cy M [.ref (A 0 0), .int mn] (fun r M2 => M2 = M ∧ ((r = 1 ∧ 0 ≤ mn.toInt ∧ mn.toInt ≤ 7) ∨ (r = 0 ∧ (mn.toInt < 0 ∨ 7 < mn.toInt)))) := by
  refine ti_eI yp_X9_isPlace hJ ti_LT_nd (Nat.le_of_ble_eq_true rfl) ?_
  intro p e s m args below meth c Q H0 C hQ hw ls hl
  have hx := C.1
  have hb := C.2.1
  have hl : lv_has ls 2 [(0, .ref (A 0 0)), (1, .int mn)] := hl
  refine lv_iload_n hx hb dX9_isPlace_0 rfl (lv_at hl 1 rfl) ?_
  refine sb_if_lt (tgt := 14) hx hb rfl dX9_isPlace_1 (by decide) (fun c_1_0 => ?_) (fun c_1_0 => ?_)
  · refine lv_iconst (v := 0) hx hb dX9_isPlace_14 (by decide) ?_
    exact hQ _ _ _ _ _ _ hw rfl (⟨rfl, Or.inr ⟨rfl, by omega⟩⟩) dX9_isPlace_15
  · refine lv_iload_n hx hb dX9_isPlace_4 rfl (lv_at hl 1 rfl) ?_
    refine lv_bipush (v := 8) hx hb dX9_isPlace_5 (by decide) ?_
    refine sb_icmp_ge (tgt := 14) hx hb rfl (by decide : (8 : Int32).toInt = 8) dX9_isPlace_7 (by decide) (fun c_7_1 => ?_) (fun c_7_1 => ?_)
    · refine lv_iconst (v := 0) hx hb dX9_isPlace_14 (by decide) ?_
      exact hQ _ _ _ _ _ _ hw rfl (⟨rfl, Or.inr ⟨rfl, by omega⟩⟩) dX9_isPlace_15
    · refine lv_iconst (v := 1) hx hb dX9_isPlace_10 (by decide) ?_
      refine lv_goto (tgt := 15) hx hb dX9_isPlace_11 (by decide) ?_
      exact hQ _ _ _ _ _ _ hw rfl (⟨rfl, Or.inl ⟨rfl, by omega, by omega⟩⟩) dX9_isPlace_15
set_option maxHeartbeats 4000000 in
set_option maxRecDepth 100000 in
theorem w_X9_isMan (l : Launch) (D : va_G) (A : Nat → Nat → Nat) (cy : Nat → ClassId) (hJ : ti_inj ti_LT A) (M : ti_M) (hI : cI Tc M) (t1 : Nat) (ht1 : t1 = 3 ∨ t1 = 4) (hT1 : tT M 0 1 = some t1) (mn : Int32) : ti_Ki l yX9_isMan cX9_isMan 2 (some .boolean) 0 ti_LT D A cy M [.ref (A 0 0), .int mn] (fun r M2 => M2 = M ∧ ((r = 1 ∧ 0 ≤ mn.toInt ∧ mn.toInt < (tI M t1 4).toInt) ∨ (r = 0 ∧ (mn.toInt < 0 ∨ (tI M t1 4).toInt ≤ mn.toInt)))) := by
  refine ti_eI yp_X9_isMan hJ ti_LT_nd (Nat.le_of_ble_eq_true rfl) ?_
  intro p e s m args below meth c Q H0 C hQ hw ls hl
  have hx := C.1
  have hb := C.2.1
  have hl : lv_has ls 2 [(0, .ref (A 0 0)), (1, .int mn)] := hl
  refine lv_iload_n hx hb dX9_isMan_0 rfl (lv_at hl 1 rfl) ?_
  refine sb_if_lt (tgt := 19) hx hb rfl dX9_isMan_1 (by decide) (fun c_1_0 => ?_) (fun c_1_0 => ?_)
  · refine lv_iconst (v := 0) hx hb dX9_isMan_19 (by decide) ?_
    exact hQ _ _ _ _ _ _ hw rfl (⟨rfl, Or.inr ⟨rfl, by omega⟩⟩) dX9_isMan_20
  · refine lv_iload_n hx hb dX9_isMan_4 rfl (lv_at hl 1 rfl) ?_
    refine lv_aload_n hx hb dX9_isMan_5 rfl (lv_at hl 0 rfl) ?_
    refine ti_get (ci := 9) (k := 1) (N := 10) (T := TX9) (v := .ref (A t1 0)) C hw iw_9 rfl ob_0 (by decide) (by decide) fl_X9_19 rfl (ti_Tv (hT1)) dX9_isMan_6 ?_
    refine ti_get (ci := 8) (k := 4) (N := 12) (T := TX8) C hw iw_8 rfl (ob_t ht1) (by decide) (by decide) fl_X9_301 rfl rfl dX9_isMan_9 ?_
    refine lv_topi (fun x_2 ex_2 => ?_)
    have bx_2 : 0 ≤ x_2.toInt ∧ x_2.toInt ≤ 8 := cI_rd hI (ob_t ht1).1 ex_2
    have ux_2 : (tI M t1 4).toInt = x_2.toInt := by rw [ex_2]
    refine sb_icmp_ge (tgt := 19) hx hb rfl rfl dX9_isMan_12 (by decide) (fun c_12_2 => ?_) (fun c_12_2 => ?_)
    · refine lv_iconst (v := 0) hx hb dX9_isMan_19 (by decide) ?_
      exact hQ _ _ _ _ _ _ hw rfl (⟨rfl, Or.inr ⟨rfl, by omega⟩⟩) dX9_isMan_20
    · refine lv_iconst (v := 1) hx hb dX9_isMan_15 (by decide) ?_
      refine lv_goto (tgt := 20) hx hb dX9_isMan_16 (by decide) ?_
      exact hQ _ _ _ _ _ _ hw rfl (⟨rfl, Or.inl ⟨rfl, by omega, by omega⟩⟩) dX9_isMan_20
set_option maxHeartbeats 4000000 in
set_option maxRecDepth 100000 in
theorem w_X9_stone (l : Launch) (D : va_G) (A : Nat → Nat → Nat) (cy : Nat → ClassId) (hJ : ti_inj ti_LT A) (M : ti_M) (hI : cI Tc M) (hF : cF Tc M) (z1 : Int32) (z2 : Int32) (z3 : Int32) (rg : Nat → Int) (htd : tdC M rg) : ti_Ki l yX9_stone cX9_stone 4 (some .int) 2 ti_LT D A cy M [.ref (A 0 0), .int z1, .int z2, .int z3] (fun r M2 => ((z1.toInt < 0 ∨ 59 < z1.toInt ∨ z2.toInt < 0 ∨ 7 < z2.toInt ∨ (z3.toInt ≠ -1 ∧ (z3.toInt < 0 ∨ rg 7 ≤ z3.toInt)) ∨ 24 ≤ (tI M 50 5).toInt) ∧ r.toInt = -1 ∧ M2 = M) ∨ (¬ (z1.toInt < 0 ∨ 59 < z1.toInt ∨ z2.toInt < 0 ∨ 7 < z2.toInt ∨ (z3.toInt ≠ -1 ∧ (z3.toInt < 0 ∨ rg 7 ≤ z3.toInt)) ∨ 24 ≤ (tI M 50 5).toInt) ∧ r.toInt = (tI M 50 5).toInt ∧ cF (cG M2) M2 ∧ tI M2 2 1 = tI M 2 1 ∧ tl M2 M ∧ tY M2 2 0 = tY M 2 0 ∧ eo 50 M2 M ∧ M2.2.2.2 = M.2.2.2 ∧ (tI M2 50 5).toInt = (tI M 50 5).toInt + 1 ∧ tI M2 50 6 = tI M 50 6)) := by
  refine ti_eI yp_X9_stone hJ ti_LT_nd (Nat.le_of_ble_eq_true rfl) ?_
  intro p e s m args below meth c Q H0 C hQ hw ls hl
  have hx := C.1
  have hb := C.2.1
  have hl : lv_has ls 4 [(0, .ref (A 0 0)), (1, .int z1), (2, .int z2), (3, .int z3)] := hl
  obtain ⟨-, ⟨t1, ht1, hT1⟩, ⟨t2, ht2, hT2⟩, ⟨t, ht, hT⟩, hS, hM⟩ := id hF
  obtain ⟨t0, -, hT0, -, h7, h10⟩ := id htd
  obtain rfl : t1 = t0 := Option.some.inj (hT1.symm.trans hT0)
  refine lv_iload_n hx hb dX9_stone_0 rfl (lv_at hl 1 rfl) ?_
  refine sb_if_lt (tgt := 18) hx hb rfl dX9_stone_1 (by decide) (fun c_1_0 => ?_) (fun c_1_0 => ?_)
  · refine lv_iconst (v := (-1)) hx hb dX9_stone_18 (by decide) ?_
    exact hQ _ _ _ _ _ _ hw rfl (Or.inl ⟨by omega, by first | omega | decide, rfl⟩) dX9_stone_19
  · refine lv_iload_n hx hb dX9_stone_4 rfl (lv_at hl 1 rfl) ?_
    refine lv_bipush (v := 59) hx hb dX9_stone_5 (by decide) ?_
    refine sb_icmp_gt (tgt := 18) hx hb rfl (by decide : (59 : Int32).toInt = 59) dX9_stone_7 (by decide) (fun c_7_1 => ?_) (fun c_7_1 => ?_)
    · refine lv_iconst (v := (-1)) hx hb dX9_stone_18 (by decide) ?_
      exact hQ _ _ _ _ _ _ hw rfl (Or.inl ⟨by omega, by first | omega | decide, rfl⟩) dX9_stone_19
    · refine lv_aload_n hx hb dX9_stone_10 rfl (lv_at hl 0 rfl) ?_
      refine lv_iload_n hx hb dX9_stone_11 rfl (lv_at hl 2 rfl) ?_
      refine ti_callVi (ci := 9) (av := [.int z2]) C hw (w_X9_isPlace l D A cy hJ M hI z2) ⟨ml_X9_159, ym_X9_isPlace, yv_X9_isPlace, yi_X9_isPlace, yc_X9_isPlace⟩ yd_X9_isPlace ob_0 (by decide) rfl rfl hl.1 (Nat.le_of_ble_eq_true rfl) ⟨by decide, by decide⟩ ⟨Nat.zero_le _, Nat.zero_le _⟩ dX9_stone_12 (fun r_3 M_4 H locs hp_4 hw => ?_)
      obtain ⟨hm, hz⟩ := hp_4
      have hw := hw.to hm
      rcases hz with ⟨rfl, d0_5, d1_5⟩ | ⟨rfl, e_5⟩
      · refine sb_if_ne (tgt := 20) hx hb (by decide : (1 : Int32).toInt = 1) dX9_stone_15 (by decide) (fun c_15_5 => ?_) (fun h => absurd h (by decide))
        refine lv_iload_n hx hb dX9_stone_20 rfl (lv_at hl 3 rfl) ?_
        refine lv_iconst (v := (-1)) hx hb dX9_stone_21 (by decide) ?_
        refine sb_icmp_eq (tgt := 35) hx hb rfl (by decide : ((-1) : Int32).toInt = (-1)) dX9_stone_22 (by decide) (fun c_22_7 => ?_) (fun c_22_7 => ?_)
        · refine lv_aload_n hx hb dX9_stone_35 rfl (lv_at hl 0 rfl) ?_
          refine ti_get (ci := 9) (k := 8) (N := 10) (T := TX9) (v := .ref (A 50 0)) C hw iw_9 rfl ob_0 (by decide) (by decide) fl_X9_54 rfl rfl dX9_stone_36 ?_
          refine lv_iload_n hx hb dX9_stone_39 rfl (lv_at hl 1 rfl) ?_
          refine lv_iload_n hx hb dX9_stone_40 rfl (lv_at hl 2 rfl) ?_
          refine lv_iload_n hx hb dX9_stone_41 rfl (lv_at hl 3 rfl) ?_
          refine lv_iconst (v := (-1)) hx hb dX9_stone_42 (by decide) ?_
          refine sb_icmp_ne (tgt := 51) hx hb rfl (by decide : ((-1) : Int32).toInt = (-1)) dX9_stone_43 (by decide) (fun c_43_13 => ?_) (fun c_43_13 => ?_)
          · refine lv_iload_n hx hb dX9_stone_51 rfl (lv_at hl 3 rfl) ?_
            refine ti_callVi (ci := 6) (av := [.int z1, .int z2, .int z3]) C hw (w_X6_lay l D A cy hJ M hI z1 z2 z3 (by omega) (by omega)) ⟨ml_X9_262, ym_X6_lay, yv_X6_lay, yi_X6_lay, yc_X6_lay⟩ yd_X6_lay ob_50 (by decide) rfl rfl hl.1 (Nat.le_of_ble_eq_true rfl) ⟨by decide, by decide⟩ ⟨Nat.zero_le _, Nat.zero_le _⟩ dX9_stone_52 (fun r_22 M_23 H locs hp_23 hw => ?_)
            rcases hp_23 with ⟨z0_24, z1_24, hm⟩ | ⟨z0_24, z1_24, z2_24, z3_24, z4_24, z5_24, z6_24, z7_24, z8_24⟩
            · have hw := hw.to hm
              exact hQ _ _ _ _ _ _ hw rfl (Or.inl ⟨by omega, by first | omega | decide, rfl⟩) dX9_stone_55
            · exact hQ _ _ _ _ _ _ hw rfl (Or.inr ⟨by omega, by omega, cF_rx hF z2_24 (rr_of z3_24) (f0_x z4_24), (z4_24 1).2.1, tl_x z4_24 (tT_fr z3_24) (tT_fr z3_24), z5_24, z6_24, z3_24, z7_24, z8_24⟩) dX9_stone_55
          · refine lv_bipush (v := (-2)) hx hb dX9_stone_46 (by decide) ?_
            refine lv_goto (tgt := 52) hx hb dX9_stone_48 (by decide) ?_
            refine ti_callVi (ci := 6) (av := [.int z1, .int z2, .int (-2)]) C hw (w_X6_lay l D A cy hJ M hI z1 z2 (-2) (by omega) (by omega)) ⟨ml_X9_262, ym_X6_lay, yv_X6_lay, yi_X6_lay, yc_X6_lay⟩ yd_X6_lay ob_50 (by decide) rfl rfl hl.1 (Nat.le_of_ble_eq_true rfl) ⟨by decide, by decide⟩ ⟨Nat.zero_le _, Nat.zero_le _⟩ dX9_stone_52 (fun r_16 M_17 H locs hp_17 hw => ?_)
            rcases hp_17 with ⟨z0_18, z1_18, hm⟩ | ⟨z0_18, z1_18, z2_18, z3_18, z4_18, z5_18, z6_18, z7_18, z8_18⟩
            · have hw := hw.to hm
              exact hQ _ _ _ _ _ _ hw rfl (Or.inl ⟨by omega, by first | omega | decide, rfl⟩) dX9_stone_55
            · exact hQ _ _ _ _ _ _ hw rfl (Or.inr ⟨by omega, by omega, cF_rx hF z2_18 (rr_of z3_18) (f0_x z4_18), (z4_18 1).2.1, tl_x z4_18 (tT_fr z3_18) (tT_fr z3_18), z5_18, z6_18, z3_18, z7_18, z8_18⟩) dX9_stone_55
        · refine lv_aload_n hx hb dX9_stone_25 rfl (lv_at hl 0 rfl) ?_
          refine lv_iload_n hx hb dX9_stone_26 rfl (lv_at hl 3 rfl) ?_
          refine ti_callVi (ci := 9) (av := [.int z3]) C hw (w_X9_isMan l D A cy hJ M hI t1 ht1 (hT1) z3) ⟨ml_X9_104, ym_X9_isMan, yv_X9_isMan, yi_X9_isMan, yc_X9_isMan⟩ yd_X9_isMan ob_0 (by decide) rfl rfl hl.1 (Nat.le_of_ble_eq_true rfl) ⟨by decide, by decide⟩ ⟨Nat.zero_le _, Nat.zero_le _⟩ dX9_stone_27 (fun r_9 M_10 H locs hp_10 hw => ?_)
          obtain ⟨hm, hz⟩ := hp_10
          have hw := hw.to hm
          rcases hz with ⟨rfl, d0_11, d1_11⟩ | ⟨rfl, e_11⟩
          · refine sb_if_ne (tgt := 35) hx hb (by decide : (1 : Int32).toInt = 1) dX9_stone_30 (by decide) (fun c_30_11 => ?_) (fun h => absurd h (by decide))
            refine lv_aload_n hx hb dX9_stone_35 rfl (lv_at hl 0 rfl) ?_
            refine ti_get (ci := 9) (k := 8) (N := 10) (T := TX9) (v := .ref (A 50 0)) C hw iw_9 rfl ob_0 (by decide) (by decide) fl_X9_54 rfl rfl dX9_stone_36 ?_
            refine lv_iload_n hx hb dX9_stone_39 rfl (lv_at hl 1 rfl) ?_
            refine lv_iload_n hx hb dX9_stone_40 rfl (lv_at hl 2 rfl) ?_
            refine lv_iload_n hx hb dX9_stone_41 rfl (lv_at hl 3 rfl) ?_
            refine lv_iconst (v := (-1)) hx hb dX9_stone_42 (by decide) ?_
            refine sb_icmp_ne (tgt := 51) hx hb rfl (by decide : ((-1) : Int32).toInt = (-1)) dX9_stone_43 (by decide) (fun c_43_14 => ?_) (fun c_43_14 => ?_)
            · refine lv_iload_n hx hb dX9_stone_51 rfl (lv_at hl 3 rfl) ?_
              refine ti_callVi (ci := 6) (av := [.int z1, .int z2, .int z3]) C hw (w_X6_lay l D A cy hJ M hI z1 z2 z3 (by omega) (by omega)) ⟨ml_X9_262, ym_X6_lay, yv_X6_lay, yi_X6_lay, yc_X6_lay⟩ yd_X6_lay ob_50 (by decide) rfl rfl hl.1 (Nat.le_of_ble_eq_true rfl) ⟨by decide, by decide⟩ ⟨Nat.zero_le _, Nat.zero_le _⟩ dX9_stone_52 (fun r_25 M_26 H locs hp_26 hw => ?_)
              rcases hp_26 with ⟨z0_27, z1_27, hm⟩ | ⟨z0_27, z1_27, z2_27, z3_27, z4_27, z5_27, z6_27, z7_27, z8_27⟩
              · have hw := hw.to hm
                exact hQ _ _ _ _ _ _ hw rfl (Or.inl ⟨by omega, by first | omega | decide, rfl⟩) dX9_stone_55
              · exact hQ _ _ _ _ _ _ hw rfl (Or.inr ⟨by omega, by omega, cF_rx hF z2_27 (rr_of z3_27) (f0_x z4_27), (z4_27 1).2.1, tl_x z4_27 (tT_fr z3_27) (tT_fr z3_27), z5_27, z6_27, z3_27, z7_27, z8_27⟩) dX9_stone_55
            · refine lv_bipush (v := (-2)) hx hb dX9_stone_46 (by decide) ?_
              refine lv_goto (tgt := 52) hx hb dX9_stone_48 (by decide) ?_
              refine ti_callVi (ci := 6) (av := [.int z1, .int z2, .int (-2)]) C hw (w_X6_lay l D A cy hJ M hI z1 z2 (-2) (by omega) (by omega)) ⟨ml_X9_262, ym_X6_lay, yv_X6_lay, yi_X6_lay, yc_X6_lay⟩ yd_X6_lay ob_50 (by decide) rfl rfl hl.1 (Nat.le_of_ble_eq_true rfl) ⟨by decide, by decide⟩ ⟨Nat.zero_le _, Nat.zero_le _⟩ dX9_stone_52 (fun r_19 M_20 H locs hp_20 hw => ?_)
              rcases hp_20 with ⟨z0_21, z1_21, hm⟩ | ⟨z0_21, z1_21, z2_21, z3_21, z4_21, z5_21, z6_21, z7_21, z8_21⟩
              · have hw := hw.to hm
                exact hQ _ _ _ _ _ _ hw rfl (Or.inl ⟨by omega, by first | omega | decide, rfl⟩) dX9_stone_55
              · exact hQ _ _ _ _ _ _ hw rfl (Or.inr ⟨by omega, by omega, cF_rx hF z2_21 (rr_of z3_21) (f0_x z4_21), (z4_21 1).2.1, tl_x z4_21 (tT_fr z3_21) (tT_fr z3_21), z5_21, z6_21, z3_21, z7_21, z8_21⟩) dX9_stone_55
          · refine sb_if_ne (tgt := 35) hx hb (by decide : (0 : Int32).toInt = 0) dX9_stone_30 (by decide) (fun h => absurd h (by decide)) (fun c_30_12 => ?_)
            refine lv_iconst (v := (-1)) hx hb dX9_stone_33 (by decide) ?_
            exact hQ _ _ _ _ _ _ hw rfl (Or.inl ⟨by omega, by first | omega | decide, rfl⟩) dX9_stone_34
      · refine sb_if_ne (tgt := 20) hx hb (by decide : (0 : Int32).toInt = 0) dX9_stone_15 (by decide) (fun h => absurd h (by decide)) (fun c_15_6 => ?_)
        refine lv_iconst (v := (-1)) hx hb dX9_stone_18 (by decide) ?_
        exact hQ _ _ _ _ _ _ hw rfl (Or.inl ⟨by omega, by first | omega | decide, rfl⟩) dX9_stone_19
set_option maxHeartbeats 4000000 in
set_option maxRecDepth 100000 in
theorem w_X9_strike (l : Launch) (D : va_G) (A : Nat → Nat → Nat) (cy : Nat → ClassId) (hJ : ti_inj ti_LT A) (M : ti_M) (hI : cI Tc M) (hF : cF Tc M) (z1 : Int32) (rg : Nat → Int) (htd : tdC M rg) : ti_Ki l yX9_strike cX9_strike 2 (some .int) 1 ti_LT D A cy M [.ref (A 0 0), .int z1] (fun r M2 => ((z1.toInt < 0 ∨ (tI M 50 5).toInt ≤ z1.toInt ∨ 24 ≤ (tI M 50 5).toInt) ∧ r.toInt = -1 ∧ M2 = M) ∨ (¬ (z1.toInt < 0 ∨ (tI M 50 5).toInt ≤ z1.toInt ∨ 24 ≤ (tI M 50 5).toInt) ∧ r.toInt = (tI M 50 5).toInt ∧ cF (cG M2) M2 ∧ tI M2 2 1 = tI M 2 1 ∧ tl M2 M ∧ tY M2 2 0 = tY M 2 0 ∧ eo 50 M2 M ∧ M2.2.2.2 = M.2.2.2 ∧ (tI M2 50 5).toInt = (tI M 50 5).toInt + 1 ∧ tI M2 50 6 = tI M 50 6)) := by
  refine ti_eI yp_X9_strike hJ ti_LT_nd (Nat.le_of_ble_eq_true rfl) ?_
  intro p e s m args below meth c Q H0 C hQ hw ls hl
  have hx := C.1
  have hb := C.2.1
  have hl : lv_has ls 2 [(0, .ref (A 0 0)), (1, .int z1)] := hl
  obtain ⟨-, ⟨t1, ht1, hT1⟩, ⟨t2, ht2, hT2⟩, ⟨t, ht, hT⟩, hS, hM⟩ := id hF
  obtain ⟨t0, -, hT0, -, h7, h10⟩ := id htd
  obtain rfl : t1 = t0 := Option.some.inj (hT1.symm.trans hT0)
  refine lv_aload_n hx hb dX9_strike_0 rfl (lv_at hl 0 rfl) ?_
  refine ti_get (ci := 9) (k := 8) (N := 10) (T := TX9) (v := .ref (A 50 0)) C hw iw_9 rfl ob_0 (by decide) (by decide) fl_X9_54 rfl rfl dX9_strike_1 ?_
  refine lv_iload_n hx hb dX9_strike_4 rfl (lv_at hl 1 rfl) ?_
  refine ti_callVi (ci := 6) (av := [.int z1]) C hw (w_X6_layStrike l D A cy hJ M hI z1) ⟨ml_X9_266, ym_X6_layStrike, yv_X6_layStrike, yi_X6_layStrike, yc_X6_layStrike⟩ yd_X6_layStrike ob_50 (by decide) rfl rfl hl.1 (Nat.le_of_ble_eq_true rfl) ⟨by decide, by decide⟩ ⟨Nat.zero_le _, Nat.zero_le _⟩ dX9_strike_5 (fun r_1 M_2 H locs hp_2 hw => ?_)
  rcases hp_2 with ⟨z0_3, z1_3, hm⟩ | ⟨z0_3, z1_3, z2_3, z3_3, z4_3, z5_3, z6_3, z7_3, z8_3⟩
  · have hw := hw.to hm
    exact hQ _ _ _ _ _ _ hw rfl (Or.inl ⟨by omega, by first | omega | decide, rfl⟩) dX9_strike_8
  · exact hQ _ _ _ _ _ _ hw rfl (Or.inr ⟨by omega, by omega, cF_rx hF z2_3 (rr_of z3_3) (f0_x z4_3), (z4_3 1).2.1, tl_x z4_3 (tT_fr z3_3) (tT_fr z3_3), z5_3, z6_3, z3_3, z7_3, z8_3⟩) dX9_strike_8
set_option maxHeartbeats 4000000 in
set_option maxRecDepth 100000 in
theorem w_X9_known (l : Launch) (D : va_G) (A : Nat → Nat → Nat) (cy : Nat → ClassId) (hJ : ti_inj ti_LT A) (M : ti_M) (hI : cI Tc M) (hF : cF Tc M) (z1 : Int32) (rg : Nat → Int) (htd : tdC M rg) : ti_Ki l yX9_known cX9_known 2 (some .boolean) 1 ti_LT D A cy M [.ref (A 0 0), .int z1] (fun r M2 => ((z1.toInt < -1 ∨ (tI M 50 5).toInt < z1.toInt) ∧ r.toInt = 0 ∧ M2 = M) ∨ (¬ (z1.toInt < -1 ∨ (tI M 50 5).toInt < z1.toInt) ∧ r.toInt = 1 ∧ cF (cG M2) M2 ∧ tI M2 2 1 = tI M 2 1 ∧ tl M2 M ∧ tY M2 2 0 = tY M 2 0 ∧ eo 50 M2 M ∧ M2.2.2.2 = M.2.2.2 ∧ tI M2 50 5 = tI M 50 5 ∧ tI M2 50 6 = z1)) := by
  refine ti_eI yp_X9_known hJ ti_LT_nd (Nat.le_of_ble_eq_true rfl) ?_
  intro p e s m args below meth c Q H0 C hQ hw ls hl
  have hx := C.1
  have hb := C.2.1
  have hl : lv_has ls 2 [(0, .ref (A 0 0)), (1, .int z1)] := hl
  obtain ⟨-, ⟨t1, ht1, hT1⟩, ⟨t2, ht2, hT2⟩, ⟨t, ht, hT⟩, hS, hM⟩ := id hF
  obtain ⟨t0, -, hT0, -, h7, h10⟩ := id htd
  obtain rfl : t1 = t0 := Option.some.inj (hT1.symm.trans hT0)
  refine lv_aload_n hx hb dX9_known_0 rfl (lv_at hl 0 rfl) ?_
  refine ti_get (ci := 9) (k := 8) (N := 10) (T := TX9) (v := .ref (A 50 0)) C hw iw_9 rfl ob_0 (by decide) (by decide) fl_X9_54 rfl rfl dX9_known_1 ?_
  refine lv_iload_n hx hb dX9_known_4 rfl (lv_at hl 1 rfl) ?_
  refine ti_callVi (ci := 6) (av := [.int z1]) C hw (w_X6_knowBy l D A cy hJ M hI z1) ⟨ml_X9_269, ym_X6_knowBy, yv_X6_knowBy, yi_X6_knowBy, yc_X6_knowBy⟩ yd_X6_knowBy ob_50 (by decide) rfl rfl hl.1 (Nat.le_of_ble_eq_true rfl) ⟨by decide, by decide⟩ ⟨Nat.zero_le _, Nat.zero_le _⟩ dX9_known_5 (fun r_1 M_2 H locs hp_2 hw => ?_)
  rcases hp_2 with ⟨z0_3, z1_3, hm⟩ | ⟨z0_3, z1_3, z2_3, z3_3, z4_3, z5_3, z6_3, z7_3, z8_3⟩
  · have hw := hw.to hm
    exact hQ _ _ _ _ _ _ hw (nar_b (by omega) (by omega)) (Or.inl ⟨by omega, by first | omega | decide, rfl⟩) dX9_known_8
  · exact hQ _ _ _ _ _ _ hw (nar_b (by omega) (by omega)) (Or.inr ⟨by omega, by omega, cF_rx hF z2_3 (rr_of z3_3) (f0_x z4_3), (z4_3 1).2.1, tl_x z4_3 (tT_fr z3_3) (tT_fr z3_3), z5_3, z6_3, z3_3, z7_3, z8_3⟩) dX9_known_8
set_option maxHeartbeats 4000000 in
set_option maxRecDepth 100000 in
theorem w_X7_put (l : Launch) (D : va_G) (A : Nat → Nat → Nat) (cy : Nat → ClassId) (hJ : ti_inj ti_LT A) (M : ti_M) (hI : cI Tc M) (fo : Int32) (hm : (tI M 2 1).toInt ≤ 696) : ti_Kv l yX7_put cX7_put 3 0 ti_LT D A cy M [.ref (A 2 0), .int fo] (fun M2 => eo 2 M2 M ∧ cI (cG M2) M2 ∧ M2.2.2.2 = M.2.2.2 ∧ o2 M2 M ∧ (tI M2 2 1).toInt = (tI M 2 1).toInt + 4 ∧ (∀ i : Nat, (i : Int) < (tI M 2 1).toInt → tY M2 2 0 i = tY M 2 0 i) ∧ (∀ j : Nat, j < 4 → (tY M2 2 0 ((tI M 2 1).toInt.toNat + j) &&& 255).toInt = pp_by fo j)) := by
  refine ti_eV yp_X7_put hJ ti_LT_nd (Nat.le_of_ble_eq_true rfl) ?_
  intro p e s m args below meth c Q H0 C hQ hw ls hl
  have hx := C.1
  have hb := C.2.1
  have hl : lv_has ls 3 [(0, .ref (A 2 0)), (1, .int fo)] := hl
  refine lv_bipush (v := 24) hx hb dX7_put_0 (by decide) ?_
  refine lv_istore_n (lv' := [(2, .int 24), (0, .ref (A 2 0)), (1, .int fo)]) hx hb dX7_put_2 rfl hl (by decide) rfl (fun ls hl => ?_)
  refine lv_iload_n hx hb dX7_put_3 rfl (lv_at hl 0 rfl) ?_
  refine sb_if_lt (tgt := 46) hx hb (by decide : (24 : Int32).toInt = 24) dX7_put_4 (by decide) (fun h => absurd h (by decide)) (fun c_4_0 => ?_)
  refine lv_aload_n hx hb dX7_put_7 rfl (lv_at hl 1 rfl) ?_
  refine ti_get (ci := 7) (k := 1) (N := 7) (T := TX7) C hw iw_7 rfl ob_2 (by decide) (by decide) fl_X7_15 rfl rfl dX7_put_8 ?_
  refine lv_topi (fun x_2 ex_2 => ?_)
  have bx_2 : 0 ≤ x_2.toInt ∧ x_2.toInt ≤ 700 := cI_rd hI ob_2.1 ex_2
  have ux_2 : (tI M 2 1).toInt = x_2.toInt := by rw [ex_2]
  refine lv_sipush (v := 700) hx hb dX7_put_11 (by decide) ?_
  refine sb_icmp_ge (tgt := 40) hx hb rfl (by decide : (700 : Int32).toInt = 700) dX7_put_14 (by decide) (fun h => by omega) (fun c_14_2 => ?_)
  refine lv_aload_n hx hb dX7_put_17 rfl (lv_at hl 1 rfl) ?_
  refine ti_get (ci := 7) (k := 0) (N := 7) (T := TX7) (v := .ref (A 2 1)) C hw iw_7 rfl ob_2 (by decide) (by decide) fl_X7_9 rfl rfl dX7_put_18 ?_
  refine lv_aload_n hx hb dX7_put_21 rfl (lv_at hl 1 rfl) ?_
  refine ti_get (ci := 7) (k := 1) (N := 7) (T := TX7) C hw iw_7 rfl ob_2 (by decide) (by decide) fl_X7_15 rfl rfl dX7_put_22 ?_
  refine ti_top (y := x_2) (ex_2.symm) ?_
  have u_4 : (tI M 2 1).toInt = (x_2 : Int32).toInt := by rw [(ex_2.symm)]
  refine lv_iload_n hx hb dX7_put_25 rfl (lv_at hl 2 rfl) ?_
  refine lv_iload_n hx hb dX7_put_26 rfl (lv_at hl 0 rfl) ?_
  refine lv_ishr hx hb dX7_put_27 ?_
  refine lv_topi (fun x_5 ex_5 => ?_)
  refine lv_i2b hx hb dX7_put_28 rfl ?_
  refine lv_topi (fun x_6 ex_6 => ?_)
  refine ti_bast (ci := 7) (k := 0) (n := 700) C hw ob_2 (by decide) (fun _ _ => rfl) (vp_in_iff.mpr (by omega)) dX7_put_29 (fun H locs hw => ?_)
  obtain ⟨M_7, hM_7⟩ : ∃ z : ti_M, z = uY M 2 0 (upd (tY M 2 0) (x_2 : Int32).toNatClampNeg (vp_nar .byte x_6)) := ⟨_, rfl⟩
  have hw := hw.to hM_7.symm
  have iM_7 : cI (cG M_7) M_7 := cI_tp hI hM_7
  refine lv_aload_n hx hb dX7_put_30 rfl (lv_at hl 1 rfl) ?_
  refine lv_dup hx hb dX7_put_31 rfl ?_
  refine ti_get (ci := 7) (k := 1) (N := 7) (T := TX7) C hw iw_7 rfl ob_2 (by decide) (by decide) fl_X7_15 rfl rfl dX7_put_32 ?_
  refine ti_top (y := x_2) ((tI_uYE hM_7).trans ex_2.symm) ?_
  have u_8 : (tI M_7 2 1).toInt = (x_2 : Int32).toInt := by rw [((tI_uYE hM_7).trans ex_2.symm)]
  refine lv_iconst (v := 1) hx hb dX7_put_35 (by decide) ?_
  refine lv_iadd hx hb dX7_put_36 ?_
  refine lv_topi (fun x_9 ex_9 => ?_)
  have tx_9 : x_9.toInt = x_2.toInt + 1 := i_add ex_9 rfl (by decide : (1 : Int32).toInt = 1) (by omega) (by omega)
  refine ti_putI (ci := 7) (k := 1) (N := 7) (T := TX7) C hw iw_7 tyX7 tyX7_ok nmX7 rfl ob_2 (by decide) (by decide) fl_X7_15 rfl rfl rfl rfl (fn_7 A _) fs_7_1 dX7_put_37 (fun H locs hw => ?_)
  obtain ⟨M_10, hM_10⟩ : ∃ z : ti_M, z = uI M_7 2 1 x_9 := ⟨_, rfl⟩
  have hw := hw.to hM_10.symm
  have iM_10 : cI (cG M_7) M_10 := cI_uI iM_7 hM_10 ob_2.1 (ib_mk (lo := 0) (hi := 700) (by omega) (by omega))
  have vM_10 : (tI M_10 2 1).toInt = (x_9 : Int32).toInt := by rw [tI_uE hM_10]
  refine lv_iinc (v := 16) (lv' := [(2, .int 16), (0, .ref (A 2 0)), (1, .int fo)]) hx hb dX7_put_40 hl (k := 0) rfl (by decide) (by decide) rfl (fun ls hl => ?_)
  refine lv_goto (tgt := 3) hx hb dX7_put_43 (by decide) ?_
  refine lv_iload_n hx hb dX7_put_3 rfl (lv_at hl 0 rfl) ?_
  refine sb_if_lt (tgt := 46) hx hb (by decide : (16 : Int32).toInt = 16) dX7_put_4 (by decide) (fun h => absurd h (by decide)) (fun c_4_10 => ?_)
  refine lv_aload_n hx hb dX7_put_7 rfl (lv_at hl 1 rfl) ?_
  refine ti_get (ci := 7) (k := 1) (N := 7) (T := TX7) C hw iw_7 rfl ob_2 (by decide) (by decide) fl_X7_15 rfl rfl dX7_put_8 ?_
  refine ti_top (y := x_9) (tI_uE hM_10) ?_
  have u_12 : (tI M_10 2 1).toInt = (x_9 : Int32).toInt := by rw [(tI_uE hM_10)]
  refine lv_sipush (v := 700) hx hb dX7_put_11 (by decide) ?_
  refine sb_icmp_ge (tgt := 40) hx hb rfl (by decide : (700 : Int32).toInt = 700) dX7_put_14 (by decide) (fun h => by omega) (fun c_14_12 => ?_)
  refine lv_aload_n hx hb dX7_put_17 rfl (lv_at hl 1 rfl) ?_
  refine ti_get (ci := 7) (k := 0) (N := 7) (T := TX7) (v := .ref (A 2 1)) C hw iw_7 rfl ob_2 (by decide) (by decide) fl_X7_9 rfl rfl dX7_put_18 ?_
  refine lv_aload_n hx hb dX7_put_21 rfl (lv_at hl 1 rfl) ?_
  refine ti_get (ci := 7) (k := 1) (N := 7) (T := TX7) C hw iw_7 rfl ob_2 (by decide) (by decide) fl_X7_15 rfl rfl dX7_put_22 ?_
  refine ti_top (y := x_9) (tI_uE hM_10) ?_
  have u_14 : (tI M_10 2 1).toInt = (x_9 : Int32).toInt := by rw [(tI_uE hM_10)]
  refine lv_iload_n hx hb dX7_put_25 rfl (lv_at hl 2 rfl) ?_
  refine lv_iload_n hx hb dX7_put_26 rfl (lv_at hl 0 rfl) ?_
  refine lv_ishr hx hb dX7_put_27 ?_
  refine lv_topi (fun x_15 ex_15 => ?_)
  refine lv_i2b hx hb dX7_put_28 rfl ?_
  refine lv_topi (fun x_16 ex_16 => ?_)
  refine ti_bast (ci := 7) (k := 0) (n := 700) C hw ob_2 (by decide) (fun _ _ => rfl) (vp_in_iff.mpr (by omega)) dX7_put_29 (fun H locs hw => ?_)
  obtain ⟨M_17, hM_17⟩ : ∃ z : ti_M, z = uY M_10 2 0 (upd (tY M_10 2 0) (x_9 : Int32).toNatClampNeg (vp_nar .byte x_16)) := ⟨_, rfl⟩
  have hw := hw.to hM_17.symm
  have iM_17 : cI (cG M_17) M_17 := cI_tp iM_10 hM_17
  refine lv_aload_n hx hb dX7_put_30 rfl (lv_at hl 1 rfl) ?_
  refine lv_dup hx hb dX7_put_31 rfl ?_
  refine ti_get (ci := 7) (k := 1) (N := 7) (T := TX7) C hw iw_7 rfl ob_2 (by decide) (by decide) fl_X7_15 rfl rfl dX7_put_32 ?_
  refine ti_top (y := x_9) ((tI_uYE hM_17).trans (tI_uE hM_10)) ?_
  have u_18 : (tI M_17 2 1).toInt = (x_9 : Int32).toInt := by rw [((tI_uYE hM_17).trans (tI_uE hM_10))]
  refine lv_iconst (v := 1) hx hb dX7_put_35 (by decide) ?_
  refine lv_iadd hx hb dX7_put_36 ?_
  refine lv_topi (fun x_19 ex_19 => ?_)
  have tx_19 : x_19.toInt = x_9.toInt + 1 := i_add ex_19 rfl (by decide : (1 : Int32).toInt = 1) (by omega) (by omega)
  refine ti_putI (ci := 7) (k := 1) (N := 7) (T := TX7) C hw iw_7 tyX7 tyX7_ok nmX7 rfl ob_2 (by decide) (by decide) fl_X7_15 rfl rfl rfl rfl (fn_7 A _) fs_7_1 dX7_put_37 (fun H locs hw => ?_)
  obtain ⟨M_20, hM_20⟩ : ∃ z : ti_M, z = uI M_17 2 1 x_19 := ⟨_, rfl⟩
  have hw := hw.to hM_20.symm
  have iM_20 : cI (cG M_17) M_20 := cI_uI iM_17 hM_20 ob_2.1 (ib_mk (lo := 0) (hi := 700) (by omega) (by omega))
  have vM_20 : (tI M_20 2 1).toInt = (x_19 : Int32).toInt := by rw [tI_uE hM_20]
  refine lv_iinc (v := 8) (lv' := [(2, .int 8), (0, .ref (A 2 0)), (1, .int fo)]) hx hb dX7_put_40 hl (k := 0) rfl (by decide) (by decide) rfl (fun ls hl => ?_)
  refine lv_goto (tgt := 3) hx hb dX7_put_43 (by decide) ?_
  refine lv_iload_n hx hb dX7_put_3 rfl (lv_at hl 0 rfl) ?_
  refine sb_if_lt (tgt := 46) hx hb (by decide : (8 : Int32).toInt = 8) dX7_put_4 (by decide) (fun h => absurd h (by decide)) (fun c_4_20 => ?_)
  refine lv_aload_n hx hb dX7_put_7 rfl (lv_at hl 1 rfl) ?_
  refine ti_get (ci := 7) (k := 1) (N := 7) (T := TX7) C hw iw_7 rfl ob_2 (by decide) (by decide) fl_X7_15 rfl rfl dX7_put_8 ?_
  refine ti_top (y := x_19) (tI_uE hM_20) ?_
  have u_22 : (tI M_20 2 1).toInt = (x_19 : Int32).toInt := by rw [(tI_uE hM_20)]
  refine lv_sipush (v := 700) hx hb dX7_put_11 (by decide) ?_
  refine sb_icmp_ge (tgt := 40) hx hb rfl (by decide : (700 : Int32).toInt = 700) dX7_put_14 (by decide) (fun h => by omega) (fun c_14_22 => ?_)
  refine lv_aload_n hx hb dX7_put_17 rfl (lv_at hl 1 rfl) ?_
  refine ti_get (ci := 7) (k := 0) (N := 7) (T := TX7) (v := .ref (A 2 1)) C hw iw_7 rfl ob_2 (by decide) (by decide) fl_X7_9 rfl rfl dX7_put_18 ?_
  refine lv_aload_n hx hb dX7_put_21 rfl (lv_at hl 1 rfl) ?_
  refine ti_get (ci := 7) (k := 1) (N := 7) (T := TX7) C hw iw_7 rfl ob_2 (by decide) (by decide) fl_X7_15 rfl rfl dX7_put_22 ?_
  refine ti_top (y := x_19) (tI_uE hM_20) ?_
  have u_24 : (tI M_20 2 1).toInt = (x_19 : Int32).toInt := by rw [(tI_uE hM_20)]
  refine lv_iload_n hx hb dX7_put_25 rfl (lv_at hl 2 rfl) ?_
  refine lv_iload_n hx hb dX7_put_26 rfl (lv_at hl 0 rfl) ?_
  refine lv_ishr hx hb dX7_put_27 ?_
  refine lv_topi (fun x_25 ex_25 => ?_)
  refine lv_i2b hx hb dX7_put_28 rfl ?_
  refine lv_topi (fun x_26 ex_26 => ?_)
  refine ti_bast (ci := 7) (k := 0) (n := 700) C hw ob_2 (by decide) (fun _ _ => rfl) (vp_in_iff.mpr (by omega)) dX7_put_29 (fun H locs hw => ?_)
  obtain ⟨M_27, hM_27⟩ : ∃ z : ti_M, z = uY M_20 2 0 (upd (tY M_20 2 0) (x_19 : Int32).toNatClampNeg (vp_nar .byte x_26)) := ⟨_, rfl⟩
  have hw := hw.to hM_27.symm
  have iM_27 : cI (cG M_27) M_27 := cI_tp iM_20 hM_27
  refine lv_aload_n hx hb dX7_put_30 rfl (lv_at hl 1 rfl) ?_
  refine lv_dup hx hb dX7_put_31 rfl ?_
  refine ti_get (ci := 7) (k := 1) (N := 7) (T := TX7) C hw iw_7 rfl ob_2 (by decide) (by decide) fl_X7_15 rfl rfl dX7_put_32 ?_
  refine ti_top (y := x_19) ((tI_uYE hM_27).trans (tI_uE hM_20)) ?_
  have u_28 : (tI M_27 2 1).toInt = (x_19 : Int32).toInt := by rw [((tI_uYE hM_27).trans (tI_uE hM_20))]
  refine lv_iconst (v := 1) hx hb dX7_put_35 (by decide) ?_
  refine lv_iadd hx hb dX7_put_36 ?_
  refine lv_topi (fun x_29 ex_29 => ?_)
  have tx_29 : x_29.toInt = x_19.toInt + 1 := i_add ex_29 rfl (by decide : (1 : Int32).toInt = 1) (by omega) (by omega)
  refine ti_putI (ci := 7) (k := 1) (N := 7) (T := TX7) C hw iw_7 tyX7 tyX7_ok nmX7 rfl ob_2 (by decide) (by decide) fl_X7_15 rfl rfl rfl rfl (fn_7 A _) fs_7_1 dX7_put_37 (fun H locs hw => ?_)
  obtain ⟨M_30, hM_30⟩ : ∃ z : ti_M, z = uI M_27 2 1 x_29 := ⟨_, rfl⟩
  have hw := hw.to hM_30.symm
  have iM_30 : cI (cG M_27) M_30 := cI_uI iM_27 hM_30 ob_2.1 (ib_mk (lo := 0) (hi := 700) (by omega) (by omega))
  have vM_30 : (tI M_30 2 1).toInt = (x_29 : Int32).toInt := by rw [tI_uE hM_30]
  refine lv_iinc (v := 0) (lv' := [(2, .int 0), (0, .ref (A 2 0)), (1, .int fo)]) hx hb dX7_put_40 hl (k := 0) rfl (by decide) (by decide) rfl (fun ls hl => ?_)
  refine lv_goto (tgt := 3) hx hb dX7_put_43 (by decide) ?_
  refine lv_iload_n hx hb dX7_put_3 rfl (lv_at hl 0 rfl) ?_
  refine sb_if_lt (tgt := 46) hx hb (by decide : (0 : Int32).toInt = 0) dX7_put_4 (by decide) (fun h => absurd h (by decide)) (fun c_4_30 => ?_)
  refine lv_aload_n hx hb dX7_put_7 rfl (lv_at hl 1 rfl) ?_
  refine ti_get (ci := 7) (k := 1) (N := 7) (T := TX7) C hw iw_7 rfl ob_2 (by decide) (by decide) fl_X7_15 rfl rfl dX7_put_8 ?_
  refine ti_top (y := x_29) (tI_uE hM_30) ?_
  have u_32 : (tI M_30 2 1).toInt = (x_29 : Int32).toInt := by rw [(tI_uE hM_30)]
  refine lv_sipush (v := 700) hx hb dX7_put_11 (by decide) ?_
  refine sb_icmp_ge (tgt := 40) hx hb rfl (by decide : (700 : Int32).toInt = 700) dX7_put_14 (by decide) (fun h => by omega) (fun c_14_32 => ?_)
  refine lv_aload_n hx hb dX7_put_17 rfl (lv_at hl 1 rfl) ?_
  refine ti_get (ci := 7) (k := 0) (N := 7) (T := TX7) (v := .ref (A 2 1)) C hw iw_7 rfl ob_2 (by decide) (by decide) fl_X7_9 rfl rfl dX7_put_18 ?_
  refine lv_aload_n hx hb dX7_put_21 rfl (lv_at hl 1 rfl) ?_
  refine ti_get (ci := 7) (k := 1) (N := 7) (T := TX7) C hw iw_7 rfl ob_2 (by decide) (by decide) fl_X7_15 rfl rfl dX7_put_22 ?_
  refine ti_top (y := x_29) (tI_uE hM_30) ?_
  have u_34 : (tI M_30 2 1).toInt = (x_29 : Int32).toInt := by rw [(tI_uE hM_30)]
  refine lv_iload_n hx hb dX7_put_25 rfl (lv_at hl 2 rfl) ?_
  refine lv_iload_n hx hb dX7_put_26 rfl (lv_at hl 0 rfl) ?_
  refine lv_ishr hx hb dX7_put_27 ?_
  refine lv_topi (fun x_35 ex_35 => ?_)
  refine lv_i2b hx hb dX7_put_28 rfl ?_
  refine lv_topi (fun x_36 ex_36 => ?_)
  refine ti_bast (ci := 7) (k := 0) (n := 700) C hw ob_2 (by decide) (fun _ _ => rfl) (vp_in_iff.mpr (by omega)) dX7_put_29 (fun H locs hw => ?_)
  obtain ⟨M_37, hM_37⟩ : ∃ z : ti_M, z = uY M_30 2 0 (upd (tY M_30 2 0) (x_29 : Int32).toNatClampNeg (vp_nar .byte x_36)) := ⟨_, rfl⟩
  have hw := hw.to hM_37.symm
  have iM_37 : cI (cG M_37) M_37 := cI_tp iM_30 hM_37
  refine lv_aload_n hx hb dX7_put_30 rfl (lv_at hl 1 rfl) ?_
  refine lv_dup hx hb dX7_put_31 rfl ?_
  refine ti_get (ci := 7) (k := 1) (N := 7) (T := TX7) C hw iw_7 rfl ob_2 (by decide) (by decide) fl_X7_15 rfl rfl dX7_put_32 ?_
  refine ti_top (y := x_29) ((tI_uYE hM_37).trans (tI_uE hM_30)) ?_
  have u_38 : (tI M_37 2 1).toInt = (x_29 : Int32).toInt := by rw [((tI_uYE hM_37).trans (tI_uE hM_30))]
  refine lv_iconst (v := 1) hx hb dX7_put_35 (by decide) ?_
  refine lv_iadd hx hb dX7_put_36 ?_
  refine lv_topi (fun x_39 ex_39 => ?_)
  have tx_39 : x_39.toInt = x_29.toInt + 1 := i_add ex_39 rfl (by decide : (1 : Int32).toInt = 1) (by omega) (by omega)
  refine ti_putI (ci := 7) (k := 1) (N := 7) (T := TX7) C hw iw_7 tyX7 tyX7_ok nmX7 rfl ob_2 (by decide) (by decide) fl_X7_15 rfl rfl rfl rfl (fn_7 A _) fs_7_1 dX7_put_37 (fun H locs hw => ?_)
  obtain ⟨M_40, hM_40⟩ : ∃ z : ti_M, z = uI M_37 2 1 x_39 := ⟨_, rfl⟩
  have hw := hw.to hM_40.symm
  have iM_40 : cI (cG M_37) M_40 := cI_uI iM_37 hM_40 ob_2.1 (ib_mk (lo := 0) (hi := 700) (by omega) (by omega))
  have vM_40 : (tI M_40 2 1).toInt = (x_39 : Int32).toInt := by rw [tI_uE hM_40]
  refine lv_iinc (v := (-8)) (lv' := [(2, .int (-8)), (0, .ref (A 2 0)), (1, .int fo)]) hx hb dX7_put_40 hl (k := 0) rfl (by decide) (by decide) rfl (fun ls hl => ?_)
  refine lv_goto (tgt := 3) hx hb dX7_put_43 (by decide) ?_
  refine lv_iload_n hx hb dX7_put_3 rfl (lv_at hl 0 rfl) ?_
  refine sb_if_lt (tgt := 46) hx hb (by decide : ((-8) : Int32).toInt = (-8)) dX7_put_4 (by decide) (fun c_4_40 => ?_) (fun h => absurd h (by decide))
  exact hQ _ _ _ _ _ hw (⟨(eo.trans (eo_I hM_40) (eo.trans (eo_Y hM_37) (eo.trans (eo_I hM_30) (eo.trans (eo_Y hM_27) (eo.trans (eo_I hM_20) (eo.trans (eo_Y hM_17) (eo.trans (eo_I hM_10) (eo_Y hM_7)))))))), cI_self iM_40, ((rf_I hM_40).trans ((rf_Y hM_37).trans ((rf_I hM_30).trans ((rf_Y hM_27).trans ((rf_I hM_20).trans ((rf_Y hM_17).trans ((rf_I hM_10).trans (rf_Y hM_7)))))))), (o2.trans (o2_I hM_40) (o2.trans (o2_of (ra_Y hM_37)) (o2.trans (o2_I hM_30) (o2.trans (o2_of (ra_Y hM_27)) (o2.trans (o2_I hM_20) (o2.trans (o2_of (ra_Y hM_17)) (o2.trans (o2_I hM_10) (o2_of (ra_Y hM_7))))))))), by rw [(tI_uE hM_40)]; omega, (fun i hi => by rw [tY_uIE hM_40, tY_uE hM_37, pk_un (show i ≠ (x_29 : Int32).toNatClampNeg by (show i ≠ (x_29 : Int32).toInt.toNat; omega)), tY_uIE hM_30, tY_uE hM_27, pk_un (show i ≠ (x_19 : Int32).toNatClampNeg by (show i ≠ (x_19 : Int32).toInt.toNat; omega)), tY_uIE hM_20, tY_uE hM_17, pk_un (show i ≠ (x_9 : Int32).toNatClampNeg by (show i ≠ (x_9 : Int32).toInt.toNat; omega)), tY_uIE hM_10, tY_uE hM_7, pk_un (show i ≠ (x_2 : Int32).toNatClampNeg by (show i ≠ (x_2 : Int32).toInt.toNat; omega))]), (fun j hj => by
      obtain rfl | rfl | rfl | rfl : j = 0 ∨ j = 1 ∨ j = 2 ∨ j = 3 := by omega
      · exact (by rw [show (tI M 2 1).toInt.toNat + 0 = (x_2 : Int32).toNatClampNeg by (show _ = (x_2 : Int32).toInt.toNat; omega), tY_uIE hM_40, tY_uE hM_37, pk_un (show (x_2 : Int32).toNatClampNeg ≠ (x_29 : Int32).toNatClampNeg by (show (x_2 : Int32).toInt.toNat ≠ (x_29 : Int32).toInt.toNat; omega)), tY_uIE hM_30, tY_uE hM_27, pk_un (show (x_2 : Int32).toNatClampNeg ≠ (x_19 : Int32).toNatClampNeg by (show (x_2 : Int32).toInt.toNat ≠ (x_19 : Int32).toInt.toNat; omega)), tY_uIE hM_20, tY_uE hM_17, pk_un (show (x_2 : Int32).toNatClampNeg ≠ (x_9 : Int32).toNatClampNeg by (show (x_2 : Int32).toInt.toNat ≠ (x_9 : Int32).toInt.toNat; omega)), tY_uIE hM_10, tY_uE hM_7, pk_us, pb_st ex_6 ex_5]; rfl)
      · exact (by rw [show (tI M 2 1).toInt.toNat + 1 = (x_9 : Int32).toNatClampNeg by (show _ = (x_9 : Int32).toInt.toNat; omega), tY_uIE hM_40, tY_uE hM_37, pk_un (show (x_9 : Int32).toNatClampNeg ≠ (x_29 : Int32).toNatClampNeg by (show (x_9 : Int32).toInt.toNat ≠ (x_29 : Int32).toInt.toNat; omega)), tY_uIE hM_30, tY_uE hM_27, pk_un (show (x_9 : Int32).toNatClampNeg ≠ (x_19 : Int32).toNatClampNeg by (show (x_9 : Int32).toInt.toNat ≠ (x_19 : Int32).toInt.toNat; omega)), tY_uIE hM_20, tY_uE hM_17, pk_us, pb_st ex_16 ex_15]; rfl)
      · exact (by rw [show (tI M 2 1).toInt.toNat + 2 = (x_19 : Int32).toNatClampNeg by (show _ = (x_19 : Int32).toInt.toNat; omega), tY_uIE hM_40, tY_uE hM_37, pk_un (show (x_19 : Int32).toNatClampNeg ≠ (x_29 : Int32).toNatClampNeg by (show (x_19 : Int32).toInt.toNat ≠ (x_29 : Int32).toInt.toNat; omega)), tY_uIE hM_30, tY_uE hM_27, pk_us, pb_st ex_26 ex_25]; rfl)
      · exact (by rw [show (tI M 2 1).toInt.toNat + 3 = (x_29 : Int32).toNatClampNeg by (show _ = (x_29 : Int32).toInt.toNat; omega), tY_uIE hM_40, tY_uE hM_37, pk_us, pb_st ex_36 ex_35]; rfl))⟩) dX7_put_46
set_option maxHeartbeats 4000000 in
set_option maxRecDepth 100000 in
theorem w_X9_feed (l : Launch) (D : va_G) (A : Nat → Nat → Nat) (cy : Nat → ClassId) (hJ : ti_inj ti_LT A) (M : ti_M) (hI : cI Tc M) (hF : cF Tc M) (z1 : Int32) (z2 : Int32) (z3 : Int32) (z4 : Int32) (z5 : Int32) : ti_Ki l yX9_feed cX9_feed 7 (some .int) 1 ti_LT D A cy M [.ref (A 0 0), .int z1, .int z2, .int z3, .int z4, .int z5] (fun r M2 => ((680 < (tI M 2 1).toInt ∧ r.toInt = -1 ∧ cF Tc M2 ∧ tI M2 2 1 = tI M 2 1 ∧ (∀ k : Nat, tI M2 1 k = tI M 1 k)) ∨ ((tI M 2 1).toInt ≤ 680 ∧ r.toInt = (tI M 2 1).toInt + 20 ∧ cF (cG M2) M2 ∧ (tI M2 2 1).toInt = (tI M 2 1).toInt + 20 ∧ (∀ i : Nat, (i : Int) < (tI M 2 1).toInt → tY M2 2 0 i = tY M 2 0 i) ∧ (∀ j : Nat, j < 20 → (tY M2 2 0 ((tI M 2 1).toInt.toNat + j) &&& 255).toInt = pp_fb z1 z2 z3 z4 z5 j) ∧ (∀ k : Nat, tI M2 1 k = tI M 1 k))) ∧ eo 2 M2 M ∧ M2.2.2.2 = M.2.2.2) := by
  refine ti_eI yp_X9_feed hJ ti_LT_nd (Nat.le_of_ble_eq_true rfl) ?_
  intro p e s m args below meth c Q H0 C hQ hw ls hl
  have hx := C.1
  have hb := C.2.1
  have hl : lv_has ls 7 [(0, .ref (A 0 0)), (1, .int z1), (2, .int z2), (3, .int z3), (4, .int z4), (5, .int z5)] := hl
  obtain ⟨-, ⟨t1, ht1, hT1⟩, ⟨t2, ht2, hT2⟩, ⟨t, ht, hT⟩, hS, hM⟩ := id hF
  refine lv_aload_n hx hb dX9_feed_0 rfl (lv_at hl 0 rfl) ?_
  refine ti_get (ci := 9) (k := 0) (N := 10) (T := TX9) (v := .ref (A 1 0)) C hw iw_9 rfl ob_0 (by decide) (by decide) fl_X9_12 rfl rfl dX9_feed_1 ?_
  refine ti_get (ci := 4) (k := 0) (N := 6) (T := TX4) (v := .ref (A 2 0)) C hw iw_4 rfl ob_1 (by decide) (by decide) fl_X9_69 rfl rfl dX9_feed_4 ?_
  refine lv_astore (lv' := [(6, .ref (A 2 0)), (0, .ref (A 0 0)), (1, .int z1), (2, .int z2), (3, .int z3), (4, .int z4), (5, .int z5)]) hx hb dX9_feed_7 hl (by decide) rfl (fun ls hl => ?_)
  refine lv_aload hx hb dX9_feed_9 (lv_at hl 0 rfl) ?_
  refine ti_get (ci := 7) (k := 1) (N := 7) (T := TX7) C hw iw_7 rfl ob_2 (by decide) (by decide) fl_X9_73 rfl rfl dX9_feed_11 ?_
  refine lv_topi (fun x_1 ex_1 => ?_)
  have bx_1 : 0 ≤ x_1.toInt ∧ x_1.toInt ≤ 700 := cI_rd hI ob_2.1 ex_1
  have ux_1 : (tI M 2 1).toInt = x_1.toInt := by rw [ex_1]
  refine lv_bipush (v := 20) hx hb dX9_feed_14 (by decide) ?_
  refine lv_iadd hx hb dX9_feed_16 ?_
  refine lv_topi (fun x_2 ex_2 => ?_)
  have tx_2 : x_2.toInt = x_1.toInt + 20 := i_add ex_2 rfl (by decide : (20 : Int32).toInt = 20) (by omega) (by omega)
  refine lv_sipush (v := 700) hx hb dX9_feed_17 (by decide) ?_
  refine sb_icmp_le (tgt := 25) hx hb rfl (by decide : (700 : Int32).toInt = 700) dX9_feed_20 (by decide) (fun c_20_2 => ?_) (fun c_20_2 => ?_)
  · refine lv_aload hx hb dX9_feed_25 (lv_at hl 0 rfl) ?_
    refine lv_iload_n hx hb dX9_feed_27 rfl (lv_at hl 2 rfl) ?_
    refine ti_callVv (ci := 7) (av := [.int z1]) C hw (w_X7_put l D A cy hJ M hI z1 (by omega)) ⟨ml_X9_79, ym_X7_put, yv_X7_put, yi_X7_put, yc_X7_put⟩ yd_X7_put ob_2 (by decide) rfl rfl hl.1 (Nat.le_of_ble_eq_true rfl) ⟨by decide, by decide⟩ ⟨Nat.zero_le _, Nat.zero_le _⟩ dX9_feed_28 (fun M_5 H locs hp_5 hw => ?_)
    obtain ⟨eM_5, hqM_5⟩ := hp_5
    obtain ⟨iM_5, q_6, q_7, k0M_5, k1M_5, k2M_5⟩ := hqM_5
    refine lv_aload hx hb dX9_feed_31 (lv_at hl 0 rfl) ?_
    refine lv_iload_n hx hb dX9_feed_33 rfl (lv_at hl 3 rfl) ?_
    refine ti_callVv (ci := 7) (av := [.int z2]) C hw (w_X7_put l D A cy hJ M_5 iM_5 z2 (by omega)) ⟨ml_X9_79, ym_X7_put, yv_X7_put, yi_X7_put, yc_X7_put⟩ yd_X7_put ob_2 (by decide) rfl rfl hl.1 (Nat.le_of_ble_eq_true rfl) ⟨by decide, by decide⟩ ⟨Nat.zero_le _, Nat.zero_le _⟩ dX9_feed_34 (fun M_9 H locs hp_9 hw => ?_)
    obtain ⟨eM_9, hqM_9⟩ := hp_9
    obtain ⟨iM_9, q_10, q_11, k0M_9, k1M_9, k2M_9⟩ := hqM_9
    refine lv_aload hx hb dX9_feed_37 (lv_at hl 0 rfl) ?_
    refine lv_iload_n hx hb dX9_feed_39 rfl (lv_at hl 4 rfl) ?_
    refine ti_callVv (ci := 7) (av := [.int z3]) C hw (w_X7_put l D A cy hJ M_9 iM_9 z3 (by omega)) ⟨ml_X9_79, ym_X7_put, yv_X7_put, yi_X7_put, yc_X7_put⟩ yd_X7_put ob_2 (by decide) rfl rfl hl.1 (Nat.le_of_ble_eq_true rfl) ⟨by decide, by decide⟩ ⟨Nat.zero_le _, Nat.zero_le _⟩ dX9_feed_40 (fun M_13 H locs hp_13 hw => ?_)
    obtain ⟨eM_13, hqM_13⟩ := hp_13
    obtain ⟨iM_13, q_14, q_15, k0M_13, k1M_13, k2M_13⟩ := hqM_13
    refine lv_aload hx hb dX9_feed_43 (lv_at hl 0 rfl) ?_
    refine lv_iload hx hb dX9_feed_45 (lv_at hl 5 rfl) ?_
    refine ti_callVv (ci := 7) (av := [.int z4]) C hw (w_X7_put l D A cy hJ M_13 iM_13 z4 (by omega)) ⟨ml_X9_79, ym_X7_put, yv_X7_put, yi_X7_put, yc_X7_put⟩ yd_X7_put ob_2 (by decide) rfl rfl hl.1 (Nat.le_of_ble_eq_true rfl) ⟨by decide, by decide⟩ ⟨Nat.zero_le _, Nat.zero_le _⟩ dX9_feed_47 (fun M_17 H locs hp_17 hw => ?_)
    obtain ⟨eM_17, hqM_17⟩ := hp_17
    obtain ⟨iM_17, q_18, q_19, k0M_17, k1M_17, k2M_17⟩ := hqM_17
    refine lv_aload hx hb dX9_feed_50 (lv_at hl 0 rfl) ?_
    refine lv_iload hx hb dX9_feed_52 (lv_at hl 6 rfl) ?_
    refine ti_callVv (ci := 7) (av := [.int z5]) C hw (w_X7_put l D A cy hJ M_17 iM_17 z5 (by omega)) ⟨ml_X9_79, ym_X7_put, yv_X7_put, yi_X7_put, yc_X7_put⟩ yd_X7_put ob_2 (by decide) rfl rfl hl.1 (Nat.le_of_ble_eq_true rfl) ⟨by decide, by decide⟩ ⟨Nat.zero_le _, Nat.zero_le _⟩ dX9_feed_54 (fun M_21 H locs hp_21 hw => ?_)
    obtain ⟨eM_21, hqM_21⟩ := hp_21
    obtain ⟨iM_21, q_22, q_23, k0M_21, k1M_21, k2M_21⟩ := hqM_21
    refine lv_aload hx hb dX9_feed_57 (lv_at hl 0 rfl) ?_
    refine ti_get (ci := 7) (k := 1) (N := 7) (T := TX7) C hw iw_7 rfl ob_2 (by decide) (by decide) fl_X9_73 rfl rfl dX9_feed_59 ?_
    refine lv_topi (fun x_24 ex_24 => ?_)
    have bx_24 : 0 ≤ x_24.toInt ∧ x_24.toInt ≤ 700 := cI_rd iM_21 ob_2.1 ex_24
    have ux_24 : (tI M_21 2 1).toInt = x_24.toInt := by rw [ex_24]
    exact hQ _ _ _ _ _ _ hw rfl (⟨(Or.inr ⟨by omega, by omega, cF_rx hF iM_21 (rr_of ((q_22).trans ((q_18).trans ((q_14).trans ((q_10).trans q_6))))) (f0_12 (o2_12 (o2.trans q_23 (o2.trans q_19 (o2.trans q_15 (o2.trans q_11 q_7)))))), by omega, (fun i hi => ((k1M_21 i (by omega)).trans ((k1M_17 i (by omega)).trans ((k1M_13 i (by omega)).trans ((k1M_9 i (by omega)).trans (k1M_5 i (by omega))))))), (fun j hj => by
      rcases (show j < 4 ∨ (4 ≤ j ∧ j < 8) ∨ (8 ≤ j ∧ j < 12) ∨ (12 ≤ j ∧ j < 16) ∨ 16 ≤ j by omega) with g | g | g | g | g
      · have b := k2M_5 (j - 0) (by omega)
        rw [show (tI M 2 1).toInt.toNat + (j - 0) = (tI M 2 1).toInt.toNat + j by omega] at b
        rw [k1M_21 _ (by omega)]
        rw [k1M_17 _ (by omega)]
        rw [k1M_13 _ (by omega)]
        rw [k1M_9 _ (by omega)]
        unfold pp_fb
        rw [if_pos (by omega), show j % 4 = j - 0 by omega]
        exact b
      · have b := k2M_9 (j - 4) (by omega)
        rw [show (tI M_5 2 1).toInt.toNat + (j - 4) = (tI M 2 1).toInt.toNat + j by omega] at b
        rw [k1M_21 _ (by omega)]
        rw [k1M_17 _ (by omega)]
        rw [k1M_13 _ (by omega)]
        unfold pp_fb
        rw [if_neg (by omega), if_pos (by omega), show j % 4 = j - 4 by omega]
        exact b
      · have b := k2M_13 (j - 8) (by omega)
        rw [show (tI M_9 2 1).toInt.toNat + (j - 8) = (tI M 2 1).toInt.toNat + j by omega] at b
        rw [k1M_21 _ (by omega)]
        rw [k1M_17 _ (by omega)]
        unfold pp_fb
        rw [if_neg (by omega), if_neg (by omega), if_pos (by omega), show j % 4 = j - 8 by omega]
        exact b
      · have b := k2M_17 (j - 12) (by omega)
        rw [show (tI M_13 2 1).toInt.toNat + (j - 12) = (tI M 2 1).toInt.toNat + j by omega] at b
        rw [k1M_21 _ (by omega)]
        unfold pp_fb
        rw [if_neg (by omega), if_neg (by omega), if_neg (by omega), if_pos (by omega), show j % 4 = j - 12 by omega]
        exact b
      · have b := k2M_21 (j - 16) (by omega)
        rw [show (tI M_17 2 1).toInt.toNat + (j - 16) = (tI M 2 1).toInt.toNat + j by omega] at b
        unfold pp_fb
        rw [if_neg (by omega), if_neg (by omega), if_neg (by omega), if_neg (by omega), show j % 4 = j - 16 by omega]
        exact b), (fun k => ((q_23 1 k (by decide)).trans ((q_19 1 k (by decide)).trans ((q_15 1 k (by decide)).trans ((q_11 1 k (by decide)).trans (q_7 1 k (by decide)))))))⟩), (eo.trans eM_21 (eo.trans eM_17 (eo.trans eM_13 (eo.trans eM_9 eM_5)))), ((q_22).trans ((q_18).trans ((q_14).trans ((q_10).trans q_6))))⟩) dX9_feed_62
  · refine lv_iconst (v := (-1)) hx hb dX9_feed_23 (by decide) ?_
    exact hQ _ _ _ _ _ _ hw rfl (⟨(Or.inl ⟨by omega, by decide, hF, rfl, fun _ => rfl⟩), eo.refl, rfl⟩) dX9_feed_24
end
section
variable {Tc : gC} {Tm : gM}
variable {Tm : gM}
/-- all rows of what is told, of queues, steps, image, log stay -/
def qy (N M : ti_M) : Prop := (∀ k : Nat, 3 ≤ k → k < 60 → tY N 60 k = tY M 60 k) ∧ tI N 60 51 = tI M 60 51 ∧ tI N 60 52 = tI M 60 52 ∧ tI N 60 53 = tI M 60 53
theorem qy.refl {M : ti_M} : qy M M := ⟨fun _ _ _ => rfl, rfl, rfl, rfl⟩
theorem qy.trans {K N M : ti_M} (x : qy K N) (y : qy N M) : qy K M := ⟨fun k a b => (x.1 k a b).trans (y.1 k a b), x.2.1.trans y.2.1, x.2.2.1.trans y.2.2.1, x.2.2.2.trans y.2.2.2⟩
theorem qy_I {N M : ti_M} {k : Nat} {v : Int32} (e : N = uI M 60 k v) (h : k ≠ 51 ∧ k ≠ 52 ∧ k ≠ 53) : qy N M := ⟨fun _ _ _ => tY_uIE e, tI_nE e (nk (Ne.symm h.1)), tI_nE e (nk (Ne.symm h.2.1)), tI_nE e (nk (Ne.symm h.2.2))⟩
theorem qy_Y {N M : ti_M} {k : Nat} {f : Nat → Int32} (e : N = uY M 60 k f) (h : k < 3 ∨ 60 ≤ k) : qy N M := ⟨fun k2 _ _ => tY_nE e (nk (by omega)), tI_uYE e, tI_uYE e, tI_uYE e⟩
set_option maxHeartbeats 4000000 in
set_option maxRecDepth 100000 in
theorem w_X10_isPlace (l : Launch) (D : va_G) (A : Nat → Nat → Nat) (cy : Nat → ClassId) (hJ : ti_inj ti_LM A) (M : ti_M) (hI : mI Tm M)  (a : Int32) : ti_Ki l yX10_isPlace cX10_isPlace 1 (some .boolean) 0 ti_LM D A cy M [.int a] (fun r M2 => M2 = M ∧ ((r = 1 ∧ 0 ≤ a.toInt ∧ a.toInt ≤ 7) ∨ (r = 0 ∧ (a.toInt < 0 ∨ 7 < a.toInt)))) := by
  refine ti_eI yp_X10_isPlace hJ ti_LM_nd (Nat.le_of_ble_eq_true rfl) ?_
  intro p e s m args below meth c Q H0 C hQ hw ls hl
  have hx := C.1
  have hb := C.2.1
  have hl : lv_has ls 1 [(0, .int a)] := hl
  refine lv_iload_n hx hb dX10_isPlace_0 rfl (lv_at hl 0 rfl) ?_
  refine sb_if_lt (tgt := 14) hx hb rfl dX10_isPlace_1 (by decide) (fun c_1_0 => ?_) (fun c_1_0 => ?_)
  · refine lv_iconst (v := 0) hx hb dX10_isPlace_14 (by decide) ?_
    exact hQ _ _ _ _ _ _ hw rfl (⟨rfl, Or.inr ⟨rfl, by omega⟩⟩) dX10_isPlace_15
  · refine lv_iload_n hx hb dX10_isPlace_4 rfl (lv_at hl 0 rfl) ?_
    refine lv_bipush (v := 8) hx hb dX10_isPlace_5 (by decide) ?_
    refine sb_icmp_ge (tgt := 14) hx hb rfl (by decide : (8 : Int32).toInt = 8) dX10_isPlace_7 (by decide) (fun c_7_1 => ?_) (fun c_7_1 => ?_)
    · refine lv_iconst (v := 0) hx hb dX10_isPlace_14 (by decide) ?_
      exact hQ _ _ _ _ _ _ hw rfl (⟨rfl, Or.inr ⟨rfl, by omega⟩⟩) dX10_isPlace_15
    · refine lv_iconst (v := 1) hx hb dX10_isPlace_10 (by decide) ?_
      refine lv_goto (tgt := 15) hx hb dX10_isPlace_11 (by decide) ?_
      exact hQ _ _ _ _ _ _ hw rfl (⟨rfl, Or.inl ⟨rfl, by omega, by omega⟩⟩) dX10_isPlace_15
set_option maxHeartbeats 4000000 in
set_option maxRecDepth 100000 in
theorem w_X10_isMan (l : Launch) (D : va_G) (A : Nat → Nat → Nat) (cy : Nat → ClassId) (hJ : ti_inj ti_LM A) (M : ti_M) (hI : mI Tm M)  (a : Int32) : ti_Ki l yX10_isMan cX10_isMan 2 (some .boolean) 0 ti_LM D A cy M [.ref (A 60 0), .int a] (fun r M2 => M2 = M ∧ ((r = 1 ∧ 0 ≤ a.toInt ∧ a.toInt < (tY M 60 3 0).toInt) ∨ (r = 0 ∧ (a.toInt < 0 ∨ (tY M 60 3 0).toInt ≤ a.toInt)))) := by
  refine ti_eI yp_X10_isMan hJ ti_LM_nd (Nat.le_of_ble_eq_true rfl) ?_
  intro p e s m args below meth c Q H0 C hQ hw ls hl
  have hx := C.1
  have hb := C.2.1
  have hl : lv_has ls 2 [(0, .ref (A 60 0)), (1, .int a)] := hl
  refine lv_iload_n hx hb dX10_isMan_0 rfl (lv_at hl 1 rfl) ?_
  refine sb_if_lt (tgt := 18) hx hb rfl dX10_isMan_1 (by decide) (fun c_1_0 => ?_) (fun c_1_0 => ?_)
  · refine lv_iconst (v := 0) hx hb dX10_isMan_18 (by decide) ?_
    exact hQ _ _ _ _ _ _ hw rfl (⟨rfl, Or.inr ⟨rfl, by omega⟩⟩) dX10_isMan_19
  · refine lv_iload_n hx hb dX10_isMan_4 rfl (lv_at hl 1 rfl) ?_
    refine lv_aload_n hx hb dX10_isMan_5 rfl (lv_at hl 0 rfl) ?_
    refine ti_get (ci := 10) (k := 3) (N := 67) (T := TX10) (v := .ref (A 60 4)) C hw iw_10 rfl ob_60 (by decide) (by decide) fl_X10_13 rfl rfl dX10_isMan_6 ?_
    refine lv_iconst (v := 0) hx hb dX10_isMan_9 (by decide) ?_
    refine ti_iald (ci := 10) (k := 3) (n := 22) C hw ob_60 (by decide) (fun _ _ => rfl) (by unfold vp_in; decide) dX10_isMan_10 ?_
    refine lv_topi (fun x_2 ex_2 => ?_)
    have yx_2 : tY M 60 3 0 = x_2 := ((congrArg _ (by decide)).symm.trans ex_2.symm)
    have bx_2 : 0 ≤ x_2.toInt ∧ x_2.toInt ≤ 8 := mI_rn (i := 0) hI yx_2.symm (fun _ h => h)
    have zx_2 : (tY M 60 3 0).toInt = x_2.toInt := by rw [yx_2]
    refine sb_icmp_ge (tgt := 18) hx hb rfl rfl dX10_isMan_11 (by decide) (fun c_11_2 => ?_) (fun c_11_2 => ?_)
    · refine lv_iconst (v := 0) hx hb dX10_isMan_18 (by decide) ?_
      exact hQ _ _ _ _ _ _ hw rfl (⟨rfl, Or.inr ⟨rfl, by rw [(yx_2)]; omega⟩⟩) dX10_isMan_19
    · refine lv_iconst (v := 1) hx hb dX10_isMan_14 (by decide) ?_
      refine lv_goto (tgt := 19) hx hb dX10_isMan_15 (by decide) ?_
      exact hQ _ _ _ _ _ _ hw rfl (⟨rfl, Or.inl ⟨rfl, by omega, by rw [(yx_2)]; omega⟩⟩) dX10_isMan_19
set_option maxHeartbeats 4000000 in
set_option maxRecDepth 100000 in
theorem w_X10_stone (l : Launch) (D : va_G) (A : Nat → Nat → Nat) (cy : Nat → ClassId) (hJ : ti_inj ti_LM A) (M : ti_M) (hI : mI Tm M) (hF : mF Tm M) (z1 : Int32) (z2 : Int32) (z3 : Int32) (rg : Nat → Int) (htd : tdR M rg) : ti_Ki l yX10_stone cX10_stone 4 (some .int) 1 ti_LM D A cy M [.ref (A 60 0), .int z1, .int z2, .int z3] (fun r M2 => ((z1.toInt < 0 ∨ 59 < z1.toInt ∨ z2.toInt < 0 ∨ 7 < z2.toInt ∨ (z3.toInt ≠ -1 ∧ (z3.toInt < 0 ∨ rg 7 ≤ z3.toInt)) ∨ 24 ≤ (tI M 60 58).toInt) ∧ r.toInt = -1 ∧ mF Tm M2 ∧ tI M2 60 2 = tI M 60 2 ∧ lw M2 M ∧ qy M2 M) ∨ (¬ (z1.toInt < 0 ∨ 59 < z1.toInt ∨ z2.toInt < 0 ∨ 7 < z2.toInt ∨ (z3.toInt ≠ -1 ∧ (z3.toInt < 0 ∨ rg 7 ≤ z3.toInt)) ∨ 24 ≤ (tI M 60 58).toInt) ∧ r.toInt = (tI M 60 58).toInt ∧ mF (mG M2) M2 ∧ tI M2 60 2 = tI M 60 2 ∧ lw M2 M ∧ tY M2 60 1 = tY M 60 1 ∧ tI M2 60 27 = tI M 60 27 ∧ tI M2 60 28 = tI M 60 28 ∧ qy M2 M ∧ (tI M2 60 58).toInt = (tI M 60 58).toInt + 1 ∧ tI M2 60 59 = tI M 60 59)) := by
  refine ti_eI yp_X10_stone hJ ti_LM_nd (Nat.le_of_ble_eq_true rfl) ?_
  intro p e s m args below meth c Q H0 C hQ hw ls hl
  have hx := C.1
  have hb := C.2.1
  have hl : lv_has ls 4 [(0, .ref (A 60 0)), (1, .int z1), (2, .int z2), (3, .int z3)] := hl
  have hL : mL M := hF.2.1
  have hC0 : mC M 0 := hF.2.2.1.1
  have hP0 : mP M 0 := hF.2.2.1.2
  have h7 := htd.1
  refine lv_aload_n hx hb dX10_stone_0 rfl (lv_at hl 0 rfl) ?_
  refine lv_iconst (v := 0) hx hb dX10_stone_1 (by decide) ?_
  refine ti_putI (ci := 10) (k := 0) (N := 67) (T := TX10) C hw iw_10 tyX10 tyX10_ok nmX10 rfl ob_60 (by decide) (by decide) fl_X10_154 rfl rfl rfl rfl (fn_10 A _) fs_10_0 dX10_stone_2 (fun H locs hw => ?_)
  obtain ⟨M_1, hM_1⟩ : ∃ z : ti_M, z = uI M 60 0 0 := ⟨_, rfl⟩
  have hw := hw.to hM_1.symm
  have iM_1 : mI Tm M_1 := mI_uI hI hM_1 (by decide) (by decide) trivial
  have v_2 : (tI M_1 60 58).toInt = (tI M 60 58).toInt := by rw [tI_nE hM_1 (nk (by decide))]
  have v_3 : (tI M_1 60 59).toInt = (tI M 60 59).toInt := by rw [tI_nE hM_1 (nk (by decide))]
  refine lv_iload_n hx hb dX10_stone_5 rfl (lv_at hl 1 rfl) ?_
  refine sb_if_lt (tgt := 44) hx hb rfl dX10_stone_6 (by decide) (fun c_6_3 => ?_) (fun c_6_3 => ?_)
  · refine lv_iconst (v := (-1)) hx hb dX10_stone_44 (by decide) ?_
    exact hQ _ _ _ _ _ _ hw rfl (Or.inl ⟨by omega, by decide, mF_qw hF iM_1 (qw_I hM_1 (by decide)), (qw_I hM_1 (by decide)).2.1.1, (qw_I hM_1 (by decide)).1, (qy_I hM_1 (by decide))⟩) dX10_stone_45
  · refine lv_iload_n hx hb dX10_stone_9 rfl (lv_at hl 1 rfl) ?_
    refine lv_bipush (v := 59) hx hb dX10_stone_10 (by decide) ?_
    refine sb_icmp_gt (tgt := 44) hx hb rfl (by decide : (59 : Int32).toInt = 59) dX10_stone_12 (by decide) (fun c_12_4 => ?_) (fun c_12_4 => ?_)
    · refine lv_iconst (v := (-1)) hx hb dX10_stone_44 (by decide) ?_
      exact hQ _ _ _ _ _ _ hw rfl (Or.inl ⟨by omega, by decide, mF_qw hF iM_1 (qw_I hM_1 (by decide)), (qw_I hM_1 (by decide)).2.1.1, (qw_I hM_1 (by decide)).1, (qy_I hM_1 (by decide))⟩) dX10_stone_45
    · refine lv_iload_n hx hb dX10_stone_15 rfl (lv_at hl 2 rfl) ?_
      refine ti_callSi (av := [.int z2]) C hw (w_X10_isPlace l D A cy hJ M_1 iM_1 z2) ⟨ml_X10_414, ys_X10_isPlace, yi_X10_isPlace, yc_X10_isPlace⟩ yd_X10_isPlace rfl hl.1 (Nat.le_of_ble_eq_true rfl) ⟨by decide, by decide⟩ ⟨Nat.zero_le _, Nat.zero_le _⟩ dX10_stone_16 (fun r_6 M_7 H locs hp_7 hw => ?_)
      obtain ⟨hm, hz⟩ := hp_7
      have hw := hw.to hm
      rcases hz with ⟨rfl, d0_8, d1_8⟩ | ⟨rfl, e_8⟩
      · refine sb_if_eq (tgt := 44) hx hb (by decide : (1 : Int32).toInt = 1) dX10_stone_19 (by decide) (fun h => absurd h (by decide)) (fun c_19_8 => ?_)
        refine lv_iload_n hx hb dX10_stone_22 rfl (lv_at hl 3 rfl) ?_
        refine lv_iconst (v := (-1)) hx hb dX10_stone_23 (by decide) ?_
        refine sb_icmp_eq (tgt := 35) hx hb rfl (by decide : ((-1) : Int32).toInt = (-1)) dX10_stone_24 (by decide) (fun c_24_10 => ?_) (fun c_24_10 => ?_)
        · refine lv_aload_n hx hb dX10_stone_35 rfl (lv_at hl 0 rfl) ?_
          refine ti_get (ci := 10) (k := 58) (N := 67) (T := TX10) C hw iw_10 rfl ob_60 (by decide) (by decide) fl_X10_310 rfl rfl dX10_stone_36 ?_
          refine lv_topi (fun x_18 ex_18 => ?_)
          have bx_18 : 0 ≤ x_18.toInt ∧ x_18.toInt ≤ 24 := mI_rd iM_1 ex_18
          have ux_18 : (tI M_1 60 58).toInt = x_18.toInt := by rw [ex_18]
          refine lv_bipush (v := 24) hx hb dX10_stone_39 (by decide) ?_
          refine sb_icmp_ne (tgt := 46) hx hb rfl (by decide : (24 : Int32).toInt = 24) dX10_stone_41 (by decide) (fun c_41_18 => ?_) (fun c_41_18 => ?_)
          · refine lv_aload_n hx hb dX10_stone_46 rfl (lv_at hl 0 rfl) ?_
            refine ti_get (ci := 10) (k := 60) (N := 67) (T := TX10) (v := .ref (A 60 61)) C hw iw_10 rfl ob_60 (by decide) (by decide) fl_X10_135 rfl rfl dX10_stone_47 ?_
            refine lv_aload_n hx hb dX10_stone_50 rfl (lv_at hl 0 rfl) ?_
            refine ti_get (ci := 10) (k := 58) (N := 67) (T := TX10) C hw iw_10 rfl ob_60 (by decide) (by decide) fl_X10_310 rfl rfl dX10_stone_51 ?_
            refine ti_top (y := x_18) (ex_18.symm) ?_
            have u_22 : (tI M_1 60 58).toInt = (x_18 : Int32).toInt := by rw [(ex_18.symm)]
            refine lv_iload_n hx hb dX10_stone_54 rfl (lv_at hl 1 rfl) ?_
            refine ti_iast (ci := 10) (k := 60) (n := 24) C hw ob_60 (by decide) (fun _ _ => rfl) (vp_in_iff.mpr (by omega)) dX10_stone_55 (fun H locs hw => ?_)
            obtain ⟨M_23, hM_23⟩ : ∃ z : ti_M, z = uY M_1 60 60 (upd (tY M_1 60 60) (x_18 : Int32).toNatClampNeg z1) := ⟨_, rfl⟩
            have hw := hw.to hM_23.symm
            have iM_23 : mI (mG M_23) M_23 := mI_ry2 (i := x_18.toNatClampNeg) iM_1 hM_23 (ib_mk (lo := 0) (hi := 59) (by omega) (by omega))
            have v_24 : (tI M_23 60 58).toInt = (tI M_1 60 58).toInt := by rw [tI_uYE hM_23]
            have v_25 : (tI M_23 60 59).toInt = (tI M_1 60 59).toInt := by rw [tI_uYE hM_23]
            refine lv_aload_n hx hb dX10_stone_56 rfl (lv_at hl 0 rfl) ?_
            refine ti_get (ci := 10) (k := 61) (N := 67) (T := TX10) (v := .ref (A 60 62)) C hw iw_10 rfl ob_60 (by decide) (by decide) fl_X10_138 rfl rfl dX10_stone_57 ?_
            refine lv_aload_n hx hb dX10_stone_60 rfl (lv_at hl 0 rfl) ?_
            refine ti_get (ci := 10) (k := 58) (N := 67) (T := TX10) C hw iw_10 rfl ob_60 (by decide) (by decide) fl_X10_310 rfl rfl dX10_stone_61 ?_
            refine ti_top (y := x_18) ((tI_uYE hM_23).trans ex_18.symm) ?_
            have u_26 : (tI M_23 60 58).toInt = (x_18 : Int32).toInt := by rw [((tI_uYE hM_23).trans ex_18.symm)]
            refine lv_iload_n hx hb dX10_stone_64 rfl (lv_at hl 2 rfl) ?_
            refine ti_iast (ci := 10) (k := 61) (n := 24) C hw ob_60 (by decide) (fun _ _ => rfl) (vp_in_iff.mpr (by omega)) dX10_stone_65 (fun H locs hw => ?_)
            obtain ⟨M_27, hM_27⟩ : ∃ z : ti_M, z = uY M_23 60 61 (upd (tY M_23 60 61) (x_18 : Int32).toNatClampNeg z2) := ⟨_, rfl⟩
            have hw := hw.to hM_27.symm
            have iM_27 : mI (mG M_27) M_27 := mI_ry2 (i := x_18.toNatClampNeg) iM_23 hM_27 (ib_mk (lo := 0) (hi := 7) (by omega) (by omega))
            have v_28 : (tI M_27 60 58).toInt = (tI M_23 60 58).toInt := by rw [tI_uYE hM_27]
            have v_29 : (tI M_27 60 59).toInt = (tI M_23 60 59).toInt := by rw [tI_uYE hM_27]
            refine lv_aload_n hx hb dX10_stone_66 rfl (lv_at hl 0 rfl) ?_
            refine ti_get (ci := 10) (k := 62) (N := 67) (T := TX10) (v := .ref (A 60 63)) C hw iw_10 rfl ob_60 (by decide) (by decide) fl_X10_141 rfl rfl dX10_stone_67 ?_
            refine lv_aload_n hx hb dX10_stone_70 rfl (lv_at hl 0 rfl) ?_
            refine ti_get (ci := 10) (k := 58) (N := 67) (T := TX10) C hw iw_10 rfl ob_60 (by decide) (by decide) fl_X10_310 rfl rfl dX10_stone_71 ?_
            refine ti_top (y := x_18) ((tI_uYE hM_27).trans ((tI_uYE hM_23).trans ex_18.symm)) ?_
            have u_30 : (tI M_27 60 58).toInt = (x_18 : Int32).toInt := by rw [((tI_uYE hM_27).trans ((tI_uYE hM_23).trans ex_18.symm))]
            refine lv_iload_n hx hb dX10_stone_74 rfl (lv_at hl 3 rfl) ?_
            refine ti_iast (ci := 10) (k := 62) (n := 24) C hw ob_60 (by decide) (fun _ _ => rfl) (vp_in_iff.mpr (by omega)) dX10_stone_75 (fun H locs hw => ?_)
            obtain ⟨M_31, hM_31⟩ : ∃ z : ti_M, z = uY M_27 60 62 (upd (tY M_27 60 62) (x_18 : Int32).toNatClampNeg z3) := ⟨_, rfl⟩
            have hw := hw.to hM_31.symm
            have iM_31 : mI (mG M_31) M_31 := mI_ry2 (i := x_18.toNatClampNeg) iM_27 hM_31 trivial
            have v_32 : (tI M_31 60 58).toInt = (tI M_27 60 58).toInt := by rw [tI_uYE hM_31]
            have v_33 : (tI M_31 60 59).toInt = (tI M_27 60 59).toInt := by rw [tI_uYE hM_31]
            refine lv_aload_n hx hb dX10_stone_76 rfl (lv_at hl 0 rfl) ?_
            refine ti_get (ci := 10) (k := 63) (N := 67) (T := TX10) (v := .ref (A 60 64)) C hw iw_10 rfl ob_60 (by decide) (by decide) fl_X10_144 rfl rfl dX10_stone_77 ?_
            refine lv_aload_n hx hb dX10_stone_80 rfl (lv_at hl 0 rfl) ?_
            refine ti_get (ci := 10) (k := 58) (N := 67) (T := TX10) C hw iw_10 rfl ob_60 (by decide) (by decide) fl_X10_310 rfl rfl dX10_stone_81 ?_
            refine ti_top (y := x_18) ((tI_uYE hM_31).trans ((tI_uYE hM_27).trans ((tI_uYE hM_23).trans ex_18.symm))) ?_
            have u_34 : (tI M_31 60 58).toInt = (x_18 : Int32).toInt := by rw [((tI_uYE hM_31).trans ((tI_uYE hM_27).trans ((tI_uYE hM_23).trans ex_18.symm)))]
            refine lv_iconst (v := (-1)) hx hb dX10_stone_84 (by decide) ?_
            refine ti_iast (ci := 10) (k := 63) (n := 24) C hw ob_60 (by decide) (fun _ _ => rfl) (vp_in_iff.mpr (by omega)) dX10_stone_85 (fun H locs hw => ?_)
            obtain ⟨M_35, hM_35⟩ : ∃ z : ti_M, z = uY M_31 60 63 (upd (tY M_31 60 63) (x_18 : Int32).toNatClampNeg (-1)) := ⟨_, rfl⟩
            have hw := hw.to hM_35.symm
            have iM_35 : mI (mG M_35) M_35 := mI_ry2 (i := x_18.toNatClampNeg) iM_31 hM_35 (ib_mk (lo := (-1)) (hi := 23) (by decide) (by decide))
            have v_36 : (tI M_35 60 58).toInt = (tI M_31 60 58).toInt := by rw [tI_uYE hM_35]
            have v_37 : (tI M_35 60 59).toInt = (tI M_31 60 59).toInt := by rw [tI_uYE hM_35]
            refine lv_aload_n hx hb dX10_stone_86 rfl (lv_at hl 0 rfl) ?_
            refine lv_dup hx hb dX10_stone_87 rfl ?_
            refine ti_get (ci := 10) (k := 58) (N := 67) (T := TX10) C hw iw_10 rfl ob_60 (by decide) (by decide) fl_X10_310 rfl rfl dX10_stone_88 ?_
            refine ti_top (y := x_18) ((tI_uYE hM_35).trans ((tI_uYE hM_31).trans ((tI_uYE hM_27).trans ((tI_uYE hM_23).trans ex_18.symm)))) ?_
            have u_38 : (tI M_35 60 58).toInt = (x_18 : Int32).toInt := by rw [((tI_uYE hM_35).trans ((tI_uYE hM_31).trans ((tI_uYE hM_27).trans ((tI_uYE hM_23).trans ex_18.symm))))]
            refine lv_iconst (v := 1) hx hb dX10_stone_91 (by decide) ?_
            refine lv_iadd hx hb dX10_stone_92 ?_
            refine lv_topi (fun x_39 ex_39 => ?_)
            have tx_39 : x_39.toInt = x_18.toInt + 1 := i_add ex_39 rfl (by decide : (1 : Int32).toInt = 1) (by omega) (by omega)
            refine ti_putI (ci := 10) (k := 58) (N := 67) (T := TX10) C hw iw_10 tyX10 tyX10_ok nmX10 rfl ob_60 (by decide) (by decide) fl_X10_310 rfl rfl rfl rfl (fn_10 A _) fs_10_58 dX10_stone_93 (fun H locs hw => ?_)
            obtain ⟨M_40, hM_40⟩ : ∃ z : ti_M, z = uI M_35 60 58 x_39 := ⟨_, rfl⟩
            have hw := hw.to hM_40.symm
            have iM_40 : mI (mG M_40) M_40 := mI_ls iM_35 hM_40 (Or.inl rfl) (ib_mk (lo := 0) (hi := 24) (by omega) (by omega))
            have vM_40 : (tI M_40 60 58).toInt = (x_39 : Int32).toInt := by rw [tI_uE hM_40]
            have v_41 : (tI M_40 60 58).toInt = (x_39 : Int32).toInt := by rw [tI_uE hM_40]
            have v_42 : (tI M_40 60 59).toInt = (tI M_35 60 59).toInt := by rw [tI_nE hM_40 (nk (by decide))]
            refine lv_aload_n hx hb dX10_stone_96 rfl (lv_at hl 0 rfl) ?_
            refine ti_get (ci := 10) (k := 58) (N := 67) (T := TX10) C hw iw_10 rfl ob_60 (by decide) (by decide) fl_X10_310 rfl rfl dX10_stone_97 ?_
            refine ti_top (y := x_39) (tI_uE hM_40) ?_
            have u_43 : (tI M_40 60 58).toInt = (x_39 : Int32).toInt := by rw [(tI_uE hM_40)]
            refine lv_iconst (v := 1) hx hb dX10_stone_100 (by decide) ?_
            refine lv_isub hx hb dX10_stone_101 ?_
            refine lv_topi (fun x_44 ex_44 => ?_)
            have tx_44 : x_44.toInt = x_39.toInt - 1 := i_sub ex_44 rfl (by decide : (1 : Int32).toInt = 1) (by omega) (by omega)
            exact hQ _ _ _ _ _ _ hw rfl (Or.inr ⟨by omega, by omega, mF_self (mF_qx hF iM_40 (qw.trans (qw_I hM_40 (by decide)) (qw.trans (qw_Y hM_35 (by decide)) (qw.trans (qw_Y hM_31 (by decide)) (qw.trans (qw_Y hM_27 (by decide)) (qw.trans (qw_Y hM_23 (by decide)) (qw_I hM_1 (by decide)))))))), (qw.trans (qw_I hM_40 (by decide)) (qw.trans (qw_Y hM_35 (by decide)) (qw.trans (qw_Y hM_31 (by decide)) (qw.trans (qw_Y hM_27 (by decide)) (qw.trans (qw_Y hM_23 (by decide)) (qw_I hM_1 (by decide))))))).2.1.1, (qw.trans (qw_I hM_40 (by decide)) (qw.trans (qw_Y hM_35 (by decide)) (qw.trans (qw_Y hM_31 (by decide)) (qw.trans (qw_Y hM_27 (by decide)) (qw.trans (qw_Y hM_23 (by decide)) (qw_I hM_1 (by decide))))))).1, ((tY_uIE hM_40).trans ((tY_nE hM_35 (nk (by decide))).trans ((tY_nE hM_31 (nk (by decide))).trans ((tY_nE hM_27 (nk (by decide))).trans ((tY_nE hM_23 (nk (by decide))).trans (tY_uIE hM_1)))))), ((tI_nE hM_40 (nk (by decide))).trans ((tI_uYE hM_35).trans ((tI_uYE hM_31).trans ((tI_uYE hM_27).trans ((tI_uYE hM_23).trans (tI_nE hM_1 (nk (by decide)))))))), ((tI_nE hM_40 (nk (by decide))).trans ((tI_uYE hM_35).trans ((tI_uYE hM_31).trans ((tI_uYE hM_27).trans ((tI_uYE hM_23).trans (tI_nE hM_1 (nk (by decide)))))))), (qy.trans (qy_I hM_40 (by decide)) (qy.trans (qy_Y hM_35 (by decide)) (qy.trans (qy_Y hM_31 (by decide)) (qy.trans (qy_Y hM_27 (by decide)) (qy.trans (qy_Y hM_23 (by decide)) (qy_I hM_1 (by decide))))))), (by rw [(tI_uE hM_40)]; omega), ((tI_nE hM_40 (nk (by decide))).trans ((tI_uYE hM_35).trans ((tI_uYE hM_31).trans ((tI_uYE hM_27).trans ((tI_uYE hM_23).trans (tI_nE hM_1 (nk (by decide))))))))⟩) dX10_stone_102
          · refine lv_iconst (v := (-1)) hx hb dX10_stone_44 (by decide) ?_
            exact hQ _ _ _ _ _ _ hw rfl (Or.inl ⟨by omega, by decide, mF_qw hF iM_1 (qw_I hM_1 (by decide)), (qw_I hM_1 (by decide)).2.1.1, (qw_I hM_1 (by decide)).1, (qy_I hM_1 (by decide))⟩) dX10_stone_45
        · refine lv_aload_n hx hb dX10_stone_27 rfl (lv_at hl 0 rfl) ?_
          refine lv_iload_n hx hb dX10_stone_28 rfl (lv_at hl 3 rfl) ?_
          refine ti_callVi (ci := 10) (av := [.int z3]) C hw (w_X10_isMan l D A cy hJ M_1 iM_1 z3) ⟨ml_X10_356, ym_X10_isMan, yv_X10_isMan, yi_X10_isMan, yc_X10_isMan⟩ yd_X10_isMan ob_60 (by decide) rfl rfl hl.1 (Nat.le_of_ble_eq_true rfl) ⟨by decide, by decide⟩ ⟨Nat.zero_le _, Nat.zero_le _⟩ dX10_stone_29 (fun r_12 M_13 H locs hp_13 hw => ?_)
          obtain ⟨hm, hz⟩ := hp_13
          have hw := hw.to hm
          have lk_15 : (tY M_1 60 3 0).toInt = (tY M 60 3 0).toInt := by rw [(cg (tY_uIE hM_1) 0)]
          rcases hz with ⟨rfl, d0_14, d1_14⟩ | ⟨rfl, e_14⟩
          · refine sb_if_eq (tgt := 44) hx hb (by decide : (1 : Int32).toInt = 1) dX10_stone_32 (by decide) (fun h => absurd h (by decide)) (fun c_32_15 => ?_)
            refine lv_aload_n hx hb dX10_stone_35 rfl (lv_at hl 0 rfl) ?_
            refine ti_get (ci := 10) (k := 58) (N := 67) (T := TX10) C hw iw_10 rfl ob_60 (by decide) (by decide) fl_X10_310 rfl rfl dX10_stone_36 ?_
            refine lv_topi (fun x_20 ex_20 => ?_)
            have bx_20 : 0 ≤ x_20.toInt ∧ x_20.toInt ≤ 24 := mI_rd iM_1 ex_20
            have ux_20 : (tI M_1 60 58).toInt = x_20.toInt := by rw [ex_20]
            refine lv_bipush (v := 24) hx hb dX10_stone_39 (by decide) ?_
            refine sb_icmp_ne (tgt := 46) hx hb rfl (by decide : (24 : Int32).toInt = 24) dX10_stone_41 (by decide) (fun c_41_20 => ?_) (fun c_41_20 => ?_)
            · refine lv_aload_n hx hb dX10_stone_46 rfl (lv_at hl 0 rfl) ?_
              refine ti_get (ci := 10) (k := 60) (N := 67) (T := TX10) (v := .ref (A 60 61)) C hw iw_10 rfl ob_60 (by decide) (by decide) fl_X10_135 rfl rfl dX10_stone_47 ?_
              refine lv_aload_n hx hb dX10_stone_50 rfl (lv_at hl 0 rfl) ?_
              refine ti_get (ci := 10) (k := 58) (N := 67) (T := TX10) C hw iw_10 rfl ob_60 (by decide) (by decide) fl_X10_310 rfl rfl dX10_stone_51 ?_
              refine ti_top (y := x_20) (ex_20.symm) ?_
              have u_45 : (tI M_1 60 58).toInt = (x_20 : Int32).toInt := by rw [(ex_20.symm)]
              refine lv_iload_n hx hb dX10_stone_54 rfl (lv_at hl 1 rfl) ?_
              refine ti_iast (ci := 10) (k := 60) (n := 24) C hw ob_60 (by decide) (fun _ _ => rfl) (vp_in_iff.mpr (by omega)) dX10_stone_55 (fun H locs hw => ?_)
              obtain ⟨M_46, hM_46⟩ : ∃ z : ti_M, z = uY M_1 60 60 (upd (tY M_1 60 60) (x_20 : Int32).toNatClampNeg z1) := ⟨_, rfl⟩
              have hw := hw.to hM_46.symm
              have iM_46 : mI (mG M_46) M_46 := mI_ry2 (i := x_20.toNatClampNeg) iM_1 hM_46 (ib_mk (lo := 0) (hi := 59) (by omega) (by omega))
              have v_47 : (tI M_46 60 58).toInt = (tI M_1 60 58).toInt := by rw [tI_uYE hM_46]
              have v_48 : (tI M_46 60 59).toInt = (tI M_1 60 59).toInt := by rw [tI_uYE hM_46]
              refine lv_aload_n hx hb dX10_stone_56 rfl (lv_at hl 0 rfl) ?_
              refine ti_get (ci := 10) (k := 61) (N := 67) (T := TX10) (v := .ref (A 60 62)) C hw iw_10 rfl ob_60 (by decide) (by decide) fl_X10_138 rfl rfl dX10_stone_57 ?_
              refine lv_aload_n hx hb dX10_stone_60 rfl (lv_at hl 0 rfl) ?_
              refine ti_get (ci := 10) (k := 58) (N := 67) (T := TX10) C hw iw_10 rfl ob_60 (by decide) (by decide) fl_X10_310 rfl rfl dX10_stone_61 ?_
              refine ti_top (y := x_20) ((tI_uYE hM_46).trans ex_20.symm) ?_
              have u_49 : (tI M_46 60 58).toInt = (x_20 : Int32).toInt := by rw [((tI_uYE hM_46).trans ex_20.symm)]
              refine lv_iload_n hx hb dX10_stone_64 rfl (lv_at hl 2 rfl) ?_
              refine ti_iast (ci := 10) (k := 61) (n := 24) C hw ob_60 (by decide) (fun _ _ => rfl) (vp_in_iff.mpr (by omega)) dX10_stone_65 (fun H locs hw => ?_)
              obtain ⟨M_50, hM_50⟩ : ∃ z : ti_M, z = uY M_46 60 61 (upd (tY M_46 60 61) (x_20 : Int32).toNatClampNeg z2) := ⟨_, rfl⟩
              have hw := hw.to hM_50.symm
              have iM_50 : mI (mG M_50) M_50 := mI_ry2 (i := x_20.toNatClampNeg) iM_46 hM_50 (ib_mk (lo := 0) (hi := 7) (by omega) (by omega))
              have v_51 : (tI M_50 60 58).toInt = (tI M_46 60 58).toInt := by rw [tI_uYE hM_50]
              have v_52 : (tI M_50 60 59).toInt = (tI M_46 60 59).toInt := by rw [tI_uYE hM_50]
              refine lv_aload_n hx hb dX10_stone_66 rfl (lv_at hl 0 rfl) ?_
              refine ti_get (ci := 10) (k := 62) (N := 67) (T := TX10) (v := .ref (A 60 63)) C hw iw_10 rfl ob_60 (by decide) (by decide) fl_X10_141 rfl rfl dX10_stone_67 ?_
              refine lv_aload_n hx hb dX10_stone_70 rfl (lv_at hl 0 rfl) ?_
              refine ti_get (ci := 10) (k := 58) (N := 67) (T := TX10) C hw iw_10 rfl ob_60 (by decide) (by decide) fl_X10_310 rfl rfl dX10_stone_71 ?_
              refine ti_top (y := x_20) ((tI_uYE hM_50).trans ((tI_uYE hM_46).trans ex_20.symm)) ?_
              have u_53 : (tI M_50 60 58).toInt = (x_20 : Int32).toInt := by rw [((tI_uYE hM_50).trans ((tI_uYE hM_46).trans ex_20.symm))]
              refine lv_iload_n hx hb dX10_stone_74 rfl (lv_at hl 3 rfl) ?_
              refine ti_iast (ci := 10) (k := 62) (n := 24) C hw ob_60 (by decide) (fun _ _ => rfl) (vp_in_iff.mpr (by omega)) dX10_stone_75 (fun H locs hw => ?_)
              obtain ⟨M_54, hM_54⟩ : ∃ z : ti_M, z = uY M_50 60 62 (upd (tY M_50 60 62) (x_20 : Int32).toNatClampNeg z3) := ⟨_, rfl⟩
              have hw := hw.to hM_54.symm
              have iM_54 : mI (mG M_54) M_54 := mI_ry2 (i := x_20.toNatClampNeg) iM_50 hM_54 trivial
              have v_55 : (tI M_54 60 58).toInt = (tI M_50 60 58).toInt := by rw [tI_uYE hM_54]
              have v_56 : (tI M_54 60 59).toInt = (tI M_50 60 59).toInt := by rw [tI_uYE hM_54]
              refine lv_aload_n hx hb dX10_stone_76 rfl (lv_at hl 0 rfl) ?_
              refine ti_get (ci := 10) (k := 63) (N := 67) (T := TX10) (v := .ref (A 60 64)) C hw iw_10 rfl ob_60 (by decide) (by decide) fl_X10_144 rfl rfl dX10_stone_77 ?_
              refine lv_aload_n hx hb dX10_stone_80 rfl (lv_at hl 0 rfl) ?_
              refine ti_get (ci := 10) (k := 58) (N := 67) (T := TX10) C hw iw_10 rfl ob_60 (by decide) (by decide) fl_X10_310 rfl rfl dX10_stone_81 ?_
              refine ti_top (y := x_20) ((tI_uYE hM_54).trans ((tI_uYE hM_50).trans ((tI_uYE hM_46).trans ex_20.symm))) ?_
              have u_57 : (tI M_54 60 58).toInt = (x_20 : Int32).toInt := by rw [((tI_uYE hM_54).trans ((tI_uYE hM_50).trans ((tI_uYE hM_46).trans ex_20.symm)))]
              refine lv_iconst (v := (-1)) hx hb dX10_stone_84 (by decide) ?_
              refine ti_iast (ci := 10) (k := 63) (n := 24) C hw ob_60 (by decide) (fun _ _ => rfl) (vp_in_iff.mpr (by omega)) dX10_stone_85 (fun H locs hw => ?_)
              obtain ⟨M_58, hM_58⟩ : ∃ z : ti_M, z = uY M_54 60 63 (upd (tY M_54 60 63) (x_20 : Int32).toNatClampNeg (-1)) := ⟨_, rfl⟩
              have hw := hw.to hM_58.symm
              have iM_58 : mI (mG M_58) M_58 := mI_ry2 (i := x_20.toNatClampNeg) iM_54 hM_58 (ib_mk (lo := (-1)) (hi := 23) (by decide) (by decide))
              have v_59 : (tI M_58 60 58).toInt = (tI M_54 60 58).toInt := by rw [tI_uYE hM_58]
              have v_60 : (tI M_58 60 59).toInt = (tI M_54 60 59).toInt := by rw [tI_uYE hM_58]
              refine lv_aload_n hx hb dX10_stone_86 rfl (lv_at hl 0 rfl) ?_
              refine lv_dup hx hb dX10_stone_87 rfl ?_
              refine ti_get (ci := 10) (k := 58) (N := 67) (T := TX10) C hw iw_10 rfl ob_60 (by decide) (by decide) fl_X10_310 rfl rfl dX10_stone_88 ?_
              refine ti_top (y := x_20) ((tI_uYE hM_58).trans ((tI_uYE hM_54).trans ((tI_uYE hM_50).trans ((tI_uYE hM_46).trans ex_20.symm)))) ?_
              have u_61 : (tI M_58 60 58).toInt = (x_20 : Int32).toInt := by rw [((tI_uYE hM_58).trans ((tI_uYE hM_54).trans ((tI_uYE hM_50).trans ((tI_uYE hM_46).trans ex_20.symm))))]
              refine lv_iconst (v := 1) hx hb dX10_stone_91 (by decide) ?_
              refine lv_iadd hx hb dX10_stone_92 ?_
              refine lv_topi (fun x_62 ex_62 => ?_)
              have tx_62 : x_62.toInt = x_20.toInt + 1 := i_add ex_62 rfl (by decide : (1 : Int32).toInt = 1) (by omega) (by omega)
              refine ti_putI (ci := 10) (k := 58) (N := 67) (T := TX10) C hw iw_10 tyX10 tyX10_ok nmX10 rfl ob_60 (by decide) (by decide) fl_X10_310 rfl rfl rfl rfl (fn_10 A _) fs_10_58 dX10_stone_93 (fun H locs hw => ?_)
              obtain ⟨M_63, hM_63⟩ : ∃ z : ti_M, z = uI M_58 60 58 x_62 := ⟨_, rfl⟩
              have hw := hw.to hM_63.symm
              have iM_63 : mI (mG M_63) M_63 := mI_ls iM_58 hM_63 (Or.inl rfl) (ib_mk (lo := 0) (hi := 24) (by omega) (by omega))
              have vM_63 : (tI M_63 60 58).toInt = (x_62 : Int32).toInt := by rw [tI_uE hM_63]
              have v_64 : (tI M_63 60 58).toInt = (x_62 : Int32).toInt := by rw [tI_uE hM_63]
              have v_65 : (tI M_63 60 59).toInt = (tI M_58 60 59).toInt := by rw [tI_nE hM_63 (nk (by decide))]
              refine lv_aload_n hx hb dX10_stone_96 rfl (lv_at hl 0 rfl) ?_
              refine ti_get (ci := 10) (k := 58) (N := 67) (T := TX10) C hw iw_10 rfl ob_60 (by decide) (by decide) fl_X10_310 rfl rfl dX10_stone_97 ?_
              refine ti_top (y := x_62) (tI_uE hM_63) ?_
              have u_66 : (tI M_63 60 58).toInt = (x_62 : Int32).toInt := by rw [(tI_uE hM_63)]
              refine lv_iconst (v := 1) hx hb dX10_stone_100 (by decide) ?_
              refine lv_isub hx hb dX10_stone_101 ?_
              refine lv_topi (fun x_67 ex_67 => ?_)
              have tx_67 : x_67.toInt = x_62.toInt - 1 := i_sub ex_67 rfl (by decide : (1 : Int32).toInt = 1) (by omega) (by omega)
              exact hQ _ _ _ _ _ _ hw rfl (Or.inr ⟨by omega, by omega, mF_self (mF_qx hF iM_63 (qw.trans (qw_I hM_63 (by decide)) (qw.trans (qw_Y hM_58 (by decide)) (qw.trans (qw_Y hM_54 (by decide)) (qw.trans (qw_Y hM_50 (by decide)) (qw.trans (qw_Y hM_46 (by decide)) (qw_I hM_1 (by decide)))))))), (qw.trans (qw_I hM_63 (by decide)) (qw.trans (qw_Y hM_58 (by decide)) (qw.trans (qw_Y hM_54 (by decide)) (qw.trans (qw_Y hM_50 (by decide)) (qw.trans (qw_Y hM_46 (by decide)) (qw_I hM_1 (by decide))))))).2.1.1, (qw.trans (qw_I hM_63 (by decide)) (qw.trans (qw_Y hM_58 (by decide)) (qw.trans (qw_Y hM_54 (by decide)) (qw.trans (qw_Y hM_50 (by decide)) (qw.trans (qw_Y hM_46 (by decide)) (qw_I hM_1 (by decide))))))).1, ((tY_uIE hM_63).trans ((tY_nE hM_58 (nk (by decide))).trans ((tY_nE hM_54 (nk (by decide))).trans ((tY_nE hM_50 (nk (by decide))).trans ((tY_nE hM_46 (nk (by decide))).trans (tY_uIE hM_1)))))), ((tI_nE hM_63 (nk (by decide))).trans ((tI_uYE hM_58).trans ((tI_uYE hM_54).trans ((tI_uYE hM_50).trans ((tI_uYE hM_46).trans (tI_nE hM_1 (nk (by decide)))))))), ((tI_nE hM_63 (nk (by decide))).trans ((tI_uYE hM_58).trans ((tI_uYE hM_54).trans ((tI_uYE hM_50).trans ((tI_uYE hM_46).trans (tI_nE hM_1 (nk (by decide)))))))), (qy.trans (qy_I hM_63 (by decide)) (qy.trans (qy_Y hM_58 (by decide)) (qy.trans (qy_Y hM_54 (by decide)) (qy.trans (qy_Y hM_50 (by decide)) (qy.trans (qy_Y hM_46 (by decide)) (qy_I hM_1 (by decide))))))), (by rw [(tI_uE hM_63)]; omega), ((tI_nE hM_63 (nk (by decide))).trans ((tI_uYE hM_58).trans ((tI_uYE hM_54).trans ((tI_uYE hM_50).trans ((tI_uYE hM_46).trans (tI_nE hM_1 (nk (by decide))))))))⟩) dX10_stone_102
            · refine lv_iconst (v := (-1)) hx hb dX10_stone_44 (by decide) ?_
              exact hQ _ _ _ _ _ _ hw rfl (Or.inl ⟨by omega, by decide, mF_qw hF iM_1 (qw_I hM_1 (by decide)), (qw_I hM_1 (by decide)).2.1.1, (qw_I hM_1 (by decide)).1, (qy_I hM_1 (by decide))⟩) dX10_stone_45
          · refine sb_if_eq (tgt := 44) hx hb (by decide : (0 : Int32).toInt = 0) dX10_stone_32 (by decide) (fun c_32_16 => ?_) (fun h => absurd h (by decide))
            refine lv_iconst (v := (-1)) hx hb dX10_stone_44 (by decide) ?_
            exact hQ _ _ _ _ _ _ hw rfl (Or.inl ⟨by omega, by decide, mF_qw hF iM_1 (qw_I hM_1 (by decide)), (qw_I hM_1 (by decide)).2.1.1, (qw_I hM_1 (by decide)).1, (qy_I hM_1 (by decide))⟩) dX10_stone_45
      · refine sb_if_eq (tgt := 44) hx hb (by decide : (0 : Int32).toInt = 0) dX10_stone_19 (by decide) (fun c_19_9 => ?_) (fun h => absurd h (by decide))
        refine lv_iconst (v := (-1)) hx hb dX10_stone_44 (by decide) ?_
        exact hQ _ _ _ _ _ _ hw rfl (Or.inl ⟨by omega, by decide, mF_qw hF iM_1 (qw_I hM_1 (by decide)), (qw_I hM_1 (by decide)).2.1.1, (qw_I hM_1 (by decide)).1, (qy_I hM_1 (by decide))⟩) dX10_stone_45
set_option maxHeartbeats 4000000 in
set_option maxRecDepth 100000 in
theorem w_X10_strike (l : Launch) (D : va_G) (A : Nat → Nat → Nat) (cy : Nat → ClassId) (hJ : ti_inj ti_LM A) (M : ti_M) (hI : mI Tm M) (hF : mF Tm M) (z1 : Int32) (rg : Nat → Int) (htd : tdR M rg) : ti_Ki l yX10_strike cX10_strike 2 (some .int) 0 ti_LM D A cy M [.ref (A 60 0), .int z1] (fun r M2 => ((z1.toInt < 0 ∨ (tI M 60 58).toInt ≤ z1.toInt ∨ 24 ≤ (tI M 60 58).toInt) ∧ r.toInt = -1 ∧ mF Tm M2 ∧ tI M2 60 2 = tI M 60 2 ∧ lw M2 M ∧ qy M2 M) ∨ (¬ (z1.toInt < 0 ∨ (tI M 60 58).toInt ≤ z1.toInt ∨ 24 ≤ (tI M 60 58).toInt) ∧ r.toInt = (tI M 60 58).toInt ∧ mF (mG M2) M2 ∧ tI M2 60 2 = tI M 60 2 ∧ lw M2 M ∧ tY M2 60 1 = tY M 60 1 ∧ tI M2 60 27 = tI M 60 27 ∧ tI M2 60 28 = tI M 60 28 ∧ qy M2 M ∧ (tI M2 60 58).toInt = (tI M 60 58).toInt + 1 ∧ tI M2 60 59 = tI M 60 59)) := by
  refine ti_eI yp_X10_strike hJ ti_LM_nd (Nat.le_of_ble_eq_true rfl) ?_
  intro p e s m args below meth c Q H0 C hQ hw ls hl
  have hx := C.1
  have hb := C.2.1
  have hl : lv_has ls 2 [(0, .ref (A 60 0)), (1, .int z1)] := hl
  have hL : mL M := hF.2.1
  have hC0 : mC M 0 := hF.2.2.1.1
  have hP0 : mP M 0 := hF.2.2.1.2
  have h7 := htd.1
  refine lv_aload_n hx hb dX10_strike_0 rfl (lv_at hl 0 rfl) ?_
  refine lv_iconst (v := 0) hx hb dX10_strike_1 (by decide) ?_
  refine ti_putI (ci := 10) (k := 0) (N := 67) (T := TX10) C hw iw_10 tyX10 tyX10_ok nmX10 rfl ob_60 (by decide) (by decide) fl_X10_154 rfl rfl rfl rfl (fn_10 A _) fs_10_0 dX10_strike_2 (fun H locs hw => ?_)
  obtain ⟨M_1, hM_1⟩ : ∃ z : ti_M, z = uI M 60 0 0 := ⟨_, rfl⟩
  have hw := hw.to hM_1.symm
  have iM_1 : mI Tm M_1 := mI_uI hI hM_1 (by decide) (by decide) trivial
  have v_2 : (tI M_1 60 58).toInt = (tI M 60 58).toInt := by rw [tI_nE hM_1 (nk (by decide))]
  have v_3 : (tI M_1 60 59).toInt = (tI M 60 59).toInt := by rw [tI_nE hM_1 (nk (by decide))]
  refine lv_iload_n hx hb dX10_strike_5 rfl (lv_at hl 1 rfl) ?_
  refine sb_if_lt (tgt := 26) hx hb rfl dX10_strike_6 (by decide) (fun c_6_3 => ?_) (fun c_6_3 => ?_)
  · refine lv_iconst (v := (-1)) hx hb dX10_strike_26 (by decide) ?_
    exact hQ _ _ _ _ _ _ hw rfl (Or.inl ⟨by omega, by decide, mF_qw hF iM_1 (qw_I hM_1 (by decide)), (qw_I hM_1 (by decide)).2.1.1, (qw_I hM_1 (by decide)).1, (qy_I hM_1 (by decide))⟩) dX10_strike_27
  · refine lv_iload_n hx hb dX10_strike_9 rfl (lv_at hl 1 rfl) ?_
    refine lv_aload_n hx hb dX10_strike_10 rfl (lv_at hl 0 rfl) ?_
    refine ti_get (ci := 10) (k := 58) (N := 67) (T := TX10) C hw iw_10 rfl ob_60 (by decide) (by decide) fl_X10_310 rfl rfl dX10_strike_11 ?_
    refine lv_topi (fun x_5 ex_5 => ?_)
    have bx_5 : 0 ≤ x_5.toInt ∧ x_5.toInt ≤ 24 := mI_rd iM_1 ex_5
    have ux_5 : (tI M_1 60 58).toInt = x_5.toInt := by rw [ex_5]
    refine sb_icmp_ge (tgt := 26) hx hb rfl rfl dX10_strike_14 (by decide) (fun c_14_5 => ?_) (fun c_14_5 => ?_)
    · refine lv_iconst (v := (-1)) hx hb dX10_strike_26 (by decide) ?_
      exact hQ _ _ _ _ _ _ hw rfl (Or.inl ⟨by omega, by decide, mF_qw hF iM_1 (qw_I hM_1 (by decide)), (qw_I hM_1 (by decide)).2.1.1, (qw_I hM_1 (by decide)).1, (qy_I hM_1 (by decide))⟩) dX10_strike_27
    · refine lv_aload_n hx hb dX10_strike_17 rfl (lv_at hl 0 rfl) ?_
      refine ti_get (ci := 10) (k := 58) (N := 67) (T := TX10) C hw iw_10 rfl ob_60 (by decide) (by decide) fl_X10_310 rfl rfl dX10_strike_18 ?_
      refine ti_top (y := x_5) (ex_5.symm) ?_
      have u_7 : (tI M_1 60 58).toInt = (x_5 : Int32).toInt := by rw [(ex_5.symm)]
      refine lv_bipush (v := 24) hx hb dX10_strike_21 (by decide) ?_
      refine sb_icmp_ne (tgt := 28) hx hb rfl (by decide : (24 : Int32).toInt = 24) dX10_strike_23 (by decide) (fun c_23_7 => ?_) (fun c_23_7 => ?_)
      · refine lv_aload_n hx hb dX10_strike_28 rfl (lv_at hl 0 rfl) ?_
        refine ti_get (ci := 10) (k := 63) (N := 67) (T := TX10) (v := .ref (A 60 64)) C hw iw_10 rfl ob_60 (by decide) (by decide) fl_X10_144 rfl rfl dX10_strike_29 ?_
        refine lv_aload_n hx hb dX10_strike_32 rfl (lv_at hl 0 rfl) ?_
        refine ti_get (ci := 10) (k := 58) (N := 67) (T := TX10) C hw iw_10 rfl ob_60 (by decide) (by decide) fl_X10_310 rfl rfl dX10_strike_33 ?_
        refine ti_top (y := x_5) (ex_5.symm) ?_
        have u_9 : (tI M_1 60 58).toInt = (x_5 : Int32).toInt := by rw [(ex_5.symm)]
        refine lv_iload_n hx hb dX10_strike_36 rfl (lv_at hl 1 rfl) ?_
        refine ti_iast (ci := 10) (k := 63) (n := 24) C hw ob_60 (by decide) (fun _ _ => rfl) (vp_in_iff.mpr (by omega)) dX10_strike_37 (fun H locs hw => ?_)
        obtain ⟨M_10, hM_10⟩ : ∃ z : ti_M, z = uY M_1 60 63 (upd (tY M_1 60 63) (x_5 : Int32).toNatClampNeg z1) := ⟨_, rfl⟩
        have hw := hw.to hM_10.symm
        have iM_10 : mI (mG M_10) M_10 := mI_ry2 (i := x_5.toNatClampNeg) iM_1 hM_10 (ib_mk (lo := (-1)) (hi := 23) (by omega) (by omega))
        have v_11 : (tI M_10 60 58).toInt = (tI M_1 60 58).toInt := by rw [tI_uYE hM_10]
        have v_12 : (tI M_10 60 59).toInt = (tI M_1 60 59).toInt := by rw [tI_uYE hM_10]
        refine lv_aload_n hx hb dX10_strike_38 rfl (lv_at hl 0 rfl) ?_
        refine lv_dup hx hb dX10_strike_39 rfl ?_
        refine ti_get (ci := 10) (k := 58) (N := 67) (T := TX10) C hw iw_10 rfl ob_60 (by decide) (by decide) fl_X10_310 rfl rfl dX10_strike_40 ?_
        refine ti_top (y := x_5) ((tI_uYE hM_10).trans ex_5.symm) ?_
        have u_13 : (tI M_10 60 58).toInt = (x_5 : Int32).toInt := by rw [((tI_uYE hM_10).trans ex_5.symm)]
        refine lv_iconst (v := 1) hx hb dX10_strike_43 (by decide) ?_
        refine lv_iadd hx hb dX10_strike_44 ?_
        refine lv_topi (fun x_14 ex_14 => ?_)
        have tx_14 : x_14.toInt = x_5.toInt + 1 := i_add ex_14 rfl (by decide : (1 : Int32).toInt = 1) (by omega) (by omega)
        refine ti_putI (ci := 10) (k := 58) (N := 67) (T := TX10) C hw iw_10 tyX10 tyX10_ok nmX10 rfl ob_60 (by decide) (by decide) fl_X10_310 rfl rfl rfl rfl (fn_10 A _) fs_10_58 dX10_strike_45 (fun H locs hw => ?_)
        obtain ⟨M_15, hM_15⟩ : ∃ z : ti_M, z = uI M_10 60 58 x_14 := ⟨_, rfl⟩
        have hw := hw.to hM_15.symm
        have iM_15 : mI (mG M_15) M_15 := mI_ls iM_10 hM_15 (Or.inl rfl) (ib_mk (lo := 0) (hi := 24) (by omega) (by omega))
        have vM_15 : (tI M_15 60 58).toInt = (x_14 : Int32).toInt := by rw [tI_uE hM_15]
        have v_16 : (tI M_15 60 58).toInt = (x_14 : Int32).toInt := by rw [tI_uE hM_15]
        have v_17 : (tI M_15 60 59).toInt = (tI M_10 60 59).toInt := by rw [tI_nE hM_15 (nk (by decide))]
        refine lv_aload_n hx hb dX10_strike_48 rfl (lv_at hl 0 rfl) ?_
        refine ti_get (ci := 10) (k := 58) (N := 67) (T := TX10) C hw iw_10 rfl ob_60 (by decide) (by decide) fl_X10_310 rfl rfl dX10_strike_49 ?_
        refine ti_top (y := x_14) (tI_uE hM_15) ?_
        have u_18 : (tI M_15 60 58).toInt = (x_14 : Int32).toInt := by rw [(tI_uE hM_15)]
        refine lv_iconst (v := 1) hx hb dX10_strike_52 (by decide) ?_
        refine lv_isub hx hb dX10_strike_53 ?_
        refine lv_topi (fun x_19 ex_19 => ?_)
        have tx_19 : x_19.toInt = x_14.toInt - 1 := i_sub ex_19 rfl (by decide : (1 : Int32).toInt = 1) (by omega) (by omega)
        exact hQ _ _ _ _ _ _ hw rfl (Or.inr ⟨by omega, by omega, mF_self (mF_qx hF iM_15 (qw.trans (qw_I hM_15 (by decide)) (qw.trans (qw_Y hM_10 (by decide)) (qw_I hM_1 (by decide))))), (qw.trans (qw_I hM_15 (by decide)) (qw.trans (qw_Y hM_10 (by decide)) (qw_I hM_1 (by decide)))).2.1.1, (qw.trans (qw_I hM_15 (by decide)) (qw.trans (qw_Y hM_10 (by decide)) (qw_I hM_1 (by decide)))).1, ((tY_uIE hM_15).trans ((tY_nE hM_10 (nk (by decide))).trans (tY_uIE hM_1))), ((tI_nE hM_15 (nk (by decide))).trans ((tI_uYE hM_10).trans (tI_nE hM_1 (nk (by decide))))), ((tI_nE hM_15 (nk (by decide))).trans ((tI_uYE hM_10).trans (tI_nE hM_1 (nk (by decide))))), (qy.trans (qy_I hM_15 (by decide)) (qy.trans (qy_Y hM_10 (by decide)) (qy_I hM_1 (by decide)))), (by rw [(tI_uE hM_15)]; omega), ((tI_nE hM_15 (nk (by decide))).trans ((tI_uYE hM_10).trans (tI_nE hM_1 (nk (by decide)))))⟩) dX10_strike_54
      · refine lv_iconst (v := (-1)) hx hb dX10_strike_26 (by decide) ?_
        exact hQ _ _ _ _ _ _ hw rfl (Or.inl ⟨by omega, by decide, mF_qw hF iM_1 (qw_I hM_1 (by decide)), (qw_I hM_1 (by decide)).2.1.1, (qw_I hM_1 (by decide)).1, (qy_I hM_1 (by decide))⟩) dX10_strike_27
set_option maxHeartbeats 4000000 in
set_option maxRecDepth 100000 in
theorem w_X10_known (l : Launch) (D : va_G) (A : Nat → Nat → Nat) (cy : Nat → ClassId) (hJ : ti_inj ti_LM A) (M : ti_M) (hI : mI Tm M) (hF : mF Tm M) (z1 : Int32) (rg : Nat → Int) (htd : tdR M rg) : ti_Ki l yX10_known cX10_known 2 (some .boolean) 0 ti_LM D A cy M [.ref (A 60 0), .int z1] (fun r M2 => ((z1.toInt < -1 ∨ (tI M 60 58).toInt < z1.toInt) ∧ r.toInt = 0 ∧ mF Tm M2 ∧ tI M2 60 2 = tI M 60 2 ∧ lw M2 M ∧ qy M2 M) ∨ (¬ (z1.toInt < -1 ∨ (tI M 60 58).toInt < z1.toInt) ∧ r.toInt = 1 ∧ mF (mG M2) M2 ∧ tI M2 60 2 = tI M 60 2 ∧ lw M2 M ∧ tY M2 60 1 = tY M 60 1 ∧ tI M2 60 27 = tI M 60 27 ∧ tI M2 60 28 = tI M 60 28 ∧ qy M2 M ∧ tI M2 60 58 = tI M 60 58 ∧ tI M2 60 59 = z1)) := by
  refine ti_eI yp_X10_known hJ ti_LM_nd (Nat.le_of_ble_eq_true rfl) ?_
  intro p e s m args below meth c Q H0 C hQ hw ls hl
  have hx := C.1
  have hb := C.2.1
  have hl : lv_has ls 2 [(0, .ref (A 60 0)), (1, .int z1)] := hl
  have hL : mL M := hF.2.1
  have hC0 : mC M 0 := hF.2.2.1.1
  have hP0 : mP M 0 := hF.2.2.1.2
  have h7 := htd.1
  refine lv_aload_n hx hb dX10_known_0 rfl (lv_at hl 0 rfl) ?_
  refine lv_iconst (v := 0) hx hb dX10_known_1 (by decide) ?_
  refine ti_putI (ci := 10) (k := 0) (N := 67) (T := TX10) C hw iw_10 tyX10 tyX10_ok nmX10 rfl ob_60 (by decide) (by decide) fl_X10_154 rfl rfl rfl rfl (fn_10 A _) fs_10_0 dX10_known_2 (fun H locs hw => ?_)
  obtain ⟨M_1, hM_1⟩ : ∃ z : ti_M, z = uI M 60 0 0 := ⟨_, rfl⟩
  have hw := hw.to hM_1.symm
  have iM_1 : mI Tm M_1 := mI_uI hI hM_1 (by decide) (by decide) trivial
  have v_2 : (tI M_1 60 58).toInt = (tI M 60 58).toInt := by rw [tI_nE hM_1 (nk (by decide))]
  have v_3 : (tI M_1 60 59).toInt = (tI M 60 59).toInt := by rw [tI_nE hM_1 (nk (by decide))]
  refine lv_iload_n hx hb dX10_known_5 rfl (lv_at hl 1 rfl) ?_
  refine lv_iconst (v := (-1)) hx hb dX10_known_6 (by decide) ?_
  refine sb_icmp_lt (tgt := 18) hx hb rfl (by decide : ((-1) : Int32).toInt = (-1)) dX10_known_7 (by decide) (fun c_7_3 => ?_) (fun c_7_3 => ?_)
  · refine lv_iconst (v := 0) hx hb dX10_known_18 (by decide) ?_
    exact hQ _ _ _ _ _ _ hw rfl (Or.inl ⟨by omega, by decide, mF_qw hF iM_1 (qw_I hM_1 (by decide)), (qw_I hM_1 (by decide)).2.1.1, (qw_I hM_1 (by decide)).1, (qy_I hM_1 (by decide))⟩) dX10_known_19
  · refine lv_iload_n hx hb dX10_known_10 rfl (lv_at hl 1 rfl) ?_
    refine lv_aload_n hx hb dX10_known_11 rfl (lv_at hl 0 rfl) ?_
    refine ti_get (ci := 10) (k := 58) (N := 67) (T := TX10) C hw iw_10 rfl ob_60 (by decide) (by decide) fl_X10_310 rfl rfl dX10_known_12 ?_
    refine lv_topi (fun x_5 ex_5 => ?_)
    have bx_5 : 0 ≤ x_5.toInt ∧ x_5.toInt ≤ 24 := mI_rd iM_1 ex_5
    have ux_5 : (tI M_1 60 58).toInt = x_5.toInt := by rw [ex_5]
    refine sb_icmp_le (tgt := 20) hx hb rfl rfl dX10_known_15 (by decide) (fun c_15_5 => ?_) (fun c_15_5 => ?_)
    · refine lv_aload_n hx hb dX10_known_20 rfl (lv_at hl 0 rfl) ?_
      refine lv_iload_n hx hb dX10_known_21 rfl (lv_at hl 1 rfl) ?_
      refine ti_putI (ci := 10) (k := 59) (N := 67) (T := TX10) C hw iw_10 tyX10 tyX10_ok nmX10 rfl ob_60 (by decide) (by decide) fl_X10_132 rfl rfl rfl rfl (fn_10 A _) fs_10_59 dX10_known_22 (fun H locs hw => ?_)
      obtain ⟨M_7, hM_7⟩ : ∃ z : ti_M, z = uI M_1 60 59 z1 := ⟨_, rfl⟩
      have hw := hw.to hM_7.symm
      have iM_7 : mI (mG M_7) M_7 := mI_ls iM_1 hM_7 (Or.inr rfl) (ib_mk (lo := (-1)) (hi := 24) (by omega) (by omega))
      have vM_7 : (tI M_7 60 59).toInt = (z1 : Int32).toInt := by rw [tI_uE hM_7]
      have v_8 : (tI M_7 60 58).toInt = (tI M_1 60 58).toInt := by rw [tI_nE hM_7 (nk (by decide))]
      have v_9 : (tI M_7 60 59).toInt = (z1 : Int32).toInt := by rw [tI_uE hM_7]
      refine lv_iconst (v := 1) hx hb dX10_known_25 (by decide) ?_
      exact hQ _ _ _ _ _ _ hw rfl (Or.inr ⟨by omega, by decide, mF_self (mF_qx hF iM_7 (qw.trans (qw_I hM_7 (by decide)) (qw_I hM_1 (by decide)))), (qw.trans (qw_I hM_7 (by decide)) (qw_I hM_1 (by decide))).2.1.1, (qw.trans (qw_I hM_7 (by decide)) (qw_I hM_1 (by decide))).1, ((tY_uIE hM_7).trans (tY_uIE hM_1)), ((tI_nE hM_7 (nk (by decide))).trans (tI_nE hM_1 (nk (by decide)))), ((tI_nE hM_7 (nk (by decide))).trans (tI_nE hM_1 (nk (by decide)))), (qy.trans (qy_I hM_7 (by decide)) (qy_I hM_1 (by decide))), ((tI_nE hM_7 (nk (by decide))).trans (tI_nE hM_1 (nk (by decide)))), (by rw [(tI_uE hM_7)])⟩) dX10_known_26
    · refine lv_iconst (v := 0) hx hb dX10_known_18 (by decide) ?_
      exact hQ _ _ _ _ _ _ hw rfl (Or.inl ⟨by omega, by decide, mF_qw hF iM_1 (qw_I hM_1 (by decide)), (qw_I hM_1 (by decide)).2.1.1, (qw_I hM_1 (by decide)).1, (qy_I hM_1 (by decide))⟩) dX10_known_19
set_option maxHeartbeats 4000000 in
set_option maxRecDepth 100000 in
theorem w_X10_feed (l : Launch) (D : va_G) (A : Nat → Nat → Nat) (cy : Nat → ClassId) (hJ : ti_inj ti_LM A) (M : ti_M) (hI : mJ M) (hF : mF Tm M) (z1 : Int32) (z2 : Int32) (z3 : Int32) (z4 : Int32) (z5 : Int32) : ti_Ki l yX10_feed cX10_feed 8 (some .int) 0 ti_LM D A cy M [.ref (A 60 0), .int z1, .int z2, .int z3, .int z4, .int z5] (fun r M2 => ((680 < (tI M 60 2).toInt ∧ r.toInt = -1 ∧ mF (mG M2) M2 ∧ tI M2 60 2 = tI M 60 2 ∧ tY M2 60 1 = tY M 60 1 ∧ tI M2 60 27 = tI M 60 27 ∧ tI M2 60 28 = tI M 60 28 ∧ tI M2 60 58 = tI M 60 58 ∧ tI M2 60 59 = tI M 60 59) ∨ ((tI M 60 2).toInt ≤ 680 ∧ r.toInt = (tI M 60 2).toInt + 20 ∧ mF (mG M2) M2 ∧ (tI M2 60 2).toInt = (tI M 60 2).toInt + 20 ∧ (∀ i : Nat, (i : Int) < (tI M 60 2).toInt → tY M2 60 1 i = tY M 60 1 i) ∧ (∀ j : Nat, j < 20 → (tY M2 60 1 ((tI M 60 2).toInt.toNat + j)).toInt = pp_fb z1 z2 z3 z4 z5 j) ∧ tI M2 60 27 = tI M 60 27 ∧ tI M2 60 28 = tI M 60 28 ∧ tI M2 60 58 = tI M 60 58 ∧ tI M2 60 59 = tI M 60 59)) ∧ lw M2 M ∧ qy M2 M) := by
  refine ti_eI yp_X10_feed hJ ti_LM_nd (Nat.le_of_ble_eq_true rfl) ?_
  intro p e s m args below meth c Q H0 C hQ hw ls hl
  have hx := C.1
  have hb := C.2.1
  have hl : lv_has ls 8 [(0, .ref (A 60 0)), (1, .int z1), (2, .int z2), (3, .int z3), (4, .int z4), (5, .int z5)] := hl
  refine lv_aload_n hx hb dX10_feed_0 rfl (lv_at hl 0 rfl) ?_
  refine lv_iconst (v := 0) hx hb dX10_feed_1 (by decide) ?_
  refine ti_putI (ci := 10) (k := 0) (N := 67) (T := TX10) C hw iw_10 tyX10 tyX10_ok nmX10 rfl ob_60 (by decide) (by decide) fl_X10_154 rfl rfl rfl rfl (fn_10 A _) fs_10_0 dX10_feed_2 (fun H locs hw => ?_)
  obtain ⟨M_1, hM_1⟩ : ∃ z : ti_M, z = uI M 60 0 0 := ⟨_, rfl⟩
  have hw := hw.to hM_1.symm
  have iM_1 : mJ M_1 := mI_self (mI_uI hI hM_1 (by decide) (by decide) trivial)
  refine lv_aload_n hx hb dX10_feed_5 rfl (lv_at hl 0 rfl) ?_
  refine ti_get (ci := 10) (k := 2) (N := 67) (T := TX10) C hw iw_10 rfl ob_60 (by decide) (by decide) fl_X10_157 rfl rfl dX10_feed_6 ?_
  refine lv_topi (fun x_2 ex_2 => ?_)
  have bx_2 : 0 ≤ x_2.toInt ∧ x_2.toInt ≤ 700 := mI_rd iM_1 ex_2
  have ux_2 : (tI M_1 60 2).toInt = x_2.toInt := by rw [ex_2]
  refine lv_sipush (v := 680) hx hb dX10_feed_9 (by decide) ?_
  refine sb_icmp_le (tgt := 17) hx hb rfl (by decide : (680 : Int32).toInt = 680) dX10_feed_12 (by decide) (fun c_12_2 => ?_) (fun c_12_2 => ?_)
  · refine lv_iconst (v := 0) hx hb dX10_feed_17 (by decide) ?_
    refine lv_istore (lv' := [(6, .int 0), (0, .ref (A 60 0)), (1, .int z1), (2, .int z2), (3, .int z3), (4, .int z4), (5, .int z5)]) hx hb dX10_feed_18 hl (by decide) rfl (fun ls hl => ?_)
    have hl_20_16 : ∀ (n_17 : Nat) (x_4 : Int32) (M_7 : ti_M) (H : Heap) (locs : List Loc) (ls : Array Slot), (20 - x_4.toInt : Int).toNat < n_17 → (0 ≤ x_4.toInt) → (x_4.toInt ≤ 20) → (mJ M_7) → (qw M_7 M) → (qy M_7 M) → (tI M_7 60 27 = tI M 60 27) → (tI M_7 60 28 = tI M 60 28) → (tI M_7 60 58 = tI M 60 58) → (tI M_7 60 59 = tI M 60 59) → (tI M_7 60 2 = x_2) → (∀ i : Nat, (i : Int) < (tI M 60 2).toInt → tY M_7 60 1 i = tY M 60 1 i) → (∀ j : Nat, (j : Int) < x_4.toInt → (tY M_7 60 1 ((tI M 60 2).toInt.toNat + j)).toInt = pp_fb z1 z2 z3 z4 z5 j) → ti_H ti_LM D A cy H0 M_7 H locs → lv_has ls 8 [(6, .int x_4), (0, .ref (A 60 0)), (1, .int z1), (2, .int z2), (3, .int z3), (4, .int z4), (5, .int z5)] → W p l e (ti_rm 0) s m args below meth c H locs 0 0 Q (F0 m 20 ls []) := by
      intro n_17
      induction n_17 with
      | zero => intro x_4 M_7 H locs ls hf_17; exact absurd hf_17 (Nat.not_lt_zero _)
      | succ n_17 ih_17 =>
        intro x_4 M_7 H locs ls hf_17 b_5 b_6 iM_7 f_8 f_9 f_10 f_11 f_12 f_13 f_14 j_15 j_16 hw hl
        have v_18 : (tI M_7 60 2).toInt = (tI M 60 2).toInt := by rw [f_8.2.1.1]
        refine lv_iload hx hb dX10_feed_20 (lv_at hl 0 rfl) ?_
        refine lv_bipush (v := 20) hx hb dX10_feed_22 (by decide) ?_
        refine sb_icmp_ge (tgt := 110) hx hb rfl (by decide : (20 : Int32).toInt = 20) dX10_feed_24 (by decide) (fun c_24_18 => ?_) (fun c_24_18 => ?_)
        · refine lv_aload_n hx hb dX10_feed_110 rfl (lv_at hl 1 rfl) ?_
          refine lv_dup hx hb dX10_feed_111 rfl ?_
          refine ti_get (ci := 10) (k := 2) (N := 67) (T := TX10) C hw iw_10 rfl ob_60 (by decide) (by decide) fl_X10_157 rfl rfl dX10_feed_112 ?_
          refine ti_top (y := x_2) (f_14) ?_
          have u_69 : (tI M_7 60 2).toInt = (x_2 : Int32).toInt := by rw [(f_14)]
          refine lv_bipush (v := 20) hx hb dX10_feed_115 (by decide) ?_
          refine lv_iadd hx hb dX10_feed_117 ?_
          refine lv_topi (fun x_70 ex_70 => ?_)
          have tx_70 : x_70.toInt = x_2.toInt + 20 := i_add ex_70 rfl (by decide : (20 : Int32).toInt = 20) (by omega) (by omega)
          refine ti_putI (ci := 10) (k := 2) (N := 67) (T := TX10) C hw iw_10 tyX10 tyX10_ok nmX10 rfl ob_60 (by decide) (by decide) fl_X10_157 rfl rfl rfl rfl (fn_10 A _) fs_10_2 dX10_feed_118 (fun H locs hw => ?_)
          obtain ⟨M_71, hM_71⟩ : ∃ z : ti_M, z = uI M_7 60 2 x_70 := ⟨_, rfl⟩
          have hw := hw.to hM_71.symm
          have iM_71 : mJ M_71 := mI_self (mI_uI iM_7 hM_71 (by decide) (by decide) (ib_mk (lo := 0) (hi := 700) (by omega) (by omega)))
          have vM_71 : (tI M_71 60 2).toInt = (x_70 : Int32).toInt := by rw [tI_uE hM_71]
          refine lv_aload_n hx hb dX10_feed_121 rfl (lv_at hl 1 rfl) ?_
          refine ti_get (ci := 10) (k := 2) (N := 67) (T := TX10) C hw iw_10 rfl ob_60 (by decide) (by decide) fl_X10_157 rfl rfl dX10_feed_122 ?_
          refine ti_top (y := x_70) (tI_uE hM_71) ?_
          have u_72 : (tI M_71 60 2).toInt = (x_70 : Int32).toInt := by rw [(tI_uE hM_71)]
          exact hQ _ _ _ _ _ _ hw rfl (⟨(Or.inr ⟨by omega, by omega, mF_tp hF iM_7 f_8 iM_71 hM_71, by omega, (fun i hi => by rw [tY_uIE hM_71]; exact j_15 i hi), (fun j hj => by rw [tY_uIE hM_71]; exact j_16 j (by omega)), ((tI_nE hM_71 (nk (by decide))).trans f_10), ((tI_nE hM_71 (nk (by decide))).trans f_11), ((tI_nE hM_71 (nk (by decide))).trans f_12), ((tI_nE hM_71 (nk (by decide))).trans f_13)⟩), (fun k h1 h2 => (tY_uIE hM_71).trans (f_8.1 k h1 h2)), (qy.trans (qy_I hM_71 (by decide)) f_9)⟩) dX10_feed_125
        · refine lv_iload hx hb dX10_feed_27 (lv_at hl 0 rfl) ?_
          refine lv_iconst (v := 4) hx hb dX10_feed_29 (by decide) ?_
          refine sb_icmp_ge (tgt := 37) hx hb rfl (by decide : (4 : Int32).toInt = 4) dX10_feed_30 (by decide) (fun c_30_19 => ?_) (fun c_30_19 => ?_)
          · refine lv_iload hx hb dX10_feed_37 (lv_at hl 0 rfl) ?_
            refine lv_bipush (v := 8) hx hb dX10_feed_39 (by decide) ?_
            refine sb_icmp_ge (tgt := 48) hx hb rfl (by decide : (8 : Int32).toInt = 8) dX10_feed_41 (by decide) (fun c_41_20 => ?_) (fun c_41_20 => ?_)
            · refine lv_iload hx hb dX10_feed_48 (lv_at hl 0 rfl) ?_
              refine lv_bipush (v := 12) hx hb dX10_feed_50 (by decide) ?_
              refine sb_icmp_ge (tgt := 59) hx hb rfl (by decide : (12 : Int32).toInt = 12) dX10_feed_52 (by decide) (fun c_52_21 => ?_) (fun c_52_21 => ?_)
              · refine lv_iload hx hb dX10_feed_59 (lv_at hl 0 rfl) ?_
                refine lv_bipush (v := 16) hx hb dX10_feed_61 (by decide) ?_
                refine sb_icmp_ge (tgt := 71) hx hb rfl (by decide : (16 : Int32).toInt = 16) dX10_feed_63 (by decide) (fun c_63_22 => ?_) (fun c_63_22 => ?_)
                · refine lv_iload hx hb dX10_feed_71 (lv_at hl 6 rfl) ?_
                  refine lv_istore (lv' := [(7, .int z5), (6, .int x_4), (0, .ref (A 60 0)), (1, .int z1), (2, .int z2), (3, .int z3), (4, .int z4), (5, .int z5)]) hx hb dX10_feed_73 hl (by decide) rfl (fun ls hl => ?_)
                  refine lv_aload_n hx hb dX10_feed_75 rfl (lv_at hl 2 rfl) ?_
                  refine ti_get (ci := 10) (k := 1) (N := 67) (T := TX10) (v := .ref (A 60 2)) C hw iw_10 rfl ob_60 (by decide) (by decide) fl_X10_7 rfl rfl dX10_feed_76 ?_
                  refine lv_aload_n hx hb dX10_feed_79 rfl (lv_at hl 2 rfl) ?_
                  refine ti_get (ci := 10) (k := 2) (N := 67) (T := TX10) C hw iw_10 rfl ob_60 (by decide) (by decide) fl_X10_157 rfl rfl dX10_feed_80 ?_
                  refine ti_top (y := x_2) (f_14) ?_
                  have u_60 : (tI M_7 60 2).toInt = (x_2 : Int32).toInt := by rw [(f_14)]
                  refine lv_iload hx hb dX10_feed_83 (lv_at hl 1 rfl) ?_
                  refine lv_iadd hx hb dX10_feed_85 ?_
                  refine lv_topi (fun x_61 ex_61 => ?_)
                  have tx_61 : x_61.toInt = x_2.toInt + x_4.toInt := i_add ex_61 rfl rfl (by omega) (by omega)
                  refine lv_iload hx hb dX10_feed_86 (lv_at hl 0 rfl) ?_
                  refine lv_bipush (v := 24) hx hb dX10_feed_88 (by decide) ?_
                  refine lv_bipush (v := 8) hx hb dX10_feed_90 (by decide) ?_
                  refine lv_iload hx hb dX10_feed_92 (lv_at hl 1 rfl) ?_
                  refine lv_iconst (v := 4) hx hb dX10_feed_94 (by decide) ?_
                  refine lv_irem hx hb dX10_feed_95 (by decide) ?_
                  refine lv_topi (fun x_62 ex_62 => ?_)
                  have bx_62 := i_rem ex_62 rfl (by decide : (4 : Int32).toInt = 4) (by omega) (by decide)
                  refine lv_imul hx hb dX10_feed_96 ?_
                  refine lv_topi (fun x_63 ex_63 => ?_)
                  have tx_63 : x_63.toInt = 8 * x_62.toInt := i_mul ex_63 (by decide : (8 : Int32).toInt = 8) rfl (by omega) (by omega)
                  refine lv_isub hx hb dX10_feed_97 ?_
                  refine lv_topi (fun x_64 ex_64 => ?_)
                  have tx_64 : x_64.toInt = 24 - x_63.toInt := i_sub ex_64 (by decide : (24 : Int32).toInt = 24) rfl (by omega) (by omega)
                  refine lv_ishr hx hb dX10_feed_98 ?_
                  refine lv_topi (fun x_65 ex_65 => ?_)
                  refine lv_sipush (v := 255) hx hb dX10_feed_99 (by decide) ?_
                  refine lv_iand hx hb dX10_feed_102 ?_
                  refine lv_topi (fun x_66 ex_66 => ?_)
                  have bx_66 := i_and 8 ex_66 (by decide) (by decide)
                  refine ti_iast (ci := 10) (k := 1) (n := 700) C hw ob_60 (by decide) (fun _ _ => rfl) (vp_in_iff.mpr (by omega)) dX10_feed_103 (fun H locs hw => ?_)
                  obtain ⟨M_67, hM_67⟩ : ∃ z : ti_M, z = uY M_7 60 1 (upd (tY M_7 60 1) (x_61 : Int32).toNatClampNeg x_66) := ⟨_, rfl⟩
                  have hw := hw.to hM_67.symm
                  have iM_67 : mJ M_67 := mI_tp iM_7 hM_67 (fun j => by by_cases q : j = (x_61 : Int32).toNatClampNeg; (subst q; rw [pk_us]; exact ib_mk (lo := 0) (hi := 255) (by omega) (by omega)); (rw [pk_un q]; exact iM_7.2.1 1 j))
                  obtain ⟨x_68, ex_68⟩ : ∃ z : Int32, z = x_4 + 1 := ⟨_, rfl⟩
                  have tx_68 : x_68.toInt = x_4.toInt + 1 := i_add ex_68 rfl (by decide) (by omega) (by omega)
                  refine lv_iinc (v := x_68) (lv' := [(6, .int x_68), (7, .int z5), (0, .ref (A 60 0)), (1, .int z1), (2, .int z2), (3, .int z3), (4, .int z4), (5, .int z5)]) hx hb dX10_feed_104 hl (k := 1) rfl (by rw [ex_68]; rfl) (by decide) rfl (fun ls hl => ?_)
                  refine lv_goto (tgt := 20) hx hb dX10_feed_107 (by decide) ?_
                  exact ih_17 x_68 M_67 _ _ _ (by omega) (by first | omega | decide) (by first | omega | decide) iM_67 (qw.trans (qw_Y hM_67 (by decide)) f_8) (qy.trans (qy_Y hM_67 (by decide)) f_9) ((tI_uYE hM_67).trans f_10) ((tI_uYE hM_67).trans f_11) ((tI_uYE hM_67).trans f_12) ((tI_uYE hM_67).trans f_13) ((tI_uYE hM_67).trans f_14) (fun i hi => by rw [tY_uE hM_67, pk_un (show i ≠ (x_61 : Int32).toNatClampNeg by (show i ≠ (x_61 : Int32).toInt.toNat; omega))]; exact j_15 i hi) (fun j hj => by
      rw [tY_uE hM_67]
      by_cases q : j = x_4.toInt.toNat
      · rw [show (tI M 60 2).toInt.toNat + j = (x_61 : Int32).toNatClampNeg by (show _ = (x_61 : Int32).toInt.toNat; omega), pk_us]; subst q; exact pb_k (k := x_4.toInt.toNat) (by rw [if_neg (by omega), if_neg (by omega), if_neg (by omega), if_neg (by omega)]) ex_65 (by omega) ex_66
      · rw [pk_un (show (tI M 60 2).toInt.toNat + j ≠ (x_61 : Int32).toNatClampNeg by (show _ ≠ (x_61 : Int32).toInt.toNat; omega))]; exact j_16 j (by omega)) hw (lv_sub hl [0, 2, 3, 4, 5, 6, 7] rfl)
                · refine lv_iload hx hb dX10_feed_66 (lv_at hl 5 rfl) ?_
                  refine lv_goto (tgt := 73) hx hb dX10_feed_68 (by decide) ?_
                  refine lv_istore (lv' := [(7, .int z4), (6, .int x_4), (0, .ref (A 60 0)), (1, .int z1), (2, .int z2), (3, .int z3), (4, .int z4), (5, .int z5)]) hx hb dX10_feed_73 hl (by decide) rfl (fun ls hl => ?_)
                  refine lv_aload_n hx hb dX10_feed_75 rfl (lv_at hl 2 rfl) ?_
                  refine ti_get (ci := 10) (k := 1) (N := 67) (T := TX10) (v := .ref (A 60 2)) C hw iw_10 rfl ob_60 (by decide) (by decide) fl_X10_7 rfl rfl dX10_feed_76 ?_
                  refine lv_aload_n hx hb dX10_feed_79 rfl (lv_at hl 2 rfl) ?_
                  refine ti_get (ci := 10) (k := 2) (N := 67) (T := TX10) C hw iw_10 rfl ob_60 (by decide) (by decide) fl_X10_157 rfl rfl dX10_feed_80 ?_
                  refine ti_top (y := x_2) (f_14) ?_
                  have u_51 : (tI M_7 60 2).toInt = (x_2 : Int32).toInt := by rw [(f_14)]
                  refine lv_iload hx hb dX10_feed_83 (lv_at hl 1 rfl) ?_
                  refine lv_iadd hx hb dX10_feed_85 ?_
                  refine lv_topi (fun x_52 ex_52 => ?_)
                  have tx_52 : x_52.toInt = x_2.toInt + x_4.toInt := i_add ex_52 rfl rfl (by omega) (by omega)
                  refine lv_iload hx hb dX10_feed_86 (lv_at hl 0 rfl) ?_
                  refine lv_bipush (v := 24) hx hb dX10_feed_88 (by decide) ?_
                  refine lv_bipush (v := 8) hx hb dX10_feed_90 (by decide) ?_
                  refine lv_iload hx hb dX10_feed_92 (lv_at hl 1 rfl) ?_
                  refine lv_iconst (v := 4) hx hb dX10_feed_94 (by decide) ?_
                  refine lv_irem hx hb dX10_feed_95 (by decide) ?_
                  refine lv_topi (fun x_53 ex_53 => ?_)
                  have bx_53 := i_rem ex_53 rfl (by decide : (4 : Int32).toInt = 4) (by omega) (by decide)
                  refine lv_imul hx hb dX10_feed_96 ?_
                  refine lv_topi (fun x_54 ex_54 => ?_)
                  have tx_54 : x_54.toInt = 8 * x_53.toInt := i_mul ex_54 (by decide : (8 : Int32).toInt = 8) rfl (by omega) (by omega)
                  refine lv_isub hx hb dX10_feed_97 ?_
                  refine lv_topi (fun x_55 ex_55 => ?_)
                  have tx_55 : x_55.toInt = 24 - x_54.toInt := i_sub ex_55 (by decide : (24 : Int32).toInt = 24) rfl (by omega) (by omega)
                  refine lv_ishr hx hb dX10_feed_98 ?_
                  refine lv_topi (fun x_56 ex_56 => ?_)
                  refine lv_sipush (v := 255) hx hb dX10_feed_99 (by decide) ?_
                  refine lv_iand hx hb dX10_feed_102 ?_
                  refine lv_topi (fun x_57 ex_57 => ?_)
                  have bx_57 := i_and 8 ex_57 (by decide) (by decide)
                  refine ti_iast (ci := 10) (k := 1) (n := 700) C hw ob_60 (by decide) (fun _ _ => rfl) (vp_in_iff.mpr (by omega)) dX10_feed_103 (fun H locs hw => ?_)
                  obtain ⟨M_58, hM_58⟩ : ∃ z : ti_M, z = uY M_7 60 1 (upd (tY M_7 60 1) (x_52 : Int32).toNatClampNeg x_57) := ⟨_, rfl⟩
                  have hw := hw.to hM_58.symm
                  have iM_58 : mJ M_58 := mI_tp iM_7 hM_58 (fun j => by by_cases q : j = (x_52 : Int32).toNatClampNeg; (subst q; rw [pk_us]; exact ib_mk (lo := 0) (hi := 255) (by omega) (by omega)); (rw [pk_un q]; exact iM_7.2.1 1 j))
                  obtain ⟨x_59, ex_59⟩ : ∃ z : Int32, z = x_4 + 1 := ⟨_, rfl⟩
                  have tx_59 : x_59.toInt = x_4.toInt + 1 := i_add ex_59 rfl (by decide) (by omega) (by omega)
                  refine lv_iinc (v := x_59) (lv' := [(6, .int x_59), (7, .int z4), (0, .ref (A 60 0)), (1, .int z1), (2, .int z2), (3, .int z3), (4, .int z4), (5, .int z5)]) hx hb dX10_feed_104 hl (k := 1) rfl (by rw [ex_59]; rfl) (by decide) rfl (fun ls hl => ?_)
                  refine lv_goto (tgt := 20) hx hb dX10_feed_107 (by decide) ?_
                  exact ih_17 x_59 M_58 _ _ _ (by omega) (by first | omega | decide) (by first | omega | decide) iM_58 (qw.trans (qw_Y hM_58 (by decide)) f_8) (qy.trans (qy_Y hM_58 (by decide)) f_9) ((tI_uYE hM_58).trans f_10) ((tI_uYE hM_58).trans f_11) ((tI_uYE hM_58).trans f_12) ((tI_uYE hM_58).trans f_13) ((tI_uYE hM_58).trans f_14) (fun i hi => by rw [tY_uE hM_58, pk_un (show i ≠ (x_52 : Int32).toNatClampNeg by (show i ≠ (x_52 : Int32).toInt.toNat; omega))]; exact j_15 i hi) (fun j hj => by
      rw [tY_uE hM_58]
      by_cases q : j = x_4.toInt.toNat
      · rw [show (tI M 60 2).toInt.toNat + j = (x_52 : Int32).toNatClampNeg by (show _ = (x_52 : Int32).toInt.toNat; omega), pk_us]; subst q; exact pb_k (k := x_4.toInt.toNat) (by rw [if_neg (by omega), if_neg (by omega), if_neg (by omega), if_pos (by omega)]) ex_56 (by omega) ex_57
      · rw [pk_un (show (tI M 60 2).toInt.toNat + j ≠ (x_52 : Int32).toNatClampNeg by (show _ ≠ (x_52 : Int32).toInt.toNat; omega))]; exact j_16 j (by omega)) hw (lv_sub hl [0, 2, 3, 4, 5, 6, 7] rfl)
              · refine lv_iload_n hx hb dX10_feed_55 rfl (lv_at hl 4 rfl) ?_
                refine lv_goto (tgt := 73) hx hb dX10_feed_56 (by decide) ?_
                refine lv_istore (lv' := [(7, .int z3), (6, .int x_4), (0, .ref (A 60 0)), (1, .int z1), (2, .int z2), (3, .int z3), (4, .int z4), (5, .int z5)]) hx hb dX10_feed_73 hl (by decide) rfl (fun ls hl => ?_)
                refine lv_aload_n hx hb dX10_feed_75 rfl (lv_at hl 2 rfl) ?_
                refine ti_get (ci := 10) (k := 1) (N := 67) (T := TX10) (v := .ref (A 60 2)) C hw iw_10 rfl ob_60 (by decide) (by decide) fl_X10_7 rfl rfl dX10_feed_76 ?_
                refine lv_aload_n hx hb dX10_feed_79 rfl (lv_at hl 2 rfl) ?_
                refine ti_get (ci := 10) (k := 2) (N := 67) (T := TX10) C hw iw_10 rfl ob_60 (by decide) (by decide) fl_X10_157 rfl rfl dX10_feed_80 ?_
                refine ti_top (y := x_2) (f_14) ?_
                have u_42 : (tI M_7 60 2).toInt = (x_2 : Int32).toInt := by rw [(f_14)]
                refine lv_iload hx hb dX10_feed_83 (lv_at hl 1 rfl) ?_
                refine lv_iadd hx hb dX10_feed_85 ?_
                refine lv_topi (fun x_43 ex_43 => ?_)
                have tx_43 : x_43.toInt = x_2.toInt + x_4.toInt := i_add ex_43 rfl rfl (by omega) (by omega)
                refine lv_iload hx hb dX10_feed_86 (lv_at hl 0 rfl) ?_
                refine lv_bipush (v := 24) hx hb dX10_feed_88 (by decide) ?_
                refine lv_bipush (v := 8) hx hb dX10_feed_90 (by decide) ?_
                refine lv_iload hx hb dX10_feed_92 (lv_at hl 1 rfl) ?_
                refine lv_iconst (v := 4) hx hb dX10_feed_94 (by decide) ?_
                refine lv_irem hx hb dX10_feed_95 (by decide) ?_
                refine lv_topi (fun x_44 ex_44 => ?_)
                have bx_44 := i_rem ex_44 rfl (by decide : (4 : Int32).toInt = 4) (by omega) (by decide)
                refine lv_imul hx hb dX10_feed_96 ?_
                refine lv_topi (fun x_45 ex_45 => ?_)
                have tx_45 : x_45.toInt = 8 * x_44.toInt := i_mul ex_45 (by decide : (8 : Int32).toInt = 8) rfl (by omega) (by omega)
                refine lv_isub hx hb dX10_feed_97 ?_
                refine lv_topi (fun x_46 ex_46 => ?_)
                have tx_46 : x_46.toInt = 24 - x_45.toInt := i_sub ex_46 (by decide : (24 : Int32).toInt = 24) rfl (by omega) (by omega)
                refine lv_ishr hx hb dX10_feed_98 ?_
                refine lv_topi (fun x_47 ex_47 => ?_)
                refine lv_sipush (v := 255) hx hb dX10_feed_99 (by decide) ?_
                refine lv_iand hx hb dX10_feed_102 ?_
                refine lv_topi (fun x_48 ex_48 => ?_)
                have bx_48 := i_and 8 ex_48 (by decide) (by decide)
                refine ti_iast (ci := 10) (k := 1) (n := 700) C hw ob_60 (by decide) (fun _ _ => rfl) (vp_in_iff.mpr (by omega)) dX10_feed_103 (fun H locs hw => ?_)
                obtain ⟨M_49, hM_49⟩ : ∃ z : ti_M, z = uY M_7 60 1 (upd (tY M_7 60 1) (x_43 : Int32).toNatClampNeg x_48) := ⟨_, rfl⟩
                have hw := hw.to hM_49.symm
                have iM_49 : mJ M_49 := mI_tp iM_7 hM_49 (fun j => by by_cases q : j = (x_43 : Int32).toNatClampNeg; (subst q; rw [pk_us]; exact ib_mk (lo := 0) (hi := 255) (by omega) (by omega)); (rw [pk_un q]; exact iM_7.2.1 1 j))
                obtain ⟨x_50, ex_50⟩ : ∃ z : Int32, z = x_4 + 1 := ⟨_, rfl⟩
                have tx_50 : x_50.toInt = x_4.toInt + 1 := i_add ex_50 rfl (by decide) (by omega) (by omega)
                refine lv_iinc (v := x_50) (lv' := [(6, .int x_50), (7, .int z3), (0, .ref (A 60 0)), (1, .int z1), (2, .int z2), (3, .int z3), (4, .int z4), (5, .int z5)]) hx hb dX10_feed_104 hl (k := 1) rfl (by rw [ex_50]; rfl) (by decide) rfl (fun ls hl => ?_)
                refine lv_goto (tgt := 20) hx hb dX10_feed_107 (by decide) ?_
                exact ih_17 x_50 M_49 _ _ _ (by omega) (by first | omega | decide) (by first | omega | decide) iM_49 (qw.trans (qw_Y hM_49 (by decide)) f_8) (qy.trans (qy_Y hM_49 (by decide)) f_9) ((tI_uYE hM_49).trans f_10) ((tI_uYE hM_49).trans f_11) ((tI_uYE hM_49).trans f_12) ((tI_uYE hM_49).trans f_13) ((tI_uYE hM_49).trans f_14) (fun i hi => by rw [tY_uE hM_49, pk_un (show i ≠ (x_43 : Int32).toNatClampNeg by (show i ≠ (x_43 : Int32).toInt.toNat; omega))]; exact j_15 i hi) (fun j hj => by
      rw [tY_uE hM_49]
      by_cases q : j = x_4.toInt.toNat
      · rw [show (tI M 60 2).toInt.toNat + j = (x_43 : Int32).toNatClampNeg by (show _ = (x_43 : Int32).toInt.toNat; omega), pk_us]; subst q; exact pb_k (k := x_4.toInt.toNat) (by rw [if_neg (by omega), if_neg (by omega), if_pos (by omega)]) ex_47 (by omega) ex_48
      · rw [pk_un (show (tI M 60 2).toInt.toNat + j ≠ (x_43 : Int32).toNatClampNeg by (show _ ≠ (x_43 : Int32).toInt.toNat; omega))]; exact j_16 j (by omega)) hw (lv_sub hl [0, 2, 3, 4, 5, 6, 7] rfl)
            · refine lv_iload_n hx hb dX10_feed_44 rfl (lv_at hl 3 rfl) ?_
              refine lv_goto (tgt := 73) hx hb dX10_feed_45 (by decide) ?_
              refine lv_istore (lv' := [(7, .int z2), (6, .int x_4), (0, .ref (A 60 0)), (1, .int z1), (2, .int z2), (3, .int z3), (4, .int z4), (5, .int z5)]) hx hb dX10_feed_73 hl (by decide) rfl (fun ls hl => ?_)
              refine lv_aload_n hx hb dX10_feed_75 rfl (lv_at hl 2 rfl) ?_
              refine ti_get (ci := 10) (k := 1) (N := 67) (T := TX10) (v := .ref (A 60 2)) C hw iw_10 rfl ob_60 (by decide) (by decide) fl_X10_7 rfl rfl dX10_feed_76 ?_
              refine lv_aload_n hx hb dX10_feed_79 rfl (lv_at hl 2 rfl) ?_
              refine ti_get (ci := 10) (k := 2) (N := 67) (T := TX10) C hw iw_10 rfl ob_60 (by decide) (by decide) fl_X10_157 rfl rfl dX10_feed_80 ?_
              refine ti_top (y := x_2) (f_14) ?_
              have u_33 : (tI M_7 60 2).toInt = (x_2 : Int32).toInt := by rw [(f_14)]
              refine lv_iload hx hb dX10_feed_83 (lv_at hl 1 rfl) ?_
              refine lv_iadd hx hb dX10_feed_85 ?_
              refine lv_topi (fun x_34 ex_34 => ?_)
              have tx_34 : x_34.toInt = x_2.toInt + x_4.toInt := i_add ex_34 rfl rfl (by omega) (by omega)
              refine lv_iload hx hb dX10_feed_86 (lv_at hl 0 rfl) ?_
              refine lv_bipush (v := 24) hx hb dX10_feed_88 (by decide) ?_
              refine lv_bipush (v := 8) hx hb dX10_feed_90 (by decide) ?_
              refine lv_iload hx hb dX10_feed_92 (lv_at hl 1 rfl) ?_
              refine lv_iconst (v := 4) hx hb dX10_feed_94 (by decide) ?_
              refine lv_irem hx hb dX10_feed_95 (by decide) ?_
              refine lv_topi (fun x_35 ex_35 => ?_)
              have bx_35 := i_rem ex_35 rfl (by decide : (4 : Int32).toInt = 4) (by omega) (by decide)
              refine lv_imul hx hb dX10_feed_96 ?_
              refine lv_topi (fun x_36 ex_36 => ?_)
              have tx_36 : x_36.toInt = 8 * x_35.toInt := i_mul ex_36 (by decide : (8 : Int32).toInt = 8) rfl (by omega) (by omega)
              refine lv_isub hx hb dX10_feed_97 ?_
              refine lv_topi (fun x_37 ex_37 => ?_)
              have tx_37 : x_37.toInt = 24 - x_36.toInt := i_sub ex_37 (by decide : (24 : Int32).toInt = 24) rfl (by omega) (by omega)
              refine lv_ishr hx hb dX10_feed_98 ?_
              refine lv_topi (fun x_38 ex_38 => ?_)
              refine lv_sipush (v := 255) hx hb dX10_feed_99 (by decide) ?_
              refine lv_iand hx hb dX10_feed_102 ?_
              refine lv_topi (fun x_39 ex_39 => ?_)
              have bx_39 := i_and 8 ex_39 (by decide) (by decide)
              refine ti_iast (ci := 10) (k := 1) (n := 700) C hw ob_60 (by decide) (fun _ _ => rfl) (vp_in_iff.mpr (by omega)) dX10_feed_103 (fun H locs hw => ?_)
              obtain ⟨M_40, hM_40⟩ : ∃ z : ti_M, z = uY M_7 60 1 (upd (tY M_7 60 1) (x_34 : Int32).toNatClampNeg x_39) := ⟨_, rfl⟩
              have hw := hw.to hM_40.symm
              have iM_40 : mJ M_40 := mI_tp iM_7 hM_40 (fun j => by by_cases q : j = (x_34 : Int32).toNatClampNeg; (subst q; rw [pk_us]; exact ib_mk (lo := 0) (hi := 255) (by omega) (by omega)); (rw [pk_un q]; exact iM_7.2.1 1 j))
              obtain ⟨x_41, ex_41⟩ : ∃ z : Int32, z = x_4 + 1 := ⟨_, rfl⟩
              have tx_41 : x_41.toInt = x_4.toInt + 1 := i_add ex_41 rfl (by decide) (by omega) (by omega)
              refine lv_iinc (v := x_41) (lv' := [(6, .int x_41), (7, .int z2), (0, .ref (A 60 0)), (1, .int z1), (2, .int z2), (3, .int z3), (4, .int z4), (5, .int z5)]) hx hb dX10_feed_104 hl (k := 1) rfl (by rw [ex_41]; rfl) (by decide) rfl (fun ls hl => ?_)
              refine lv_goto (tgt := 20) hx hb dX10_feed_107 (by decide) ?_
              exact ih_17 x_41 M_40 _ _ _ (by omega) (by first | omega | decide) (by first | omega | decide) iM_40 (qw.trans (qw_Y hM_40 (by decide)) f_8) (qy.trans (qy_Y hM_40 (by decide)) f_9) ((tI_uYE hM_40).trans f_10) ((tI_uYE hM_40).trans f_11) ((tI_uYE hM_40).trans f_12) ((tI_uYE hM_40).trans f_13) ((tI_uYE hM_40).trans f_14) (fun i hi => by rw [tY_uE hM_40, pk_un (show i ≠ (x_34 : Int32).toNatClampNeg by (show i ≠ (x_34 : Int32).toInt.toNat; omega))]; exact j_15 i hi) (fun j hj => by
      rw [tY_uE hM_40]
      by_cases q : j = x_4.toInt.toNat
      · rw [show (tI M 60 2).toInt.toNat + j = (x_34 : Int32).toNatClampNeg by (show _ = (x_34 : Int32).toInt.toNat; omega), pk_us]; subst q; exact pb_k (k := x_4.toInt.toNat) (by rw [if_neg (by omega), if_pos (by omega)]) ex_38 (by omega) ex_39
      · rw [pk_un (show (tI M 60 2).toInt.toNat + j ≠ (x_34 : Int32).toNatClampNeg by (show _ ≠ (x_34 : Int32).toInt.toNat; omega))]; exact j_16 j (by omega)) hw (lv_sub hl [0, 2, 3, 4, 5, 6, 7] rfl)
          · refine lv_iload_n hx hb dX10_feed_33 rfl (lv_at hl 2 rfl) ?_
            refine lv_goto (tgt := 73) hx hb dX10_feed_34 (by decide) ?_
            refine lv_istore (lv' := [(7, .int z1), (6, .int x_4), (0, .ref (A 60 0)), (1, .int z1), (2, .int z2), (3, .int z3), (4, .int z4), (5, .int z5)]) hx hb dX10_feed_73 hl (by decide) rfl (fun ls hl => ?_)
            refine lv_aload_n hx hb dX10_feed_75 rfl (lv_at hl 2 rfl) ?_
            refine ti_get (ci := 10) (k := 1) (N := 67) (T := TX10) (v := .ref (A 60 2)) C hw iw_10 rfl ob_60 (by decide) (by decide) fl_X10_7 rfl rfl dX10_feed_76 ?_
            refine lv_aload_n hx hb dX10_feed_79 rfl (lv_at hl 2 rfl) ?_
            refine ti_get (ci := 10) (k := 2) (N := 67) (T := TX10) C hw iw_10 rfl ob_60 (by decide) (by decide) fl_X10_157 rfl rfl dX10_feed_80 ?_
            refine ti_top (y := x_2) (f_14) ?_
            have u_24 : (tI M_7 60 2).toInt = (x_2 : Int32).toInt := by rw [(f_14)]
            refine lv_iload hx hb dX10_feed_83 (lv_at hl 1 rfl) ?_
            refine lv_iadd hx hb dX10_feed_85 ?_
            refine lv_topi (fun x_25 ex_25 => ?_)
            have tx_25 : x_25.toInt = x_2.toInt + x_4.toInt := i_add ex_25 rfl rfl (by omega) (by omega)
            refine lv_iload hx hb dX10_feed_86 (lv_at hl 0 rfl) ?_
            refine lv_bipush (v := 24) hx hb dX10_feed_88 (by decide) ?_
            refine lv_bipush (v := 8) hx hb dX10_feed_90 (by decide) ?_
            refine lv_iload hx hb dX10_feed_92 (lv_at hl 1 rfl) ?_
            refine lv_iconst (v := 4) hx hb dX10_feed_94 (by decide) ?_
            refine lv_irem hx hb dX10_feed_95 (by decide) ?_
            refine lv_topi (fun x_26 ex_26 => ?_)
            have bx_26 := i_rem ex_26 rfl (by decide : (4 : Int32).toInt = 4) (by omega) (by decide)
            refine lv_imul hx hb dX10_feed_96 ?_
            refine lv_topi (fun x_27 ex_27 => ?_)
            have tx_27 : x_27.toInt = 8 * x_26.toInt := i_mul ex_27 (by decide : (8 : Int32).toInt = 8) rfl (by omega) (by omega)
            refine lv_isub hx hb dX10_feed_97 ?_
            refine lv_topi (fun x_28 ex_28 => ?_)
            have tx_28 : x_28.toInt = 24 - x_27.toInt := i_sub ex_28 (by decide : (24 : Int32).toInt = 24) rfl (by omega) (by omega)
            refine lv_ishr hx hb dX10_feed_98 ?_
            refine lv_topi (fun x_29 ex_29 => ?_)
            refine lv_sipush (v := 255) hx hb dX10_feed_99 (by decide) ?_
            refine lv_iand hx hb dX10_feed_102 ?_
            refine lv_topi (fun x_30 ex_30 => ?_)
            have bx_30 := i_and 8 ex_30 (by decide) (by decide)
            refine ti_iast (ci := 10) (k := 1) (n := 700) C hw ob_60 (by decide) (fun _ _ => rfl) (vp_in_iff.mpr (by omega)) dX10_feed_103 (fun H locs hw => ?_)
            obtain ⟨M_31, hM_31⟩ : ∃ z : ti_M, z = uY M_7 60 1 (upd (tY M_7 60 1) (x_25 : Int32).toNatClampNeg x_30) := ⟨_, rfl⟩
            have hw := hw.to hM_31.symm
            have iM_31 : mJ M_31 := mI_tp iM_7 hM_31 (fun j => by by_cases q : j = (x_25 : Int32).toNatClampNeg; (subst q; rw [pk_us]; exact ib_mk (lo := 0) (hi := 255) (by omega) (by omega)); (rw [pk_un q]; exact iM_7.2.1 1 j))
            obtain ⟨x_32, ex_32⟩ : ∃ z : Int32, z = x_4 + 1 := ⟨_, rfl⟩
            have tx_32 : x_32.toInt = x_4.toInt + 1 := i_add ex_32 rfl (by decide) (by omega) (by omega)
            refine lv_iinc (v := x_32) (lv' := [(6, .int x_32), (7, .int z1), (0, .ref (A 60 0)), (1, .int z1), (2, .int z2), (3, .int z3), (4, .int z4), (5, .int z5)]) hx hb dX10_feed_104 hl (k := 1) rfl (by rw [ex_32]; rfl) (by decide) rfl (fun ls hl => ?_)
            refine lv_goto (tgt := 20) hx hb dX10_feed_107 (by decide) ?_
            exact ih_17 x_32 M_31 _ _ _ (by omega) (by first | omega | decide) (by first | omega | decide) iM_31 (qw.trans (qw_Y hM_31 (by decide)) f_8) (qy.trans (qy_Y hM_31 (by decide)) f_9) ((tI_uYE hM_31).trans f_10) ((tI_uYE hM_31).trans f_11) ((tI_uYE hM_31).trans f_12) ((tI_uYE hM_31).trans f_13) ((tI_uYE hM_31).trans f_14) (fun i hi => by rw [tY_uE hM_31, pk_un (show i ≠ (x_25 : Int32).toNatClampNeg by (show i ≠ (x_25 : Int32).toInt.toNat; omega))]; exact j_15 i hi) (fun j hj => by
      rw [tY_uE hM_31]
      by_cases q : j = x_4.toInt.toNat
      · rw [show (tI M 60 2).toInt.toNat + j = (x_25 : Int32).toNatClampNeg by (show _ = (x_25 : Int32).toInt.toNat; omega), pk_us]; subst q; exact pb_k (k := x_4.toInt.toNat) (by rw [if_pos (by omega)]) ex_29 (by omega) ex_30
      · rw [pk_un (show (tI M 60 2).toInt.toNat + j ≠ (x_25 : Int32).toNatClampNeg by (show _ ≠ (x_25 : Int32).toInt.toNat; omega))]; exact j_16 j (by omega)) hw (lv_sub hl [0, 2, 3, 4, 5, 6, 7] rfl)
    exact hl_20_16 ((20 - 0 : Int).toNat + 1) 0 M_1 _ _ _ (Nat.lt_succ_self _) (by have lt0 : (0 : Int32).toInt = 0 := (by decide); first | omega | decide) (by have lt0 : (0 : Int32).toInt = 0 := (by decide); first | omega | decide) iM_1 (qw_I hM_1 (by decide)) (qy_I hM_1 (by decide)) (tI_nE hM_1 (nk (by decide))) (tI_nE hM_1 (nk (by decide))) (tI_nE hM_1 (nk (by decide))) (tI_nE hM_1 (nk (by decide))) (ex_2.symm) (fun i _ => by rw [(tY_uIE hM_1)]) (fun j hj => absurd hj (by have z0 : (0 : Int32).toInt = 0 := (by decide); omega)) hw (lv_sub hl [0, 1, 2, 3, 4, 5, 6] rfl)
  · have e2 : (tI M_1 60 2).toInt = (tI M 60 2).toInt := congrArg Int32.toInt (tI_nE hM_1 (nk (by decide)))
    refine lv_iconst (v := (-1)) hx hb dX10_feed_15 (by decide) ?_
    exact hQ _ _ _ _ _ _ hw rfl (⟨(Or.inl ⟨by omega, by decide, mF_qx hF iM_1 (qw_I hM_1 (by decide)), (tI_nE hM_1 (nk (by decide))), (tY_uIE hM_1), (tI_nE hM_1 (nk (by decide))), (tI_nE hM_1 (nk (by decide))), (tI_nE hM_1 (nk (by decide))), (tI_nE hM_1 (nk (by decide)))⟩), (qw_I hM_1 (by decide)).1, (qy_I hM_1 (by decide))⟩) dX10_feed_16
end

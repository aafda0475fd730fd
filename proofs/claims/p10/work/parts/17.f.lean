variable {Tc : gC} {Tm : gM}
/-! the class as a whole, between calls -/
def cV (M : ti_M) (o k : Nat) : Prop := ∃ t : Nat, (t = 3 ∨ t = 4) ∧ tT M o k = some t
def cS (M : ti_M) : Prop := ∀ f n : Nat, (tI M 28 1).toInt = f → (tI M 28 2).toInt = n → ∀ j : Nat, j < n → cV M (29 + (f + j) % 20) 0
def cF (Tc : gC) (M : ti_M) : Prop := cI Tc M ∧ cV M 0 1 ∧ cV M 0 2 ∧ cV M 27 0 ∧ cS M ∧ (¬ (tI M 0 7).toInt = 0 → cV M 49 0)
theorem cV.to {M N : ti_M} {o k : Nat} (h : cV M o k) (e : tT N o k = tT M o k) : cV N o k := by obtain ⟨t, h1, h2⟩ := h; exact ⟨t, h1, e.trans h2⟩
theorem cS.to {M N : ti_M} (h : cS M) (h1 : tI N 28 1 = tI M 28 1) (h2 : tI N 28 2 = tI M 28 2) (hT : ∀ i : Nat, i < 20 → tT N (29 + i) 0 = tT M (29 + i) 0) : cS N := by
  intro f n hf hn j hj
  rw [h1] at hf
  rw [h2] at hn
  exact (h f n hf hn j hj).to (hT _ (Nat.mod_lt _ (by decide)))
theorem cF_fr {M N : ti_M} (h : cF Tc M) (hI : cI Tc N) (r : rT N M) (x : fX N M) : cF Tc N := by
  obtain ⟨-, h1, h2, h3, h4, h5⟩ := h
  refine ⟨hI, h1.to (r 0 1 (by decide)), h2.to (r 0 2 (by decide)), h3.to (r 27 0 (by decide)), h4.to (x 1).2.2.1 (x 2).2.2.1 (fun i hi => r _ _ (by omega)), fun q => (h5 ?_).to (r 49 0 (by decide))⟩
  rwa [(x 7).1] at q
theorem cF_rr {M N : ti_M} (h : cF Tc M) (hI : cI Tc N) (r : rR N M) (x : f0 N M) : cF Tc N := by
  obtain ⟨-, h1, h2, h3, h4, h5⟩ := h
  refine ⟨hI, h1.to (r 0 1 (by decide)), h2.to (r 0 2 (by decide)), h3.to (r 27 0 (by decide)), h4.to (x 1).2 (x 2).2 (fun i hi => r _ _ (by omega)), fun q => (h5 ?_).to (r 49 0 (by decide))⟩
  rwa [(x 7).1] at q
theorem cF_mk {N : ti_M} (hI : cI Tc N) (h1 : cV N 0 1) (h2 : cV N 0 2) (h3 : cV N 27 0) (h4 : (tI N 28 2).toInt = 0) (h5 : (tI N 0 7).toInt = 0) : cF Tc N :=
  ⟨hI, h1, h2, h3, fun f n _ hn j hj => by rw [h4] at hn; omega, fun q => absurd h5 q⟩
theorem cF_clear {M N : ti_M} (h : cF Tc M) (hI : cI Tc N) (e : N = uI M 28 2 0) : cF Tc N := by
  obtain ⟨-, h1, h2, h3, h4, h5⟩ := h
  subst e
  refine ⟨hI, h1, h2, h3, fun f n _ hn j hj => ?_, fun q => h5 (by rwa [tI_n _ _ _ _ (by decide)] at q)⟩
  rw [tI_u] at hn
  have h0 : (0 : Int32).toInt = 0 := by decide
  omega
/-- what remember leaves: the ring's place is new, and either many or first goes on -/
theorem cF_rem {M N : ti_M} {t i : Nat} {f n f2 n2 : Int32} (h : cF Tc M) (hI : cI Tc N) (ht : t = 3 ∨ t = 4) (eT : N.2.2.2 = (uT M (29 + i) 0 (some t)).2.2.2) (hf : tI M 28 1 = f) (hn : tI M 28 2 = n) (b1 : 0 ≤ f.toInt) (b2 : f.toInt ≤ 19) (b3 : 0 ≤ n.toInt) (b4 : n.toInt ≤ 20) (hi : (i : Int) = (f.toInt + n.toInt) % 20) (h0 : ∀ k, tI N 0 k = tI M 0 k) (hf2 : tI N 28 1 = f2) (hn2 : tI N 28 2 = n2)
    (hh : (f2.toInt = f.toInt ∧ n2.toInt = n.toInt + 1) ∨ (n.toInt = 20 ∧ n2.toInt = 20 ∧ f2.toInt = (f.toInt + 1) % 20)) : cF Tc N := by
  obtain ⟨-, h1, h2, h3, h4, h5⟩ := h
  have hi20 : i < 20 := by omega
  have keep : ∀ o k : Nat, ¬ (k = 0 ∧ o = 29 + i) → tT N o k = tT M o k := fun o k q => (tT_fr eT).trans (tT_n _ _ _ _ q)
  have new : tT N (29 + i) 0 = some t := (tT_fr eT).trans (tT_u _ _ _ _)
  refine ⟨hI, h1.to (keep 0 1 (by omega)), h2.to (keep 0 2 (by omega)), h3.to (keep 27 0 (by omega)), ?_, fun q => (h5 (by rwa [h0] at q)).to (keep 49 0 (by omega))⟩
  intro a b ha hb j hj
  rw [hf2] at ha
  rw [hn2] at hb
  by_cases hq : (a + j) % 20 = i
  · rw [hq]; exact ⟨t, ht, new⟩
  · refine cV.to ?_ (keep _ _ (by omega))
    have hs := h4 f.toInt.toNat n.toInt.toNat (by rw [hf]; omega) (by rw [hn]; omega)
    rcases hh with ⟨e1, e2⟩ | ⟨e0, e1, e2⟩
    · have := hs j (by omega)
      rwa [show f.toInt.toNat = a by omega] at this
    · have := hs ((j + 1) % 20) (by omega)
      rwa [show (f.toInt.toNat + (j + 1) % 20) % 20 = (a + j) % 20 by omega] at this
/-- going back one step -/
theorem cF_back {M N : ti_M} {t : Nat} {n n2 : Int32} (h : cF Tc M) (hI : cI Tc N) (ht : t = 3 ∨ t = 4) (eT : N.2.2.2 = (uT M 27 0 (some t)).2.2.2) (hn : tI M 28 2 = n) (h0 : ∀ k, tI N 0 k = tI M 0 k) (hf2 : tI N 28 1 = tI M 28 1) (hn2 : tI N 28 2 = n2) (hle : n2.toInt ≤ n.toInt) (b : 0 ≤ n.toInt) : cF Tc N := by
  obtain ⟨-, h1, h2, h3, h4, h5⟩ := h
  have keep : ∀ o k : Nat, ¬ (k = 0 ∧ o = 27) → tT N o k = tT M o k := fun o k q => (tT_fr eT).trans (tT_n _ _ _ _ q)
  refine ⟨hI, h1.to (keep 0 1 (by omega)), h2.to (keep 0 2 (by omega)), ⟨t, ht, (tT_fr eT).trans (tT_u _ _ _ _)⟩, ?_, fun q => (h5 (by rwa [h0] at q)).to (keep 49 0 (by omega))⟩
  intro a c ha hc j hj
  rw [hf2] at ha
  rw [hn2] at hc
  exact (h4 a n.toInt.toNat ha (by rw [hn]; omega) j (by omega)).to (keep _ _ (by omega))
theorem cS_get {M : ti_M} {f n : Int32} {i : Nat} (h : cS M) (hf : tI M 28 1 = f) (hn : tI M 28 2 = n) (b1 : 0 ≤ f.toInt) (b3 : 0 < n.toInt) (hi : (i : Int) = (f.toInt + (n.toInt - 1)) % 20) : cV M (29 + i) 0 := by
  have := h f.toInt.toNat n.toInt.toNat (by rw [hf]; omega) (by rw [hn]; omega) (n.toInt.toNat - 1) (by omega)
  rwa [show (f.toInt.toNat + (n.toInt.toNat - 1)) % 20 = i by omega] at this
theorem cF_now {M N : ti_M} {t : Nat} (h : cF Tc M) (hI : cI Tc N) (ht : t = 3 ∨ t = 4) (eT : N.2.2.2 = (uT M 27 0 (some t)).2.2.2) (x : fX N M) : cF Tc N := by
  have hb : 0 ≤ (tI M 28 2).toInt ∧ (tI M 28 2).toInt ≤ 20 := cI_rd (x := tI M 28 2) (k := 2) h.1 ob_28.1 rfl
  exact cF_back h hI ht eT rfl (fun k => (x k).1) (x 1).2.2.1 (x 2).2.2.1 (Int.le_refl _) hb.1
theorem cF_keep {M N : ti_M} {t : Nat} (h : cF Tc M) (hI : cI Tc N) (ht : t = 3 ∨ t = 4) (eT : N.2.2.2 = (uT M 49 0 (some t)).2.2.2) (h28 : ∀ k, tI N 28 k = tI M 28 k) : cF Tc N := by
  obtain ⟨-, h1, h2, h3, h4, h5⟩ := h
  have keep : ∀ o k : Nat, ¬ (k = 0 ∧ o = 49) → tT N o k = tT M o k := fun o k q => (tT_fr eT).trans (tT_n _ _ _ _ q)
  exact ⟨hI, h1.to (keep 0 1 (by omega)), h2.to (keep 0 2 (by omega)), h3.to (keep 27 0 (by omega)), h4.to (h28 1) (h28 2) (fun i hi => keep _ _ (by omega)), fun _ => ⟨t, ht, (tT_fr eT).trans (tT_u _ _ _ _)⟩⟩
theorem cF_self {M : ti_M} (h : cF Tc M) : cF (cG M) M := ⟨cI_self h.1, h.2⟩

theorem sy_nat : Cond.native arraycopyName ∈ lw_g := lw_g_mem 560 (by decide +kernel) (by decide +kernel)
theorem sy_sta : Cond.static arraycopyName ∈ lw_g := lw_g_mem 559 (by decide +kernel) (by decide +kernel)
theorem sy_ini : Cond.initialized "java/lang/System" ∈ lw_g := lw_g_mem 132 (by decide +kernel) (by decide +kernel)
theorem ml_X3_72 : Cond.methodLink RX3 72 arraycopyName ∈ lw_g := lw_g_mem 558 (by decide +kernel) (by decide +kernel)
theorem uY_uY (M : ti_M) (o k : Nat) (f g : Nat → Int32) : uY (uY M o k f) o k g = uY M o k g := by
  simp only [uY, Prod.mk.injEq, true_and, and_true]
  funext o2 k2
  simp only [up2]
  by_cases h : k2 = k ∧ o2 = o
  · rw [if_pos h, if_pos h]
  · rw [if_neg h, if_neg h, if_neg h]
theorem uI_uI (M : ti_M) (o k : Nat) (f g : Int32) : uI (uI M o k f) o k g = uI M o k g := by
  simp only [uI, Prod.mk.injEq, true_and, and_true]
  funext o2 k2
  simp only [up2]
  by_cases h : k2 = k ∧ o2 = o
  · rw [if_pos h, if_pos h]
  · rw [if_neg h, if_neg h, if_neg h]
theorem ti_ltm (x y : Int32) : (if y < x then y else x) ≤ y := by
  by_cases h : y < x
  · rw [if_pos h]; exact Int32.le_refl y
  · rw [if_neg h]; rw [Int32.lt_iff_toInt_lt] at h; rw [Int32.le_iff_toInt_le]; omega
set_option maxHeartbeats 4000000 in
set_option maxRecDepth 100000 in
/-- Arrays.fill: each place of the row holds v -/
theorem k_fill (l : Launch) (D : va_G) (A : Nat → Nat → Nat) (cy : Nat → ClassId) {Ls : List (Nat × Nat)} (hN : Ls.Nodup) (hJ : ti_inj Ls A) (M : ti_M) (o k ci len : Nat) (v : Int32) (ho : ti_ob Ls o ci) (hj : k + 1 ∈ ti_parts ci) (har : ∀ f g, ti_ar A cy ci o k f g = (cy 1, len, .inl f)) (hlen : len < 2 ^ 31) : ti_Kv l yJ7_fill_53178 cJ7_fill_53178 4 0 Ls D A cy M [.ref (A o (k + 1)), .int v] (fun M2 => ∃ g, M2 = uY M o k g ∧ ∀ j, j < len → g j = v) := by
  refine ti_eV yp_J7_fill_53178 hJ hN (Nat.le_of_ble_eq_true rfl) ?_
  intro p e s m args below meth c Q H0 C hQ hw ls hl
  have hx := C.1
  have hb := C.2.1
  have hl : lv_has ls 4 [(0, .ref (A o (k + 1))), (1, .int v)] := hl
  refine lv_iconst (v := 0) hx hb dJ7_fill_53178_0 (by decide) ?_
  refine lv_istore_n (lv' := [(2, .int 0), (0, .ref (A o (k + 1))), (1, .int v)]) hx hb dJ7_fill_53178_1 rfl hl (by decide) rfl (fun ls hl => ?_)
  refine lv_aload_n hx hb dJ7_fill_53178_2 rfl (lv_at hl 1 rfl) ?_
  refine ti_alen (ci := ci) (n := len) (t0 := 1) (v := nI len) C hw ho hj (fun f g => by rw [har]; exact ⟨rfl, rfl⟩) rfl rfl dJ7_fill_53178_3 ?_
  refine lv_istore_n (lv' := [(3, .int (nI len)), (2, .int 0), (0, .ref (A o (k + 1))), (1, .int v)]) hx hb dJ7_fill_53178_4 rfl hl (by decide) rfl (fun ls hl => ?_)
  suffices hloop : ∀ (n i : Nat) (g : Nat → Int32) (H : Heap) (locs : List Loc) (ls : Array Slot), len < i + n → i ≤ len → (∀ j, j < i → g j = v) → ti_H Ls D A cy H0 (uY M o k g) H locs → lv_has ls 4 [(3, .int (nI len)), (2, .int (nI i)), (0, .ref (A o (k + 1))), (1, .int v)] → W p l e (ti_rm 0) s m args below meth c H locs 0 0 Q (F0 m 5 ls []) from
    hloop (len + 1) 0 (tY M o k) _ _ _ (by omega) (Nat.zero_le _) (fun j h => by omega) (hw.to (uY_eta M o k).symm) hl
  intro n
  induction n with
  | zero => intro i g H locs ls h1 h2; omega
  | succ n ih =>
    intro i g H locs ls hf hi hg hw hl
    refine lv_iload_n hx hb dJ7_fill_53178_5 rfl (lv_at hl 1 rfl) ?_
    refine lv_iload_n hx hb dJ7_fill_53178_6 rfl (lv_at hl 0 rfl) ?_
    refine lv_icmp_ge (tgt := 20) hx hb dJ7_fill_53178_7 (by decide) (fun c_7 => ?_) (fun c_7 => ?_)
    · have he : i = len := by
        have := (nI_leI hlen (Nat.lt_of_le_of_lt hi hlen)).mp c_7
        omega
      exact hQ _ _ _ _ _ hw ⟨g, rfl, by rw [← he]; exact hg⟩ dJ7_fill_53178_20
    · have hlt : i < len := by
        rcases Nat.lt_or_ge i len with q | q
        · exact q
        · exact absurd ((nI_leI hlen (Nat.lt_of_le_of_lt hi hlen)).mpr q) c_7
      refine lv_aload_n hx hb dJ7_fill_53178_10 rfl (lv_at hl 2 rfl) ?_
      refine lv_iload_n hx hb dJ7_fill_53178_11 rfl (lv_at hl 1 rfl) ?_
      refine lv_iload_n hx hb dJ7_fill_53178_12 rfl (lv_at hl 3 rfl) ?_
      refine ti_iast (ci := ci) (n := len) C hw ho hj har (vp_in_nI hlt hlen) dJ7_fill_53178_13 (fun H locs hw => ?_)
      rw [tY_u, uY_uY, nI_clamp (Nat.lt_of_le_of_lt hi hlen)] at hw
      refine lv_iinc (v := nI (i + 1)) (lv' := [(2, .int (nI (i + 1))), (3, .int (nI len)), (0, .ref (A o (k + 1))), (1, .int v)]) hx hb dJ7_fill_53178_14 hl (k := 1) rfl (nI_1 i) (by decide) rfl (fun ls hl => ?_)
      refine lv_goto (tgt := 5) hx hb dJ7_fill_53178_17 (by decide) ?_
      refine ih (i + 1) (upd g i v) _ _ _ (by omega) hlt (fun j hj => ?_) hw (lv_sub hl [1, 0, 2, 3] rfl)
      by_cases e : j = i
      · subst e; exact pk_us
      · rw [pk_un e]; exact hg j (by omega)

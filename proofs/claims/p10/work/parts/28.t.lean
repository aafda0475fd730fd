variable {Tc : gC} {Tm : gM}
/-! String.length of the reference's words -/
set_option maxHeartbeats 4000000 in
theorem x_J0_coder (l : Launch) (a v n : Nat) (f : Nat → Int32) : tx_K l yJ0_coder_7d493 cJ0_coder_7d493 1 (some .byte) 0 (tx_Q a v n f) [.ref a] (fun r => r = 0) := by
  refine tx_enter yp_J0_coder_7d493 (Nat.le_of_ble_eq_true rfl) ?_
  intro p e s m below meth c C hr hlk hE ls hl
  have hx := C.1
  have hb := C.2.1
  have hl : lv_has ls 1 [(0, .ref a)] := hl
  refine va_gets hx hb hE.1.1 va_S.rf C.2.2.2.1 (C.2.2.1 _ fl_J0_38) (fun _ h => h) dJ0_coder_7d493_0 ?_
  refine sb_if_eq (tgt := 13) hx hb (by decide : (1 : Int32).toInt = 1) dJ0_coder_7d493_3 (by decide) (fun h => absurd h (by decide)) (fun _ => ?_)
  refine lv_aload_n hx hb dJ0_coder_7d493_6 rfl (lv_at hl 0 rfl) ?_
  refine vk_getf hx hb hE.2.2.1 va_S.rf C.2.2.2.1 (C.2.2.1 _ fl_J0_15) (fun _ h => h) dJ0_coder_7d493_7 ?_
  refine lv_goto (tgt := 14) hx hb dJ0_coder_7d493_10 (by decide) ?_
  exact tx_ret C hr hlk va_S.rf rfl rfl dJ0_coder_7d493_14
set_option maxHeartbeats 4000000 in
theorem x_J0_length (l : Launch) (a v : Nat) (f : Nat → Int32) : tx_K l yJ0_length_8abf5 cJ0_length_8abf5 1 (some .int) 1 (tx_Q a v 125 f) [.ref a] (fun r => r = 125) := by
  refine tx_enter yp_J0_length_8abf5 (Nat.le_of_ble_eq_true rfl) ?_
  intro p e s m below meth c C hr hlk hE ls hl
  have hx := C.1
  have hb := C.2.1
  have hl : lv_has ls 1 [(0, .ref a)] := hl
  refine lv_aload_n hx hb dJ0_length_8abf5_0 rfl (lv_at hl 0 rfl) ?_
  refine vk_getf hx hb hE.2.2.2.1 va_S.rf C.2.2.2.1 (C.2.2.1 _ fl_J0_9) (fun _ h => h) dJ0_length_8abf5_1 ?_
  refine va_tlen hx hb hE.2.2.2.2 va_S.rf rfl dJ0_length_8abf5_4 ?_
  refine lv_aload_n hx hb dJ0_length_8abf5_5 rfl (lv_at hl 0 rfl) ?_
  refine va_calli (va_runV (As := []) (rest := [.int (Int32.ofNat 125)]) ⟨hx, hb, C.2.2.2.2, C.2.2.2.1, C.2.2.1⟩ (x_J0_coder l a v 125 f) (cwV 0 C.2.2.1 (tx_gV (own := RJ0) (idx := 335) ⟨ml_J0_335, ym_J0_coder_7d493, yv_J0_coder_7d493, yi_J0_coder_7d493, yc_J0_coder_7d493⟩) rfl rfl rfl ⟨rfl, yd_J0_coder_7d493⟩ ⟨by decide, by decide⟩) ⟨tx_fb tx_Qb, (by obtain ⟨cell, q1, q2, q3, -⟩ := hE.2.1; exact ⟨cell, q1, q2, q3⟩), fun U hU hW => ⟨rfl, by unfold tx_Q tx_G; rw [hU]; exact ⟨tx_g.moved hW.alike hE.1, tx_s.moved hW.alike hE.2⟩⟩⟩ rfl rfl hl.1 rfl (lv_room (Nat.le_of_ble_eq_true rfl)) dJ0_length_8abf5_6 ⟨Nat.zero_le _, Nat.zero_le _⟩) (va_S.rf (A := fun _ => False)) (fun q _ h => h) (fun q h => h) ?_
  intro r u t H1 locs1 ht hvm hpo hB hz hk hS
  obtain rfl : r = 0 := hpo
  refine lv_ishr hx hb dJ0_length_8abf5_9 ?_
  refine ti_top (y := 125) (by decide) ?_
  exact tx_ret C hr hlk hS rfl rfl dJ0_length_8abf5_10
section
variable {p : Program} {l : Launch} {e : Env} {R : Room} {s : State} {m : MethodId} {args : Array Value} {below : List Frame} {meth : Method} {c : Code} {H H0 : Heap} {locs : List Loc} {cells slots : Nat} {Q : State → Prop} {pc : Nat} {ls : Array Slot} {rest : List Value} {cc : ByteArray} {own : String} {nL : Nat} {D : va_G} {cy : Nat → ClassId} {Ls : List (Nat × Nat)} {A : Nat → Nat → Nat} {M : ti_M}
theorem ti_length {idx a v : Nat} {f : Nat → Int32} (C : ti_C p s m c args cc own nL D cy Ls A) (hs : tx_s a v 125 f (ti_As Ls A) s H0) (hg : tx_g (ti_As Ls A) s H0) (hw : ti_H Ls D A cy H0 M H locs) (hm : Cond.methodLink own idx yJ0_length_8abf5 ∈ lw_g) (hsz : ls.size = nL) (hrs : (rest.map fun v => v.category).sum ≤ 8) (hR : 1 + 1 ≤ R.frames ∧ 8 + (1 + 11) + 60 * 1 ≤ R.locals) (hcs : cells ≤ R.cells ∧ slots ≤ R.slots) (hdg : decode cc pc = .ok (.invokevirtual idx, 3))
    (kk : ∀ (H1 : Heap) (locs1 : List Loc), ti_H Ls D A cy H0 M H1 locs1 → W p l e R s m args below meth c H1 locs1 cells slots Q (F0 m (pc + 3) ls (.int 125 :: rest))) : W p l e R s m args below meth c H locs cells slots Q (F0 m pc ls (.ref a :: rest)) := by
  refine va_calli (va_runV (As := []) (rest := rest) ⟨C.1, C.2.1, C.2.2.2.2.2.1, C.2.2.2.1, C.2.2.1⟩ (x_J0_length l a v f) (cwV 0 C.2.2.1 (tx_gV ⟨hm, ym_J0_length_8abf5, yv_J0_length_8abf5, yi_J0_length_8abf5, yc_J0_length_8abf5⟩) rfl rfl rfl ⟨rfl, yd_J0_length_8abf5⟩ hR) ⟨tx_fb tx_Qb, ?_, ?_⟩ rfl rfl hsz rfl (lv_room hrs) hdg ⟨hcs.1, hcs.2⟩) hw.2 (fun q _ h => h.elim) (fun q h => h.elim) ?_
  · obtain ⟨cell, q1, q2, q3, -⟩ := hs.1.kept hw.2.2.1
    exact ⟨cell, q1, q2, q3⟩
  · intro U hU hW
    refine ⟨rfl, ?_⟩
    unfold tx_Q tx_G
    rw [hU]
    exact ⟨((hg.moved hW.alike).kept hw.2.2.1).narrow (fun _ h => h.elim), ((hs.moved hW.alike).kept hw.2.2.1).narrow (fun _ h => h.elim)⟩
  · intro r u t H1 locs1 ht hvm hpo hB hz hk hS
    obtain rfl : r = 125 := hpo
    exact kk H1 locs1 ⟨hw.1.kept (fun k q hq => hk q.1 ((hw.1 k q hq).lt) (fun h => h)), hS⟩
end
/-! the words' places -/
def wn (k : Nat) : Nat := ((tx_mb.take k).filter (· == 32)).length
theorem wn_s (k : Nat) (h : k < 125) : (tx_mb.getD k 0 &&& 255).toInt ≠ 32 → wn (k + 1) = wn k := by
  have : ∀ k : Fin 125, (tx_mb.getD k.1 0 &&& 255).toInt ≠ 32 → wn (k.1 + 1) = wn k.1 := by decide +kernel
  exact this ⟨k, h⟩
theorem wn_e (k : Nat) (h : k < 125) : (tx_mb.getD k 0 &&& 255).toInt = 32 → wn (k + 1) = wn k + 1 := by
  have : ∀ k : Fin 125, (tx_mb.getD k.1 0 &&& 255).toInt = 32 → wn (k.1 + 1) = wn k.1 + 1 := by decide +kernel
  exact this ⟨k, h⟩
theorem wn_24 (k : Nat) (h : k < 125) : wn k ≤ 24 := by
  have : ∀ k : Fin 125, wn k.1 ≤ 24 := by decide +kernel
  exact this ⟨k, h⟩
theorem wn_l : (tx_mb.getD 124 0 &&& 255).toInt = 32 := by decide +kernel

variable {Tc : gC} {Tm : gM}
/-! the tokens of a text, told once: B its bytes, n how many -/
def pt_W (c : Int) : Bool := decide (c = 32 ∨ c = 10)
def pt_L (c : Int) : Bool := decide (97 ≤ c ∧ c ≤ 122)
def pt_D (c : Int) : Bool := decide (48 ≤ c ∧ c ≤ 57)
def pt_pk (B : Nat → Int) (n a : Nat) : Int := if a < n then B a else -1
def pt_rn (P : Int → Bool) (B : Nat → Int) (n : Nat) : Nat → Nat → Nat
  | 0, a => a
  | f + 1, a => if a < n ∧ P (B a) = true then pt_rn P B n f (a + 1) else a
/-- the first place from a on where P ends -/
def pt_to (P : Int → Bool) (B : Nat → Int) (n a : Nat) : Nat := pt_rn P B n (n - a) a
theorem pt_to_go {P : Int → Bool} {B : Nat → Int} {n a : Nat} (h : a < n) (hp : P (B a) = true) : pt_to P B n a = pt_to P B n (a + 1) := by
  unfold pt_to
  rw [show n - a = (n - (a + 1)) + 1 by omega, pt_rn, if_pos ⟨h, hp⟩]
theorem pt_to_end {P : Int → Bool} {B : Nat → Int} {n a : Nat} (h : ¬ (a < n ∧ P (B a) = true)) : pt_to P B n a = a := by
  unfold pt_to
  cases n - a with
  | zero => rfl
  | succ f => rw [pt_rn, if_neg h]
theorem pt_rn_le {P : Int → Bool} {B : Nat → Int} {n : Nat} : ∀ f a : Nat, a ≤ pt_rn P B n f a ∧ (a ≤ n → pt_rn P B n f a ≤ n) := by
  intro f
  induction f with
  | zero => intro a; exact ⟨Nat.le_refl _, fun h => h⟩
  | succ f ih =>
    intro a
    rw [pt_rn]
    split
    · rename_i h
      exact ⟨Nat.le_trans (Nat.le_succ a) (ih (a + 1)).1, fun _ => (ih (a + 1)).2 h.1⟩
    · exact ⟨Nat.le_refl _, fun h => h⟩
theorem pt_to_le {P : Int → Bool} {B : Nat → Int} {n a : Nat} : a ≤ pt_to P B n a := (pt_rn_le _ _).1
theorem pt_to_n {P : Int → Bool} {B : Nat → Int} {n a : Nat} (h : a ≤ n) : pt_to P B n a ≤ n := (pt_rn_le _ _).2 h
/-- a number's value, cut at 1000000 -/
def pt_nf (B : Nat → Int) (n : Nat) : Nat → Nat → Int → Int
  | 0, _, v => v
  | f + 1, a, v => if a < n ∧ pt_D (B a) = true then pt_nf B n f (a + 1) (min (v * 10 + B a - 48) 1000000) else v
def pt_nv (B : Nat → Int) (n a : Nat) (v : Int) : Int := pt_nf B n (n - a) a v
theorem pt_nv_go {B : Nat → Int} {n a : Nat} {v : Int} (h : a < n) (hp : pt_D (B a) = true) : pt_nv B n a v = pt_nv B n (a + 1) (min (v * 10 + B a - 48) 1000000) := by
  unfold pt_nv
  rw [show n - a = (n - (a + 1)) + 1 by omega, pt_nf, if_pos ⟨h, hp⟩]
theorem pt_nv_end {B : Nat → Int} {n a : Nat} {v : Int} (h : ¬ (a < n ∧ pt_D (B a) = true)) : pt_nv B n a v = v := by
  unfold pt_nv
  cases n - a with
  | zero => rfl
  | succ f => rw [pt_nf, if_neg h]
def pt_p : Nat → Int
  | 0 => 33554432
  | 1 => 1048576
  | 2 => 32768
  | 3 => 1024
  | 4 => 32
  | 5 => 1
  | _ => 0
/-- a word's letters, five bits each, i of them told already -/
def pt_ef (B : Nat → Int) (n : Nat) : Nat → Nat → Nat → Int → Int
  | 0, _, _, v => v
  | f + 1, a, i, v => if a < n ∧ pt_L (B a) = true then pt_ef B n f (a + 1) (i + 1) (if i < 6 then v + (B a - 96) * pt_p i else v) else v
def pt_ev (B : Nat → Int) (n a i : Nat) (v : Int) : Int := pt_ef B n (n - a) a i v
theorem pt_ev_go {B : Nat → Int} {n a i : Nat} {v : Int} (h : a < n) (hp : pt_L (B a) = true) : pt_ev B n a i v = pt_ev B n (a + 1) (i + 1) (if i < 6 then v + (B a - 96) * pt_p i else v) := by
  unfold pt_ev
  rw [show n - a = (n - (a + 1)) + 1 by omega, pt_ef, if_pos ⟨h, hp⟩]
theorem pt_ev_end {B : Nat → Int} {n a i : Nat} {v : Int} (h : ¬ (a < n ∧ pt_L (B a) = true)) : pt_ev B n a i v = v := by
  unfold pt_ev
  cases n - a with
  | zero => rfl
  | succ f => rw [pt_ef, if_neg h]
/-- the language's words, in the class's order -/
def pt_w : List Int := [437714944, 256952448, 553358912, 777400320, 408626355, 169410560, 458903730, 642945024, 404455424, 120053184, 357702816, 672923648, 408642560, 777046016, 475172864, 844726272, 41058304, 202964992, 89238708, 116701184, 549489824, 773115904, 48365568, 522190848, 486146048]
def pt_wf (v : Int) : Nat → Int
  | 0 => 25
  | f + 1 => if pt_w.getD (24 - f) 0 = v then 24 - (f : Int) else pt_wf v f
/-- the first word from the w-th on with these letters, else 25 -/
def pt_wk (v : Int) (w : Nat) : Int := pt_wf v (25 - w)
theorem pt_wk_go {v : Int} {w : Nat} (h : w < 25) (hp : ¬ pt_w.getD w 0 = v) : pt_wk v w = pt_wk v (w + 1) := by
  unfold pt_wk
  rw [show 25 - w = (25 - (w + 1)) + 1 by omega, pt_wf, if_neg (by rw [show 24 - (25 - (w + 1)) = w by omega]; exact hp)]
theorem pt_wk_at {v : Int} {w : Nat} (h : w < 25) (hp : pt_w.getD w 0 = v) : pt_wk v w = w := by
  unfold pt_wk
  rw [show 25 - w = (25 - (w + 1)) + 1 by omega, pt_wf, if_pos (by rw [show 24 - (25 - (w + 1)) = w by omega]; exact hp)]
  omega
theorem pt_wk_end {v : Int} : pt_wk v 25 = 25 := rfl
/-- a sign's kind; d is the sign behind it -/
def pt_sk (c d : Int) : Int := if c = 59 then 29 else if c = 40 then 30 else if c = 41 then 31 else if c = 43 then 38 else if c = 45 then 39 else if c = 42 then 40 else if c = 47 then 41 else if c = 61 then 34 else if c = 60 then (if d = 61 then 33 else if d = 62 then 35 else 32) else if c = 62 then (if d = 61 then 36 else 37) else 28
def pt_s2 (c d : Int) : Int := if c = 60 ∧ (d = 61 ∨ d = 62) then 1 else if c = 62 ∧ d = 61 then 1 else 0
/-- kind, value, place and end of the token at a -/
def pt_P (B : Nat → Int) (n a : Nat) : Nat := pt_to pt_W B n a
def pt_C (B : Nat → Int) (n a : Nat) : Int := pt_pk B n (pt_P B n a)
def pt_K (B : Nat → Int) (n a : Nat) : Int := if pt_C B n a = -1 then 27 else if pt_L (pt_C B n a) = true then (if pt_P B n a + 6 < pt_to pt_L B n (pt_P B n a) then 28 else pt_wk (pt_ev B n (pt_P B n a) 0 0) 0) else if pt_D (pt_C B n a) = true then 26 else pt_sk (pt_C B n a) (pt_pk B n (pt_P B n a + 1))
def pt_V (B : Nat → Int) (n a : Nat) : Int := if pt_C B n a = -1 then 0 else if pt_L (pt_C B n a) = true then pt_ev B n (pt_P B n a) 0 0 else if pt_D (pt_C B n a) = true then pt_nv B n (pt_P B n a) 0 else 0
def pt_A (B : Nat → Int) (n a : Nat) : Int := if pt_C B n a = -1 then pt_P B n a else if pt_L (pt_C B n a) = true then pt_to pt_L B n (pt_P B n a) else if pt_D (pt_C B n a) = true then pt_to pt_D B n (pt_P B n a) else pt_P B n a + 1 + pt_s2 (pt_C B n a) (pt_pk B n (pt_P B n a + 1))
/-- the class's tape -/
def pt_cB (M : ti_M) : Nat → Int := fun i => (tY M 2 0 i &&& 255).toInt
def pt_cn (M : ti_M) : Nat := (tI M 2 2).toInt.toNat
def pt_ca (M : ti_M) : Nat := (tI M 2 3).toInt.toNat
theorem pt_cpk {M : ti_M} (h0 : 0 ≤ (tI M 2 3).toInt) (h1 : 0 ≤ (tI M 2 2).toInt) : (s_pk M).toInt = pt_pk (pt_cB M) (pt_cn M) (pt_ca M) := by
  unfold s_pk pt_pk pt_cB pt_cn pt_ca
  by_cases h : (tI M 2 3).toInt < (tI M 2 2).toInt
  · rw [if_pos h, if_pos (by omega)]; rfl
  · rw [if_neg h, if_neg (by omega)]; rfl
theorem pt_pk_in {B : Nat → Int} {n a : Nat} {c : Int} (e : c = pt_pk B n a) (h : c ≠ -1) : a < n ∧ c = B a := by
  unfold pt_pk at e
  by_cases q : a < n
  · rw [if_pos q] at e; exact ⟨q, e⟩
  · rw [if_neg q] at e; exact absurd e h
theorem pt_pk_no {P : Int → Bool} {B : Nat → Int} {n a : Nat} {c : Int} (e : c = pt_pk B n a) (h : P c = false) : ¬ (a < n ∧ P (B a) = true) := by
  rintro ⟨q1, q2⟩
  unfold pt_pk at e
  rw [if_pos q1] at e
  rw [e, q2] at h
  cases h
theorem pt_Lt {c : Int} (h1 : 97 ≤ c) (h2 : c ≤ 122) : pt_L c = true := decide_eq_true ⟨h1, h2⟩
theorem pt_Lf {c : Int} (h : c < 97 ∨ 122 < c) : pt_L c = false := decide_eq_false (by omega)
theorem pt_Dt {c : Int} (h1 : 48 ≤ c) (h2 : c ≤ 57) : pt_D c = true := decide_eq_true ⟨h1, h2⟩
theorem pt_Df {c : Int} (h : c < 48 ∨ 57 < c) : pt_D c = false := decide_eq_false (by omega)
theorem pt_Wt {c : Int} (h : c = 32 ∨ c = 10) : pt_W c = true := decide_eq_true h
theorem pt_Wf {c : Int} (h1 : c ≠ 32) (h2 : c ≠ 10) : pt_W c = false := decide_eq_false (by omega)
theorem i_tn {x : Int32} (h : 0 ≤ x.toInt) : x.toInt = (x.toBitVec.toNat : Int) := by
  have e : x.toInt = x.toBitVec.toInt := rfl
  have q := nn_lt h
  rw [e, BitVec.toInt_eq_toNat_cond, if_pos (by omega)]
theorem i_ofn {z : Int32} {n : Nat} (e : z.toBitVec.toNat = n) (h : n < 2 ^ 31) : z.toInt = (n : Int) := by
  rw [i_tn (lt_nn (by rw [e]; exact h)), e]
theorem i_sh5 {x z : Int32} (e : z = x <<< ((5 : Int32) &&& 31)) (h0 : 0 ≤ x.toInt) (h1 : x.toInt < 33554432) : z.toInt = x.toInt * 32 := by
  have q := i_tn h0
  have hz : z.toBitVec.toNat = x.toBitVec.toNat * 32 := by
    rw [e, Int32.toBitVec_shiftLeft]
    show (x.toBitVec <<< (((5 : Int32) &&& 31).toBitVec.smod 32).toNat).toNat = _
    rw [show (((5 : Int32) &&& 31).toBitVec.smod 32).toNat = 5 by decide, BitVec.toNat_shiftLeft, Nat.shiftLeft_eq]
    exact Nat.mod_eq_of_lt (by omega)
  rw [i_ofn hz (by omega), q]
  omega
theorem i_orx {x y z : Int32} (k : Nat) (e : z = x ||| y) (hx : 0 ≤ x.toInt) (hy : 0 ≤ y.toInt) (q : Nat) (hq : x.toInt = ((q * 2 ^ k : Nat) : Int)) (hyk : y.toInt < ((2 ^ k : Nat) : Int)) : z.toInt = x.toInt + y.toInt := by
  have h : z.toBitVec.toNat = x.toBitVec.toNat ||| y.toBitVec.toNat := by rw [e]; simp
  have hx' := i_tn hx
  have hy' := i_tn hy
  have e1 : x.toBitVec.toNat = q <<< k := by rw [Nat.shiftLeft_eq]; exact Int.ofNat.inj (hx'.symm.trans hq)
  have e2 : y.toBitVec.toNat < 2 ^ k := Int.ofNat_lt.mp (by rw [← hy']; exact hyk)
  have h2 : z.toBitVec.toNat = x.toBitVec.toNat + y.toBitVec.toNat := by rw [h, e1, ← Nat.shiftLeft_add_eq_or_of_lt e2]
  rw [i_tn (i_or e hx hy), h2, hx', hy']
  omega
theorem sh_x : ∀ a : Nat, a < 27 → ∀ b : Nat, b < 6 → ((nI a) <<< ((nI (5 * (5 - b))) &&& 31)).toInt = (a : Int) * pt_p b := by decide +kernel
theorem i_shx {x y z : Int32} (e : z = x <<< (y &&& 31)) (h1 : 0 ≤ x.toInt) (h2 : x.toInt ≤ 26) {b : Int} (hy : y.toInt = 5 * (5 - b)) (h3 : 0 ≤ b) (h4 : b ≤ 5) : z.toInt = x.toInt * pt_p b.toNat := by
  have ex : x = nI x.toInt.toNat := Int32.toInt_inj.mp (by rw [nI_toInt (by omega)]; omega)
  have ey : y = nI (5 * (5 - b.toNat)) := Int32.toInt_inj.mp (by rw [nI_toInt (by omega), hy]; omega)
  have h := sh_x x.toInt.toNat (by omega) b.toNat (by omega)
  rw [← ex, ← ey, ← e] at h
  rw [h, Int.toNat_of_nonneg h1]
def pt_dv (i : Nat) (v : Int) : Prop := 0 ≤ v ∧ v < 1073741824 ∧ (i < 6 → v % (pt_p i * 32) = 0)
theorem pt_dv0 : pt_dv 0 0 := ⟨by decide, by decide, fun _ => by decide⟩
theorem pt_dv6 {i : Nat} {v : Int} (h : pt_dv i v) (hi : 6 ≤ i) : pt_dv (i + 1) v := ⟨h.1, h.2.1, fun q => by omega⟩
theorem pt_or {x y z : Int32} {i : Nat} {d : Int} (hi : i < 6) (hv : pt_dv i x.toInt) (hd : 0 ≤ d ∧ d ≤ 31) (hy : y.toInt = d * pt_p i) (e : z = x ||| y) : z.toInt = x.toInt + d * pt_p i ∧ pt_dv (i + 1) z.toInt := by
  obtain ⟨h0, h1, h2⟩ := hv
  have h2 := h2 hi
  obtain ⟨hd0, hd1⟩ := hd
  rcases (show i = 0 ∨ i = 1 ∨ i = 2 ∨ i = 3 ∨ i = 4 ∨ i = 5 by omega) with rfl | rfl | rfl | rfl | rfl | rfl
  · have p : pt_p 0 = 33554432 := rfl
    have p2 : pt_p 1 = 1048576 := rfl
    rw [p] at hy h2 ⊢
    have r := i_orx 30 e h0 (by omega) (x.toInt / 1073741824).toNat (by omega) (by omega)
    exact ⟨by omega, by omega, by omega, fun _ => by show _ % (pt_p 1 * 32) = 0; rw [p2]; omega⟩
  · have p : pt_p 1 = 1048576 := rfl
    have p2 : pt_p 2 = 32768 := rfl
    rw [p] at hy h2 ⊢
    have r := i_orx 25 e h0 (by omega) (x.toInt / 33554432).toNat (by omega) (by omega)
    exact ⟨by omega, by omega, by omega, fun _ => by show _ % (pt_p 2 * 32) = 0; rw [p2]; omega⟩
  · have p : pt_p 2 = 32768 := rfl
    have p2 : pt_p 3 = 1024 := rfl
    rw [p] at hy h2 ⊢
    have r := i_orx 20 e h0 (by omega) (x.toInt / 1048576).toNat (by omega) (by omega)
    exact ⟨by omega, by omega, by omega, fun _ => by show _ % (pt_p 3 * 32) = 0; rw [p2]; omega⟩
  · have p : pt_p 3 = 1024 := rfl
    have p2 : pt_p 4 = 32 := rfl
    rw [p] at hy h2 ⊢
    have r := i_orx 15 e h0 (by omega) (x.toInt / 32768).toNat (by omega) (by omega)
    exact ⟨by omega, by omega, by omega, fun _ => by show _ % (pt_p 4 * 32) = 0; rw [p2]; omega⟩
  · have p : pt_p 4 = 32 := rfl
    have p2 : pt_p 5 = 1 := rfl
    rw [p] at hy h2 ⊢
    have r := i_orx 10 e h0 (by omega) (x.toInt / 1024).toNat (by omega) (by omega)
    exact ⟨by omega, by omega, by omega, fun _ => by show _ % (pt_p 5 * 32) = 0; rw [p2]; omega⟩
  · have p : pt_p 5 = 1 := rfl
    rw [p] at hy h2 ⊢
    have r := i_orx 5 e h0 (by omega) (x.toInt / 32).toNat (by omega) (by omega)
    exact ⟨by omega, by omega, by omega, fun q => by omega⟩
/-- the letters of the class's w-th word, i of them -/
def pt_ch (j : Nat) : Int := if (tx_cb.getD j 0 &&& 255).toInt = 32 then 0 else (tx_cb.getD j 0 &&& 255).toInt - 96
def pt_pw (w : Nat) : Nat → Int
  | 0 => 0
  | i + 1 => pt_pw w i * 32 + pt_ch (w * 6 + i)
theorem pt_pw6 : ∀ w : Nat, w < 25 → pt_pw w 6 = pt_w.getD w 0 := by decide +kernel
theorem pt_pwb : ∀ w : Nat, w < 25 → ∀ i : Nat, i < 6 → 0 ≤ pt_pw w i ∧ pt_pw w i < 33554432 ∧ 0 ≤ pt_ch (w * 6 + i) ∧ pt_ch (w * 6 + i) ≤ 26 := by decide +kernel
theorem pt_pws {x y z z1 : Int32} {w i : Nat} (hw : w < 25) (hi : i < 6) (ex : x.toInt = pt_pw w i) (e1 : z1 = x <<< ((5 : Int32) &&& 31)) (ey : y.toInt = pt_ch (w * 6 + i)) (e : z = z1 ||| y) : z.toInt = pt_pw w (i + 1) := by
  obtain ⟨a1, a2, a3, a4⟩ := pt_pwb w hw i hi
  have h1 := i_sh5 e1 (by omega) (by omega)
  have h2 := i_orx 5 e (by omega) (by omega) x.toInt.toNat (by omega) (by omega)
  rw [pt_pw, h2, h1, ex, ey]
theorem pt_cB_I {M N : ti_M} {o k : Nat} {v : Int32} (e : N = uI M o k v) : pt_cB N = pt_cB M := by unfold pt_cB; rw [tY_uIE e]

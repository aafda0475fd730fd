variable {Tc : gC} {Tm : gM}
/-! expressions -/
def pp_lp (P : Int → Bool) (F : (Nat → Int) → Nat → Int) : Nat → (Nat → Int) → Nat → Int
  | 0, s => s
  | f + 1, s => if P (s 0) = true then pp_lp P F f (F s) else s
theorem lp_step {P : Int → Bool} {F : (Nat → Int) → Nat → Int} {f f' : Nat} {s s' : Nat → Int} (h : P (s 0) = true) (e : s' = F s) (hf : f = f' + 1) : pp_lp P F f s = pp_lp P F f' s' := by
  subst e hf
  rw [pp_lp, if_pos h]
theorem lp_end {P : Int → Bool} {F : (Nat → Int) → Nat → Int} {f : Nat} {s : Nat → Int} (h : f = 0 ∨ P (s 0) = false) : pp_lp P F f s = s := by
  cases f with
  | zero => rfl
  | succ f =>
    rcases h with h | h
    · cases h
    · rw [pp_lp, if_neg (by rw [h]; decide)]
def pp_qT (k : Int) : Bool := decide (k = 40 ∨ k = 41)
def pp_qP (k : Int) : Bool := decide (k = 38 ∨ k = 39)
def pp_qN (k : Int) : Bool := decide (k = 24)
def pp_qA (k : Int) : Bool := decide (k = 22)
def pp_qO (k : Int) : Bool := decide (k = 23)
def pp_p0 (B : Nat → Int) (n : Nat) (s : Nat → Int) : Nat → Int := if s 0 = 26 then (if 9999 < s 1 then pp_rf 2 s else pp_kn B n s) else if 16 ≤ s 0 ∧ s 0 ≤ 21 then pp_kn B n s else pp_rf 1 s
def pp_pd (B : Nat → Int) (n : Nat) (F : (Nat → Int) → Nat → Int) (s : Nat → Int) : Nat → Int := pp_lp pp_qT (fun s => F (pp_kn B n s)) 64 (F s)
def pp_sm (B : Nat → Int) (n : Nat) (F : (Nat → Int) → Nat → Int) (s : Nat → Int) : Nat → Int := pp_lp pp_qP (fun s => pp_pd B n F (pp_kn B n s)) 64 (pp_pd B n F s)
def pp_c2 (B : Nat → Int) (n : Nat) (F : (Nat → Int) → Nat → Int) (s : Nat → Int) : Nat → Int := if 32 ≤ s 0 ∧ s 0 ≤ 37 then pp_sm B n F (pp_kn B n s) else s
def pp_cm (B : Nat → Int) (n : Nat) (F : (Nat → Int) → Nat → Int) (s : Nat → Int) : Nat → Int := pp_c2 B n F (pp_sm B n F s)
def pp_ng (B : Nat → Int) (n : Nat) (F : (Nat → Int) → Nat → Int) (s : Nat → Int) : Nat → Int := pp_cm B n F (pp_lp pp_qN (pp_kn B n) 65 s)
def pp_bo (B : Nat → Int) (n : Nat) (F : (Nat → Int) → Nat → Int) (s : Nat → Int) : Nat → Int := pp_lp pp_qA (fun s => pp_ng B n F (pp_kn B n s)) 64 (pp_ng B n F s)
def pp_ei (B : Nat → Int) (n : Nat) (F : (Nat → Int) → Nat → Int) (s : Nat → Int) : Nat → Int := pp_lp pp_qO (fun s => pp_bo B n F (pp_kn B n s)) 64 (pp_bo B n F s)
/-- a part of an expression, with so many brackets still to be opened -/
def pp_pt (B : Nat → Int) (n : Nat) : Nat → (Nat → Int) → Nat → Int
  | 0, s => if s 0 = 30 then pp_rf 2 s else pp_p0 B n s
  | d + 1, s => if s 0 = 30 then pp_tk B n 31 (pp_ei B n (pp_pt B n d) (pp_av B n s)) else pp_p0 B n s
theorem pe_0 {B : Nat → Int} {n : Nat} {s : Nat → Int} : pp_pt B n 0 s = if s 0 = 30 then pp_rf 2 s else pp_p0 B n s := rfl
theorem pe_1 {B : Nat → Int} {n : Nat} {s : Nat → Int} : pp_pt B n 1 s = if s 0 = 30 then pp_tk B n 31 (pp_ei B n (pp_pt B n 0) (pp_av B n s)) else pp_p0 B n s := rfl
theorem pe_2 {B : Nat → Int} {n : Nat} {s : Nat → Int} : pp_pt B n 2 s = if s 0 = 30 then pp_tk B n 31 (pp_ei B n (pp_pt B n 1) (pp_av B n s)) else pp_p0 B n s := rfl
theorem pe_3 {B : Nat → Int} {n : Nat} {s : Nat → Int} : pp_pt B n 3 s = if s 0 = 30 then pp_tk B n 31 (pp_ei B n (pp_pt B n 2) (pp_av B n s)) else pp_p0 B n s := rfl
theorem pe_4 {B : Nat → Int} {n : Nat} {s : Nat → Int} : pp_pt B n 4 s = if s 0 = 30 then pp_tk B n 31 (pp_ei B n (pp_pt B n 3) (pp_av B n s)) else pp_p0 B n s := rfl
theorem pe_5 {B : Nat → Int} {n : Nat} {s : Nat → Int} : pp_pt B n 5 s = if s 0 = 30 then pp_tk B n 31 (pp_ei B n (pp_pt B n 4) (pp_av B n s)) else pp_p0 B n s := rfl
theorem pe_6 {B : Nat → Int} {n : Nat} {s : Nat → Int} : pp_pt B n 6 s = if s 0 = 30 then pp_tk B n 31 (pp_ei B n (pp_pt B n 5) (pp_av B n s)) else pp_p0 B n s := rfl
theorem pe_7 {B : Nat → Int} {n : Nat} {s : Nat → Int} : pp_pt B n 7 s = if s 0 = 30 then pp_tk B n 31 (pp_ei B n (pp_pt B n 6) (pp_av B n s)) else pp_p0 B n s := rfl
theorem pe_8 {B : Nat → Int} {n : Nat} {s : Nat → Int} : pp_pt B n 8 s = if s 0 = 30 then pp_tk B n 31 (pp_ei B n (pp_pt B n 7) (pp_av B n s)) else pp_p0 B n s := rfl

variable {Tc : gC} {Tm : gM}
/-! expressions -/
def pp_lp (P : Int → Bool) (F : (Nat → Int) → Nat → Int) : Nat → (Nat → Int) → Nat → Int
  | 0, s => s
  | f + 1, s => if P (s 0) = true then pp_lp P F f (F s) else s
theorem lp_step {P : Int → Bool} {F : (Nat → Int) → Nat → Int} {f f' : Nat} {s s' : Nat → Int} (h : P (s 0) = true) (e : s' = F s) (hf : f = f' + 1) : pp_lp P F f s = pp_lp P F f' s' := by
  subst e hf
  rw [pp_lp, if_pos h]
theorem lp_end {P : Int → Bool} {F : (Nat → Int) → Nat → Int} {f : Nat} {s : Nat → Int} (h : f = 0 ∨ P (s 0) = false) : pp_lp P F f s = s := by
  cases f with
  | zero => rfl
  | succ f =>
    rcases h with h | h
    · cases h
    · rw [pp_lp, if_neg (by rw [h]; decide)]
def pp_qT (k : Int) : Bool := decide (k = 40 ∨ k = 41)
def pp_qP (k : Int) : Bool := decide (k = 38 ∨ k = 39)
def pp_qN (k : Int) : Bool := decide (k = 24)
def pp_qA (k : Int) : Bool := decide (k = 22)
def pp_qO (k : Int) : Bool := decide (k = 23)
def pp_p0 (B : Nat → Int) (n : Nat) (s : Nat → Int) : Nat → Int := if s 0 = 26 then (if 9999 < s 1 then pp_rf 2 s else pp_kn B n s) else if 16 ≤ s 0 ∧ s 0 ≤ 21 then pp_kn B n s else pp_rf 1 s
def pp_pd (B : Nat → Int) (n : Nat) (F : (Nat → Int) → Nat → Int) (s : Nat → Int) : Nat → Int := pp_lp pp_qT (fun s => F (pp_kn B n s)) 64 (F s)
def pp_sm (B : Nat → Int) (n : Nat) (F : (Nat → Int) → Nat → Int) (s : Nat → Int) : Nat → Int := pp_lp pp_qP (fun s => pp_pd B n F (pp_kn B n s)) 64 (pp_pd B n F s)
def pp_c2 (B : Nat → Int) (n : Nat) (F : (Nat → Int) → Nat → Int) (s : Nat → Int) : Nat → Int := if 32 ≤ s 0 ∧ s 0 ≤ 37 then pp_sm B n F (pp_kn B n s) else s
def pp_cm (B : Nat → Int) (n : Nat) (F : (Nat → Int) → Nat → Int) (s : Nat → Int) : Nat → Int := pp_c2 B n F (pp_sm B n F s)
def pp_ng (B : Nat → Int) (n : Nat) (F : (Nat → Int) → Nat → Int) (s : Nat → Int) : Nat → Int := pp_cm B n F (pp_lp pp_qN (pp_kn B n) 65 s)
def pp_bo (B : Nat → Int) (n : Nat) (F : (Nat → Int) → Nat → Int) (s : Nat → Int) : Nat → Int := pp_lp pp_qA (fun s => pp_ng B n F (pp_kn B n s)) 64 (pp_ng B n F s)
def pp_ei (B : Nat → Int) (n : Nat) (F : (Nat → Int) → Nat → Int) (s : Nat → Int) : Nat → Int := pp_lp pp_qO (fun s => pp_bo B n F (pp_kn B n s)) 64 (pp_bo B n F s)
/-- a part of an expression, with so many brackets still to be opened -/
def pp_pt (B : Nat → Int) (n : Nat) : Nat → (Nat → Int) → Nat → Int
  | 0, s => if s 0 = 30 then pp_rf 2 s else pp_p0 B n s
  | d + 1, s => if s 0 = 30 then pp_tk B n 31 (pp_ei B n (pp_pt B n d) (pp_av B n s)) else pp_p0 B n s
theorem pe_0 {B : Nat → Int} {n : Nat} {s : Nat → Int} : pp_pt B n 0 s = if s 0 = 30 then pp_rf 2 s else pp_p0 B n s := rfl
theorem pe_1 {B : Nat → Int} {n : Nat} {s : Nat → Int} : pp_pt B n 1 s = if s 0 = 30 then pp_tk B n 31 (pp_ei B n (pp_pt B n 0) (pp_av B n s)) else pp_p0 B n s := rfl
theorem pe_2 {B : Nat → Int} {n : Nat} {s : Nat → Int} : pp_pt B n 2 s = if s 0 = 30 then pp_tk B n 31 (pp_ei B n (pp_pt B n 1) (pp_av B n s)) else pp_p0 B n s := rfl
theorem pe_3 {B : Nat → Int} {n : Nat} {s : Nat → Int} : pp_pt B n 3 s = if s 0 = 30 then pp_tk B n 31 (pp_ei B n (pp_pt B n 2) (pp_av B n s)) else pp_p0 B n s := rfl
theorem pe_4 {B : Nat → Int} {n : Nat} {s : Nat → Int} : pp_pt B n 4 s = if s 0 = 30 then pp_tk B n 31 (pp_ei B n (pp_pt B n 3) (pp_av B n s)) else pp_p0 B n s := rfl
theorem pe_5 {B : Nat → Int} {n : Nat} {s : Nat → Int} : pp_pt B n 5 s = if s 0 = 30 then pp_tk B n 31 (pp_ei B n (pp_pt B n 4) (pp_av B n s)) else pp_p0 B n s := rfl
theorem pe_6 {B : Nat → Int} {n : Nat} {s : Nat → Int} : pp_pt B n 6 s = if s 0 = 30 then pp_tk B n 31 (pp_ei B n (pp_pt B n 5) (pp_av B n s)) else pp_p0 B n s := rfl
theorem pe_7 {B : Nat → Int} {n : Nat} {s : Nat → Int} : pp_pt B n 7 s = if s 0 = 30 then pp_tk B n 31 (pp_ei B n (pp_pt B n 6) (pp_av B n s)) else pp_p0 B n s := rfl
theorem pe_8 {B : Nat → Int} {n : Nat} {s : Nat → Int} : pp_pt B n 8 s = if s 0 = 30 then pp_tk B n 31 (pp_ei B n (pp_pt B n 7) (pp_av B n s)) else pp_p0 B n s := rfl
/-! what an expression tells of the law j: a knot more -/
def qa (j : Nat) (v : Int) (td : Nat → Int) : Nat → Int := if td (300 + j) < 64 then pp_su (pp_su td (400 + 64 * j + (td (300 + j)).toNat) v) (300 + j) (td (300 + j) + 1) else td
def qq_p0 (j : Nat) (s td : Nat → Int) : Nat → Int := if s 0 = 26 then (if 9999 < s 1 then td else qa j (s 1) td) else if 16 ≤ s 0 ∧ s 0 ≤ 21 then qa j (-(s 0)) td else td
def qq_lp (P : Int → Bool) (F : (Nat → Int) → Nat → Int) (G : (Nat → Int) → (Nat → Int) → Nat → Int) : Nat → (Nat → Int) → (Nat → Int) → Nat → Int
  | 0, _, td => td
  | f + 1, s, td => if P (s 0) = true then qq_lp P F G f (F s) (G s td) else td
theorem qlp_step {P : Int → Bool} {F : (Nat → Int) → Nat → Int} {G : (Nat → Int) → (Nat → Int) → Nat → Int} {f f' : Nat} {s s' td td' : Nat → Int} (h : P (s 0) = true) (e : s' = F s) (e2 : td' = G s td) (hf : f = f' + 1) : qq_lp P F G f s td = qq_lp P F G f' s' td' := by
  subst e e2 hf
  rw [qq_lp, if_pos h]
theorem qlp_end {P : Int → Bool} {F : (Nat → Int) → Nat → Int} {G : (Nat → Int) → (Nat → Int) → Nat → Int} {f : Nat} {s td : Nat → Int} (h : f = 0 ∨ P (s 0) = false) : qq_lp P F G f s td = td := by
  cases f with
  | zero => rfl
  | succ f =>
    rcases h with h | h
    · cases h
    · rw [qq_lp, if_neg (by rw [h]; decide)]
section
variable (B : Nat → Int) (n j : Nat) (F : (Nat → Int) → Nat → Int) (G : (Nat → Int) → (Nat → Int) → Nat → Int)
def qq_pd (s td : Nat → Int) : Nat → Int := qq_lp pp_qT (fun s => F (pp_kn B n s)) (fun s td => qa j (-(s 0)) (G (pp_kn B n s) td)) 64 (F s) (G s td)
def qq_sm (s td : Nat → Int) : Nat → Int := qq_lp pp_qP (fun s => pp_pd B n F (pp_kn B n s)) (fun s td => qa j (-(s 0)) (qq_pd B n j F G (pp_kn B n s) td)) 64 (pp_pd B n F s) (qq_pd B n j F G s td)
def qq_c2 (s td : Nat → Int) : Nat → Int := if 32 ≤ s 0 ∧ s 0 ≤ 37 then qa j (-(s 0)) (qq_sm B n j F G (pp_kn B n s) td) else td
def qq_cm (s td : Nat → Int) : Nat → Int := qq_c2 B n j F G (pp_sm B n F s) (qq_sm B n j F G s td)
/-- so many times not -/
def qq_na : Nat → (Nat → Int) → Nat → Int
  | 0, td => td
  | f + 1, td => qa j (-24) (qq_na f td)
def qq_ca : Nat → (Nat → Int) → Nat → Nat
  | 0, _, k => k
  | f + 1, s, k => if pp_qN (s 0) = true then qq_ca f (pp_kn B n s) (k + 1) else k
def qq_ng (s td : Nat → Int) : Nat → Int := qq_na j (qq_ca B n 65 s 0) (qq_cm B n j F G (pp_lp pp_qN (pp_kn B n) 65 s) td)
def qq_bo (s td : Nat → Int) : Nat → Int := qq_lp pp_qA (fun s => pp_ng B n F (pp_kn B n s)) (fun s td => qa j (-22) (qq_ng B n j F G (pp_kn B n s) td)) 64 (pp_ng B n F s) (qq_ng B n j F G s td)
def qq_ei (s td : Nat → Int) : Nat → Int := qq_lp pp_qO (fun s => pp_bo B n F (pp_kn B n s)) (fun s td => qa j (-23) (qq_bo B n j F G (pp_kn B n s) td)) 64 (pp_bo B n F s) (qq_bo B n j F G s td)
end
theorem ca_step {B : Nat → Int} {n f f' k k' : Nat} {s s' : Nat → Int} (h : pp_qN (s 0) = true) (e : s' = pp_kn B n s) (hf : f = f' + 1) (hk : k' = k + 1) : qq_ca B n f s k = qq_ca B n f' s' k' := by
  subst e hf hk
  rw [qq_ca, if_pos h]
theorem ca_end {B : Nat → Int} {n f k : Nat} {s : Nat → Int} (h : f = 0 ∨ pp_qN (s 0) = false) : qq_ca B n f s k = k := by
  cases f with
  | zero => rfl
  | succ f =>
    rcases h with h | h
    · cases h
    · rw [qq_ca, if_neg (by rw [h]; decide)]
def qq_pt (B : Nat → Int) (n j : Nat) : Nat → (Nat → Int) → (Nat → Int) → Nat → Int
  | 0, s, td => if s 0 = 30 then td else qq_p0 j s td
  | d + 1, s, td => if s 0 = 30 then qq_ei B n j (pp_pt B n d) (qq_pt B n j d) (pp_av B n s) td else qq_p0 j s td
theorem qe_0 {B : Nat → Int} {n j : Nat} {s td : Nat → Int} : qq_pt B n j 0 s td = if s 0 = 30 then td else qq_p0 j s td := rfl
theorem qe_1 {B : Nat → Int} {n j : Nat} {s td : Nat → Int} : qq_pt B n j 1 s td = if s 0 = 30 then qq_ei B n j (pp_pt B n 0) (qq_pt B n j 0) (pp_av B n s) td else qq_p0 j s td := rfl
theorem qe_2 {B : Nat → Int} {n j : Nat} {s td : Nat → Int} : qq_pt B n j 2 s td = if s 0 = 30 then qq_ei B n j (pp_pt B n 1) (qq_pt B n j 1) (pp_av B n s) td else qq_p0 j s td := rfl
theorem qe_3 {B : Nat → Int} {n j : Nat} {s td : Nat → Int} : qq_pt B n j 3 s td = if s 0 = 30 then qq_ei B n j (pp_pt B n 2) (qq_pt B n j 2) (pp_av B n s) td else qq_p0 j s td := rfl
theorem qe_4 {B : Nat → Int} {n j : Nat} {s td : Nat → Int} : qq_pt B n j 4 s td = if s 0 = 30 then qq_ei B n j (pp_pt B n 3) (qq_pt B n j 3) (pp_av B n s) td else qq_p0 j s td := rfl
theorem qe_5 {B : Nat → Int} {n j : Nat} {s td : Nat → Int} : qq_pt B n j 5 s td = if s 0 = 30 then qq_ei B n j (pp_pt B n 4) (qq_pt B n j 4) (pp_av B n s) td else qq_p0 j s td := rfl
theorem qe_6 {B : Nat → Int} {n j : Nat} {s td : Nat → Int} : qq_pt B n j 6 s td = if s 0 = 30 then qq_ei B n j (pp_pt B n 5) (qq_pt B n j 5) (pp_av B n s) td else qq_p0 j s td := rfl
theorem qe_7 {B : Nat → Int} {n j : Nat} {s td : Nat → Int} : qq_pt B n j 7 s td = if s 0 = 30 then qq_ei B n j (pp_pt B n 6) (qq_pt B n j 6) (pp_av B n s) td else qq_p0 j s td := rfl
theorem qe_8 {B : Nat → Int} {n j : Nat} {s td : Nat → Int} : qq_pt B n j 8 s td = if s 0 = 30 then qq_ei B n j (pp_pt B n 7) (qq_pt B n j 7) (pp_av B n s) td else qq_p0 j s td := rfl

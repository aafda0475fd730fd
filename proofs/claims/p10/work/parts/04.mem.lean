/-! memory: ints by object and slot, rows of ints, rows of longs, references that change -/
abbrev ti_M : Type := (Nat → Nat → Int32) × (Nat → Nat → Nat → Int32) × (Nat → Nat → Nat → Int64) × (Nat → Nat → Option Nat)
def tI (M : ti_M) (o k : Nat) : Int32 := M.1 o k
def tY (M : ti_M) (o k : Nat) : Nat → Int32 := M.2.1 o k
def tZ (M : ti_M) (o k : Nat) : Nat → Int64 := M.2.2.1 o k
def tT (M : ti_M) (o k : Nat) : Option Nat := M.2.2.2 o k
def up2 {α : Type} (f : Nat → Nat → α) (o k : Nat) (v : α) : Nat → Nat → α := fun o2 k2 => if k2 = k ∧ o2 = o then v else f o2 k2
def uI (M : ti_M) (o k : Nat) (v : Int32) : ti_M := (up2 M.1 o k v, M.2.1, M.2.2.1, M.2.2.2)
def uY (M : ti_M) (o k : Nat) (v : Nat → Int32) : ti_M := (M.1, up2 M.2.1 o k v, M.2.2.1, M.2.2.2)
def uZ (M : ti_M) (o k : Nat) (v : Nat → Int64) : ti_M := (M.1, M.2.1, up2 M.2.2.1 o k v, M.2.2.2)
def uT (M : ti_M) (o k : Nat) (v : Option Nat) : ti_M := (M.1, M.2.1, M.2.2.1, up2 M.2.2.2 o k v)
theorem tI_u (M : ti_M) (o k : Nat) (v : Int32) : tI (uI M o k v) o k = v := by simp [tI, uI, up2]
theorem tI_k (M : ti_M) (o k : Nat) (v : Int32) {o2 k2 : Nat} (h : k2 ≠ k) : tI (uI M o k v) o2 k2 = tI M o2 k2 := by simp [tI, uI, up2, h]
theorem tI_o (M : ti_M) (o k : Nat) (v : Int32) {o2 k2 : Nat} (h : o2 ≠ o) : tI (uI M o k v) o2 k2 = tI M o2 k2 := by simp [tI, uI, up2, h]
theorem tI_n (M : ti_M) (o k : Nat) (v : Int32) {o2 k2 : Nat} (h : ¬ (k2 = k ∧ o2 = o)) : tI (uI M o k v) o2 k2 = tI M o2 k2 := by simp only [tI, uI, up2, if_neg h]
theorem tI_uY (M : ti_M) (o k : Nat) (v : Nat → Int32) (o2 k2 : Nat) : tI (uY M o k v) o2 k2 = tI M o2 k2 := rfl
theorem tI_uZ (M : ti_M) (o k : Nat) (v : Nat → Int64) (o2 k2 : Nat) : tI (uZ M o k v) o2 k2 = tI M o2 k2 := rfl
theorem tI_uT (M : ti_M) (o k : Nat) (v : Option Nat) (o2 k2 : Nat) : tI (uT M o k v) o2 k2 = tI M o2 k2 := rfl
theorem tY_uI (M : ti_M) (o k : Nat) (v : Int32) (o2 k2 : Nat) : tY (uI M o k v) o2 k2 = tY M o2 k2 := rfl
theorem tY_u (M : ti_M) (o k : Nat) (v : Nat → Int32) : tY (uY M o k v) o k = v := by simp [tY, uY, up2]
theorem tY_k (M : ti_M) (o k : Nat) (v : Nat → Int32) {o2 k2 : Nat} (h : k2 ≠ k) : tY (uY M o k v) o2 k2 = tY M o2 k2 := by simp [tY, uY, up2, h]
theorem tY_o (M : ti_M) (o k : Nat) (v : Nat → Int32) {o2 k2 : Nat} (h : o2 ≠ o) : tY (uY M o k v) o2 k2 = tY M o2 k2 := by simp [tY, uY, up2, h]
theorem tY_n (M : ti_M) (o k : Nat) (v : Nat → Int32) {o2 k2 : Nat} (h : ¬ (k2 = k ∧ o2 = o)) : tY (uY M o k v) o2 k2 = tY M o2 k2 := by simp only [tY, uY, up2, if_neg h]
theorem tY_uZ (M : ti_M) (o k : Nat) (v : Nat → Int64) (o2 k2 : Nat) : tY (uZ M o k v) o2 k2 = tY M o2 k2 := rfl
theorem tY_uT (M : ti_M) (o k : Nat) (v : Option Nat) (o2 k2 : Nat) : tY (uT M o k v) o2 k2 = tY M o2 k2 := rfl
theorem tZ_uI (M : ti_M) (o k : Nat) (v : Int32) (o2 k2 : Nat) : tZ (uI M o k v) o2 k2 = tZ M o2 k2 := rfl
theorem tZ_uY (M : ti_M) (o k : Nat) (v : Nat → Int32) (o2 k2 : Nat) : tZ (uY M o k v) o2 k2 = tZ M o2 k2 := rfl
theorem tZ_u (M : ti_M) (o k : Nat) (v : Nat → Int64) : tZ (uZ M o k v) o k = v := by simp [tZ, uZ, up2]
theorem tZ_k (M : ti_M) (o k : Nat) (v : Nat → Int64) {o2 k2 : Nat} (h : k2 ≠ k) : tZ (uZ M o k v) o2 k2 = tZ M o2 k2 := by simp [tZ, uZ, up2, h]
theorem tZ_o (M : ti_M) (o k : Nat) (v : Nat → Int64) {o2 k2 : Nat} (h : o2 ≠ o) : tZ (uZ M o k v) o2 k2 = tZ M o2 k2 := by simp [tZ, uZ, up2, h]
theorem tZ_n (M : ti_M) (o k : Nat) (v : Nat → Int64) {o2 k2 : Nat} (h : ¬ (k2 = k ∧ o2 = o)) : tZ (uZ M o k v) o2 k2 = tZ M o2 k2 := by simp only [tZ, uZ, up2, if_neg h]
theorem tZ_uT (M : ti_M) (o k : Nat) (v : Option Nat) (o2 k2 : Nat) : tZ (uT M o k v) o2 k2 = tZ M o2 k2 := rfl
theorem tT_uI (M : ti_M) (o k : Nat) (v : Int32) (o2 k2 : Nat) : tT (uI M o k v) o2 k2 = tT M o2 k2 := rfl
theorem tT_uY (M : ti_M) (o k : Nat) (v : Nat → Int32) (o2 k2 : Nat) : tT (uY M o k v) o2 k2 = tT M o2 k2 := rfl
theorem tT_uZ (M : ti_M) (o k : Nat) (v : Nat → Int64) (o2 k2 : Nat) : tT (uZ M o k v) o2 k2 = tT M o2 k2 := rfl
theorem tT_u (M : ti_M) (o k : Nat) (v : Option Nat) : tT (uT M o k v) o k = v := by simp [tT, uT, up2]
theorem tT_k (M : ti_M) (o k : Nat) (v : Option Nat) {o2 k2 : Nat} (h : k2 ≠ k) : tT (uT M o k v) o2 k2 = tT M o2 k2 := by simp [tT, uT, up2, h]
theorem tT_o (M : ti_M) (o k : Nat) (v : Option Nat) {o2 k2 : Nat} (h : o2 ≠ o) : tT (uT M o k v) o2 k2 = tT M o2 k2 := by simp [tT, uT, up2, h]
theorem tT_n (M : ti_M) (o k : Nat) (v : Option Nat) {o2 k2 : Nat} (h : ¬ (k2 = k ∧ o2 = o)) : tT (uT M o k v) o2 k2 = tT M o2 k2 := by simp only [tT, uT, up2, if_neg h]
/-! layout -/
def ti_cls (o : Nat) : Nat := if o = 0 then 9 else if o = 1 then 4 else if o = 2 then 7 else if o ≤ 4 then 8 else if o ≤ 20 then 2 else if o ≤ 26 then 1 else if o = 28 then 5 else if o = 50 then 6 else if o = 53 then 0 else if o = 60 then 10 else 3
def ti_fs (A : Nat → Nat → Nat) (ci o : Nat) (I : Nat → Int32) (T : Nat → Option Nat) : List Value := match ci with
  | 0 => [.ref (A 54 0), .ref (A 55 0), .ref (A o 3), .ref (A o 4), .ref (A o 5), .int (I 5)]
  | 1 => [.ref (A o 1), .ref (A o 2), .ref (A o 3), .int (I 3)]
  | 2 => [.int (I 0), .int (I 1), .int (I 2), .int (I 3), .int (I 4), .int (I 5), .int (I 6), .int (I 7), .int (I 8), .int (I 9)]
  | 3 => [va_rf ((T 0).map (fun t => A t 0)), .int (I 1), .int (I 2), .int (I 3), .int (I 4), .int (I 5), .ref (A o 7), .ref (A o 8), .ref (A o 9), .ref (A o 10), .ref (A o 11), .ref (A o 12), .ref (A o 13), .ref (A o 14), .ref (A o 15), .ref (A o 16), .ref (A o 17)]
  | 4 => [.ref (A 2 0), va_rf ((T 1).map (fun t => A t 0)), va_rf ((T 2).map (fun t => A t 0)), .int (I 3), .int (I 4), .int (I 5)]
  | 5 => [.ref (A o 1), .int (I 1), .int (I 2)]
  | 6 => [.ref (A o 1), .ref (A o 2), .ref (A o 3), .ref (A o 4), .int (I 4), .int (I 5), .int (I 6), .int (I 7), .ref (A o 9), .ref (A o 10), .int (I 10), .ref (A 51 0), .ref (A 52 0)]
  | 7 => [.ref (A o 1), .int (I 1), .int (I 2), .int (I 3), .int (I 4), .int (I 5), .int (I 6)]
  | 8 => [.ref (A o 1), .ref (A o 2), .ref (A o 3), .int (I 3), .int (I 4), .int (I 5), .int (I 6), .int (I 7), .int (I 8), .int (I 9), .int (I 10), .int (I 11)]
  | 9 => [.ref (A 1 0), va_rf ((T 1).map (fun t => A t 0)), va_rf ((T 2).map (fun t => A t 0)), .ref (A 27 0), .ref (A o 5), .ref (A 28 0), .ref (A 49 0), .int (I 7), .ref (A 50 0), .ref (A 53 0)]
  | _ => [.int (I 0), .ref (A o 2), .int (I 2), .ref (A o 4), .ref (A o 5), .ref (A o 6), .ref (A o 7), .ref (A o 8), .ref (A o 9), .ref (A o 10), .ref (A o 11), .ref (A o 12), .ref (A o 13), .ref (A o 14), .ref (A o 15), .ref (A o 16), .ref (A o 17), .ref (A o 18), .int (I 18), .int (I 19), .int (I 20), .int (I 21), .int (I 22), .int (I 23), .int (I 24), .int (I 25), .int (I 26), .int (I 27), .int (I 28), .int (I 29), .int (I 30), .ref (A o 32), .ref (A o 33), .int (I 33), .ref (A o 35), .ref (A o 36), .ref (A o 37), .ref (A o 38), .ref (A o 39), .ref (A o 40), .ref (A o 41), .ref (A o 42), .ref (A o 43), .ref (A o 44), .ref (A o 45), .ref (A o 46), .ref (A o 47), .ref (A o 48), .ref (A o 49), .ref (A o 50), .ref (A o 51), .int (I 51), .int (I 52), .int (I 53), .ref (A o 55), .ref (A o 56), .int (I 56), .ref (A o 58), .int (I 58), .int (I 59), .ref (A o 61), .ref (A o 62), .ref (A o 63), .ref (A o 64), .ref (A o 65), .int (I 65), .int (I 66)]
def ti_men (t i : Nat) : Nat := if t = 3 then 5 + i else 13 + i
def ti_laws (t i : Nat) : Nat := if t = 3 then 21 + i else 24 + i
def ti_rw (A : Nat → Nat → Nat) (n : Nat) (g : Nat → Nat) : Nat → Option Nat := match n with | 0 => fun _ => none | k + 1 => va_up (ti_rw A k g) k (some (A (g k) 0))
theorem ti_rw_at (A : Nat → Nat → Nat) (g : Nat → Nat) : ∀ (n i : Nat), i < n → ti_rw A n g i = some (A (g i) 0) := by
  intro n; induction n with
  | zero => intro i h; omega
  | succ n ih => intro i h; by_cases e : i = n
                 · subst e; simp [ti_rw, va_up]
                 · simp only [ti_rw, va_up, if_neg e]; exact ih i (by omega)
def ti_ar (A : Nat → Nat → Nat) (cy : Nat → ClassId) (ci o k : Nat) (f : Nat → Int32) (g : Nat → Int64) : ClassId × vp_A := match ci with
  | 0 => (cy 1, 16, .inl f)
  | 1 => if k = 1 then (cy 2, 64, .inr (.inl g)) else if k = 2 then (cy 2, 6, .inr (.inl g)) else (cy 1, 64, .inl f)
  | 2 => (cy 1, 0, .inl f)
  | 3 => if k = 7 then (cy 1, 3, .inl f) else (cy 1, 8, .inl f)
  | 4 => (cy 1, 0, .inl f)
  | 5 => (cy 6, 20, .inr (.inr (.inr (.inr (ti_rw A 20 (fun i => 29 + i))))))
  | 6 => if k = 8 ∨ k = 9 then (cy 1, 480, .inl f) else (cy 1, 24, .inl f)
  | 7 => (cy 0, 700, .inl f)
  | 8 => if k = 1 then (cy 1, 3, .inl f) else if k = 2 then (cy 4, 3, .inr (.inr (.inr (.inr (ti_rw A 3 (ti_laws o)))))) else (cy 5, 8, .inr (.inr (.inr (.inr (ti_rw A 8 (ti_men o))))))
  | 9 => (cy 1, 360, .inl f)
  | _ => if k = 39 ∨ k = 40 ∨ k = 41 ∨ k = 42 ∨ k = 43 ∨ k = 44 ∨ k = 45 ∨ k = 46 ∨ k = 47 ∨ k = 48 then (cy 1, 184, .inl f) else if k = 34 ∨ k = 35 ∨ k = 36 ∨ k = 37 ∨ k = 38 then (cy 1, 23, .inl f) else if k = 60 ∨ k = 61 ∨ k = 62 ∨ k = 63 then (cy 1, 24, .inl f) else if k = 14 ∨ k = 15 then (cy 1, 6, .inl f) else if k = 16 ∨ k = 17 then (cy 1, 128, .inl f) else if k = 1 then (cy 1, 700, .inl f) else if k = 3 then (cy 1, 22, .inl f) else if k = 31 then (cy 2, 6, .inr (.inl g)) else if k = 32 then (cy 2, 64, .inr (.inl g)) else if k = 49 then (cy 1, 69, .inl f) else if k = 50 then (cy 1, 720, .inl f) else if k = 57 then (cy 1, 8, .inl f) else if k = 64 then (cy 3, 24, .inl f) else (cy 1, 16, .inl f)
def ti_G (A : Nat → Nat → Nat) (cy : Nat → ClassId) (M : ti_M) (o j : Nat) : va_E := match j with | 0 => .inr (ti_cls o, ti_fs A (ti_cls o) o (tI M o) (tT M o)) | k + 1 => .inl (ti_ar A cy (ti_cls o) o k (tY M o k) (tZ M o k))
def ti_W (Ls : List (Nat × Nat)) (A : Nat → Nat → Nat) (cy : Nat → ClassId) (M : ti_M) : va_W := Ls.map (fun r => (A r.1 r.2, ti_G A cy M r.1 r.2))
def ti_LT : List (Nat × Nat) := [(0, 0), (1, 0), (2, 0), (2, 1), (3, 0), (3, 1), (3, 2), (3, 3), (5, 0), (6, 0), (7, 0), (8, 0), (9, 0), (10, 0), (11, 0), (12, 0), (21, 0), (21, 1), (21, 2), (21, 3), (22, 0), (22, 1), (22, 2), (22, 3), (23, 0), (23, 1), (23, 2), (23, 3), (4, 0), (4, 1), (4, 2), (4, 3), (13, 0), (14, 0), (15, 0), (16, 0), (17, 0), (18, 0), (19, 0), (20, 0), (24, 0), (24, 1), (24, 2), (24, 3), (25, 0), (25, 1), (25, 2), (25, 3), (26, 0), (26, 1), (26, 2), (26, 3), (27, 0), (27, 7), (27, 8), (27, 9), (27, 10), (27, 11), (27, 12), (27, 13), (27, 14), (27, 15), (27, 16), (27, 17), (0, 5), (28, 0), (28, 1), (29, 0), (29, 7), (29, 8), (29, 9), (29, 10), (29, 11), (29, 12), (29, 13), (29, 14), (29, 15), (29, 16), (29, 17), (30, 0), (30, 7), (30, 8), (30, 9), (30, 10), (30, 11), (30, 12), (30, 13), (30, 14), (30, 15), (30, 16), (30, 17), (31, 0), (31, 7), (31, 8), (31, 9), (31, 10), (31, 11), (31, 12), (31, 13), (31, 14), (31, 15), (31, 16), (31, 17), (32, 0), (32, 7), (32, 8), (32, 9), (32, 10), (32, 11), (32, 12), (32, 13), (32, 14), (32, 15), (32, 16), (32, 17), (33, 0), (33, 7), (33, 8), (33, 9), (33, 10), (33, 11), (33, 12), (33, 13), (33, 14), (33, 15), (33, 16), (33, 17), (34, 0), (34, 7), (34, 8), (34, 9), (34, 10), (34, 11), (34, 12), (34, 13), (34, 14), (34, 15), (34, 16), (34, 17), (35, 0), (35, 7), (35, 8), (35, 9), (35, 10), (35, 11), (35, 12), (35, 13), (35, 14), (35, 15), (35, 16), (35, 17), (36, 0), (36, 7), (36, 8), (36, 9), (36, 10), (36, 11), (36, 12), (36, 13), (36, 14), (36, 15), (36, 16), (36, 17), (37, 0), (37, 7), (37, 8), (37, 9), (37, 10), (37, 11), (37, 12), (37, 13), (37, 14), (37, 15), (37, 16), (37, 17), (38, 0), (38, 7), (38, 8), (38, 9), (38, 10), (38, 11), (38, 12), (38, 13), (38, 14), (38, 15), (38, 16), (38, 17), (39, 0), (39, 7), (39, 8), (39, 9), (39, 10), (39, 11), (39, 12), (39, 13), (39, 14), (39, 15), (39, 16), (39, 17), (40, 0), (40, 7), (40, 8), (40, 9), (40, 10), (40, 11), (40, 12), (40, 13), (40, 14), (40, 15), (40, 16), (40, 17), (41, 0), (41, 7), (41, 8), (41, 9), (41, 10), (41, 11), (41, 12), (41, 13), (41, 14), (41, 15), (41, 16), (41, 17), (42, 0), (42, 7), (42, 8), (42, 9), (42, 10), (42, 11), (42, 12), (42, 13), (42, 14), (42, 15), (42, 16), (42, 17), (43, 0), (43, 7), (43, 8), (43, 9), (43, 10), (43, 11), (43, 12), (43, 13), (43, 14), (43, 15), (43, 16), (43, 17), (44, 0), (44, 7), (44, 8), (44, 9), (44, 10), (44, 11), (44, 12), (44, 13), (44, 14), (44, 15), (44, 16), (44, 17), (45, 0), (45, 7), (45, 8), (45, 9), (45, 10), (45, 11), (45, 12), (45, 13), (45, 14), (45, 15), (45, 16), (45, 17), (46, 0), (46, 7), (46, 8), (46, 9), (46, 10), (46, 11), (46, 12), (46, 13), (46, 14), (46, 15), (46, 16), (46, 17), (47, 0), (47, 7), (47, 8), (47, 9), (47, 10), (47, 11), (47, 12), (47, 13), (47, 14), (47, 15), (47, 16), (47, 17), (48, 0), (48, 7), (48, 8), (48, 9), (48, 10), (48, 11), (48, 12), (48, 13), (48, 14), (48, 15), (48, 16), (48, 17), (49, 0), (49, 7), (49, 8), (49, 9), (49, 10), (49, 11), (49, 12), (49, 13), (49, 14), (49, 15), (49, 16), (49, 17), (50, 0), (50, 1), (50, 2), (50, 3), (50, 4), (50, 9), (50, 10), (51, 0), (51, 7), (51, 8), (51, 9), (51, 10), (51, 11), (51, 12), (51, 13), (51, 14), (51, 15), (51, 16), (51, 17), (52, 0), (52, 7), (52, 8), (52, 9), (52, 10), (52, 11), (52, 12), (52, 13), (52, 14), (52, 15), (52, 16), (52, 17), (53, 0), (54, 0), (54, 7), (54, 8), (54, 9), (54, 10), (54, 11), (54, 12), (54, 13), (54, 14), (54, 15), (54, 16), (54, 17), (55, 0), (55, 7), (55, 8), (55, 9), (55, 10), (55, 11), (55, 12), (55, 13), (55, 14), (55, 15), (55, 16), (55, 17), (53, 3), (53, 4), (53, 5)]
def ti_LM : List (Nat × Nat) := [(60, 0), (60, 2), (60, 4), (60, 5), (60, 6), (60, 7), (60, 8), (60, 9), (60, 10), (60, 11), (60, 12), (60, 13), (60, 14), (60, 15), (60, 16), (60, 17), (60, 18), (60, 32), (60, 33), (60, 35), (60, 36), (60, 37), (60, 38), (60, 39), (60, 40), (60, 41), (60, 42), (60, 43), (60, 44), (60, 45), (60, 46), (60, 47), (60, 48), (60, 49), (60, 50), (60, 51), (60, 55), (60, 56), (60, 58), (60, 61), (60, 62), (60, 63), (60, 64), (60, 65)]
theorem ti_LT_nd : ti_LT.Nodup := by decide +kernel
theorem ti_LM_nd : ti_LM.Nodup := by decide +kernel
